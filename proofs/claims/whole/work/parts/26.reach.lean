/-! a step keeps how many there are -/
theorem psm_sum {ρ v : Nat → Int} (hg : ∀ j : Nat, j < 5 → 0 ≤ gol ρ j ∧ gol ρ j < 5) : ∀ n : Nat, n ≤ 5 → sum5 (fun x => psm ρ v n x) = (match n with | 0 => 0 | 1 => v 0 - lv ρ (0 : Nat) | 2 => v 0 - lv ρ (0 : Nat) + (v 1 - lv ρ (1 : Nat)) | 3 => v 0 - lv ρ (0 : Nat) + (v 1 - lv ρ (1 : Nat)) + (v 2 - lv ρ (2 : Nat)) | 4 => v 0 - lv ρ (0 : Nat) + (v 1 - lv ρ (1 : Nat)) + (v 2 - lv ρ (2 : Nat)) + (v 3 - lv ρ (3 : Nat)) | _ => v 0 - lv ρ (0 : Nat) + (v 1 - lv ρ (1 : Nat)) + (v 2 - lv ρ (2 : Nat)) + (v 3 - lv ρ (3 : Nat)) + (v 4 - lv ρ (4 : Nat))) := by
  have st : ∀ n : Nat, n < 5 → sum5 (fun x => psm ρ v (n + 1) x) = sum5 (fun x => psm ρ v n x) + (v n - lv ρ n) := by
    intro n hn
    have e : sum5 (fun x => psm ρ v (n + 1) x) = sum5 (fun x => psm ρ v n x) + sum5 (fun x : Nat => if gol ρ n = (x : Int) then v n - lv ρ n else 0) := sum5_add _ _
    rw [e]
    have hb := hg n hn
    have e2 : sum5 (fun x : Nat => if gol ρ n = (x : Int) then v n - lv ρ n else 0) = v n - lv ρ n := by
      unfold sum5
      rcases (show gol ρ n = 0 ∨ gol ρ n = 1 ∨ gol ρ n = 2 ∨ gol ρ n = 3 ∨ gol ρ n = 4 by omega) with q | q | q | q | q <;> rw [q] <;> simp
    rw [e2]
  have s0 : sum5 (fun x => psm ρ v 0 x) = 0 := rfl
  have s1 := st 0 (by decide)
  have s2 := st 1 (by decide)
  have s3 := st 2 (by decide)
  have s4 := st 3 (by decide)
  have s5 := st 4 (by decide)
  intro n hn
  rcases (show n = 0 ∨ n = 1 ∨ n = 2 ∨ n = 3 ∨ n = 4 ∨ n = 5 by omega) with rfl | rfl | rfl | rfl | rfl | rfl
  · exact s0
  · show _ = v 0 - lv ρ (0 : Nat); rw [s1, s0]; omega
  · show _ = v 0 - lv ρ (0 : Nat) + (v 1 - lv ρ (1 : Nat)); rw [s2, s1, s0]; omega
  · show _ = v 0 - lv ρ (0 : Nat) + (v 1 - lv ρ (1 : Nat)) + (v 2 - lv ρ (2 : Nat)); rw [s3, s2, s1, s0]; omega
  · show _ = v 0 - lv ρ (0 : Nat) + (v 1 - lv ρ (1 : Nat)) + (v 2 - lv ρ (2 : Nat)) + (v 3 - lv ρ (3 : Nat)); rw [s4, s3, s2, s1, s0]; omega
  · show _ = v 0 - lv ρ (0 : Nat) + (v 1 - lv ρ (1 : Nat)) + (v 2 - lv ρ (2 : Nat)) + (v 3 - lv ρ (3 : Nat)) + (v 4 - lv ρ (4 : Nat)); rw [s5, s4, s3, s2, s1, s0]; omega
theorem sum_cm {sc : Int} {ρ : Nat → Int} (h : RO sc ρ) : sum5 (fun j => cm ρ j) = if ρ 4 = -9 then 1 else 2 := by
  obtain ⟨-, h2, h3, h4, -, h7, hs, -⟩ := h
  have a := ind1 (a := ρ 3) (by omega)
  unfold sum5 cm
  by_cases q : ρ 4 = -9
  · have b := ind0 (a := ρ 5) (by omega)
    rw [if_pos q]; dsimp only; omega
  · have b := ind1 (a := ρ 5) (by omega)
    rw [if_neg q]; dsimp only; omega
theorem led_sum {sc : Int} {ρ v : Nat → Int} (h : RO sc ρ) : sum5 (led ρ v) = sum5 v := by
  have hg : ∀ j : Nat, j < 5 → 0 ≤ gol ρ j ∧ gol ρ j < 5 := fun j hj => ⟨(h.2.2.2.2.2.2.2 j hj).1, (h.2.2.2.2.2.2.2 j hj).2.1⟩
  have e : sum5 (led ρ v) = sum5 (fun x => psm ρ v 5 x + cm ρ x) := sum5_c (fun j _ => led_x)
  have e1 : sum5 (fun x : Nat => psm ρ v 5 x + cm ρ x) = sum5 (fun x => psm ρ v 5 x) + sum5 (fun j : Nat => cm ρ j) := sum5_add _ _
  have e2 : sum5 (fun x => psm ρ v 5 x) = v 0 - lv ρ (0 : Nat) + (v 1 - lv ρ (1 : Nat)) + (v 2 - lv ρ (2 : Nat)) + (v 3 - lv ρ (3 : Nat)) + (v 4 - lv ρ (4 : Nat)) := psm_sum hg 5 (by decide)
  have e3 : sum5 (fun j => lv ρ j) = lv ρ (0 : Nat) + lv ρ (1 : Nat) + lv ρ (2 : Nat) + lv ρ (3 : Nat) + lv ρ (4 : Nat) := rfl
  have e4 : sum5 v = v 0 + v 1 + v 2 + v 3 + v 4 := rfl
  rw [e, e1, sum_cm h]
  rw [sum_lv h] at e3
  omega
theorem led_n {sc : Int} {ρ v : Nat → Int} (h : RO sc ρ) (hz : zf sc v) (hf : fit ρ v) (x : Nat) : 0 ≤ led ρ v x := by
  rw [led_t h hz]
  have hc := (cm_b ρ x).1
  have hs := h.2.2.2.2.2.2.1
  have htn : 0 ≤ tl ρ (fun j => v j - lv ρ j) sc.toNat 0 x := tl_n _ _ (fun j _ hj => by
    have a : lv ρ j + nd ρ j ≤ v j := hf j (by omega)
    have b : 0 ≤ nd ρ j := by unfold nd; split <;> omega
    omega)
  omega
theorem led_cro {sc n : Int} {ρ : Nat → Int} {v : V5} (h : RO sc ρ) (hv : Cro sc n v) (hf : fit ρ (F5 v)) : Cro sc n (T5 (led ρ (F5 v))) := by
  refine ⟨zfT (led_zf h hv.1), fun j hj => ?_, ?_⟩
  · rw [F5_T5 _ hj]; exact led_n h hv.1 hf j
  · rw [sm_T, led_sum h]; exact hv.2.2
/-! what comes from the start in so many steps -/
def Sp1 (L : Lws) (u v : V5) : Prop := ∃ j : Nat, (j : Int) < L.2.1 ∧ fit (L.2.2.2.1 j) (F5 u) ∧ v = T5 (led (L.2.2.2.1 j) (F5 u))
def Rk (L : Lws) (S : V5 → Prop) : Nat → V5 → Prop
  | 0, v => S v
  | t + 1, v => Rk L S t v ∨ ∃ u, Rk L S t u ∧ Sp1 L u v
theorem Rk_le {L : Lws} {S : V5 → Prop} {v : V5} : ∀ {t t' : Nat}, t ≤ t' → Rk L S t v → Rk L S t' v := by
  intro t t' h hv
  induction t' with
  | zero => have : t = 0 := by omega
            subst this; exact hv
  | succ t' ih =>
    by_cases q : t = t' + 1
    · subst q; exact hv
    · exact Or.inl (ih (by omega))
theorem Rk_cro {L : Lws} {n : Int} {S : V5 → Prop} (hL : LO L) (hS : ∀ v, S v → Cro L.1 n v) : ∀ {t : Nat} {v : V5}, Rk L S t v → Cro L.1 n v
  | 0, v, h => hS v h
  | t + 1, v, h => by
    rcases h with h | ⟨u, hu, j, hj, hf, rfl⟩
    · exact Rk_cro hL hS h
    · exact led_cro (hL.2.1 j hj) (Rk_cro hL hS hu) hf
/-- a queue of places, with their levels -/
def QV (L : Lws) (S : V5 → Prop) (k c : Nat) (P : Nat → V5) (le qu : Nat → Int) : Prop := (∀ i : Nat, i < c → 0 ≤ qu i ∧ qu i < (k : Int)) ∧ (∀ i j : Nat, i < j → j < c → qu i ≠ qu j) ∧ (∀ p : Nat, p < k → le p = -9 ∧ (∀ i : Nat, i < c → qu i ≠ (p : Int)) ∨ 0 ≤ le p ∧ ∃ i : Nat, i < c ∧ qu i = (p : Int)) ∧ (∀ i : Nat, i < c → 0 ≤ le (qu i).toNat ∧ le (qu i).toNat ≤ (i : Int)) ∧ (∀ i j : Nat, i ≤ j → j < c → le (qu i).toNat ≤ le (qu j).toNat) ∧ ∀ i : Nat, i < c → Rk L S (le (qu i).toNat).toNat (P (qu i).toNat)
theorem QV_c {L : Lws} {S : V5 → Prop} {k c : Nat} {P : Nat → V5} {le qu : Nat → Int} (h : QV L S k c P le qu) : c ≤ k := by
  have h1 := nd_len (l1 := (List.range c).map qu) (l2 := (List.range k).map (fun p : Nat => (p : Int))) (by
    rw [List.Nodup, List.pairwise_map]
    exact List.Pairwise.imp_of_mem (R := fun a b => a < b) (fun {a b} ha hb hab e => h.2.1 a b hab (List.mem_range.mp hb) e) List.pairwise_lt_range) (fun x hx => by
    obtain ⟨i, hi, rfl⟩ := List.mem_map.mp hx
    have := h.1 i (List.mem_range.mp hi)
    exact List.mem_map.mpr ⟨(qu i).toNat, List.mem_range.mpr (by omega), by omega⟩)
  rw [List.length_map, List.length_range, List.length_map, List.length_range] at h1
  exact h1
theorem QV_0 {L : Lws} {S : V5 → Prop} {k : Nat} {P : Nat → V5} {le qu : Nat → Int} (h : ∀ p : Nat, p < k → le p = -9) : QV L S k 0 P le qu :=
  ⟨fun i hi => absurd hi (by omega), fun i j _ hj => absurd hj (by omega), fun p hp => Or.inl ⟨h p hp, fun i hi => absurd hi (by omega)⟩, fun i hi => absurd hi (by omega), fun i j _ hj => absurd hj (by omega), fun i hi => absurd hi (by omega)⟩
/-- one more comes -/
theorem QV_s {L : Lws} {S : V5 → Prop} {k c : Nat} {P : Nat → V5} {le qu le' qu' : Nat → Int} (h : QV L S k c P le qu) {p : Nat} {x : Int} (hp : p < k) (h9 : le p = -9) (hx : 0 ≤ x ∧ x ≤ (c : Int)) (hm : ∀ i : Nat, i < c → le (qu i).toNat ≤ x) (hr : Rk L S x.toNat (P p)) (hle : ∀ i : Nat, le' i = if i = p then x else le i) (hqu : ∀ i : Nat, qu' i = if i = c then (p : Int) else qu i) : QV L S k (c + 1) P le' qu' := by
  obtain ⟨g1, g2, g3, g4, g5, g6⟩ := h
  have hnp : ∀ i : Nat, i < c → qu i ≠ (p : Int) := by
    rcases g3 p hp with ⟨-, q⟩ | ⟨q, -⟩
    · exact q
    · omega
  have ho : ∀ i : Nat, i < c → qu' i = qu i ∧ le' (qu i).toNat = le (qu i).toNat := fun i hi => by
    have := hnp i hi
    have := g1 i hi
    exact ⟨by rw [hqu, if_neg (by omega)], by rw [hle, if_neg (by omega)]⟩
  have hc1 : qu' c = (p : Int) := by rw [hqu, if_pos rfl]
  have hc2 : le' p = x := by rw [hle, if_pos rfl]
  refine ⟨fun i hi => ?_, fun i j hij hj => ?_, fun p' hp' => ?_, fun i hi => ?_, fun i j hij hj => ?_, fun i hi => ?_⟩
  · by_cases q : i = c
    · subst q; rw [hc1]; omega
    · rw [(ho i (by omega)).1]; exact g1 i (by omega)
  · by_cases q : j = c
    · subst q; rw [hc1, (ho i (by omega)).1]; exact hnp i (by omega)
    · rw [(ho i (by omega)).1, (ho j (by omega)).1]; exact g2 i j hij (by omega)
  · by_cases q : p' = p
    · subst q; right; exact ⟨by rw [hc2]; omega, c, by omega, hc1⟩
    · have e : le' p' = le p' := by rw [hle, if_neg q]
      rw [e]
      rcases g3 p' hp' with ⟨q1, q2⟩ | ⟨q1, i, q2, q3⟩
      · refine Or.inl ⟨q1, fun i hi => ?_⟩
        by_cases q4 : i = c
        · subst q4; rw [hc1]; omega
        · rw [(ho i (by omega)).1]; exact q2 i (by omega)
      · exact Or.inr ⟨q1, i, by omega, by rw [(ho i q2).1]; exact q3⟩
  · by_cases q : i = c
    · subst q; rw [hc1, Int.toNat_natCast, hc2]; omega
    · rw [(ho i (by omega)).1, (ho i (by omega)).2]; exact g4 i (by omega)
  · by_cases q : j = c
    · subst q
      rw [hc1, Int.toNat_natCast, hc2]
      by_cases q2 : i = j
      · subst q2; rw [hc1, Int.toNat_natCast, hc2]; omega
      · rw [(ho i (by omega)).1, (ho i (by omega)).2]; exact hm i (by omega)
    · rw [(ho i (by omega)).1, (ho i (by omega)).2, (ho j (by omega)).1, (ho j (by omega)).2]; exact g5 i j hij (by omega)
  · by_cases q : i = c
    · subst q; rw [hc1, Int.toNat_natCast, hc2]; exact hr
    · rw [(ho i (by omega)).1, (ho i (by omega)).2]; exact g6 i (by omega)
/-- all that come have come: their levels are as low as can be -/
theorem QV_all {L : Lws} {S : V5 → Prop} {n : Int} {k c : Nat} {P : Nat → V5} {le qu : Nat → Int} (hL : LO L) (hS : ∀ v, S v → Cro L.1 n v) (hP : Lst L.1 n k P) (h : QV L S k c P le qu) (h0 : ∀ p : Nat, p < k → S (P p) → le p = 0) (hd : ∀ i : Nat, i < c → ∀ p : Nat, p < k → Sp1 L (P (qu i).toNat) (P p) → le p ≠ -9 ∧ le p ≤ le (qu i).toNat + 1) : ∀ (t : Nat) (p : Nat), p < k → Rk L S t (P p) → 0 ≤ le p ∧ le p ≤ (t : Int) := by
  intro t
  induction t with
  | zero => intro p hp hr; have := h0 p hp hr; omega
  | succ t ih =>
    intro p hp hr
    rcases hr with hr | ⟨u, hu, hst⟩
    · have := ih p hp hr; omega
    · obtain ⟨p', hp', rfl⟩ := hP.2 u (Rk_cro hL hS hu)
      have h1 := ih p' hp' hu
      rcases h.2.2.1 p' hp' with ⟨q, -⟩ | ⟨-, i, q1, q2⟩
      · omega
      · have e : (qu i).toNat = p' := by omega
        have h2 := hd i q1 p hp (by rw [e]; exact hst)
        rw [e] at h2
        rcases h.2.2.1 p hp with ⟨q, -⟩ | ⟨q, -⟩
        · exact absurd q h2.1
        · omega
