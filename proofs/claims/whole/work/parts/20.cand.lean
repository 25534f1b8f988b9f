theorem lv0 {sc : Int} {ρ : Nat → Int} (h : RO sc ρ) {j : Nat} (hj : sc ≤ (j : Int)) : lv ρ j = 0 ∧ nd ρ j = 0 := by
  obtain ⟨-, h2, h3, h4, -, h7, -, -⟩ := h
  unfold lv nd
  rw [if_neg (by omega), if_neg (by omega), if_neg (by omega)]
  omega
theorem led_x {ρ v : Nat → Int} {x : Nat} : led ρ v x = psm ρ v 5 x + cm ρ x := by
  unfold led cm
  by_cases h1 : ρ 3 = (x : Int) <;> by_cases h2 : ρ 5 = (x : Int)
  · rw [if_pos h1, if_pos h2, if_pos h1.symm, if_pos h2.symm]; omega
  · rw [if_pos h1, if_neg h2, if_pos h1.symm, if_neg (fun q => h2 q.symm)]; omega
  · rw [if_neg h1, if_pos h2, if_neg (fun q => h1 q.symm), if_pos h2.symm]; omega
  · rw [if_neg h1, if_neg h2, if_neg (fun q => h1 q.symm), if_neg (fun q => h2 q.symm)]; omega
theorem led_t {sc : Int} {ρ : Nat → Int} (h : RO sc ρ) {v : Nat → Int} (hz : zf sc v) (x : Nat) : led ρ v x = tl ρ (fun j => v j - lv ρ j) sc.toNat 0 x + cm ρ x := by
  rw [led_x, psm_tl h.2.2.2.2.2.2.1 (fun j hj hj2 => by rw [hz j hj hj2, (lv0 h hj2).1]; rfl)]
theorem ge5_i {u v : Nat → Int} : ge5 u v ↔ ∀ j : Nat, j < 5 → v j ≤ u j := by
  unfold ge5
  constructor
  · rintro ⟨h0, h1, h2, h3, h4⟩ j hj
    rcases (show j = 0 ∨ j = 1 ∨ j = 2 ∨ j = 3 ∨ j = 4 by omega) with rfl | rfl | rfl | rfl | rfl <;> assumption
  · intro h
    exact ⟨h 0 (by decide), h 1 (by decide), h 2 (by decide), h 3 (by decide), h 4 (by decide)⟩
theorem tnd {sc : Int} {ρ : Nat → Int} (h : RO sc ρ) (x : Int) : tl ρ (fun j => nd ρ j) sc.toNat 0 x = if ρ 7 ≠ -9 ∧ gol ρ (ρ 7).toNat = x then 1 else 0 := by
  obtain ⟨-, -, -, -, -, h7, hs, -⟩ := h
  exact tl_nd sc.toNat 0 (by omega)
theorem lk0_n (ρ u : Nat → Int) (i : Nat) : 0 ≤ lk0 ρ u i ∧ u i - cm ρ i ≤ lk0 ρ u i := by unfold lk0; split <;> omega
theorem lk_n (ρ u : Nat → Int) (i : Nat) : 0 ≤ lk ρ u i ∧ lk0 ρ u i ≤ lk ρ u i := by
  have := lk0_n ρ u i
  unfold lk
  split <;> omega
theorem lks_n (ρ u : Nat → Int) : ∀ n : Nat, 0 ≤ lks ρ u n
  | 0 => Int.le_refl _
  | n + 1 => by
    have := lks_n ρ u n
    have := (lk_n ρ u n).1
    show 0 ≤ lks ρ u n + lk ρ u n
    omega
theorem ind1 {a : Int} (h : 0 ≤ a ∧ a < 5) : (if ((0 : Nat) : Int) = a then (1 : Int) else 0) + (if ((1 : Nat) : Int) = a then 1 else 0) + (if ((2 : Nat) : Int) = a then 1 else 0) + (if ((3 : Nat) : Int) = a then 1 else 0) + (if ((4 : Nat) : Int) = a then 1 else 0) = 1 := by
  rcases (show a = 0 ∨ a = 1 ∨ a = 2 ∨ a = 3 ∨ a = 4 by omega) with rfl | rfl | rfl | rfl | rfl <;> decide
theorem ind0 {a : Int} (h : a < 0) : (if ((0 : Nat) : Int) = a then (1 : Int) else 0) + (if ((1 : Nat) : Int) = a then 1 else 0) + (if ((2 : Nat) : Int) = a then 1 else 0) + (if ((3 : Nat) : Int) = a then 1 else 0) + (if ((4 : Nat) : Int) = a then 1 else 0) = 0 := by
  rw [if_neg (by omega), if_neg (by omega), if_neg (by omega), if_neg (by omega), if_neg (by omega)]; rfl
theorem sum_lv {sc : Int} {ρ : Nat → Int} (h : RO sc ρ) : sum5 (fun j => lv ρ j) = if ρ 4 = -9 then 1 else 2 := by
  obtain ⟨-, h2, h3, h4, -, h7, hs, -⟩ := h
  have a := ind1 (a := ρ 2) (by omega)
  unfold sum5 lv
  by_cases q : ρ 4 = -9
  · have b := ind0 (a := ρ 4) (by omega)
    rw [if_pos q]; dsimp only; omega
  · have b := ind1 (a := ρ 4) (by omega)
    rw [if_neg q]; dsimp only; omega
theorem sum_nd {sc : Int} {ρ : Nat → Int} (h : RO sc ρ) : sum5 (fun j => nd ρ j) = if ρ 7 = -9 then 0 else 1 := by
  obtain ⟨-, h2, h3, h4, -, h7, hs, -⟩ := h
  unfold sum5 nd
  by_cases q : ρ 7 = -9
  · have b := ind0 (a := ρ 7) (by omega)
    rw [if_pos q]; exact b
  · have b := ind1 (a := ρ 7) (by omega)
    rw [if_neg q]; exact b
theorem sum_gi {sc : Int} {ρ : Nat → Int} (h : RO sc ρ) : sum5 (fun j : Nat => if ρ 7 ≠ -9 ∧ gol ρ (ρ 7).toNat = (j : Int) then (1 : Int) else 0) = if ρ 7 = -9 then 0 else 1 := by
  obtain ⟨-, h2, h3, h4, -, h7, hs, hg⟩ := h
  by_cases q : ρ 7 = -9
  · rw [if_pos q, sum5_c (g := fun _ => 0) (fun j _ => if_neg (fun w => w.1 q))]
    rfl
  · rw [if_neg q]
    refine Eq.trans (sum5_c (g := fun j : Nat => if (j : Int) = gol ρ (ρ 7).toNat then (1 : Int) else 0) (fun j _ => ?_)) (ind1 (a := gol ρ (ρ 7).toNat) (by have := hg (ρ 7).toNat (by omega); omega))
    by_cases w : gol ρ (ρ 7).toNat = (j : Int)
    · rw [if_pos ⟨q, w⟩, if_pos w.symm]
    · rw [if_neg (fun a => w a.2), if_neg (fun a => w a.symm)]
theorem sum5_add (f g : Nat → Int) : sum5 (fun j => f j + g j) = sum5 f + sum5 g := by unfold sum5; dsimp only; omega
theorem sum5_sub (f g : Nat → Int) : sum5 (fun j => f j - g j) = sum5 f - sum5 g := by unfold sum5; dsimp only; omega
/-- what the filling gives is as it should be, and has so many -/
theorem Cd_sound {sc : Int} {ρ u : Nat → Int} {v : V5} {r : Int} (h : RO sc ρ) (hu : ∀ j : Nat, j < 5 → 0 ≤ u j) (hz : zf sc u) (hF : FLr sc ρ u r) (hr : r ≠ -9) (hv : Cd sc ρ u v) : Sol sc ρ u v ∧ sm v = r := by
  have h' := h
  obtain ⟨-, h2, h3, h4, -, h7, hs, hg⟩ := h'
  have hgb : ∀ j : Nat, j < 5 → 0 ≤ gol ρ j ∧ gol ρ j < 5 := fun j hj => ⟨(hg j hj).1, (hg j hj).2.1⟩
  have hF2 : r = (if ρ 4 = -9 then 1 else 2) + lks ρ u sc.toNat ∧ ∀ i : Nat, (i : Int) < sc → ¬ (0 < lk0 ρ u i ∧ nog sc ρ i) := by
    rcases hF with q | q
    · exact absurd q.1 hr
    · exact q
  obtain ⟨hF3, hF4⟩ := hF2
  unfold Cd at hv
  have hzv : zf sc (F5 v) := fun j hj hj2 => by
    rw [Cp_out _ _ hv j hj (by omega)]
    unfold mk0
    have := lv0 h hj2
    omega
  have hge := Cp_ge _ _ hv
  rw [show v = T5 (F5 v) from rfl, gv_T, ge5_i] at hge
  have hfit : fit ρ (F5 v) := hge
  -- what goes to a goal
  have hgoal : ∀ x : Nat, x < 5 → (∃ j : Nat, (j : Int) < sc ∧ gol ρ j = (x : Int)) → tl ρ (fun j => F5 v j - lv ρ j) sc.toNat 0 x = lk ρ u x ∧ (x : Int) < sc := by
    rintro x hx ⟨j, hj, hjx⟩
    have e1 := Cp_tl hgb _ _ (by omega) (by omega) hv j (by omega) (by omega)
    rw [hjx, Int.toNat_natCast] at e1
    have hxs : (x : Int) < sc := by have := (hg j (by omega)).2.2 hj; omega
    refine ⟨?_, hxs⟩
    have e2 : tl ρ (mk0 ρ) sc.toNat 0 x = tl ρ (fun j => lv ρ j) sc.toNat 0 x + tl ρ (fun j => nd ρ j) sc.toNat 0 x := tl_add (f := fun j => lv ρ j) (g := fun j => nd ρ j) _ _
    have e3 : tl ρ (fun j => F5 v j - lv ρ j) sc.toNat 0 x = tl ρ (F5 v) sc.toNat 0 x - tl ρ (fun j => lv ρ j) sc.toNat 0 x := tl_sub (f := F5 v) (g := fun j => lv ρ j) _ _
    rw [e3, e1, e2, tnd h]
    unfold lc0
    rw [if_pos hxs]
    omega
  have hno : ∀ x : Nat, (x : Int) < sc → (¬ ∃ j : Nat, (j : Int) < sc ∧ gol ρ j = (x : Int)) → lk0 ρ u x = 0 ∧ lk ρ u x = 0 ∧ ¬ (ρ 7 ≠ -9 ∧ gol ρ (ρ 7).toNat = (x : Int)) := by
    intro x hx q
    have a := hF4 x hx
    have b := lk0_n ρ u x
    have c : lk0 ρ u x = 0 := by
      by_cases w : 0 < lk0 ρ u x
      · exact absurd ⟨w, fun j hj e => q ⟨j, hj, e⟩⟩ a
      · omega
    have d : ¬ (ρ 7 ≠ -9 ∧ gol ρ (ρ 7).toNat = (x : Int)) := fun w => q ⟨(ρ 7).toNat, by omega, w.2⟩
    refine ⟨c, ?_, d⟩
    unfold lk
    rw [if_neg (fun w => d ⟨w.1, w.2.1⟩)]
    exact c
  refine ⟨⟨hzv, hfit, ge5_i.mpr (fun x hx => ?_)⟩, ?_⟩
  · rw [led_t h hzv]
    have hc := (cm_b ρ x).1
    have htn : 0 ≤ tl ρ (fun j => F5 v j - lv ρ j) sc.toNat 0 x := tl_n _ _ (fun j _ hj => by
      have a : lv ρ j + nd ρ j ≤ F5 v j := hfit j (by omega)
      have b : 0 ≤ nd ρ j := by unfold nd; split <;> omega
      omega)
    by_cases q : ∃ j : Nat, (j : Int) < sc ∧ gol ρ j = (x : Int)
    · have := lk_n ρ u x
      have := lk0_n ρ u x
      rw [(hgoal x hx q).1]; omega
    · by_cases q2 : (x : Int) < sc
      · have := (hno x q2 q).1
        have := lk0_n ρ u x
        omega
      · have := hz x hx (by omega)
        omega
  · have e := Cp_sum hgb _ _ (by omega) (by omega) hv (fun x hx hne => by
      by_cases q : ∃ j : Nat, (j : Int) < sc ∧ gol ρ j = (x : Int)
      · obtain ⟨j, a, b⟩ := q
        exact ⟨j, by omega, by omega, b⟩
      · exfalso
        apply hne
        unfold lc0
        by_cases q2 : (x : Int) < sc
        · obtain ⟨-, b, c⟩ := hno x q2 q
          rw [if_pos q2, if_neg c, b]; rfl
        · rw [if_neg q2, if_neg (fun w => by have := (hg (ρ 7).toNat (by omega)).2.2 (by omega); omega)]; rfl)
    have e1 : sum5 (mk0 ρ) = sum5 (fun j => lv ρ j) + sum5 (fun j => nd ρ j) := sum5_add _ _
    have e2 : sum5 (lc0 sc ρ u) = sum5 (fun j => if (j : Int) < sc then lk ρ u j else 0) - sum5 (fun j : Nat => if ρ 7 ≠ -9 ∧ gol ρ (ρ 7).toNat = (j : Int) then (1 : Int) else 0) := sum5_sub _ _
    rw [e, e1, e2, sum_lv h, sum_nd h, sum_gi h, lks_sum hs, hF3]
    omega
/-- and nothing is left out -/
theorem Cd_compl {sc : Int} {ρ u : Nat → Int} {w : V5} (h : RO sc ρ) (hu : ∀ j : Nat, j < 5 → 0 ≤ u j) (hS : Sol sc ρ u w) : ∃ r, FLr sc ρ u r ∧ r ≠ -9 ∧ ∃ v, Cd sc ρ u v ∧ gv w v := by
  have h' := h
  obtain ⟨-, h2, h3, h4, -, h7, hs, hg⟩ := h'
  obtain ⟨hzw, hfit, hle⟩ := hS
  have hgb : ∀ j : Nat, j < 5 → 0 ≤ gol ρ j ∧ gol ρ j < 5 := fun j hj => ⟨(hg j hj).1, (hg j hj).2.1⟩
  rw [ge5_i] at hle
  have hfx : ∀ j : Nat, j < 5 → lv ρ j + nd ρ j ≤ F5 w j := hfit
  have hnd : ∀ j : Nat, 0 ≤ nd ρ j := fun j => by unfold nd; split <;> omega
  have hno : ∀ i : Nat, (i : Int) < sc → ¬ (0 < lk0 ρ u i ∧ nog sc ρ i) := by
    rintro i hi ⟨q1, q2⟩
    have a := hle i (by omega)
    rw [led_t h hzw, tl_no _ _ (fun j _ hj => q2 j (by omega))] at a
    unfold lk0 at q1
    split at q1 <;> omega
  refine ⟨_, Or.inr ⟨rfl, hno⟩, ?_, ?_⟩
  · have := lks_n ρ u sc.toNat
    split <;> omega
  · have hlc := lc0_b (ρ := ρ) (u := u) hs hu h7 (fun j hj hj2 => (hg j hj).2.2 hj2)
    refine Cp_ex hgb _ _ (by omega) (by omega) hlc.1 hfx (fun j0 a b => ?_)
    have hg0 := hg j0 (by omega)
    obtain ⟨x, hx⟩ : ∃ x : Nat, gol ρ j0 = (x : Int) := ⟨(gol ρ j0).toNat, by omega⟩
    rw [hx, Int.toNat_natCast]
    have e1 : tl ρ (fun j => F5 w j - mk0 ρ j) sc.toNat 0 x = tl ρ (fun j => F5 w j - lv ρ j) sc.toNat 0 x - tl ρ (fun j => nd ρ j) sc.toNat 0 x := by
      rw [← tl_sub]
      exact tl_c _ _ (fun j _ _ => by unfold mk0; omega)
    have hxs : (x : Int) < sc := by have := hg0.2.2 (by omega); omega
    have hl := hle x (by omega)
    rw [led_t h hzw] at hl
    rw [e1, tnd h]
    unfold lc0
    rw [if_pos hxs]
    have key : lk ρ u x ≤ tl ρ (fun j => F5 w j - lv ρ j) sc.toNat 0 x := by
      have htn : 0 ≤ tl ρ (fun j => F5 w j - lv ρ j) sc.toNat 0 x := tl_n _ _ (fun j _ hj => by
        have := hfx j (by omega)
        have := hnd j
        omega)
      have hl0 : lk0 ρ u x ≤ tl ρ (fun j => F5 w j - lv ρ j) sc.toNat 0 x := by unfold lk0; split <;> omega
      by_cases q : ρ 7 ≠ -9 ∧ gol ρ (ρ 7).toNat = (x : Int)
      · rw [lk_need q.1 q.2]
        have : F5 w (ρ 7).toNat - lv ρ ((ρ 7).toNat : Nat) ≤ tl ρ (fun j => F5 w j - lv ρ j) sc.toNat 0 x := tl_ge (f := fun j => F5 w j - lv ρ j) _ _ (ρ 7).toNat (fun j _ hj => by
          have := hfx j (by omega)
          have := hnd j
          show 0 ≤ F5 w j - lv ρ j
          omega) (by omega) (by omega) q.2
        have b := hfx (ρ 7).toNat (by omega)
        have c : nd ρ ((ρ 7).toNat : Nat) = 1 := by unfold nd; rw [if_pos (by omega)]
        split <;> omega
      · unfold lk
        rw [if_neg (fun a => q ⟨a.1, a.2.1⟩)]
        exact hl0
    omega
