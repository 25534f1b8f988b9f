/-! what a step and a round of the search are, told of five numbers -/
def RO (sc : Int) (ρ : Nat → Int) : Prop := (0 ≤ ρ 1 ∧ ρ 1 ≤ 2) ∧ (0 ≤ ρ 2 ∧ ρ 2 < sc) ∧ (0 ≤ ρ 3 ∧ ρ 3 < sc) ∧ (ρ 1 = 1 ∧ (0 ≤ ρ 4 ∧ ρ 4 < sc) ∧ (0 ≤ ρ 5 ∧ ρ 5 < sc) ∨ ρ 1 ≠ 1 ∧ ρ 4 = -9 ∧ ρ 5 = -9) ∧ (-9 ≤ ρ 6 ∧ ρ 6 < 100000) ∧ (ρ 7 = -9 ∨ 0 ≤ ρ 7 ∧ ρ 7 < sc) ∧ (1 ≤ sc ∧ sc ≤ 5) ∧ ∀ j : Nat, j < 5 → 0 ≤ gol ρ j ∧ gol ρ j < 5 ∧ ((j : Int) < sc → gol ρ j < sc)
theorem RV_o {sc : Int} {mi : Nat → Nat → Int} {k : Nat} (h : RV sc mi k) : RO sc (mi k) := ⟨h.1, h.2.1, h.2.2.1, h.2.2.2.1, h.2.2.2.2.1, h.2.2.2.2.2.1, h.2.2.2.2.2.2.1, fun j hj => (h.2.2.2.2.2.2.2 j hj).2⟩
def zf (sc : Int) (f : Nat → Int) : Prop := ∀ j : Nat, j < 5 → sc ≤ (j : Int) → f j = 0
/-- a rule leads from v to one at least u -/
def Sol (sc : Int) (ρ u : Nat → Int) (v : V5) : Prop := zf sc (F5 v) ∧ fit ρ (F5 v) ∧ ge5 (led ρ (F5 v)) u
def tl (ρ f : Nat → Int) : Nat → Nat → Int → Int
  | 0, _, _ => 0
  | d + 1, s, x => (if gol ρ s = x then f s else 0) + tl ρ f d (s + 1) x
theorem tl_n {ρ f : Nat → Int} {x : Int} : ∀ (d s : Nat), (∀ j, s ≤ j → j < s + d → 0 ≤ f j) → 0 ≤ tl ρ f d s x
  | 0, _, _ => Int.le_refl _
  | d + 1, s, h => by
    have h1 := tl_n (ρ := ρ) (x := x) d (s + 1) (fun j hj hj2 => h j (by omega) (by omega))
    have h2 := h s (by omega) (by omega)
    show 0 ≤ (if gol ρ s = x then f s else 0) + tl ρ f d (s + 1) x
    split <;> omega
theorem tl_c {ρ f g : Nat → Int} {x : Int} : ∀ (d s : Nat), (∀ j, s ≤ j → j < s + d → f j = g j) → tl ρ f d s x = tl ρ g d s x
  | 0, _, _ => rfl
  | d + 1, s, h => by
    have h1 := tl_c (ρ := ρ) (x := x) d (s + 1) (fun j hj hj2 => h j (by omega) (by omega))
    have h2 := h s (by omega) (by omega)
    show (if gol ρ s = x then f s else 0) + tl ρ f d (s + 1) x = (if gol ρ s = x then g s else 0) + tl ρ g d (s + 1) x
    rw [h1, h2]
theorem tl_sub {ρ f g : Nat → Int} {x : Int} : ∀ (d s : Nat), tl ρ (fun j => f j - g j) d s x = tl ρ f d s x - tl ρ g d s x
  | 0, _ => rfl
  | d + 1, s => by
    have h1 := tl_sub (ρ := ρ) (f := f) (g := g) (x := x) d (s + 1)
    show (if gol ρ s = x then f s - g s else 0) + tl ρ (fun j => f j - g j) d (s + 1) x = (if gol ρ s = x then f s else 0) + tl ρ f d (s + 1) x - ((if gol ρ s = x then g s else 0) + tl ρ g d (s + 1) x)
    rw [h1]
    split <;> omega
theorem tl_add {ρ f g : Nat → Int} {x : Int} : ∀ (d s : Nat), tl ρ (fun j => f j + g j) d s x = tl ρ f d s x + tl ρ g d s x
  | 0, _ => rfl
  | d + 1, s => by
    have h1 := tl_add (ρ := ρ) (f := f) (g := g) (x := x) d (s + 1)
    show (if gol ρ s = x then f s + g s else 0) + tl ρ (fun j => f j + g j) d (s + 1) x = (if gol ρ s = x then f s else 0) + tl ρ f d (s + 1) x + ((if gol ρ s = x then g s else 0) + tl ρ g d (s + 1) x)
    rw [h1]
    split <;> omega
theorem tl_ge {ρ f : Nat → Int} {x : Int} : ∀ (d s j0 : Nat), (∀ j, s ≤ j → j < s + d → 0 ≤ f j) → s ≤ j0 → j0 < s + d → gol ρ j0 = x → f j0 ≤ tl ρ f d s x
  | 0, _, _, _, h1, h2, _ => absurd h1 (by omega)
  | d + 1, s, j0, h, h1, h2, hg => by
    show f j0 ≤ (if gol ρ s = x then f s else 0) + tl ρ f d (s + 1) x
    have hs := h s (by omega) (by omega)
    by_cases q : j0 = s
    · subst q
      have := tl_n (ρ := ρ) (x := x) d (j0 + 1) (fun j hj hj2 => h j (by omega) (by omega))
      rw [if_pos hg]; omega
    · have := tl_ge (ρ := ρ) (x := x) d (s + 1) j0 (fun j hj hj2 => h j (by omega) (by omega)) (by omega) (by omega) hg
      split <;> omega
theorem tl_no {ρ f : Nat → Int} {x : Int} : ∀ (d s : Nat), (∀ j, s ≤ j → j < s + d → gol ρ j ≠ x) → tl ρ f d s x = 0
  | 0, _, _ => rfl
  | d + 1, s, h => by
    show (if gol ρ s = x then f s else 0) + tl ρ f d (s + 1) x = 0
    rw [if_neg (h s (by omega) (by omega)), tl_no d (s + 1) (fun j hj hj2 => h j (by omega) (by omega))]
    rfl
/-- one place alone counts -/
theorem tl_nd {ρ : Nat → Int} {x : Int} : ∀ (d s : Nat), (ρ 7 = -9 ∨ (s : Int) ≤ ρ 7 ∧ ρ 7 < (s + d : Nat)) → tl ρ (fun j => nd ρ j) d s x = if ρ 7 ≠ -9 ∧ gol ρ (ρ 7).toNat = x then 1 else 0
  | 0, s, h => by
    show 0 = _
    rw [if_neg (fun q => by omega)]
  | d + 1, s, h => by
    show (if gol ρ s = x then nd ρ s else 0) + tl ρ (fun j => nd ρ j) d (s + 1) x = _
    by_cases q : ρ 7 = (s : Int)
    · have e : ∀ (d' s' : Nat), s < s' → tl ρ (fun j => nd ρ j) d' s' x = 0 := by
        intro d'
        induction d' with
        | zero => intros; rfl
        | succ d' ih =>
          intro s' hs'
          show (if gol ρ s' = x then nd ρ s' else 0) + tl ρ (fun j => nd ρ j) d' (s' + 1) x = 0
          rw [ih _ (by omega)]
          unfold nd
          rw [if_neg (show ¬ (s' : Int) = ρ 7 by omega)]
          split <;> rfl
      rw [e _ _ (by omega), q, Int.toNat_natCast]
      unfold nd
      rw [if_pos q.symm]
      by_cases q2 : gol ρ s = x
      · rw [if_pos q2, if_pos ⟨by omega, q2⟩]; rfl
      · rw [if_neg q2, if_neg (fun w => q2 w.2)]; rfl
    · rw [tl_nd d (s + 1) (by omega)]
      unfold nd
      rw [if_neg (show ¬ (s : Int) = ρ 7 by omega)]
      split <;> split <;> rfl
theorem psm_tl {sc : Int} {ρ v : Nat → Int} (hs : 1 ≤ sc ∧ sc ≤ 5) (h0 : ∀ j : Nat, j < 5 → sc ≤ (j : Int) → v j - lv ρ j = 0) (x : Nat) : psm ρ v 5 x = tl ρ (fun j => v j - lv ρ j) sc.toNat 0 x := by
  have e : ∀ j : Nat, j < 5 → sc ≤ (j : Int) → (if gol ρ j = (x : Int) then v j - lv ρ j else 0) = 0 := fun j hj h => by rw [h0 j hj h]; split <;> rfl
  have a : ∀ p q r t u : Int, 0 + p + q + r + t + u = p + (q + (r + (t + (u + 0)))) := fun p q r t u => by omega
  have p5 : psm ρ v 5 x = tl ρ (fun j => v j - lv ρ j) 5 0 x := a _ _ _ _ _
  rw [p5]
  have z : ∀ s : Nat, (∀ j : Nat, s ≤ j → sc ≤ (j : Int)) → ∀ d : Nat, s + d = 5 → tl ρ (fun j => v j - lv ρ j) d s x = 0 := by
    intro s hs2 d hd
    rw [tl_c (g := fun _ => 0) d s (fun j a b => h0 j (by omega) (hs2 j a))]
    clear hd hs2
    induction d generalizing s with
    | zero => rfl
    | succ d ih => show (if gol ρ s = x then 0 else 0) + tl ρ _ d (s + 1) x = 0; rw [ih]; split <;> rfl
  have cut : ∀ (f : Nat → Int) (d d2 s : Nat), tl ρ f (d + d2) s x = tl ρ f d s x + tl ρ f d2 (s + d) x := by
    intro f d d2
    induction d with
    | zero => intro s; rw [Nat.zero_add]; show _ = 0 + _; rw [Nat.add_zero]; omega
    | succ d ih =>
      intro s
      rw [show d + 1 + d2 = (d + d2) + 1 by omega]
      show (if gol ρ s = x then f s else 0) + tl ρ f (d + d2) (s + 1) x = (if gol ρ s = x then f s else 0) + tl ρ f d (s + 1) x + _
      rw [ih, show s + 1 + d = s + (d + 1) by omega]
      omega
  rw [show (5 : Nat) = sc.toNat + (5 - sc.toNat) by omega, cut, z (0 + sc.toNat) (fun j hj => by omega) (5 - sc.toNat) (by omega)]
  omega
/-! what a filling keeps -/
theorem F5_T {f : Nat → Int} {v : V5} (h : T5 f = v) {j : Nat} (hj : j < 5) : F5 v j = f j := by rw [← h]; exact F5_T5 f hj
theorem Cp_out {sc : Int} {ρ : Nat → Int} : ∀ (d s : Nat) {m ℓ : Nat → Int} {v : V5}, Cp sc ρ d s m ℓ v → ∀ j, j < 5 → (j < s ∨ s + d ≤ j) → F5 v j = m j
  | 0, s, m, ℓ, v, h, j, hj, _ => F5_T h hj
  | d + 1, s, m, ℓ, v, h, j, hj, ho => by
    obtain ⟨n, -, -, -, h4⟩ := h
    rw [Cp_out d (s + 1) h4 j hj (by omega)]
    unfold addA
    rw [if_neg (by omega)]
theorem Cp_tl {sc : Int} {ρ : Nat → Int} (hg : ∀ j : Nat, j < 5 → 0 ≤ gol ρ j ∧ gol ρ j < 5) : ∀ (d s : Nat) {m ℓ : Nat → Int} {v : V5}, s + d ≤ 5 → sc = ((s + d : Nat) : Int) → Cp sc ρ d s m ℓ v → ∀ j0 : Nat, s ≤ j0 → j0 < s + d → tl ρ (F5 v) d s (gol ρ j0) = tl ρ m d s (gol ρ j0) + ℓ (gol ρ j0).toNat
  | 0, s, m, ℓ, v, _, _, _, j0, h1, h2 => absurd h1 (by omega)
  | d + 1, s, m, ℓ, v, h5, hsc, h, j0, h1, h2 => by
    obtain ⟨n, -, -, hl, h4⟩ := h
    have hs : F5 v s = m s + n := by
      rw [Cp_out d (s + 1) h4 s (by omega) (by omega)]
      unfold addA; rw [if_pos rfl]
    show (if gol ρ s = gol ρ j0 then F5 v s else 0) + tl ρ (F5 v) d (s + 1) (gol ρ j0) = (if gol ρ s = gol ρ j0 then m s else 0) + tl ρ m d (s + 1) (gol ρ j0) + ℓ (gol ρ j0).toNat
    by_cases q : ∃ j, s + 1 ≤ j ∧ j < s + 1 + d ∧ gol ρ j = gol ρ j0
    · obtain ⟨j, q1, q2, q3⟩ := q
      have ih := Cp_tl hg d (s + 1) (by omega) (by omega) h4 j q1 q2
      rw [q3] at ih
      rw [ih, tl_c (f := addA m s n) (g := m) d (s + 1) (fun j hj _ => by unfold addA; rw [if_neg (by omega)]), hs]
      unfold addA
      have b1 := hg s (by omega)
      have b2 := hg j0 (by omega)
      by_cases q4 : gol ρ s = gol ρ j0
      · rw [if_pos q4, if_pos q4, q4, if_pos rfl]; omega
      · rw [if_neg q4, if_neg q4, if_neg (by omega)]; omega
    · have q0 : ∀ j, s + 1 ≤ j → j < s + 1 + d → gol ρ j ≠ gol ρ j0 := fun j a b c => q ⟨j, a, b, c⟩
      have hj0 : j0 = s := by
        rcases (show j0 = s ∨ s + 1 ≤ j0 by omega) with q1 | q1
        · exact q1
        · exact absurd rfl (q0 j0 q1 (by omega))
      subst hj0
      rw [if_pos rfl, if_pos rfl, tl_no d _ q0, tl_no d _ q0, hs, hl (fun j hj hj2 => q0 j (by omega) (by omega))]
      omega
theorem Cp_sum {sc : Int} {ρ : Nat → Int} (hg : ∀ j : Nat, j < 5 → 0 ≤ gol ρ j ∧ gol ρ j < 5) : ∀ (d s : Nat) {m ℓ : Nat → Int} {v : V5}, s + d ≤ 5 → sc = ((s + d : Nat) : Int) → Cp sc ρ d s m ℓ v → (∀ x : Nat, x < 5 → ℓ x ≠ 0 → ∃ j : Nat, s ≤ j ∧ j < s + d ∧ gol ρ j = (x : Int)) → sm v = sum5 m + sum5 ℓ
  | 0, s, m, ℓ, v, _, _, h, h0 => by
    have e : ∀ x : Nat, x < 5 → ℓ x = 0 := fun x hx => by
      by_cases q : ℓ x = 0
      · exact q
      · obtain ⟨j, h1, h2, -⟩ := h0 x hx q
        exact absurd h1 (by omega)
    rw [show v = T5 m from h.symm, sm_T]
    show _ = _ + (ℓ 0 + ℓ 1 + ℓ 2 + ℓ 3 + ℓ 4)
    rw [e 0 (by decide), e 1 (by decide), e 2 (by decide), e 3 (by decide), e 4 (by decide)]
    omega
  | d + 1, s, m, ℓ, v, h5, hsc, h, h0 => by
    obtain ⟨n, -, -, hl, h4⟩ := h
    have b1 := hg s (by omega)
    have ih := Cp_sum hg d (s + 1) (by omega) (by omega) h4 (fun x hx hne => by
      unfold addA at hne
      by_cases q : x = (gol ρ s).toNat
      · rw [if_pos q] at hne
        by_cases q2 : lastG sc ρ s
        · exact absurd (hl q2) (by omega)
        · have q3 : ∃ j : Nat, s < j ∧ (j : Int) < sc ∧ gol ρ j = gol ρ s := by
            refine Classical.byContradiction (fun w => q2 (fun j hj hj2 e => w ⟨j, hj, hj2, e⟩))
          obtain ⟨j, a, b, c⟩ := q3
          exact ⟨j, by omega, by omega, by omega⟩
      · rw [if_neg q] at hne
        obtain ⟨j, a, b, c⟩ := h0 x hx hne
        refine ⟨j, ?_, by omega, c⟩
        rcases (show j = s ∨ s + 1 ≤ j by omega) with w | w
        · subst w; exact absurd c (by omega)
        · exact w)
    rw [ih, sum5_addA (by omega), sum5_addA (by omega)]
    omega
theorem Cp_ex {sc : Int} {ρ : Nat → Int} (hg : ∀ j : Nat, j < 5 → 0 ≤ gol ρ j ∧ gol ρ j < 5) {w : V5} : ∀ (d s : Nat) {m ℓ : Nat → Int}, s + d ≤ 5 → sc = ((s + d : Nat) : Int) → (∀ j, j < 5 → 0 ≤ ℓ j) → (∀ j, j < 5 → m j ≤ F5 w j) → (∀ j0 : Nat, s ≤ j0 → j0 < s + d → ℓ (gol ρ j0).toNat ≤ tl ρ (fun j => F5 w j - m j) d s (gol ρ j0)) → ∃ v, Cp sc ρ d s m ℓ v ∧ gv w v
  | 0, s, m, ℓ, _, _, _, hm, _ => ⟨T5 m, rfl, by
    have h0 := hm 0 (by decide)
    have h1 := hm 1 (by decide)
    have h2 := hm 2 (by decide)
    have h3 := hm 3 (by decide)
    have h4 := hm 4 (by decide)
    exact ⟨h0, h1, h2, h3, h4⟩⟩
  | d + 1, s, m, ℓ, h5, hsc, hl, hm, ht => by
    have b1 := hg s (by omega)
    have hms := hm s (by omega)
    have hls := hl (gol ρ s).toNat (by omega)
    have hts := ht s (by omega) (by omega)
    have hts' : ℓ (gol ρ s).toNat ≤ (if gol ρ s = gol ρ s then F5 w s - m s else 0) + tl ρ (fun j => F5 w j - m j) d (s + 1) (gol ρ s) := hts
    rw [if_pos rfl] at hts'
    have hn : ∃ n : Int, 0 ≤ n ∧ n ≤ ℓ (gol ρ s).toNat ∧ (lastG sc ρ s → n = ℓ (gol ρ s).toNat) ∧ n ≤ F5 w s - m s ∧ (n = ℓ (gol ρ s).toNat ∨ n = F5 w s - m s) := by
      by_cases q : lastG sc ρ s
      · rw [tl_no d _ (fun j a b => q j (by omega) (by omega))] at hts'
        exact ⟨_, hls, by omega, fun _ => rfl, by omega, Or.inl rfl⟩
      · by_cases q2 : ℓ (gol ρ s).toNat ≤ F5 w s - m s
        · exact ⟨_, hls, by omega, fun _ => rfl, q2, Or.inl rfl⟩
        · exact ⟨F5 w s - m s, by omega, by omega, fun a => absurd a q, by omega, Or.inr rfl⟩
    obtain ⟨n, n1, n2, n3, n4, n5⟩ := hn
    obtain ⟨v, v1, v2⟩ := Cp_ex (sc := sc) hg (w := w) d (s + 1) (m := addA m s n) (ℓ := addA ℓ (gol ρ s).toNat (-n)) (by omega) (by omega) (fun j hj => by
      unfold addA
      split
      · omega
      · exact hl j hj) (fun j hj => by
      unfold addA
      split
      · rename_i e; subst e; omega
      · exact hm j hj) (fun j0 a b => by
      rw [tl_c (f := fun j => F5 w j - addA m s n j) (g := fun j => F5 w j - m j) d (s + 1) (fun j hj _ => by unfold addA; rw [if_neg (by omega)])]
      have b2 := hg j0 (by omega)
      have h6 : ℓ (gol ρ j0).toNat ≤ (if gol ρ s = gol ρ j0 then F5 w s - m s else 0) + tl ρ (fun j => F5 w j - m j) d (s + 1) (gol ρ j0) := ht j0 (by omega) (by omega)
      have h7 : 0 ≤ tl ρ (fun j => F5 w j - m j) d (s + 1) (gol ρ j0) := tl_n d (s + 1) (fun j hj hj2 => by have := hm j (by omega); omega)
      unfold addA
      by_cases q : gol ρ s = gol ρ j0
      · rw [q, if_pos rfl]
        rw [q] at n5 hts'
        omega
      · rw [if_neg q] at h6
        rw [if_neg (by omega)]
        omega)
    exact ⟨v, ⟨n, n1, n2, n3, v1⟩, v2⟩
