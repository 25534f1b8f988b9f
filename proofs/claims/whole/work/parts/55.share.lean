/-! shares by a rule for all: how they are counted up, and what they make -/
theorem tl_snoc {ρ f : Nat → Int} {x : Int} : ∀ (d s : Nat), tl ρ f (d + 1) s x = tl ρ f d s x + (if gol ρ (s + d) = x then f (s + d) else 0)
  | 0, s => by
    show (if gol ρ s = x then f s else 0) + 0 = 0 + (if gol ρ (s + 0) = x then f (s + 0) else 0)
    rw [Int.add_zero, Int.zero_add, Nat.add_zero]
  | d + 1, s => by
    show (if gol ρ s = x then f s else 0) + tl ρ f (d + 1) (s + 1) x = ((if gol ρ s = x then f s else 0) + tl ρ f d (s + 1) x) + _
    rw [tl_snoc d (s + 1), show s + 1 + d = s + (d + 1) by omega, Int.add_assoc]
theorem tl_app {ρ f : Nat → Int} {x : Int} (b : Nat) : ∀ (a s : Nat), tl ρ f (a + b) s x = tl ρ f a s x + tl ρ f b (s + a) x
  | 0, s => by rw [Nat.zero_add, Nat.add_zero]; show _ = 0 + _; rw [Int.zero_add]
  | a + 1, s => by
    rw [show a + 1 + b = (a + b) + 1 by omega]
    show (if gol ρ s = x then f s else 0) + tl ρ f (a + b) (s + 1) x = ((if gol ρ s = x then f s else 0) + tl ρ f a (s + 1) x) + _
    rw [tl_app b a (s + 1), show s + 1 + a = s + (a + 1) by omega, Int.add_assoc]
theorem tl_cg {ρ f g : Nat → Int} {x : Int} : ∀ (d s : Nat), (∀ j, s ≤ j → j < s + d → gol ρ j = x → f j = g j) → tl ρ f d s x = tl ρ g d s x
  | 0, _, _ => rfl
  | d + 1, s, h => by
    have ih := tl_cg d (s + 1) (fun j h1 h2 => h j (by omega) (by omega))
    show (if gol ρ s = x then f s else 0) + _ = (if gol ρ s = x then g s else 0) + _
    rw [ih]
    by_cases q : gol ρ s = x
    · rw [if_pos q, if_pos q, h s (by omega) (by omega) q]
    · rw [if_neg q, if_neg q]
theorem tl_mono {ρ f g : Nat → Int} {x : Int} : ∀ (d s : Nat), (∀ j, s ≤ j → j < s + d → f j ≤ g j) → tl ρ f d s x ≤ tl ρ g d s x
  | 0, _, _ => Int.le_refl _
  | d + 1, s, h => by
    have ih := tl_mono (ρ := ρ) (x := x) d (s + 1) (fun j h1 h2 => h j (by omega) (by omega))
    have h0 := h s (by omega) (by omega)
    show (if gol ρ s = x then f s else 0) + _ ≤ (if gol ρ s = x then g s else 0) + _
    by_cases q : gol ρ s = x
    · rw [if_pos q, if_pos q]; omega
    · rw [if_neg q, if_neg q]; omega
/-- at one place -/
theorem tl_at {ρ f : Nat → Int} {x : Int} {n i : Nat} (hi : i < n) : tl ρ f n 0 x = tl ρ f i 0 x + (if gol ρ i = x then f i else 0) + tl ρ f (n - i - 1) (i + 1) x := by
  have h := tl_app (ρ := ρ) (f := f) (x := x) (n - i - 1) (i + 1) 0
  rw [show i + 1 + (n - i - 1) = n by omega, tl_snoc, Nat.zero_add, Nat.zero_add] at h
  exact h
def lf (ρ w r : Nat → Int) (i : Nat) : Int := w (gol ρ i).toNat - tl ρ r i 0 (gol ρ i)
def RS (sc : Int) (ρ w r : Nat → Int) : Prop := (∀ j : Nat, j < 5 → 0 ≤ r j) ∧ (∀ j : Nat, j < 5 → (sc ≤ (j : Int) ∨ lastG sc ρ j) → r j = 0) ∧ ∀ i : Nat, (i : Int) < sc → tl ρ r sc.toNat 0 (gol ρ i) ≤ w (gol ρ i).toNat
def Cnx (sc : Int) (ρ w r r' : Nat → Int) (i : Nat) : Prop := (i : Int) < sc ∧ ¬ lastG sc ρ i ∧ r i + 1 ≤ lf ρ w r i ∧ (∀ j : Nat, i < j → (j : Int) < sc → ¬ lastG sc ρ j → lf ρ w r j ≤ r j) ∧ ∀ j : Nat, j < 5 → r' j = if j = i then r i + 1 else if i < j then 0 else r j
def Ctp (sc : Int) (ρ w r : Nat → Int) : Prop := ∀ j : Nat, (j : Int) < sc → ¬ lastG sc ρ j → lf ρ w r j ≤ r j
theorem lx_5 {f g : Nat → Int} : lx (T5 f) (T5 g) ↔ ∃ j : Nat, j < 5 ∧ f j < g j ∧ ∀ a : Nat, a < j → f a = g a := by
  show (f 0 < g 0 ∨ f 0 = g 0 ∧ (f 1 < g 1 ∨ f 1 = g 1 ∧ (f 2 < g 2 ∨ f 2 = g 2 ∧ (f 3 < g 3 ∨ f 3 = g 3 ∧ f 4 < g 4)))) ↔ _
  constructor
  · rintro (h | ⟨h0, h | ⟨h1, h | ⟨h2, h | ⟨h3, h⟩⟩⟩⟩)
    · exact ⟨0, by decide, h, fun a ha => absurd ha (by omega)⟩
    · exact ⟨1, by decide, h, fun a ha => by rw [show a = 0 by omega]; exact h0⟩
    · exact ⟨2, by decide, h, fun a ha => by rcases (show a = 0 ∨ a = 1 by omega) with rfl | rfl <;> assumption⟩
    · exact ⟨3, by decide, h, fun a ha => by rcases (show a = 0 ∨ a = 1 ∨ a = 2 by omega) with rfl | rfl | rfl <;> assumption⟩
    · exact ⟨4, by decide, h, fun a ha => by rcases (show a = 0 ∨ a = 1 ∨ a = 2 ∨ a = 3 by omega) with rfl | rfl | rfl | rfl <;> assumption⟩
  · rintro ⟨j, hj, h, ha⟩
    rcases (show j = 0 ∨ j = 1 ∨ j = 2 ∨ j = 3 ∨ j = 4 by omega) with rfl | rfl | rfl | rfl | rfl
    · exact Or.inl h
    · exact Or.inr ⟨ha 0 (by decide), Or.inl h⟩
    · exact Or.inr ⟨ha 0 (by decide), Or.inr ⟨ha 1 (by decide), Or.inl h⟩⟩
    · exact Or.inr ⟨ha 0 (by decide), Or.inr ⟨ha 1 (by decide), Or.inr ⟨ha 2 (by decide), Or.inl h⟩⟩⟩
    · exact Or.inr ⟨ha 0 (by decide), Or.inr ⟨ha 1 (by decide), Or.inr ⟨ha 2 (by decide), Or.inr ⟨ha 3 (by decide), h⟩⟩⟩⟩
/-- where nothing is left, nothing greater stands -/
theorem RS_no {sc : Int} {ρ w r x : Nat → Int} (hs : 1 ≤ sc ∧ sc ≤ 5) (hr : ∀ j : Nat, j < 5 → 0 ≤ r j) (hx : RS sc ρ w x) {j : Nat} (hj : j < 5) (h : r j < x j) (ha : ∀ a : Nat, a < j → r a = x a) (ht : (j : Int) < sc → ¬ lastG sc ρ j → lf ρ w r j ≤ r j) : False := by
  have h0 := hr j hj
  have hjs : (j : Int) < sc := Classical.byContradiction (fun q => by have := hx.2.1 j hj (Or.inl (by omega)); omega)
  have hjl : ¬ lastG sc ρ j := fun q => by have := hx.2.1 j hj (Or.inr q); omega
  have h1 := ht hjs hjl
  have h2 := hx.2.2 j hjs
  have h3 := tl_at (ρ := ρ) (f := x) (x := gol ρ j) (n := sc.toNat) (i := j) (by omega)
  rw [if_pos rfl] at h3
  have h4 := tl_n (ρ := ρ) (f := x) (x := gol ρ j) (sc.toNat - j - 1) (j + 1) (fun a _ a2 => hx.1 a (by omega))
  have h5 := tl_c (ρ := ρ) (f := r) (g := x) (x := gol ρ j) j 0 (fun a _ a2 => ha a (by omega))
  unfold lf at h1
  omega
theorem RS_nx {sc : Int} {ρ w r r' : Nat → Int} {i : Nat} (hs : 1 ≤ sc ∧ sc ≤ 5) (hr : RS sc ρ w r) (h : Cnx sc ρ w r r' i) : RS sc ρ w r' ∧ ∀ x : Nat → Int, RS sc ρ w x → lx (T5 r) (T5 x) → T5 r' = T5 x ∨ lx (T5 r') (T5 x) := by
  obtain ⟨h1, h2, h3, h4, h5⟩ := h
  have hi5 : i < 5 := by omega
  have hn : ∀ j : Nat, j < 5 → 0 ≤ r' j := fun j hj => by
    have a := hr.1 j hj
    have b := hr.1 i hi5
    rw [h5 j hj]
    split
    · omega
    · split <;> omega
  refine ⟨⟨hn, fun j hj q => ?_, fun g hg => ?_⟩, fun x hx hl => ?_⟩
  · rw [h5 j hj]
    rw [if_neg (fun e => by subst e; rcases q with q | q; omega; exact h2 q)]
    split
    · rfl
    · exact hr.2.1 j hj q
  · have e := tl_at (ρ := ρ) (f := r') (x := gol ρ g) (n := sc.toNat) (i := i) (by omega)
    have e1 := tl_c (ρ := ρ) (f := r') (g := r) (x := gol ρ g) i 0 (fun a _ a2 => by rw [h5 a (by omega), if_neg (by omega), if_neg (by omega)])
    have e2 : tl ρ r' (sc.toNat - i - 1) (i + 1) (gol ρ g) = 0 := by
      have z := tl_c (ρ := ρ) (f := r') (g := fun _ => 0) (x := gol ρ g) (sc.toNat - i - 1) (i + 1) (fun a a1 a2 => by rw [h5 a (by omega), if_neg (by omega), if_pos (by omega)])
      have z1 := tl_n (ρ := ρ) (f := fun _ => 0) (x := gol ρ g) (sc.toNat - i - 1) (i + 1) (fun _ _ _ => Int.le_refl _)
      have z2 := tl_sub (ρ := ρ) (f := fun _ => 0) (g := fun _ => 0) (x := gol ρ g) (sc.toNat - i - 1) (i + 1)
      have z3 : (fun (_ : Nat) => (0 : Int) - 0) = fun _ => 0 := rfl
      rw [z3] at z2
      omega
    have e3 : r' i = r i + 1 := by rw [h5 i hi5, if_pos rfl]
    have e4 := hr.2.2 g hg
    rw [e, e1, e2, e3]
    by_cases q : gol ρ i = gol ρ g
    · rw [if_pos q]
      unfold lf at h3
      rw [q] at h3
      omega
    · rw [if_neg q]
      have e5 := tl_at (ρ := ρ) (f := r) (x := gol ρ g) (n := sc.toNat) (i := i) (by omega)
      have e6 := tl_n (ρ := ρ) (f := r) (x := gol ρ g) (sc.toNat - i - 1) (i + 1) (fun a _ a2 => hr.1 a (by omega))
      rw [if_neg q] at e5
      omega
  · rcases lx_3 (T5 r') (T5 x) with q | q | q
    · exact Or.inr q
    · exact Or.inl q
    · exfalso
      obtain ⟨j, hj, a1, a2⟩ := lx_5.mp hl
      obtain ⟨j', hj', b1, b2⟩ := lx_5.mp q
      have c1 := h5 j' hj'
      have c2 := hx.1 j' hj'
      rcases Nat.lt_trichotomy j' i with t | t | t
      · rw [if_neg (by omega), if_neg (by omega)] at c1
        rcases Nat.lt_trichotomy j j' with u | u | u
        · have := b2 j u
          rw [h5 j hj, if_neg (by omega), if_neg (by omega)] at this
          omega
        · subst u; omega
        · have := a2 j' u; omega
      · subst t
        rw [if_pos rfl] at c1
        rcases Nat.lt_trichotomy j j' with u | u | u
        · have := b2 j u
          rw [h5 j hj, if_neg (by omega), if_neg (by omega)] at this
          omega
        · subst u; omega
        · exact RS_no hs hr.1 hx hj a1 a2 (h4 j u)
      · rw [if_neg (by omega), if_pos t] at c1
        omega
theorem RS_tp {sc : Int} {ρ w r : Nat → Int} (hs : 1 ≤ sc ∧ sc ≤ 5) (hr : RS sc ρ w r) (h : Ctp sc ρ w r) {x : Nat → Int} (hx : RS sc ρ w x) : ¬ lx (T5 r) (T5 x) := fun q => by
  obtain ⟨j, hj, a1, a2⟩ := lx_5.mp q
  exact RS_no hs hr.1 hx hj a1 a2 (h j)
theorem tl_z {ρ f : Nat → Int} {x : Int} (d s : Nat) (h : ∀ j, s ≤ j → j < s + d → f j = 0) : tl ρ f d s x = 0 := by
  have z1 := tl_n (ρ := ρ) (f := f) (x := x) d s (fun j h1 h2 => by rw [h j h1 h2]; exact Int.le_refl _)
  have z2 := tl_mono (ρ := ρ) (f := fun j => f j + f j) (g := f) (x := x) d s (fun j h1 h2 => by rw [h j h1 h2]; exact Int.le_refl _)
  have z3 := tl_add (ρ := ρ) (f := f) (g := f) (x := x) d s
  omega
theorem RS_0 {sc : Int} {ρ w : Nat → Int} (hs : 1 ≤ sc ∧ sc ≤ 5) (hw : ∀ j : Nat, 0 ≤ w j) : RS sc ρ w (fun _ => 0) ∧ ∀ x : Nat → Int, RS sc ρ w x → ¬ lx (T5 x) (T5 (fun _ => 0)) := by
  refine ⟨⟨fun _ _ => Int.le_refl _, fun _ _ _ => rfl, fun i hi => ?_⟩, fun x hx q => ?_⟩
  · rw [tl_z _ _ (fun _ _ _ => rfl)]
    exact hw _
  · obtain ⟨j, hj, a1, -⟩ := lx_5.mp q
    have := hx.1 j hj
    omega
noncomputable def On (sc : Int) (ρ w r : Nat → Int) (j : Nat) : Int := @ite _ ((j : Int) < sc ∧ lastG sc ρ j) (Classical.propDecidable _) (lf ρ w r j) (r j)
theorem On_t {sc : Int} {ρ w r : Nat → Int} {j : Nat} (h : (j : Int) < sc) (h2 : lastG sc ρ j) : On sc ρ w r j = lf ρ w r j := by unfold On; rw [if_pos ⟨h, h2⟩]
theorem On_f {sc : Int} {ρ w r : Nat → Int} {j : Nat} (h : ¬ ((j : Int) < sc ∧ lastG sc ρ j)) : On sc ρ w r j = r j := by unfold On; rw [if_neg h]
def Dst (sc : Int) (ρ w d : Nat → Int) : Prop := (∀ j : Nat, j < 5 → 0 ≤ d j) ∧ (∀ j : Nat, j < 5 → sc ≤ (j : Int) → d j = 0) ∧ ∀ i : Nat, (i : Int) < sc → tl ρ d sc.toNat 0 (gol ρ i) = w (gol ρ i).toNat
theorem last_ex {sc : Int} {ρ : Nat → Int} : ∀ (n i : Nat), n = (sc - i).toNat → (i : Int) < sc → ∃ l : Nat, i ≤ l ∧ (l : Int) < sc ∧ gol ρ l = gol ρ i ∧ lastG sc ρ l := by
  intro n
  induction n using Nat.strongRecOn with
  | ind n ih =>
    intro i hn hi
    by_cases q : lastG sc ρ i
    · exact ⟨i, Nat.le_refl _, hi, rfl, q⟩
    · have q2 : ∃ j : Nat, i < j ∧ (j : Int) < sc ∧ gol ρ j = gol ρ i := Classical.byContradiction (fun a => q (fun j h1 h2 h3 => a ⟨j, h1, h2, h3⟩))
      obtain ⟨j, h1, h2, h3⟩ := q2
      obtain ⟨l, l1, l2, l3, l4⟩ := ih _ (by omega) j rfl h2
      exact ⟨l, by omega, l2, l3.trans h3, l4⟩
theorem On_D {sc : Int} {ρ w r : Nat → Int} (hs : 1 ≤ sc ∧ sc ≤ 5) (hr : RS sc ρ w r) : Dst sc ρ w (On sc ρ w r) := by
  refine ⟨fun j hj => ?_, fun j hj hj2 => ?_, fun i hi => ?_⟩
  · by_cases q : (j : Int) < sc ∧ lastG sc ρ j
    · rw [On_t q.1 q.2]
      have e := tl_at (ρ := ρ) (f := r) (x := gol ρ j) (n := sc.toNat) (i := j) (by omega)
      have e1 := hr.2.2 j q.1
      have e2 := tl_n (ρ := ρ) (f := r) (x := gol ρ j) (sc.toNat - j - 1) (j + 1) (fun a _ a2 => hr.1 a (by omega))
      have e3 := hr.1 j hj
      rw [if_pos rfl] at e
      unfold lf
      omega
    · rw [On_f q]; exact hr.1 j hj
  · rw [On_f (by omega)]
    exact hr.2.1 j hj (Or.inl hj2)
  · obtain ⟨l, l1, l2, l3, l4⟩ := last_ex (ρ := ρ) _ i rfl hi
    rw [← l3]
    have e := tl_at (ρ := ρ) (f := On sc ρ w r) (x := gol ρ l) (n := sc.toNat) (i := l) (by omega)
    have e1 := tl_cg (ρ := ρ) (f := On sc ρ w r) (g := r) (x := gol ρ l) l 0 (fun a _ a2 a3 => On_f (fun b => b.2 l (by omega) l2 a3.symm))
    have e2 := tl_no (ρ := ρ) (f := On sc ρ w r) (x := gol ρ l) (sc.toNat - l - 1) (l + 1) (fun a a1 a2 => l4 a (by omega) (by omega))
    rw [e, e1, e2, if_pos rfl, On_t l2 l4]
    unfold lf
    omega
theorem D_On {sc : Int} {ρ w d : Nat → Int} (hs : 1 ≤ sc ∧ sc ≤ 5) (hd : Dst sc ρ w d) : ∃ r : Nat → Int, RS sc ρ w r ∧ ∀ j : Nat, j < 5 → On sc ρ w r j = d j := by
  obtain ⟨r, hr1, hr2⟩ : ∃ r : Nat → Int, (∀ j : Nat, (j : Int) < sc ∧ lastG sc ρ j → r j = 0) ∧ ∀ j : Nat, ¬ ((j : Int) < sc ∧ lastG sc ρ j) → r j = d j :=
    ⟨fun j => @ite _ ((j : Int) < sc ∧ lastG sc ρ j) (Classical.propDecidable _) 0 (d j), fun j q => if_pos q, fun j q => if_neg q⟩
  have hle : ∀ j : Nat, j < 5 → 0 ≤ r j ∧ r j ≤ d j := fun j hj => by
    have := hd.1 j hj
    by_cases q : (j : Int) < sc ∧ lastG sc ρ j
    · rw [hr1 j q]; omega
    · rw [hr2 j q]; omega
  refine ⟨r, ⟨fun j hj => (hle j hj).1, fun j hj q => ?_, fun i hi => ?_⟩, fun j hj => ?_⟩
  · by_cases q2 : (j : Int) < sc ∧ lastG sc ρ j
    · exact hr1 j q2
    · rw [hr2 j q2]
      exact hd.2.1 j hj (by rcases q with q | q; exact q; exact Classical.byContradiction (fun a => q2 ⟨by omega, q⟩))
  · rw [← hd.2.2 i hi]
    exact tl_mono _ _ (fun a _ a2 => (hle a (by omega)).2)
  · by_cases q : (j : Int) < sc ∧ lastG sc ρ j
    · rw [On_t q.1 q.2]
      have e := tl_at (ρ := ρ) (f := d) (x := gol ρ j) (n := sc.toNat) (i := j) (by omega)
      have e1 := tl_cg (ρ := ρ) (f := r) (g := d) (x := gol ρ j) j 0 (fun a _ a2 a3 => hr2 a (fun b => b.2 j (by omega) q.1 a3.symm))
      have e2 := tl_no (ρ := ρ) (f := d) (x := gol ρ j) (sc.toNat - j - 1) (j + 1) (fun a a1 a2 => q.2 a (by omega) (by omega))
      have e3 := hd.2.2 j q.1
      rw [if_pos rfl] at e
      unfold lf
      rw [e1]
      omega
    · rw [On_f q]; exact hr2 j q
def Shc (ρ d : Nat → Int) (j : Nat) : Int := d j + lv ρ j + (if ρ 7 ≠ -9 ∧ d (ρ 7).toNat ≤ 0 then nd ρ j else 0)
def als (ρ u : Nat → Int) : Nat → Int
  | 0 => 0
  | n + 1 => als ρ u n + lk0 ρ u n
def gls (sc : Int) (ρ u : Nat → Int) : Prop := ∀ x : Nat, (x : Int) < sc → 0 < lk0 ρ u x → ∃ i : Nat, (i : Int) < sc ∧ gol ρ i = (x : Int)
theorem nd_n (ρ : Nat → Int) (z : Int) : 0 ≤ nd ρ z ∧ nd ρ z ≤ 1 := by unfold nd; split <;> omega
theorem Sh_x {ρ d : Nat → Int} (hd : ∀ j : Nat, j < 5 → 0 ≤ d j) {sc : Int} (h : RO sc ρ) {j : Nat} (hj : j < 5) : d j + lv ρ j ≤ Shc ρ d j ∧ Shc ρ d j ≤ d j + lv ρ j + nd ρ j ∧ nd ρ j + lv ρ j ≤ Shc ρ d j := by
  have a := hd j hj
  have b := nd_n ρ j
  unfold Shc
  split
  · omega
  · rename_i q
    refine ⟨by omega, by omega, ?_⟩
    by_cases q2 : (j : Int) = ρ 7
    · have : d j > 0 := Classical.byContradiction (fun w => q ⟨by omega, by rw [show (ρ 7).toNat = j by omega]; omega⟩)
      omega
    · have : nd ρ j = 0 := if_neg q2
      omega
theorem Sh_s {sc : Int} {ρ u d : Nat → Int} (h : RO sc ρ) (hu : ∀ j : Nat, j < 5 → 0 ≤ u j) (hz : zf sc u) (hg0 : gls sc ρ u) (hd : Dst sc ρ (lk0 ρ u) d) : Sol sc ρ u (T5 (Shc ρ d)) := by
  have hR := h
  obtain ⟨-, h2, h3, h4, -, h7, hs, hg⟩ := h
  have hzv : zf sc (Shc ρ d) := fun j hj hj2 => by
    have a := Sh_x hd.1 hR hj
    have b := lv0 hR (j := j) hj2
    have c := hd.2.1 j hj hj2
    omega
  refine ⟨zfT hzv, fun j hj => ?_, ge5_i.mpr (fun x hx => ?_)⟩
  · rw [F5_T5 _ hj]
    have := (Sh_x hd.1 hR hj).2.2
    omega
  · rw [led_c (fun a ha => F5_T5 _ ha) x, led_t hR hzv]
    have a := tl_mono (ρ := ρ) (f := d) (g := fun j => Shc ρ d j - lv ρ j) (x := (x : Int)) sc.toNat 0 (fun j _ j2 => by have := (Sh_x hd.1 hR (j := j) (by omega)).1; omega)
    have b := tl_n (ρ := ρ) (f := d) (x := (x : Int)) sc.toNat 0 (fun j _ j2 => hd.1 j (by omega))
    have c := lk0_n ρ u x
    have cc : 0 ≤ cm ρ x := by unfold cm; split <;> split <;> omega
    by_cases q : (x : Int) < sc
    · by_cases q2 : 0 < lk0 ρ u x
      · obtain ⟨i, i1, i2⟩ := hg0 x q q2
        have e := hd.2.2 i i1
        rw [i2, Int.toNat_natCast] at e
        omega
      · omega
    · have := hz x hx (by omega)
      omega
theorem Sh_c {sc : Int} {ρ u : Nat → Int} {w : V5} (h : RO sc ρ) (hu : ∀ j : Nat, j < 5 → 0 ≤ u j) (hS : Sol sc ρ u w) : gls sc ρ u ∧ ∃ d : Nat → Int, Dst sc ρ (lk0 ρ u) d ∧ gv w (T5 (Shc ρ d)) := by
  have hR := h
  obtain ⟨-, h2, h3, h4, -, h7, hs, hg⟩ := h
  obtain ⟨hzw, hfit, hle⟩ := hS
  have hgb : ∀ j : Nat, j < 5 → 0 ≤ gol ρ j ∧ gol ρ j < 5 := fun j hj => ⟨(hg j hj).1, (hg j hj).2.1⟩
  rw [ge5_i] at hle
  have hn : ∀ j : Nat, j < 5 → 0 ≤ F5 w j - lv ρ j := fun j hj => by have a := hfit j hj; have := nd_n ρ j; omega
  have key : ∀ x : Nat, x < 5 → lk0 ρ u x ≤ tl ρ (fun j => F5 w j - lv ρ j) sc.toNat 0 x := fun x hx => by
    have a := hle x hx
    rw [led_t hR hzw] at a
    have b := tl_n (ρ := ρ) (f := fun j => F5 w j - lv ρ j) (x := (x : Int)) sc.toNat 0 (fun j _ j2 => hn j (by omega))
    unfold lk0
    split <;> omega
  refine ⟨fun x hx h0 => Classical.byContradiction (fun q => ?_), ?_⟩
  · have a := key x (by omega)
    rw [tl_no _ _ (fun j _ j2 e => q ⟨j, by omega, e⟩)] at a
    omega
  · have hT : ∀ j : Nat, j < 5 → F5 (T5 (fun j => F5 w j - lv ρ j)) j = F5 w j - lv ρ j := fun j hj => F5_T5 _ hj
    obtain ⟨v, v1, v2⟩ := Cp_ex (sc := sc) hgb (w := T5 (fun j => F5 w j - lv ρ j)) sc.toNat 0 (m := fun _ => 0) (ℓ := lk0 ρ u) (by omega) (by omega) (fun j hj => (lk0_n ρ u j).1) (fun j hj => by rw [hT j hj]; exact hn j hj) (fun j0 a b => by
      have hg0 := hg j0 (by omega)
      obtain ⟨x, hx⟩ : ∃ x : Nat, gol ρ j0 = (x : Int) := ⟨(gol ρ j0).toNat, by omega⟩
      rw [hx, Int.toNat_natCast]
      have e := tl_c (ρ := ρ) (f := fun j => F5 (T5 (fun j => F5 w j - lv ρ j)) j - 0) (g := fun j => F5 w j - lv ρ j) (x := (x : Int)) sc.toNat 0 (fun j _ j2 => by rw [hT j (by omega), Int.sub_zero])
      rw [e]
      exact key x (by omega))
    have w1 : ∀ j : Nat, j < 5 → 0 ≤ F5 v j := fun j hj => by
      have q := gv_i.mp (Cp_ge _ _ v1) j hj
      rw [F5_T5 _ hj] at q
      exact q
    have w2 := Cp_out _ _ v1
    have w3 := Cp_tl hgb _ _ (by omega) (by omega) v1
    have v2' := gv_i.mp v2
    have hD : Dst sc ρ (lk0 ρ u) (F5 v) := ⟨fun j hj => w1 j hj, fun j hj hj2 => w2 j hj (Or.inr (by omega)), fun i hi => by
      have e := w3 i (by omega) (by omega)
      rw [tl_z (f := fun _ => 0) _ _ (fun _ _ _ => rfl), Int.zero_add] at e
      exact e⟩
    refine ⟨F5 v, hD, gv_i.mpr (fun j hj => ?_)⟩
    rw [F5_T5 _ hj]
    have a := v2' j hj
    rw [hT j hj] at a
    have b := hfit j hj
    unfold Shc
    split
    · rename_i q
      by_cases q2 : (j : Int) = ρ 7
      · have e : (ρ 7).toNat = j := by omega
        have q3 := q.2
        rw [e] at q3
        have := nd_n ρ j
        omega
      · have : nd ρ j = 0 := if_neg q2
        omega
    · omega
theorem Sh_m {sc : Int} {ρ u d : Nat → Int} (h : RO sc ρ) (hz : zf sc u) (hg0 : gls sc ρ u) (hd : Dst sc ρ (lk0 ρ u) d) : sum5 d = als ρ u sc.toNat := by
  have hR := h
  obtain ⟨-, h2, h3, h4, -, h7, hs, hg⟩ := h
  have hzv : zf sc (fun j => d j + lv ρ j) := fun j hj hj2 => by
    have b := lv0 hR (j := j) hj2
    have c := hd.2.1 j hj hj2
    show d j + lv ρ j = 0
    omega
  have e1 := led_sum hR (v := fun j => d j + lv ρ j)
  have e2 : ∀ x : Nat, led ρ (fun j => d j + lv ρ j) x = tl ρ d sc.toNat 0 x + cm ρ x := fun x => by
    rw [led_t hR hzv, tl_c _ _ (g := d) (fun j _ _ => by omega)]
  have e3 : ∀ x : Nat, x < 5 → tl ρ d sc.toNat 0 x = if (x : Int) < sc then lk0 ρ u x else 0 := fun x hx => by
    by_cases q : ∃ i : Nat, (i : Int) < sc ∧ gol ρ i = (x : Int)
    · obtain ⟨i, i1, i2⟩ := q
      have e := hd.2.2 i i1
      have g := (hg i (by omega)).2.2 i1
      rw [i2, Int.toNat_natCast] at e
      rw [if_pos (by omega), e]
    · rw [tl_no _ _ (fun j _ j2 e => q ⟨j, by omega, e⟩)]
      split
      · rename_i q2
        have := lk0_n ρ u x
        have : ¬ 0 < lk0 ρ u x := fun w => q (hg0 x q2 w)
        omega
      · rfl
  have e4 := sum_lv hR
  have e5 := sum_cm hR
  have e6 : sum5 (fun x : Nat => if (x : Int) < sc then lk0 ρ u x else 0) = als ρ u sc.toNat := by
    rcases (show sc = 1 ∨ sc = 2 ∨ sc = 3 ∨ sc = 4 ∨ sc = 5 by omega) with rfl | rfl | rfl | rfl | rfl <;> simp [sum5, als]
  have e7 : sum5 (led ρ (fun j => d j + lv ρ j)) = sum5 (fun x : Nat => if (x : Int) < sc then lk0 ρ u x else 0) + sum5 (fun j => cm ρ j) := by
    rw [← sum5_add]
    exact sum5_c (fun x hx => by rw [e2 x, e3 x hx])
  have e8 : sum5 (fun j => d j + lv ρ j) = sum5 d + sum5 (fun j => lv ρ j) := sum5_add d (fun j => lv ρ j)
  omega
