/-! crowds as five numbers; least ones; what a store of bases holds as a list -/
abbrev V5 : Type := Int × Int × Int × Int × Int
def T5 (f : Nat → Int) : V5 := (f 0, f 1, f 2, f 3, f 4)
def F5 (x : V5) (j : Nat) : Int := match j with
  | 0 => x.1
  | 1 => x.2.1
  | 2 => x.2.2.1
  | 3 => x.2.2.2.1
  | 4 => x.2.2.2.2
  | _ => 0
def gv (x y : V5) : Prop := ge5 (F5 x) (F5 y)
def bv (x y : V5) : Prop := be5 (F5 x) (F5 y)
def sm (x : V5) : Int := sum5 (F5 x)
theorem F5_T5 (f : Nat → Int) {j : Nat} (h : j < 5) : F5 (T5 f) j = f j := by
  rcases (show j = 0 ∨ j = 1 ∨ j = 2 ∨ j = 3 ∨ j = 4 by omega) with rfl | rfl | rfl | rfl | rfl <;> rfl
theorem T5_c {f g : Nat → Int} (h : ∀ j, j < 5 → f j = g j) : T5 f = T5 g := by
  unfold T5
  rw [h 0 (by decide), h 1 (by decide), h 2 (by decide), h 3 (by decide), h 4 (by decide)]
theorem T5_F5 (x : V5) : T5 (F5 x) = x := rfl
theorem gv_T (f g : Nat → Int) : gv (T5 f) (T5 g) ↔ ge5 f g := Iff.rfl
theorem bv_T (f g : Nat → Int) : bv (T5 f) (T5 g) ↔ be5 f g := Iff.rfl
theorem sm_T (f : Nat → Int) : sm (T5 f) = sum5 f := rfl
theorem gv_x {x y : V5} : gv x y ↔ y.1 ≤ x.1 ∧ y.2.1 ≤ x.2.1 ∧ y.2.2.1 ≤ x.2.2.1 ∧ y.2.2.2.1 ≤ x.2.2.2.1 ∧ y.2.2.2.2 ≤ x.2.2.2.2 := Iff.rfl
theorem sm_x (x : V5) : sm x = x.1 + x.2.1 + x.2.2.1 + x.2.2.2.1 + x.2.2.2.2 := rfl
theorem v5_ext {x y : V5} (h1 : x.1 = y.1) (h2 : x.2.1 = y.2.1) (h3 : x.2.2.1 = y.2.2.1) (h4 : x.2.2.2.1 = y.2.2.2.1) (h5 : x.2.2.2.2 = y.2.2.2.2) : x = y := by
  obtain ⟨a, b, c, d, e⟩ := x
  obtain ⟨a', b', c', d', e'⟩ := y
  simp only at h1 h2 h3 h4 h5
  subst h1 h2 h3 h4 h5
  rfl
theorem gv_r (x : V5) : gv x x := by rw [gv_x]; omega
theorem gv_t {x y z : V5} (h : gv x y) (h2 : gv y z) : gv x z := by rw [gv_x] at *; omega
theorem gv_s {x y : V5} (h : gv x y) : sm y ≤ sm x := by rw [gv_x] at h; rw [sm_x, sm_x]; omega
theorem gv_e {x y : V5} (h : gv x y) (h2 : sm x ≤ sm y) : x = y := by
  rw [gv_x] at h
  rw [sm_x, sm_x] at h2
  exact v5_ext (by omega) (by omega) (by omega) (by omega) (by omega)
theorem bv_x {x y : V5} : bv x y ↔ (sm x < sm y ∨ sm x = sm y ∧ (x.1 < y.1 ∨ x.1 = y.1 ∧ (x.2.1 < y.2.1 ∨ x.2.1 = y.2.1 ∧ (x.2.2.1 < y.2.2.1 ∨ x.2.2.1 = y.2.2.1 ∧ (x.2.2.2.1 < y.2.2.2.1 ∨ x.2.2.2.1 = y.2.2.2.1 ∧ x.2.2.2.2 < y.2.2.2.2))))) := Iff.rfl
theorem bv_i (x : V5) : ¬ bv x x := by rw [bv_x]; omega
theorem bv_t {x y z : V5} (h : bv x y) (h2 : bv y z) : bv x z := by rw [bv_x] at *; omega
theorem bv_3 (x y : V5) : bv x y ∨ x = y ∨ bv y x := by
  by_cases h1 : bv x y
  · exact Or.inl h1
  · by_cases h2 : bv y x
    · exact Or.inr (Or.inr h2)
    · right; left
      rw [bv_x] at h1 h2
      exact v5_ext (by omega) (by omega) (by omega) (by omega) (by omega)
/-! least ones -/
def Mn (D : V5 → Prop) (v : V5) : Prop := D v ∧ ∀ w, D w → gv v w → w = v
/-- one that is new, of so many, and not covered is a least one, if those of fewer are covered -/
theorem Mn_new {D C : V5 → Prop} {E : V5 → Prop} {t : Int} (hG : ∀ v, D v → ∃ g, C g ∧ gv v g) (hc : ∀ g, C g → sm g < t → ∃ y, E y ∧ gv g y) {v : V5} (hv : D v) (ht : sm v = t) (hu : ∀ y, E y → ¬ gv v y) : Mn D v := by
  refine ⟨hv, fun w hw h => ?_⟩
  obtain ⟨g, hg, h2⟩ := hG w hw
  by_cases q : sm g < t
  · obtain ⟨y, hy, h3⟩ := hc g hg q
    exact absurd (gv_t (gv_t h h2) h3) (hu y hy)
  · have h4 : v = g := gv_e (gv_t h h2) (by omega)
    subst h4
    exact (gv_e h (gv_s h2)).symm
/-- all covered, and each a least one: then they are the least ones -/
theorem Mn_all {D C : V5 → Prop} {E : V5 → Prop} (hG : ∀ v, D v → ∃ g, C g ∧ gv v g) (hE : ∀ y, E y → Mn D y) (hc : ∀ g, C g → ∃ y, E y ∧ gv g y) (v : V5) : E v ↔ Mn D v := by
  refine ⟨hE v, fun h => ?_⟩
  obtain ⟨g, hg, h2⟩ := hG v h.1
  obtain ⟨y, hy, h3⟩ := hc g hg
  have := h.2 y (hE y hy).1 (gv_t h2 h3)
  rw [← this]; exact hy
/-! lists of bases -/
def Ef (mi : Nat → Nat → Int) (mr : Nat → Nat → Nat) (b : Nat) : List (V5 × Int) := (List.range (mi b 2).toNat).map (fun i => (T5 (mi (mr (b + 1) i + 1)), mi (b + 2) i))
def Srt (E : List (V5 × Int)) : Prop := E.Pairwise (fun x y => bv x.1 y.1)
theorem Ef_at {mi : Nat → Nat → Int} {mr : Nat → Nat → Nat} {b i : Nat} (h : (i : Int) < mi b 2) : (Ef mi mr b)[i]? = some (T5 (mi (mr (b + 1) i + 1)), mi (b + 2) i) := by
  unfold Ef
  rw [List.getElem?_map, List.getElem?_range (by omega)]
  rfl
theorem Ef_len {mi : Nat → Nat → Int} {mr : Nat → Nat → Nat} {b : Nat} : (Ef mi mr b).length = (mi b 2).toNat := by simp [Ef]
theorem Ef_mem {mi : Nat → Nat → Int} {mr : Nat → Nat → Nat} {b : Nat} {y : V5 × Int} : y ∈ Ef mi mr b ↔ ∃ i : Nat, (i : Int) < mi b 2 ∧ y = (T5 (mi (mr (b + 1) i + 1)), mi (b + 2) i) := by
  unfold Ef
  rw [List.mem_map]
  constructor
  · rintro ⟨i, hi, rfl⟩
    exact ⟨i, by have := List.mem_range.mp hi; omega, rfl⟩
  · rintro ⟨i, hi, rfl⟩
    exact ⟨i, List.mem_range.mpr (by omega), rfl⟩
theorem Ef_fr {mi mi' : Nat → Nat → Int} {mr mr' : Nat → Nat → Nat} {b : Nat} (hB : BO mi mr b) (h1 : ∀ a, b ≤ a → a < b + 205 → mi' a = mi a) (h2 : mr' (b + 1) = mr (b + 1)) : Ef mi' mr' b = Ef mi mr b := by
  unfold Ef
  rw [h2, h1 b (by omega) (by omega), h1 (b + 2) (by omega) (by omega)]
  apply List.map_congr_left
  intro i hi
  have hi2 := List.mem_range.mp hi
  have := hB.2.1
  have h3 := hB.2.2.1 i (by omega)
  rw [h1 _ (by omega) (by omega)]
theorem Srt_nd {E : List (V5 × Int)} (h : Srt E) : (E.map Prod.fst).Nodup := by
  unfold Srt at h
  rw [List.Nodup, List.pairwise_map]
  exact h.imp (fun {a b} (q : bv a.1 b.1) (e : a.1 = b.1) => bv_i b.1 (by rw [e] at q; exact q))
theorem take_E {mi mi9 : Nat → Nat → Int} {mr mr9 : Nat → Nat → Nat} {b c n P : Nat} {z : Int} (hB : BO mi mr b) (h : TkP mi mi9 mr mr9 b c z n P) (hn : mi b 2 = (n : Int)) (hn2 : n ≤ 100) (hP : P ≤ n) : Ef mi9 mr9 b = (Ef mi mr b).take P ++ (T5 (mi (c + 1)), z) :: (Ef mi mr b).drop P := by
  obtain ⟨h1, h2, h3, h4, h5, h6, h7, h8, h9, h10, h11, h12⟩ := h
  have hl : (Ef mi mr b).length = n := by rw [Ef_len, hn]; exact Int.toNat_natCast n
  have hrow := hB.2.2.1
  have hinj := hB.2.2.2.1
  have hold : ∀ i : Nat, i < n → mi9 (mr (b + 1) i + 1) = mi (mr (b + 1) i + 1) := fun i hi => h11 _ (by have := hrow i (by omega); omega) (by have := hrow i (by omega); omega) (fun q => by have := hinj i n (by omega) (by omega) (by omega); omega)
  have hat : ∀ i : Nat, i < n → (Ef mi mr b)[i]? = some (T5 (mi (mr (b + 1) i + 1)), mi (b + 2) i) := fun i hi => Ef_at (by omega)
  apply List.ext_getElem?
  intro i
  by_cases hi : i < n + 1
  · rw [Ef_at (mi := mi9) (mr := mr9) (by omega)]
    by_cases q : i < P
    · rw [List.getElem?_append_left (by rw [List.length_take, hl]; omega), List.getElem?_take_of_lt q, hat i (by omega), (h1 i q).1, (h1 i q).2, hold i (by omega)]
    · rw [List.getElem?_append_right (by rw [List.length_take, hl]; omega), List.length_take, hl, Nat.min_eq_left hP]
      by_cases q2 : i = P
      · subst q2
        rw [Nat.sub_self, h2, h3]
        simp only [List.getElem?_cons_zero]
        rw [T5_c h10]
      · obtain ⟨k, rfl⟩ : ∃ k, i = P + 1 + k := ⟨i - (P + 1), by omega⟩
        have g := h4 (P + 1 + k) (by omega) (by omega)
        rw [show P + 1 + k - P = k + 1 by omega, List.getElem?_cons_succ, List.getElem?_drop, hat (P + k) (by omega), g.1, g.2, show P + 1 + k - 1 = P + k by omega, hold (P + k) (by omega)]
  · rw [List.getElem?_eq_none (by rw [Ef_len]; omega), List.getElem?_eq_none (by rw [List.length_append, List.length_cons, List.length_take, List.length_drop, hl]; omega)]
theorem take_BO {mi mi9 : Nat → Nat → Int} {mr mr9 : Nat → Nat → Nat} {b c n P : Nat} {z : Int} (hB : BO mi mr b) (h : TkP mi mi9 mr mr9 b c z n P) (hn : mi b 2 = (n : Int)) (hn2 : n ≤ 100) (hP : P ≤ n) (hcb : CB mi c) (hz : z = 0 ∨ z = 1) : BO mi9 mr9 b := by
  obtain ⟨h1, h2, h3, h4, h5, h6, h7, h8, h9, h10, h11, h12⟩ := h
  obtain ⟨g1, g2, hrow, hinj, g5, g6, g7⟩ := hB
  have hold : ∀ i : Nat, i < n → mi9 (mr (b + 1) i + 1) = mi (mr (b + 1) i + 1) := fun i hi => h11 _ (by have := hrow i (by omega); omega) (by have := hrow i (by omega); omega) (fun q => by have := hinj i n (by omega) (by omega) (by omega); omega)
  -- where each place's row comes from
  have hsrc : ∀ i : Nat, i < 101 → ∃ k, k < 101 ∧ mr9 (b + 1) i = mr (b + 1) k ∧ (i < P ∧ k = i ∨ i = P ∧ k = n ∨ P < i ∧ i ≤ n ∧ k = i - 1 ∨ n < i ∧ k = i) := by
    intro i hi
    by_cases q : i < P
    · exact ⟨i, hi, (h1 i q).1, Or.inl ⟨q, rfl⟩⟩
    · by_cases q2 : i = P
      · subst q2; exact ⟨n, by omega, h2, Or.inr (Or.inl ⟨rfl, rfl⟩)⟩
      · by_cases q3 : i ≤ n
        · exact ⟨i - 1, by omega, (h4 i (by omega) q3).1, Or.inr (Or.inr (Or.inl ⟨by omega, q3, rfl⟩))⟩
        · exact ⟨i, hi, h5 i (by omega), Or.inr (Or.inr (Or.inr ⟨by omega, rfl⟩))⟩
  refine ⟨g1, by omega, fun i hi => ?_, fun i j hi hj e => ?_, fun i hi => ?_, fun i hi => ?_, by omega⟩
  · obtain ⟨k, hk, e, -⟩ := hsrc i hi
    rw [e]; exact hrow k hk
  · obtain ⟨k, hk, e1, o1⟩ := hsrc i hi
    obtain ⟨k', hk', e2, o2⟩ := hsrc j hj
    have := hinj k k' hk hk' (by rw [← e1, ← e2]; exact e)
    omega
  · rw [h8] at hi
    by_cases q : i < P
    · rw [(h1 i q).1]; exact CB_fr (g5 i (by omega)) (hold i (by omega))
    · by_cases q2 : i = P
      · subst q2; rw [h2]; exact CB_of (fun j hj => by rw [h10 j hj]; exact CB_at hcb j hj)
      · rw [(h4 i (by omega) (by omega)).1]; exact CB_fr (g5 (i - 1) (by omega)) (hold (i - 1) (by omega))
  · rw [h8] at hi
    by_cases q : i < P
    · rw [(h1 i q).2]; exact g6 i (by omega)
    · by_cases q2 : i = P
      · subst q2; rw [h3]; exact hz
      · rw [(h4 i (by omega) (by omega)).2]; exact g6 (i - 1) (by omega)
theorem take_S {mi mi9 : Nat → Nat → Int} {mr mr9 : Nat → Nat → Nat} {b c n P : Nat} {z : Int} (hB : BO mi mr b) (h : TkP mi mi9 mr mr9 b c z n P) (hn : mi b 2 = (n : Int)) (hn2 : n ≤ 100) (hP : P ≤ n) (hS : Srt (Ef mi mr b)) (hu : ∀ y ∈ Ef mi mr b, ¬ gv (T5 (mi (c + 1))) y.1) : Srt (Ef mi9 mr9 b) ∧ ∀ y, y ∈ Ef mi9 mr9 b ↔ y = (T5 (mi (c + 1)), z) ∨ y ∈ Ef mi mr b := by
  have hE := take_E hB h hn hn2 hP
  obtain ⟨h1, h2, h3, h4, h5, h6, h7, h8, h9, h10, h11, h12⟩ := h
  have hl : (Ef mi mr b).length = n := by rw [Ef_len, hn]; exact Int.toNat_natCast n
  have hat : ∀ i : Nat, i < n → (Ef mi mr b)[i]? = some (T5 (mi (mr (b + 1) i + 1)), mi (b + 2) i) := fun i hi => Ef_at (by omega)
  rw [hE]
  have hpw := hS
  unfold Srt at hpw
  rw [← List.take_append_drop P (Ef mi mr b)] at hpw
  obtain ⟨p1, p2, p3⟩ := List.pairwise_append.mp hpw
  have hd : ∀ y ∈ (Ef mi mr b).drop P, bv (T5 (mi (c + 1))) y.1 := by
    intro y hy
    obtain ⟨k, hk⟩ := List.getElem?_of_mem hy
    rw [List.getElem?_drop] at hk
    have hk2 : P + k < n := by rw [← hl]; exact (List.getElem?_eq_some_iff.mp hk).1
    rw [hat _ hk2] at hk
    cases hk
    exact (bv_T _ _).mpr (h6 (P + k) (by omega) hk2)
  have ht : ∀ y ∈ (Ef mi mr b).take P, bv y.1 (T5 (mi (c + 1))) := by
    intro y hy
    rcases h7 with h7 | h7
    · subst h7; simp at hy
    · obtain ⟨Q, rfl⟩ : ∃ Q, P = Q + 1 := by
        cases P with
        | zero => simp at hy
        | succ Q => exact ⟨Q, rfl⟩
      have hq : (T5 (mi (mr (b + 1) Q + 1)), mi (b + 2) Q) ∈ Ef mi mr b := List.mem_of_getElem? (hat Q (by omega))
      have hlast : bv (T5 (mi (mr (b + 1) Q + 1))) (T5 (mi (c + 1))) := by
        rcases bv_3 (T5 (mi (mr (b + 1) Q + 1))) (T5 (mi (c + 1))) with q | q | q
        · exact q
        · exact absurd (by rw [← q]; exact gv_r _) (hu _ hq)
        · exact absurd ((bv_T _ _).mp q) h7
      obtain ⟨k, hk⟩ := List.getElem?_of_mem hy
      have hk1 : k < Q + 1 := by
        have := (List.getElem?_eq_some_iff.mp hk).1
        rw [List.length_take] at this; omega
      rw [List.getElem?_take_of_lt hk1] at hk
      by_cases q : k = Q
      · subst q
        rw [hat k (by omega)] at hk
        cases hk
        exact hlast
      · have hlt : k < Q := by omega
        have := List.pairwise_iff_getElem.mp hS k Q (by omega) (by omega) hlt
        have e1 := (List.getElem?_eq_some_iff.mp hk).2
        have e2 := (List.getElem?_eq_some_iff.mp (hat Q (by omega))).2
        rw [e1, e2] at this
        exact bv_t this hlast
  refine ⟨?_, fun y => ?_⟩
  · unfold Srt
    rw [List.pairwise_append]
    refine ⟨p1, List.pairwise_cons.mpr ⟨hd, p2⟩, fun x hx y hy => ?_⟩
    rcases List.mem_cons.mp hy with rfl | hy
    · exact ht x hx
    · exact p3 x hx y hy
  · rw [List.mem_append, List.mem_cons]
    have : y ∈ Ef mi mr b ↔ y ∈ (Ef mi mr b).take P ∨ y ∈ (Ef mi mr b).drop P := by
      rw [← List.mem_append, List.take_append_drop]
    rw [this]
    constructor
    · rintro (h | h | h)
      · exact Or.inr (Or.inl h)
      · exact Or.inl h
      · exact Or.inr (Or.inr h)
    · rintro (h | h | h)
      · exact Or.inr (Or.inl h)
      · exact Or.inl h
      · exact Or.inr (Or.inr h)
/-- what a taking leaves, told of the list -/
def TkE (mi mi9 : Nat → Nat → Int) (mr mr9 : Nat → Nat → Nat) (b : Nat) (v : V5) (z : Int) : Prop := (100 < mi b 2 ∧ mi = mi9 ∧ mr = mr9) ∨ (mi b 2 ≤ 100 ∧ BO mi9 mr9 b ∧ Srt (Ef mi9 mr9 b) ∧ (∀ y, y ∈ Ef mi9 mr9 b ↔ y = (v, z) ∨ y ∈ Ef mi mr b) ∧ mi9 b 2 = mi b 2 + 1 ∧ mi9 b 3 = mi b 3 + z ∧ (∀ a, a < b ∨ b + 205 ≤ a → mi9 a = mi a) ∧ ∀ a, a ≠ b + 1 → mr9 a = mr a)
theorem take_A {mi mi9 : Nat → Nat → Int} {mr mr9 : Nat → Nat → Nat} {b c : Nat} {z : Int} (hB : BO mi mr b) (hz : z = 0 ∨ z = 1) (hcb : CB mi c) (hS : Srt (Ef mi mr b)) (hu : ∀ y ∈ Ef mi mr b, ¬ gv (T5 (mi (c + 1))) y.1) (h : (100 < mi b 2 ∧ mi = mi9 ∧ mr = mr9) ∨ (mi b 2 ≤ 100 ∧ ∃ n P : Nat, mi b 2 = (n : Int) ∧ P ≤ n ∧ TkP mi mi9 mr mr9 b c z n P)) : TkE mi mi9 mr mr9 b (T5 (mi (c + 1))) z := by
  rcases h with h | ⟨h0, n, P, hn, hP, hT⟩
  · exact Or.inl h
  · have hn2 : n ≤ 100 := by omega
    obtain ⟨s1, s2⟩ := take_S hB hT hn hn2 hP hS hu
    have hb := take_BO hB hT hn hn2 hP hcb hz
    obtain ⟨h1, h2, h3, h4, h5, h6, h7, h8, h9, h10, h11, h12⟩ := hT
    refine Or.inr ⟨h0, hb, s1, s2, h8, h9, fun a ha => h11 a (by omega) (by omega) ?_, h12⟩
    have := hB.2.2.1 n (by omega)
    omega
theorem cov_E {mi : Nat → Nat → Int} {mr : Nat → Nat → Nat} {b c : Nat} {r : Int} (h : r = 1 ∧ (∃ i : Nat, (i : Int) < mi b 2 ∧ ge5 (mi (c + 1)) (mi (mr (b + 1) i + 1))) ∨ r = 0 ∧ ∀ i : Nat, (i : Int) < mi b 2 → ¬ ge5 (mi (c + 1)) (mi (mr (b + 1) i + 1))) : r = 1 ∧ (∃ y ∈ Ef mi mr b, gv (T5 (mi (c + 1))) y.1) ∨ r = 0 ∧ ∀ y ∈ Ef mi mr b, ¬ gv (T5 (mi (c + 1))) y.1 := by
  rcases h with ⟨h, i, hi, hg⟩ | ⟨h, hn⟩
  · exact Or.inl ⟨h, _, Ef_mem.mpr ⟨i, hi, rfl⟩, (gv_T _ _).mpr hg⟩
  · refine Or.inr ⟨h, fun y hy hg => ?_⟩
    obtain ⟨i, hi, rfl⟩ := Ef_mem.mp hy
    exact hn i hi ((gv_T _ _).mp hg)
