/-! crowds as digits of nine; what goes through all of one number -/
def T9 (c : Int) : V5 := T5 (dg9 c)
theorem T9_j {c : Int} {j : Nat} (hj : j < 5) : F5 (T9 c) j = dg9 c j := F5_T5 _ hj
theorem dg9_b (c : Int) (j : Nat) : 0 ≤ dg9 c j ∧ dg9 c j ≤ 8 := by
  unfold dg9
  have := Int.emod_nonneg (c / 9 ^ (4 - j)) (show (9 : Int) ≠ 0 by decide)
  have := Int.emod_lt_of_pos (c / 9 ^ (4 - j)) (show (0 : Int) < 9 by decide)
  omega
theorem cd9_dg {c : Int} (h : 0 ≤ c ∧ c < 59049) : cd9 (dg9 c) = c := by
  show c / 6561 % 9 * 6561 + c / 729 % 9 * 729 + c / 81 % 9 * 81 + c / 9 % 9 * 9 + c / 1 % 9 = c
  omega
theorem dg_cd {v : Nat → Int} (h : ∀ j : Nat, j < 5 → 0 ≤ v j ∧ v j ≤ 8) : (0 ≤ cd9 v ∧ cd9 v < 59049) ∧ T9 (cd9 v) = T5 v := by
  have h0 := h 0 (by decide); have h1 := h 1 (by decide); have h2 := h 2 (by decide); have h3 := h 3 (by decide); have h4 := h 4 (by decide)
  have e : cd9 v = v 0 * 6561 + v 1 * 729 + v 2 * 81 + v 3 * 9 + v 4 := rfl
  clear h
  generalize cd9 v = c at *
  refine ⟨by omega, v5_ext ?_ ?_ ?_ ?_ ?_⟩
  · show c / 6561 % 9 = v 0; omega
  · show c / 729 % 9 = v 1; omega
  · show c / 81 % 9 = v 2; omega
  · show c / 9 % 9 = v 3; omega
  · show c / 1 % 9 = v 4; omega
theorem T9_lx {c c' : Int} (h0 : 0 ≤ c) (h : c < c') (h' : c' < 59049) : lx (T9 c) (T9 c') := by
  have e : dg9 c 0 * 6561 + dg9 c 1 * 729 + dg9 c 2 * 81 + dg9 c 3 * 9 + dg9 c 4 = c := cd9_dg ⟨h0, by omega⟩
  have e' : dg9 c' 0 * 6561 + dg9 c' 1 * 729 + dg9 c' 2 * 81 + dg9 c' 3 * 9 + dg9 c' 4 = c' := cd9_dg ⟨by omega, h'⟩
  have a0 := dg9_b c 0; have a1 := dg9_b c 1; have a2 := dg9_b c 2; have a3 := dg9_b c 3; have a4 := dg9_b c 4
  have b0 := dg9_b c' 0; have b1 := dg9_b c' 1; have b2 := dg9_b c' 2; have b3 := dg9_b c' 3; have b4 := dg9_b c' 4
  show (dg9 c 0 < dg9 c' 0 ∨ dg9 c 0 = dg9 c' 0 ∧ (dg9 c 1 < dg9 c' 1 ∨ dg9 c 1 = dg9 c' 1 ∧ (dg9 c 2 < dg9 c' 2 ∨ dg9 c 2 = dg9 c' 2 ∧ (dg9 c 3 < dg9 c' 3 ∨ dg9 c 3 = dg9 c' 3 ∧ dg9 c 4 < dg9 c' 4))))
  omega
theorem Cro_8 {sc n : Int} {v : V5} (h : Cro sc n v) (hn : n ≤ 8) : ∀ j : Nat, j < 5 → 0 ≤ F5 v j ∧ F5 v j ≤ 8 := fun j hj => by
  have a := (sum5_n h.2.1).2 j hj
  have b := h.2.1 j hj
  have c : sum5 (F5 v) = sm v := rfl
  have d := h.2.2
  omega
def Pm (m : Nat → Nat → Int) (i : Nat) : V5 := T9 (m 488 i)
def CLI (L : Lws) (n c : Int) (k : Nat) (m : Nat → Nat → Int) : Prop := (∀ i : Nat, i < k → (0 ≤ m 488 i ∧ m 488 i < c) ∧ Cro L.1 n (Pm m i) ∧ m 489 (m 488 i).toNat = (i : Int)) ∧ (∀ i j : Nat, i < j → j < k → m 488 i < m 488 j) ∧ ∀ d : Int, 0 ≤ d → d < c → Cro L.1 n (T9 d) → ∃ i : Nat, i < k ∧ m 488 i = d
theorem CLI_inc {L : Lws} {n c : Int} {k : Nat} {m : Nat → Nat → Int} (hc : c ≤ 59049) (h : CLI L n c k m) : Inc L.1 n k (Pm m) := ⟨fun i hi => (h.1 i hi).2.1, fun i j hij hj => T9_lx (h.1 i (by omega)).1.1 (h.2.1 i j hij hj) (by have := (h.1 j hj).1.2; omega)⟩
theorem CLI_l {L : Lws} {n c : Int} {k : Nat} {m : Nat → Nat → Int} (hn : 1 ≤ n ∧ n ≤ 8) (hc : c ≤ 59049) (h : CLI L n c k m) : k ≤ 495 := Inc_l (CLI_inc hc h) (by omega)
theorem CLI_all {L : Lws} {n : Int} {k : Nat} {m : Nat → Nat → Int} (hn : 1 ≤ n ∧ n ≤ 8) (h : CLI L n 59049 k m) : Lst L.1 n k (Pm m) := ⟨CLI_inc (by omega) h, fun v hv => by
  obtain ⟨h1, h2⟩ := dg_cd (Cro_8 hv hn.2)
  rw [T5_F5] at h2
  obtain ⟨i, hi, e⟩ := h.2.2 (cd9 (F5 v)) h1.1 h1.2 (by rw [h2]; exact hv)
  exact ⟨i, hi, by unfold Pm; rw [e, h2]⟩⟩
theorem CLI_no {L : Lws} {n c : Int} {k : Nat} {m m' : Nat → Nat → Int} (h : CLI L n c k m) (hc0 : 0 ≤ c) (h8 : m' 488 = m 488) (h9 : ∀ j : Nat, j ≠ c.toNat → m' 489 j = m 489 j) (hno : ¬ Cro L.1 n (T9 c)) : CLI L n (c + 1) k m' := by
  unfold CLI Pm at *
  rw [h8]
  refine ⟨fun i hi => ?_, h.2.1, fun d d0 d1 d2 => ?_⟩
  · obtain ⟨a, b, e⟩ := h.1 i hi
    exact ⟨by omega, b, by rw [h9 _ (by omega)]; exact e⟩
  · by_cases q : d = c
    · subst q; exact absurd d2 hno
    · exact h.2.2 d d0 (by omega) d2
theorem CLI_yes {L : Lws} {n c : Int} {k : Nat} {m m' : Nat → Nat → Int} (h : CLI L n c k m) (hc0 : 0 ≤ c) (h8 : ∀ j : Nat, m' 488 j = if j = k then c else m 488 j) (h9 : ∀ j : Nat, m' 489 j = if j = c.toNat then (k : Int) else m 489 j) (hy : Cro L.1 n (T9 c)) : CLI L n (c + 1) (k + 1) m' := by
  refine ⟨fun i hi => ?_, fun i j hij hj => ?_, fun d d0 d1 d2 => ?_⟩
  · by_cases q : i = k
    · subst q
      have e : m' 488 i = c := by rw [h8, if_pos rfl]
      unfold Pm
      rw [e]
      exact ⟨by omega, hy, by rw [h9, if_pos rfl]⟩
    · obtain ⟨a, b, e⟩ := h.1 i (by omega)
      have e2 : m' 488 i = m 488 i := by rw [h8, if_neg q]
      unfold Pm at *
      rw [e2]
      exact ⟨by omega, b, by rw [h9, if_neg (by omega)]; exact e⟩
  · rw [h8 i, if_neg (by omega), h8 j]
    by_cases q : j = k
    · rw [if_pos q]; exact (h.1 i (by omega)).1.2
    · rw [if_neg q]; exact h.2.1 i j hij (by omega)
  · by_cases q : d = c
    · exact ⟨k, by omega, by rw [h8, if_pos rfl, q]⟩
    · obtain ⟨i, hi, e⟩ := h.2.2 d d0 (by omega) d2
      exact ⟨i, by omega, by rw [h8, if_neg (by omega), e]⟩
/-- what holds between the steps -/
def XI (L : Lws) (set n : Int) (k : Nat) (m : Nat → Nat → Int) : Prop := Lst L.1 n k (Pm m) ∧ (∀ i : Nat, i < k → (0 ≤ m 488 i ∧ m 488 i < 59049) ∧ m 489 (m 488 i).toNat = (i : Int)) ∧ (∀ i : Nat, i < k → (m 491 i = 0 ∨ m 491 i = 1) ∧ (m 491 i = 1 → ∃ t : Nat, Rk L (St L.1 n set) t (Pm m i)) ∧ (St L.1 n set (Pm m i) → m 491 i = 1)) ∧ ∀ i : Nat, i < k → (0 ≤ m 490 i ∧ m 490 i ≤ 1000000) ∧ (m 490 i < 1000000 → Dk L (m 490 i).toNat (Pm m i)) ∧ (Dk L 0 (Pm m i) → m 490 i = 0)
def CLO (L : Lws) (k : Nat) (m : Nat → Nat → Int) (i j : Nat) : Prop := fit (L.2.2.2.1 j) (F5 (Pm m i)) → ∀ w : Nat, w < k → Pm m w = T5 (led (L.2.2.2.1 j) (F5 (Pm m i))) → (m 491 i = 1 → m 491 w = 1) ∧ m 490 i ≤ m 490 w + 1
def GT (L : Lws) (set n : Int) (k : Nat) (m : Nat → Nat → Int) : Prop := Lst L.1 n k (Pm m) ∧ (∀ i : Nat, i < k → (0 ≤ m 488 i ∧ m 488 i < 59049) ∧ m 489 (m 488 i).toNat = (i : Int)) ∧ (∀ i : Nat, i < k → (m 491 i = 0 ∨ m 491 i = 1) ∧ (m 491 i = 1 ↔ ∃ t : Nat, Rk L (St L.1 n set) t (Pm m i))) ∧ ∀ i : Nat, i < k → (0 ≤ m 490 i ∧ m 490 i ≤ 1000000) ∧ (m 490 i < 1000000 → Dk L (m 490 i).toNat (Pm m i)) ∧ ∀ d : Nat, Dk L d (Pm m i) → m 490 i ≤ (d : Int)
theorem XI_fix {L : Lws} {set n : Int} {k : Nat} {m : Nat → Nat → Int} (hL : LO L) (h : XI L set n k m) (hc : ∀ i : Nat, i < k → ∀ j : Nat, (j : Int) < L.2.1 → CLO L k m i j) : GT L set n k m := by
  obtain ⟨h1, h2, h3, h4⟩ := h
  have key1 : ∀ (t : Nat) (v : V5), Rk L (St L.1 n set) t v → ∀ i : Nat, i < k → Pm m i = v → m 491 i = 1 := by
    intro t
    induction t with
    | zero => intro v hv i hi e; exact (h3 i hi).2.2 (by rw [e]; exact hv)
    | succ t ih =>
      intro v hv i hi e
      rcases hv with hv | ⟨u, hu, j, hj, hf, hv⟩
      · exact ih v hv i hi e
      · obtain ⟨a, ha, ea⟩ := h1.2 u (Rk_cro hL (fun v hv => hv.1) hu)
        have e1 := ih u hu a ha ea
        exact (hc a ha j hj (by rw [ea]; exact hf) i hi (by rw [ea, e]; exact hv)).1 e1
  have key2 : ∀ (d : Nat) (v : V5), Dk L d v → ∀ i : Nat, i < k → Pm m i = v → m 490 i ≤ (d : Int) := by
    intro d
    induction d with
    | zero => intro v hv i hi e; have := (h4 i hi).2.2 (by rw [e]; exact hv); omega
    | succ d ih =>
      intro v hv i hi e
      rcases hv with hv | ⟨hz, j, hj, hf, hv⟩
      · have := ih v hv i hi e; omega
      · have hcr : Cro L.1 n v := by rw [← e]; exact h1.1.1 i hi
        obtain ⟨w, hw, ew⟩ := h1.2 _ (led_cro (hL.2.1 j hj) hcr hf)
        have a := ih _ hv w hw ew
        have b := (hc i hi j hj (by rw [e]; exact hf) w hw (by rw [ew, e])).2
        omega
  exact ⟨h1, h2, fun i hi => ⟨(h3 i hi).1, (h3 i hi).2.1, fun ⟨t, ht⟩ => key1 t _ ht i hi rfl⟩, fun i hi => ⟨(h4 i hi).1, (h4 i hi).2.1, fun d hd => key2 d _ hd i hi rfl⟩⟩
theorem XI_up {L : Lws} {set n : Int} {k c w x : Nat} {m m' : Nat → Nat → Int} (hL : LO L) (h : XI L set n k m) (hc : c < k) (hw : w < k) (hx : (x : Int) < L.2.1) (hf : fit (L.2.2.2.1 x) (F5 (Pm m c))) (e : Pm m w = T5 (led (L.2.2.2.1 x) (F5 (Pm m c)))) (h8 : m' 488 = m 488) (h9 : m' 489 = m 489) (h1 : ∀ i : Nat, m' 491 i = if i = w then (if m 491 w = 1 ∨ m 491 c = 1 then 1 else 0) else m 491 i) (h0 : ∀ i : Nat, m' 490 i = if i = c then (if m 490 w + 1 < m 490 c then m 490 w + 1 else m 490 c) else m 490 i) : XI L set n k m' := by
  obtain ⟨g1, g2, g3, g4⟩ := h
  have eP : ∀ i, Pm m' i = Pm m i := fun i => by unfold Pm; rw [h8]
  have eP2 : Pm m' = Pm m := funext eP
  unfold XI
  rw [eP2, h8, h9]
  refine ⟨g1, g2, fun i hi => ?_, fun i hi => ?_⟩
  · rw [h1 i]
    by_cases q : i = w
    · subst q
      rw [if_pos rfl]
      by_cases q2 : m 491 i = 1 ∨ m 491 c = 1
      · rw [if_pos q2]
        refine ⟨Or.inr rfl, fun _ => ?_, fun _ => rfl⟩
        rcases q2 with q2 | q2
        · exact (g3 i hi).2.1 q2
        · obtain ⟨t, ht⟩ := (g3 c hc).2.1 q2
          exact ⟨t + 1, Or.inr ⟨_, ht, x, hx, hf, e⟩⟩
      · rw [if_neg q2]
        exact ⟨Or.inl rfl, fun z => absurd z (by decide), fun z => absurd (Or.inl ((g3 i hi).2.2 z)) q2⟩
    · rw [if_neg q]; exact g3 i hi
  · rw [h0 i]
    by_cases q : i = c
    · subst q
      rw [if_pos rfl]
      by_cases q2 : m 490 w + 1 < m 490 i
      · rw [if_pos q2]
        have a := g4 w hw
        have b := g4 i hi
        refine ⟨by omega, fun _ => ?_, fun z => by have := b.2.2 z; omega⟩
        have d := a.2.1 (by omega)
        rw [show (m 490 w + 1).toNat = (m 490 w).toNat + 1 by omega]
        exact Or.inr ⟨(g1.1.1 i hi).1, x, hx, hf, by rw [← e]; exact d⟩
      · rw [if_neg q2]; exact g4 i hi
    · rw [if_neg q]; exact g4 i hi
def smn (f : Nat → Int) : Nat → Int
  | 0 => 0
  | n + 1 => smn f n + f n
theorem smn_n {f : Nat → Int} : ∀ {n : Nat}, (∀ i : Nat, i < n → 0 ≤ f i) → 0 ≤ smn f n
  | 0, _ => Int.le_refl _
  | n + 1, h => by
    have a := smn_n (n := n) (fun i hi => h i (by omega))
    have b := h n (by omega)
    show 0 ≤ smn f n + f n
    omega
theorem smn_c {f g : Nat → Int} : ∀ {n : Nat}, (∀ i : Nat, i < n → f i = g i) → smn f n = smn g n
  | 0, _ => rfl
  | n + 1, h => by
    show smn f n + f n = smn g n + g n
    rw [smn_c (n := n) (fun i hi => h i (by omega)), h n (by omega)]
theorem smn_up {f : Nat → Int} {a : Nat} {x : Int} : ∀ {n : Nat}, a < n → smn (fun i => if i = a then x else f i) n = smn f n + (x - f a)
  | 0, h => absurd h (by omega)
  | n + 1, h => by
    show smn _ n + (if n = a then x else f n) = smn f n + f n + (x - f a)
    by_cases q : n = a
    · subst q
      rw [if_pos rfl, smn_c (g := f) (fun i hi => if_neg (by omega))]
      omega
    · rw [if_neg q, smn_up (by omega)]
      omega
def mes (m : Nat → Nat → Int) (k : Nat) : Int := smn (fun i => 1 - m 491 i) k + smn (m 490) k
theorem mes_n {L : Lws} {set n : Int} {k : Nat} {m : Nat → Nat → Int} (h : XI L set n k m) : 0 ≤ mes m k := by
  have a := smn_n (f := fun i => 1 - m 491 i) (n := k) (fun i hi => by have := (h.2.2.1 i hi).1; show 0 ≤ 1 - m 491 i; omega)
  have b := smn_n (f := m 490) (n := k) (fun i hi => (h.2.2.2 i hi).1.1)
  unfold mes
  omega
theorem mes_up {L : Lws} {set n : Int} {k c w : Nat} {m m' : Nat → Nat → Int} (h : XI L set n k m) (hc : c < k) (hw : w < k) (h1 : ∀ i : Nat, m' 491 i = if i = w then (if m 491 w = 1 ∨ m 491 c = 1 then 1 else 0) else m 491 i) (h0 : ∀ i : Nat, m' 490 i = if i = c then (if m 490 w + 1 < m 490 c then m 490 w + 1 else m 490 c) else m 490 i) (hs : (m 491 c = 1 ∧ m 491 w = 0) ∨ m 490 w + 1 < m 490 c) : mes m' k < mes m k := by
  have a := smn_up (f := fun i => 1 - m 491 i) (a := w) (x := 1 - (if m 491 w = 1 ∨ m 491 c = 1 then 1 else 0)) hw
  have b := smn_up (f := m 490) (a := c) (x := if m 490 w + 1 < m 490 c then m 490 w + 1 else m 490 c) hc
  have e1 : smn (fun i => 1 - m' 491 i) k = smn (fun i => if i = w then 1 - (if m 491 w = 1 ∨ m 491 c = 1 then 1 else 0) else 1 - m 491 i) k := smn_c (fun i _ => by rw [h1 i]; split <;> rfl)
  have e0 : smn (m' 490) k = smn (fun i => if i = c then (if m 490 w + 1 < m 490 c then m 490 w + 1 else m 490 c) else m 490 i) k := smn_c (fun i _ => h0 i)
  have gw := (h.2.2.1 w hw).1
  have gc := (h.2.2.1 c hc).1
  unfold mes
  rw [e1, e0, a, b]
  split <;> split <;> omega
