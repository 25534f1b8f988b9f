/-! what the laws say as numbers alone; what can come to a bad one in so many steps -/
abbrev Lws : Type := Int × Int × Int × (Nat → Nat → Int) × (Nat → V5)
def Dk (L : Lws) : Nat → V5 → Prop
  | 0, v => zf L.1 (F5 v) ∧ ∃ b : Nat, (b : Int) < L.2.2.1 ∧ gv v (L.2.2.2.2 b)
  | k + 1, v => Dk L k v ∨ (zf L.1 (F5 v) ∧ ∃ j : Nat, (j : Int) < L.2.1 ∧ fit (L.2.2.2.1 j) (F5 v) ∧ Dk L k (T5 (led (L.2.2.2.1 j) (F5 v))))
def LO (L : Lws) : Prop := (1 ≤ L.1 ∧ L.1 ≤ 5) ∧ (∀ j : Nat, (j : Int) < L.2.1 → RO L.1 (L.2.2.2.1 j)) ∧ ∀ b : Nat, (b : Int) < L.2.2.1 → zf L.1 (F5 (L.2.2.2.2 b)) ∧ (∀ j : Nat, j < 5 → 0 ≤ F5 (L.2.2.2.2 b) j) ∧ 1 ≤ sm (L.2.2.2.2 b) ∧ sm (L.2.2.2.2 b) ≤ 45
theorem gv_i {x y : V5} : gv x y ↔ ∀ j : Nat, j < 5 → F5 y j ≤ F5 x j := ge5_i
theorem gvT {f g : Nat → Int} : gv (T5 f) (T5 g) ↔ ∀ j : Nat, j < 5 → g j ≤ f j := by rw [gv_T]; exact ge5_i
theorem psm_mono {ρ v w : Nat → Int} (h : ∀ j : Nat, j < 5 → v j ≤ w j) (x : Nat) : ∀ n : Nat, n ≤ 5 → psm ρ v n x ≤ psm ρ w n x
  | 0, _ => Int.le_refl _
  | n + 1, hn => by
    have h1 := psm_mono (ρ := ρ) h x n (by omega)
    have h2 := h n (by omega)
    show psm ρ v n x + (if gol ρ n = x then v n - lv ρ n else 0) ≤ psm ρ w n x + (if gol ρ n = x then w n - lv ρ n else 0)
    split <;> omega
theorem led_mono {ρ v w : Nat → Int} (h : ∀ j : Nat, j < 5 → v j ≤ w j) (x : Nat) : led ρ v x ≤ led ρ w x := by
  rw [led_x, led_x]
  have := psm_mono (ρ := ρ) h x 5 (by decide)
  omega
theorem led_zf {sc : Int} {ρ v : Nat → Int} (h : RO sc ρ) (hz : zf sc v) : zf sc (led ρ v) := by
  intro x hx hx2
  have h' := h
  obtain ⟨-, h2, h3, h4, -, h7, hs, hg⟩ := h'
  rw [led_t h hz, tl_no _ _ (fun j _ hj => by have := (hg j (by omega)).2.2 (by omega); omega)]
  unfold cm
  rw [if_neg (by omega), if_neg (by omega)]
  rfl
theorem zfT {sc : Int} {f : Nat → Int} (h : zf sc f) : zf sc (F5 (T5 f)) := fun j hj hj2 => by rw [F5_T5 f hj]; exact h j hj hj2
theorem fit_n {ρ v : Nat → Int} (h : fit ρ v) {j : Nat} (hj : j < 5) : 0 ≤ v j := by
  have a := h j hj
  have b := lv_b ρ j
  have c : 0 ≤ nd ρ j := by unfold nd; split <;> omega
  omega
theorem fit_s {sc : Int} {ρ v : Nat → Int} (hR : RO sc ρ) (h : fit ρ v) : 1 ≤ sum5 v := by
  obtain ⟨-, h2, h3, h4, -, h7, hs, hg⟩ := hR
  have a := (sum5_n (f := v) (fun j hj => fit_n h hj)).2 (ρ 2).toNat (by omega)
  have b := h (ρ 2).toNat (by omega)
  have c : 0 ≤ nd ρ ((ρ 2).toNat : Nat) := by unfold nd; split <;> omega
  have d : 1 ≤ lv ρ ((ρ 2).toNat : Nat) := by
    unfold lv
    rw [if_pos (by omega)]
    split <;> omega
  omega
theorem Dk_z {L : Lws} (hL : LO L) : ∀ (k : Nat) {v : V5}, Dk L k v → zf L.1 (F5 v) ∧ (∀ j : Nat, j < 5 → 0 ≤ F5 v j) ∧ 1 ≤ sm v
  | 0, v, h => by
    obtain ⟨h1, b, hb, h2⟩ := h
    obtain ⟨a1, a2, a3, a4⟩ := hL.2.2 b hb
    have := gv_s h2
    refine ⟨h1, fun j hj => ?_, by omega⟩
    have := gv_i.mp h2 j hj
    have := a2 j hj
    omega
  | k + 1, v, h => by
    rcases h with h | ⟨h1, j, hj, h2, h3⟩
    · exact Dk_z hL k h
    · exact ⟨h1, fun i hi => fit_n h2 hi, fit_s (hL.2.1 j hj) h2⟩
theorem Dk_up {L : Lws} (hL : LO L) : ∀ (k : Nat) {v w : V5}, Dk L k v → gv w v → zf L.1 (F5 w) → Dk L k w
  | 0, v, w, h, hg, hz => by
    obtain ⟨h1, b, hb, h2⟩ := h
    exact ⟨hz, b, hb, gv_t hg h2⟩
  | k + 1, v, w, h, hg, hz => by
    rcases h with h | ⟨h1, j, hj, h2, h3⟩
    · exact Or.inl (Dk_up hL k h hg hz)
    · have hge := gv_i.mp hg
      exact Or.inr ⟨hz, j, hj, fun i hi => by have := h2 i hi; have := hge i hi; omega, Dk_up hL k h3 (gvT.mpr (fun i _ => led_mono hge i)) (zfT (led_zf (hL.2.1 j hj) hz))⟩
theorem Mn_ex {D : V5 → Prop} (hD : ∀ v, D v → ∀ j : Nat, j < 5 → 0 ≤ F5 v j) : ∀ (n : Nat) (v : V5), n = (sm v).toNat → D v → ∃ u, Mn D u ∧ gv v u := by
  intro n
  induction n using Nat.strongRecOn with
  | ind n ih =>
    intro v hn hv
    by_cases q : Mn D v
    · exact ⟨v, q, gv_r v⟩
    · have q2 : ∃ w, D w ∧ gv v w ∧ w ≠ v := Classical.byContradiction (fun a => q ⟨hv, fun w hw hg => Classical.byContradiction (fun b => a ⟨w, hw, hg, b⟩)⟩)
      obtain ⟨w, h1, h2, h3⟩ := q2
      have h4 := gv_s h2
      have h5 : ¬ sm v ≤ sm w := fun a => h3 (gv_e h2 a).symm
      have h6 := (sum5_n (hD w h1)).1
      obtain ⟨u, u1, u2⟩ := ih (sm w).toNat (by have : sm w = sum5 (F5 w) := rfl; omega) w rfl h1
      exact ⟨u, u1, gv_t h2 u2⟩
theorem Dk_ex {L : Lws} (hL : LO L) {k : Nat} {v : V5} (h : Dk L k v) : ∃ u, Mn (Dk L k) u ∧ gv v u := Mn_ex (fun w hw => (Dk_z hL k hw).2.1) _ v rfl h
/-- nothing new comes; too many -/
def Nnw (L : Lws) (k : Nat) : Prop := ∀ v, Dk L (k + 1) v → Dk L k v
def Big (L : Lws) (k : Nat) : Prop := ∃ l : List V5, l.Nodup ∧ 100 < l.length ∧ ∀ v ∈ l, Mn (Dk L k) v
/-- what a search answers -/
def Res (L : Lws) (r : Int) : Prop := (∃ k : Nat, r = (k : Int) ∧ k ≤ 40 ∧ Nnw L k ∧ ∀ i : Nat, i < k → ¬ Nnw L i ∧ ¬ Big L (i + 1)) ∨ (r = -5 ∧ ∃ k : Nat, k ≤ 40 ∧ (∀ i : Nat, i < k → ¬ Nnw L i ∧ ¬ Big L (i + 1)) ∧ ¬ Nnw L k ∧ (Big L (k + 1) ∨ k = 40))
theorem Res_u {L : Lws} {r r' : Int} (h : Res L r) (h' : Res L r') : r = r' := by
  rcases h with ⟨k, h1, h2, h3, h4⟩ | ⟨h1, k, h2, h4, h3, h5⟩
  · rcases h' with ⟨k', g1, g2, g3, g4⟩ | ⟨g1, k', g2, g4, g3, g5⟩
    · rcases Nat.lt_trichotomy k k' with q | q | q
      · exact absurd h3 (g4 k q).1
      · omega
      · exact absurd g3 (h4 k' q).1
    · exfalso
      rcases Nat.lt_trichotomy k k' with q | q | q
      · exact absurd h3 (g4 k q).1
      · subst q; exact g3 h3
      · rcases g5 with g5 | g5
        · exact absurd g5 (h4 k' q).2
        · omega
  · rcases h' with ⟨k', g1, g2, g3, g4⟩ | ⟨g1, k', g2, g4, g3, g5⟩
    · exfalso
      rcases Nat.lt_trichotomy k k' with q | q | q
      · rcases h5 with h5 | h5
        · exact absurd h5 (g4 k q).2
        · omega
      · subst q; exact h3 g3
      · exact absurd g3 (h4 k' q).1
    · rw [h1, g1]
/-- when nothing new comes once, nothing new comes ever -/
theorem Mn_iff {D E : V5 → Prop} (h : ∀ v, D v ↔ E v) (v : V5) : Mn D v ↔ Mn E v := by
  have : D = E := funext (fun v => propext (h v))
  rw [this]
/-! the class's store, told so -/
def LwC (mi : Nat → Nat → Int) (L : Lws) : Prop := L.1 = mi 1 3 ∧ L.2.1 = mi 1 5 ∧ L.2.2.1 = mi 1 6 ∧ (∀ j : Nat, (j : Int) < mi 1 5 → L.2.2.2.1 j = mi (6 + 2 * j)) ∧ ∀ b : Nat, (b : Int) < mi 1 6 → L.2.2.2.2 b = T5 (mi (30 + 2 * b + 1))
theorem LwC_fr {mi mi' : Nat → Nat → Int} {L : Lws} (hL : LW mi) (h : LwC mi L) (h1 : ∀ a, a < 42 → a ≠ 4 → a ≠ 5 → mi' a = mi a) : LwC mi' L := by
  obtain ⟨a, b, c, d, e⟩ := h
  have l3 := hL.2.2.1
  have l4 := hL.2.2.2.1
  have e1 : mi' 1 = mi 1 := h1 1 (by omega) (by omega) (by omega)
  refine ⟨by rw [e1]; exact a, by rw [e1]; exact b, by rw [e1]; exact c, fun j hj => ?_, fun j hj => ?_⟩
  · rw [e1] at hj
    rw [h1 _ (by omega) (by omega) (by omega)]
    exact d j hj
  · rw [e1] at hj
    rw [h1 _ (by omega) (by omega) (by omega)]
    exact e j hj
def FI (L : Lws) (k : Nat) (E : List (V5 × Int)) : Prop := (∀ v, Mn (Dk L k) v ↔ ∃ y ∈ E, y.1 = v) ∧ (∀ y ∈ E, y.2 = 0 → ∃ i : Nat, k = i + 1 ∧ Dk L i y.1) ∧ (∀ y ∈ E, y.2 = 0 ∨ y.2 = 1) ∧ ∀ y ∈ E, sm y.1 ≤ 45 + 3 * (k : Int)
theorem row_z {L : Lws} (hL : LO L) {k : Nat} {mi : Nat → Nat → Int} {mr : Nat → Nat → Nat} {A i : Nat} (hF : FI L k (Ef mi mr A)) (hi : (i : Int) < mi A 2) : Mn (Dk L k) (T5 (mi (mr (A + 1) i + 1))) ∧ zf L.1 (mi (mr (A + 1) i + 1)) ∧ (∀ j : Nat, j < 5 → 0 ≤ mi (mr (A + 1) i + 1) j) ∧ sum5 (mi (mr (A + 1) i + 1)) ≤ 45 + 3 * (k : Int) := by
  have hm : (T5 (mi (mr (A + 1) i + 1)), mi (A + 2) i) ∈ Ef mi mr A := Ef_mem.mpr ⟨i, hi, rfl⟩
  have h := (hF.1 _).mpr ⟨_, hm, rfl⟩
  obtain ⟨a, b, c⟩ := Dk_z hL k h.1
  refine ⟨h, fun j hj hj2 => ?_, fun j hj => ?_, hF.2.2.2 _ hm⟩
  · have := a j hj hj2
    dsimp only at this
    rwa [F5_T5 _ hj] at this
  · have := b j hj
    dsimp only at this
    rwa [F5_T5 _ hj] at this
theorem rd_S {L : Lws} {k : Nat} {mi : Nat → Nat → Int} {mr : Nat → Nat → Nat} {A : Nat} (hL : LO L) (hE : LwC mi L) (hF : FI L k (Ef mi mr A)) (i j : Nat) (r : Int) (g : V5) (hi : (i : Int) < mi A 2) (hj : (j : Int) < mi 1 5) (hR : FLr (mi 1 3) (mi (6 + 2 * j)) (mi (mr (A + 1) i + 1)) r) (hr : r ≠ -9) (hC : Cd (mi 1 3) (mi (6 + 2 * j)) (mi (mr (A + 1) i + 1)) g) : Sol (mi 1 3) (mi (6 + 2 * j)) (mi (mr (A + 1) i + 1)) g ∧ sm g = r := by
  obtain ⟨a, b, c, d⟩ := row_z hL hF hi
  obtain ⟨e1, e2, e3, e4, e5⟩ := hE
  have e6 := hL.2.1 j (by rw [e2]; exact hj)
  rw [e4 j hj] at e6
  rw [e1] at b e6
  exact Cd_sound e6 c b hR hr hC
theorem rd_C {L : Lws} {k : Nat} {mi : Nat → Nat → Int} {mr : Nat → Nat → Nat} {A : Nat} (hL : LO L) (hE : LwC mi L) (hF : FI L k (Ef mi mr A)) (g : V5) (h : Cnd mi mr A g) : Dk L (k + 1) g := by
  rcases h with ⟨u, hu, rfl⟩ | ⟨i, j, r, h1, h2, h3, h4, h5, h6⟩
  · exact Or.inl ((hF.1 _).mpr ⟨u, hu, rfl⟩).1
  · obtain ⟨⟨s1, s2, s3⟩, -⟩ := rd_S hL hE hF i j r g h1 h3 h4 h5 h6
    obtain ⟨a, b, c, d⟩ := row_z hL hF h1
    obtain ⟨e1, e2, e3, e4, e5⟩ := hE
    rw [← e4 j h3] at s2 s3
    rw [← e1] at s1
    have hj : (j : Int) < L.2.1 := by rw [e2]; exact h3
    exact Or.inr ⟨s1, j, hj, s2, Dk_up hL k a.1 (gvT.mpr (ge5_i.mp s3)) (zfT (led_zf (hL.2.1 j hj) s1))⟩
theorem rd_G {L : Lws} {k : Nat} {mi : Nat → Nat → Int} {mr : Nat → Nat → Nat} {A : Nat} (hL : LO L) (hE : LwC mi L) (hF : FI L k (Ef mi mr A)) (v : V5) (h : Dk L (k + 1) v) : ∃ g, Cnd mi mr A g ∧ gv v g := by
  have old : Dk L k v → ∃ g, Cnd mi mr A g ∧ gv v g := fun q => by
    obtain ⟨u, u1, u2⟩ := Dk_ex hL q
    obtain ⟨y, y1, y2⟩ := (hF.1 u).mp u1
    exact ⟨u, Or.inl ⟨y, y1, y2⟩, u2⟩
  rcases h with h | ⟨h1, j, hj, h2, h3⟩
  · exact old h
  · obtain ⟨u, u1, u2⟩ := Dk_ex hL h3
    obtain ⟨y, y1, rfl⟩ := (hF.1 u).mp u1
    rcases hF.2.2.1 y y1 with q | q
    · obtain ⟨k', rfl, q2⟩ := hF.2.1 y y1 q
      exact old (Or.inr ⟨h1, j, hj, h2, Dk_up hL k' q2 u2 (zfT (led_zf (hL.2.1 j hj) h1))⟩)
    · obtain ⟨i, hi, rfl⟩ := Ef_mem.mp y1
      obtain ⟨a, b, c, d⟩ := row_z hL hF hi
      obtain ⟨r, r1, r2, w, w1, w2⟩ := Cd_compl (hL.2.1 j hj) c (w := v) ⟨h1, h2, ge5_i.mpr (gvT.mp u2)⟩
      obtain ⟨e1, e2, e3, e4, e5⟩ := hE
      have hj2 : (j : Int) < mi 1 5 := by rw [← e2]; exact hj
      rw [e4 j hj2, e1] at r1 w1
      exact ⟨w, Or.inr ⟨i, j, r, hi, q, hj2, r1, r2, w1⟩, w2⟩
/-- behind a round -/
theorem rd_F {L : Lws} {k : Nat} {mi mi9 : Nat → Nat → Int} {mr mr9 : Nat → Nat → Nat} {A N : Nat} (hL : LO L) (hE : LwC mi L) (hF : FI L k (Ef mi mr A)) (h : RdP (Dk L (k + 1)) mi mi9 mr mr9 A N) (hc : mi9 N 2 ≤ 100) : FI L (k + 1) (Ef mi9 mr9 N) := by
  obtain ⟨h1, h2, h3, h4, h5, h6, h7, h8, h9⟩ := h
  refine ⟨fun v => ⟨fun q => ?_, fun q => ?_⟩, fun y hy q => ?_, fun y hy => ?_, fun y hy => ?_⟩
  · rcases h2 with h2 | h2
    · omega
    · exact h2 v q
  · obtain ⟨y, y1, rfl⟩ := q
    exact h1 y y1
  · obtain ⟨u, u1, u2⟩ := h3 y hy q
    exact ⟨k, rfl, by rw [← u2]; exact ((hF.1 _).mpr ⟨u, u1, rfl⟩).1⟩
  · obtain ⟨i, hi, rfl⟩ := Ef_mem.mp hy
    exact h5.2.2.2.2.2.1 i hi
  · obtain ⟨g, g1, g2⟩ := rd_G hL hE hF y.1 (h1 y hy).1
    have g3 := (h1 y hy).2 g (rd_C hL hE hF g g1) g2
    subst g3
    rcases g1 with ⟨u, hu, e⟩ | ⟨i, j, r, q1, q2, q3, q4, q5, q6⟩
    · have := hF.2.2.2 u hu
      rw [e] at this
      omega
    · have e := (rd_S hL hE hF i j r _ q1 q3 q4 q5 q6).2
      obtain ⟨a, b, c, d⟩ := row_z hL hF q1
      have l := lks_le (ρ := mi (6 + 2 * j)) (sc := mi 1 3) (by rw [← hE.1]; exact hL.1) c
      rw [e]
      rcases q4 with ⟨q, -⟩ | ⟨q, -⟩
      · omega
      · split at q <;> omega
theorem sum0 : ∀ {l : List Int}, (∀ x ∈ l, x = 0 ∨ x = 1) → 0 ≤ l.sum ∧ (l.sum = 0 → ∀ x ∈ l, x = 0)
  | [], _ => ⟨Int.le_refl _, fun _ x hx => absurd hx (List.not_mem_nil)⟩
  | a :: l, h => by
    have ha := h a List.mem_cons_self
    have ih := sum0 (l := l) (fun x hx => h x (List.mem_cons_of_mem _ hx))
    rw [List.sum_cons]
    refine ⟨by omega, fun e x hx => ?_⟩
    rcases List.mem_cons.mp hx with rfl | hx
    · omega
    · exact ih.2 (by omega) x hx
/-- whether something new came, and whether there are too many -/
theorem rd_N {L : Lws} {k : Nat} {mi mi9 : Nat → Nat → Int} {mr mr9 : Nat → Nat → Nat} {A N : Nat} (hL : LO L) (hE : LwC mi L) (hF : FI L k (Ef mi mr A)) (hA : mi A 2 ≤ 100) (h : RdP (Dk L (k + 1)) mi mi9 mr mr9 A N) : (mi9 N 3 = 0 ↔ Nnw L k) ∧ (100 < mi9 N 2 ↔ Big L (k + 1)) := by
  obtain ⟨h1, h2, h3, h4, h5, h6, h7, h8, h9⟩ := h
  have hfl : ∀ y ∈ Ef mi9 mr9 N, y.2 = 0 ∨ y.2 = 1 := fun y hy => by
    obtain ⟨i, hi, rfl⟩ := Ef_mem.mp hy
    exact h5.2.2.2.2.2.1 i hi
  have hs := sum0 (l := (Ef mi9 mr9 N).map Prod.snd) (fun x hx => by
    obtain ⟨y, hy, rfl⟩ := List.mem_map.mp hx
    exact hfl y hy)
  have hin : (∀ y ∈ Ef mi9 mr9 N, y.2 = 0) → mi9 N 2 ≤ 100 := fun q => by
    have := nd_len (Srt_nd h6) (l2 := (Ef mi mr A).map Prod.fst) (fun x hx => by
      obtain ⟨y, hy, rfl⟩ := List.mem_map.mp hx
      obtain ⟨u, u1, u2⟩ := h3 y hy (q y hy)
      exact List.mem_map.mpr ⟨u, u1, u2⟩)
    rw [List.length_map, List.length_map, Ef_len, Ef_len] at this
    omega
  refine ⟨⟨fun q v hv => ?_, fun q => ?_⟩, fun q => ?_, fun q => ?_⟩
  · have q0 : ∀ y ∈ Ef mi9 mr9 N, y.2 = 0 := fun y hy => hs.2 (by unfold FCo at h7; omega) _ (List.mem_map.mpr ⟨y, hy, rfl⟩)
    have hc := hin q0
    obtain ⟨u, u1, u2⟩ := Dk_ex hL hv
    rcases h2 with h2 | h2
    · omega
    · obtain ⟨y, y1, rfl⟩ := h2 u u1
      obtain ⟨w, w1, w2⟩ := h3 y y1 (q0 y y1)
      exact Dk_up hL k ((hF.1 _).mpr ⟨w, w1, rfl⟩).1 (by rw [w2]; exact u2) (Dk_z hL _ hv).1
  · by_cases w : ∀ y ∈ Ef mi9 mr9 N, y.2 = 0
    · unfold FCo at h7
      rw [h7]
      have z : ∀ {l : List Int}, (∀ x ∈ l, x = 0) → l.sum = 0 := by
        intro l
        induction l with
        | nil => intro _; rfl
        | cons a l ih =>
          intro hl
          rw [List.sum_cons, hl a List.mem_cons_self, ih (fun x hx => hl x (List.mem_cons_of_mem _ hx))]
          rfl
      exact z (fun x hx => by
        obtain ⟨y, hy, rfl⟩ := List.mem_map.mp hx
        exact w y hy)
    · exfalso
      have w2 : ∃ y ∈ Ef mi9 mr9 N, y.2 ≠ 0 := Classical.byContradiction (fun a => w (fun y hy => Classical.byContradiction (fun b => a ⟨y, hy, b⟩)))
      obtain ⟨y, y1, y2⟩ := w2
      have y3 : y.2 = 1 := by have := hfl y y1; omega
      obtain ⟨u, u1, u2⟩ := Dk_ex hL (q _ (h1 y y1).1)
      obtain ⟨z, z1, z2⟩ := (hF.1 u).mp u1
      exact h4 y y1 y3 z z1 (by rw [z2]; exact u2)
  · exact ⟨(Ef mi9 mr9 N).map Prod.fst, Srt_nd h6, by rw [List.length_map, Ef_len]; omega, fun v hv => by
      obtain ⟨y, hy, rfl⟩ := List.mem_map.mp hv
      exact h1 y hy⟩
  · obtain ⟨l, l1, l2, l3⟩ := q
    rcases h2 with h2 | h2
    · exact h2
    · have := nd_len l1 (l2 := (Ef mi9 mr9 N).map Prod.fst) (fun x hx => by
        obtain ⟨y, y1, y2⟩ := h2 x (l3 x hx)
        exact List.mem_map.mpr ⟨y, y1, y2⟩)
      rw [List.length_map, Ef_len] at this
      omega
