/-! the leading ones -/
def FG (L : Lws) (S : V5 → Prop) (k c : Nat) (P : Nat → V5) (le qu gl : Nat → Int) (f : Int) : Prop := QV L S k c P le qu ∧ (∀ p : Nat, p < k → S (P p) → le p = 0) ∧ (∀ a : Nat, a < c → ∀ j : Nat, (j : Int) < L.2.1 → GEn L P k le gl (qu a).toNat j) ∧ (f = -9 ∧ NoB L P qu c ∨ Fnd L P le qu c f)
def Ld (L : Lws) (P : Nat → V5) (le : Nat → Int) (f : Int) (p : Nat) : Prop := 0 ≤ le p ∧ le p ≤ f ∧ Dk L (f - le p).toNat (P p)
theorem FG_q {L : Lws} {S : V5 → Prop} {k c : Nat} {P : Nat → V5} {le qu gl : Nat → Int} {f : Int} (h : FG L S k c P le qu gl f) {p : Nat} (hp : p < k) (h9 : le p ≠ -9) : 0 ≤ le p ∧ ∃ a : Nat, a < c ∧ qu a = (p : Int) := by
  rcases h.1.2.2.1 p hp with ⟨q, -⟩ | q
  · exact absurd q h9
  · exact q
theorem FG_e {L : Lws} {S : V5 → Prop} {k c : Nat} {P : Nat → V5} {le qu gl : Nat → Int} {f : Int} (h : FG L S k c P le qu gl f) {p : Nat} (hp : p < k) (h9 : le p ≠ -9) {j : Nat} (hj : (j : Int) < L.2.1) : GEn L P k le gl p j := by
  obtain ⟨-, a, h1, h2⟩ := FG_q h hp h9
  have := h.2.2.1 a h1 j hj
  rw [h2, Int.toNat_natCast] at this
  exact this
theorem FG_min {L : Lws} {S : V5 → Prop} {k c : Nat} {P : Nat → V5} {le qu gl : Nat → Int} {f : Int} (h : FG L S k c P le qu gl f) : ∀ (t p : Nat), p < k → le p ≠ -9 → Dk L t (P p) → 0 ≤ f ∧ f ≤ le p + (t : Int) := by
  intro t
  induction t with
  | zero =>
    intro p hp h9 hd
    obtain ⟨-, a, h1, h2⟩ := FG_q h hp h9
    rcases h.2.2.2 with ⟨-, q⟩ | ⟨b, q1, q2, q3, q4⟩
    · exact absurd (by rw [h2, Int.toNat_natCast]; exact hd) (q a h1)
    · have h5 := QV_n9 h.1 q1
      have hab : ¬ a < b := fun w => q4 a w (by rw [h2, Int.toNat_natCast]; exact hd)
      have h6 := h.1.2.2.2.2.1 b a (by omega) h1
      rw [h2, Int.toNat_natCast] at h6
      omega
  | succ t ih =>
    intro p hp h9 hd
    rcases hd with hd | ⟨-, j, hj, hf, hd⟩
    · have := ih p hp h9 hd
      omega
    · rcases FG_e h hp h9 hj with ⟨-, w, h1, h2, h3, h4, h5⟩ | ⟨q, -⟩
      · have := ih w h1 h4 (by rw [h3]; exact hd)
        omega
      · exact absurd hf q
theorem FG_step {L : Lws} {S : V5 → Prop} {k c : Nat} {P : Nat → V5} {le qu gl : Nat → Int} {f : Int} (h : FG L S k c P le qu gl f) {p : Nat} (hp : p < k) (hl : Ld L P le f p) (hlt : le p < f) : ∃ j w : Nat, (j : Int) < L.2.1 ∧ w < k ∧ gl (12 * p + j) = (w : Int) ∧ le w = le p + 1 ∧ Ld L P le f w := by
  obtain ⟨h1, h2, h3⟩ := hl
  obtain ⟨t, ht⟩ : ∃ t : Nat, (f - le p).toNat = t + 1 := ⟨(f - le p).toNat - 1, by omega⟩
  rw [ht] at h3
  have h9 : le p ≠ -9 := by omega
  rcases h3 with h3 | ⟨-, j, hj, hf, hd⟩
  · have := FG_min h t p hp h9 h3
    omega
  · rcases FG_e h hp h9 hj with ⟨-, w, q1, q2, q3, q4, q5⟩ | ⟨q, -⟩
    · rw [← q3] at hd
      have h4 := FG_min h t w q1 q4 hd
      have h5 := (FG_q h q1 q4).1
      refine ⟨j, w, hj, q1, q2, by omega, h5, by omega, ?_⟩
      rw [show (f - le w).toNat = t by omega]
      exact hd
    · exact absurd hf q
theorem FG_back {L : Lws} {S : V5 → Prop} {k c : Nat} {P : Nat → V5} {le qu gl : Nat → Int} {f n : Int} (hP : ∀ i : Nat, i < k → Cro L.1 n (P i)) (h : FG L S k c P le qu gl f) {p w j : Nat} (hp : p < k) (h9 : le p ≠ -9) (hj : (j : Int) < L.2.1) (hg : gl (12 * p + j) = (w : Int)) (hw : le w = le p + 1) (hl : Ld L P le f w) : Ld L P le f p ∧ Sp1 L (P p) (P w) := by
  have h1 := (FG_q h hp h9).1
  obtain ⟨g1, g2, g3⟩ := hl
  rcases FG_e h hp h9 hj with ⟨q0, w', q1, q2, q3, q4, q5⟩ | ⟨-, q⟩
  · have e : w' = w := by omega
    subst e
    refine ⟨⟨h1, by omega, ?_⟩, j, hj, q0, q3⟩
    rw [show (f - le p).toNat = (f - le w').toNat + 1 by omega]
    exact Or.inr ⟨(hP p hp).1, j, hj, q0, by rw [← q3]; exact g3⟩
  · omega
/-- from the start to a bad one, told from either end -/
theorem Rk_Dk {L : Lws} {S : V5 → Prop} {n : Int} (hL : LO L) (hS : ∀ v, S v → Cro L.1 n v) : ∀ (t s : Nat) {w : V5}, Rk L S t w → Dk L s w → ∃ v, S v ∧ Dk L (t + s) v
  | 0, s, w, h, h2 => ⟨w, h, by rw [Nat.zero_add]; exact h2⟩
  | t + 1, s, w, h, h2 => by
    have up : ∀ {v : V5} {m : Nat}, Dk L m v → Dk L (m + 1) v := fun q => Or.inl q
    rcases h with h | ⟨u, hu, j, hj, hf, rfl⟩
    · obtain ⟨v, h3, h4⟩ := Rk_Dk hL hS t s h h2
      exact ⟨v, h3, by rw [show t + 1 + s = t + s + 1 by omega]; exact up h4⟩
    · obtain ⟨v, h3, h4⟩ := Rk_Dk hL hS t (s + 1) hu (Or.inr ⟨(Rk_cro hL hS hu).1, j, hj, hf, h2⟩)
      exact ⟨v, h3, by rw [show t + 1 + s = t + (s + 1) by omega]; exact h4⟩
theorem FG_start {L : Lws} {S : V5 → Prop} {n : Int} {k c : Nat} {P : Nat → V5} {le qu gl : Nat → Int} {f : Int} (hL : LO L) (hS : ∀ v, S v → Cro L.1 n v) (hP : Lst L.1 n k P) (h : FG L S k c P le qu gl f) (hf : 0 ≤ f) : ∃ p : Nat, p < k ∧ le p = 0 ∧ Ld L P le f p ∧ S (P p) := by
  rcases h.2.2.2 with ⟨q, -⟩ | ⟨a, h1, h2, h3, h4⟩
  · omega
  · obtain ⟨v, h5, h6⟩ := Rk_Dk hL hS _ 0 (h.1.2.2.2.2.2 a h1) h3
    obtain ⟨p, hp, rfl⟩ := hP.2 v (hS v h5)
    have h7 := h.2.1 p hp h5
    refine ⟨p, hp, h7, ⟨by omega, by omega, ?_⟩, h5⟩
    rw [h7, h2, Int.sub_zero]
    exact h6
/-- the run: the first by crowds -/
def lxm (Q : V5 → Prop) (v : V5) : Prop := Q v ∧ ∀ w, Q w → v = w ∨ lx v w
theorem lxm_u {Q : V5 → Prop} {v w : V5} (h : lxm Q v) (h2 : lxm Q w) : v = w := by
  rcases h.2 w h2.1 with q | q
  · exact q
  · rcases h2.2 v h.1 with q2 | q2
    · exact q2.symm
    · exact absurd (lx_t q q2) (lx_i _)
def Rn (L : Lws) (S : V5 → Prop) (f : Nat) : Nat → V5 → Prop
  | 0, v => lxm (fun w => S w ∧ Dk L f w) v
  | i + 1, v => ∃ u, Rn L S f i u ∧ lxm (fun w => Sp1 L u w ∧ Dk L (f - (i + 1)) w) v
theorem Rn_u {L : Lws} {S : V5 → Prop} {f : Nat} : ∀ (i : Nat) {v w : V5}, Rn L S f i v → Rn L S f i w → v = w
  | 0, _, _, h, h2 => lxm_u h h2
  | i + 1, v, w, ⟨u, h1, h2⟩, ⟨u', h3, h4⟩ => by
    have e := Rn_u i h1 h3
    subst e
    exact lxm_u h2 h4
theorem Rn_0 {L : Lws} {S : V5 → Prop} {n : Int} {k c : Nat} {P : Nat → V5} {le qu gl : Nat → Int} {f : Int} (hS : ∀ v, S v → Cro L.1 n v) (hP : Lst L.1 n k P) (h : FG L S k c P le qu gl f) (hf : 0 ≤ f) {p : Nat} (hp : p < k) (h0 : le p = 0) (hl : Ld L P le f p) (hm : ∀ q : Nat, q < k → le q = 0 → Ld L P le f q → p ≤ q) : Rn L S f.toNat 0 (P p) := by
  have hs : S (P p) := by
    obtain ⟨-, a, h1, h2⟩ := FG_q h hp (by omega)
    have := h.1.2.2.2.2.2 a h1
    rw [h2, Int.toNat_natCast, h0] at this
    exact this
  refine ⟨⟨hs, ?_⟩, fun w hw => ?_⟩
  · have := hl.2.2
    rw [h0, Int.sub_zero] at this
    exact this
  · obtain ⟨q, hq, rfl⟩ := hP.2 w (hS w hw.1)
    have h1 := h.2.1 q hq hw.1
    have h2 := hm q hq h1 ⟨by omega, by omega, by rw [h1, Int.sub_zero]; exact hw.2⟩
    rcases (show p = q ∨ p < q by omega) with e | e
    · exact Or.inl (by rw [e])
    · exact Or.inr (hP.1.2 p q e hq)
theorem Rn_s {L : Lws} {S : V5 → Prop} {n : Int} {k c : Nat} {P : Nat → V5} {le qu gl : Nat → Int} {f : Int} {i : Nat} (hL : LO L) (hP : Lst L.1 n k P) (h : FG L S k c P le qu gl f) {p w j : Nat} (hp : p < k) (h0 : le p = (i : Int)) (hi : (i : Int) < f) (hr : Rn L S f.toNat i (P p)) (hj : (j : Int) < L.2.1) (hg : gl (12 * p + j) = (w : Int)) (hw : w < k) (hwl : le w = le p + 1) (hl : Ld L P le f w) (hm : ∀ j' q : Nat, (j' : Int) < L.2.1 → gl (12 * p + j') = (q : Int) → q < k → le q = le p + 1 → Ld L P le f q → w ≤ q) : Rn L S f.toNat (i + 1) (P w) := by
  have hb := FG_back hP.1.1 h hp (by omega) hj hg hwl hl
  refine ⟨P p, hr, ⟨hb.2, ?_⟩, fun u hu => ?_⟩
  · have := hl.2.2
    rw [show (f - le w).toNat = f.toNat - (i + 1) by omega] at this
    exact this
  · obtain ⟨⟨j', hj', hf', rfl⟩, hu2⟩ := hu
    rcases FG_e h hp (by omega) hj' with ⟨-, q, q1, q2, q3, q4, q5⟩ | ⟨q, -⟩
    · rw [← q3] at hu2 ⊢
      have h4 := FG_min h _ q q1 q4 hu2
      have h5 := (FG_q h q1 q4).1
      have h6 := hm j' q hj' q2 q1 (by omega) ⟨h5, by omega, by rw [show (f - le q).toNat = f.toNat - (i + 1) by omega]; exact hu2⟩
      rcases (show w = q ∨ w < q by omega) with e | e
      · exact Or.inl (by rw [e])
      · exact Or.inr (hP.1.2 w q e q1)
    · exact absurd hf' q
