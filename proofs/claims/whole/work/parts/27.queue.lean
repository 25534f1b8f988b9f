/-! what the walk holds, place by place -/
def GEn (L : Lws) (P : Nat → V5) (k : Nat) (le gl : Nat → Int) (p j : Nat) : Prop := (fit (L.2.2.2.1 j) (F5 (P p)) ∧ ∃ w : Nat, w < k ∧ gl (12 * p + j) = (w : Int) ∧ P w = T5 (led (L.2.2.2.1 j) (F5 (P p))) ∧ le w ≠ -9 ∧ le w ≤ le p + 1) ∨ (¬ fit (L.2.2.2.1 j) (F5 (P p)) ∧ gl (12 * p + j) = -9)
def GI (L : Lws) (S : V5 → Prop) (k : Nat) (P : Nat → V5) (le0 qu0 : Nat → Int) (i c p j : Nat) (le qu gl : Nat → Int) (c2 : Nat) : Prop := QV L S k c2 P le qu ∧ c ≤ c2 ∧ (∀ a : Nat, a < c → qu a = qu0 a) ∧ (∀ w : Nat, w < k → le0 w ≠ -9 → le w = le0 w) ∧ (∀ a : Nat, a < c2 → le (qu a).toNat ≤ le0 p + 1) ∧ (∀ q : Nat, q < k → S (P q) → le q = 0) ∧ (∀ a : Nat, a < i → ∀ j' : Nat, (j' : Int) < L.2.1 → GEn L P k le gl (qu0 a).toNat j') ∧ ∀ j' : Nat, j' < j → GEn L P k le gl p j'
theorem GI_set {L : Lws} {S : V5 → Prop} {k : Nat} {P : Nat → V5} {le0 qu0 : Nat → Int} {i c p j : Nat} {le qu gl gl' : Nat → Int} {c2 : Nat} (hr : L.2.1 ≤ 12) (h0 : QV L S k c P le0 qu0) (hi : i < c) (hp : qu0 i = (p : Int)) (hj : (j : Int) < L.2.1) (h : GI L S k P le0 qu0 i c p j le qu gl c2) (hg : ∀ x : Nat, x ≠ 12 * p + j → gl' x = gl x) (hE : GEn L P k le gl' p j) : GI L S k P le0 qu0 i c p (j + 1) le qu gl' c2 := by
  obtain ⟨g1, g2, g3, g4, g5, g6, g7, g8⟩ := h
  refine ⟨g1, g2, g3, g4, g5, g6, fun a ha j' hj' => ?_, fun j' hj' => ?_⟩
  · have hne := h0.2.1 a i ha hi
    have hb := h0.1 a (by omega)
    have e : gl' (12 * (qu0 a).toNat + j') = gl (12 * (qu0 a).toNat + j') := hg _ (by clear hE g7 g8; omega)
    have := g7 a ha j' hj'
    unfold GEn at *
    rw [e]
    exact this
  · by_cases q : j' = j
    · subst q; exact hE
    · have e : gl' (12 * p + j') = gl (12 * p + j') := hg _ (by clear hE g7 g8; omega)
      have := g8 j' (by clear hE g7 g8; omega)
      unfold GEn at *
      rw [e]
      exact this
theorem GEn_le {L : Lws} {P : Nat → V5} {k : Nat} {le le' gl : Nat → Int} {p j : Nat} (hl : ∀ w : Nat, w < k → le w ≠ -9 → le' w = le w) (hp : p < k) (hp9 : le p ≠ -9) (h : GEn L P k le gl p j) : GEn L P k le' gl p j := by
  rcases h with ⟨h1, w, h2, h3, h4, h5, h6⟩ | h
  · exact Or.inl ⟨h1, w, h2, h3, h4, by rw [hl w h2 h5]; exact h5, by rw [hl w h2 h5, hl p hp hp9]; exact h6⟩
  · exact Or.inr h
theorem QV_n9 {L : Lws} {S : V5 → Prop} {k c : Nat} {P : Nat → V5} {le qu : Nat → Int} (h : QV L S k c P le qu) {i : Nat} (hi : i < c) : (qu i).toNat < k ∧ le (qu i).toNat ≠ -9 ∧ 0 ≤ le (qu i).toNat ∧ le (qu i).toNat ≤ (i : Int) := by
  have := h.1 i hi
  have := h.2.2.2.1 i hi
  omega
/-- one comes by a step from the i-th -/
theorem GI_come {L : Lws} {S : V5 → Prop} {k : Nat} {P : Nat → V5} {le0 qu0 : Nat → Int} {i c p j w : Nat} {le qu gl le' qu' : Nat → Int} {c2 : Nat} (h0 : QV L S k c P le0 qu0) (hi : i < c) (hp : qu0 i = (p : Int)) (h : GI L S k P le0 qu0 i c p j le qu gl c2) (hw : w < k) (h9 : le w = -9) (hst : Sp1 L (P p) (P w)) (hle : ∀ a : Nat, le' a = if a = w then le0 p + 1 else le a) (hqu : ∀ a : Nat, qu' a = if a = c2 then (w : Int) else qu a) : GI L S k P le0 qu0 i c p j le' qu' gl (c2 + 1) := by
  obtain ⟨g1, g2, g3, g4, g5, g6, g7, g8⟩ := h
  have hn := QV_n9 h0 hi
  rw [hp, Int.toNat_natCast] at hn
  have hll : ∀ a : Nat, a < k → le a ≠ -9 → le' a = le a := fun a _ q => by rw [hle, if_neg (fun e => q (by rw [e]; exact h9))]
  have hr : Rk L S (le0 p + 1).toNat (P w) := by
    have a := h0.2.2.2.2.2 i hi
    rw [hp, Int.toNat_natCast] at a
    rw [show (le0 p + 1).toNat = (le0 p).toNat + 1 by omega]
    exact Or.inr ⟨P p, a, hst⟩
  have hQ := QV_s g1 (p := w) (x := le0 p + 1) hw h9 (by omega) g5 hr hle hqu
  have hnw : ∀ a : Nat, a < c2 → qu a ≠ (w : Int) := fun a ha e => by
    have := QV_n9 g1 ha
    rw [e, Int.toNat_natCast] at this
    exact this.2.1 h9
  refine ⟨hQ, by omega, fun a ha => by rw [hqu, if_neg (by omega)]; exact g3 a ha, fun a ha q => by rw [hll a ha (by rw [g4 a ha q]; exact q)]; exact g4 a ha q, fun a ha => ?_, fun q hq hs => ?_, fun a ha j' hj' => ?_, fun j' hj' => ?_⟩
  · by_cases q : a = c2
    · rw [hqu, if_pos q, Int.toNat_natCast, hle, if_pos rfl]; omega
    · rw [hqu, if_neg q, hll _ (QV_n9 g1 (show a < c2 by omega)).1 (QV_n9 g1 (show a < c2 by omega)).2.1]
      exact g5 a (by omega)
  · have := g6 q hq hs
    rw [hll q hq (by omega)]; exact this
  · have a1 := QV_n9 h0 (show a < c by omega)
    exact GEn_le hll a1.1 (by rw [g4 _ a1.1 a1.2.1]; exact a1.2.1) (g7 a ha j' hj')
  · exact GEn_le hll hn.1 (by rw [g4 _ hn.1 hn.2.1]; exact hn.2.1) (g8 j' hj')
/-- where Forward stands: its crowds listed -/
def FE (L : Lws) (n : Int) (k : Nat) (P : Nat → V5) (mi : Nat → Nat → Int) : Prop := LW mi ∧ LwC mi L ∧ mi 461 10 = (k : Int) ∧ Lst L.1 n k P ∧ ∀ i : Nat, i < k → mi 466 i = cdn (F5 (P i)) (mi 1 3).toNat
theorem FE_fr {L : Lws} {n : Int} {k : Nat} {P : Nat → V5} {mi mi' : Nat → Nat → Int} (h : FE L n k P mi) (h1 : ∀ a, a < 42 → a ≠ 4 → a ≠ 5 → mi' a = mi a) (h2 : mi' 461 10 = mi 461 10) (h3 : mi' 466 = mi 466) : FE L n k P mi' := by
  obtain ⟨a, b, c, d, e⟩ := h
  exact ⟨LW_fr a h1, LwC_fr a b h1, by rw [h2]; exact c, d, fun i hi => by rw [h3, h1 1 (by decide) (by decide) (by decide)]; exact e i hi⟩
theorem FE_z {L : Lws} {n : Int} {k : Nat} {P : Nat → V5} {mi : Nat → Nat → Int} (h : FE L n k P mi) (hn : 1 ≤ n ∧ n ≤ 8) {i : Nat} (hi : i < k) : 0 ≤ mi 466 i ∧ mi 466 i ≤ 99999 := by
  rw [h.2.2.2.2 i hi]
  exact cdn_m (Cro_9 (h.2.2.2.1.1.1 i hi) hn.2) (by have := h.1.1; omega)
theorem FE_row {L : Lws} {n : Int} {k : Nat} {P : Nat → V5} {mi : Nat → Nat → Int} (h : FE L n k P mi) (hn : 1 ≤ n ∧ n ≤ 8) {i : Nat} (hi : i < k) {f : Nat → Int} (hf : ∀ j : Nat, j < 5 → f j = if (j : Int) < mi 1 3 then mi 466 i / 10 ^ ((mi 1 3).toNat - 1 - j) % 10 else 0) : ∀ j : Nat, j < 5 → f j = F5 (P i) j := by
  intro j hj
  have hc := h.2.2.2.1.1.1 i hi
  rw [hf j hj, h.2.2.2.2 i hi]
  have h5 := h.1.1
  by_cases q : (j : Int) < mi 1 3
  · rw [if_pos q]
    exact cdn_d (Cro_9 hc hn.2) _ _ (by omega) (by omega)
  · rw [if_neg q, hc.1 j hj (by rw [h.2.1.1]; omega)]
/-- the place of a crowd by its code -/
theorem FE_pl {L : Lws} {n : Int} {k : Nat} {P : Nat → V5} {mi : Nat → Nat → Int} (h : FE L n k P mi) (hn : 1 ≤ n ∧ n ≤ 8) : ∀ i j : Nat, i < j → j < k → mi 466 i < mi 466 j := by
  intro i j hij hj
  rw [h.2.2.2.2 i (by omega), h.2.2.2.2 j hj]
  have h5 := h.1.1
  rw [← h.2.1.1] at h5 ⊢
  exact (cd_lx h5 hn.2 (h.2.2.2.1.1.1 i (by omega)) (h.2.2.2.1.1.1 j hj)).mp (h.2.2.2.1.1.2 i j hij hj)
theorem come_q {mi mi9 : Nat → Nat → Int} {z x : Int} (hc : 0 ≤ z ∧ z < mi 461 10 ∧ mi 467 z.toNat = -9 ∧ mi 461 11 < 495) (h : (if 0 ≤ z ∧ z < mi 461 10 ∧ mi 467 z.toNat = -9 ∧ mi 461 11 < 495 then up2 (up2 (up2 mi 467 z.toNat x) 468 (mi 461 11).toNat z) 461 11 (mi 461 11 + 1) else mi) = mi9) : (∀ j : Nat, mi9 467 j = if j = z.toNat then x else mi 467 j) ∧ (∀ j : Nat, mi9 468 j = if j = (mi 461 11).toNat then z else mi 468 j) ∧ mi9 461 11 = mi 461 11 + 1 ∧ (∀ j : Nat, j ≠ 11 → mi9 461 j = mi 461 j) ∧ ∀ a, a ≠ 461 → a ≠ 467 → a ≠ 468 → mi9 a = mi a := by
  rw [if_pos hc] at h
  subst h
  refine ⟨fun j => by simp [up2_a], fun j => by simp [up2_a], up2_s _ _ _ _, fun j hj => by simp [up2_a, hj], fun a h1 h2 h3 => by rw [up2_k _ _ _ _ h1, up2_k _ _ _ _ h3, up2_k _ _ _ _ h2]⟩
