/-! what the class tells and what the model tells are the same numbers -/
theorem FG_hd {L : Lws} {S : V5 → Prop} {n : Int} {k c : Nat} {P : Nat → V5} {le qu gl : Nat → Int} {f : Int} (hP : Lst L.1 n k P) (h : FG L S k c P le qu gl f) : ∀ i : Nat, i < c → ∀ p : Nat, p < k → Sp1 L (P (qu i).toNat) (P p) → le p ≠ -9 ∧ le p ≤ le (qu i).toNat + 1 := fun i hi p hp ⟨j, hj, hf, e⟩ => by
  rcases h.2.2.1 i hi j hj with ⟨-, w, hw, -, h2, h3, h4⟩ | ⟨q, -⟩
  · have e2 : w = p := Inc_i hP.1 hw hp (h2.trans e.symm)
    subst e2
    exact ⟨h3, h4⟩
  · exact absurd hf q
theorem FG_num {L : Lws} {S : V5 → Prop} {n : Int} {k c : Nat} {P : Nat → V5} {le qu gl : Nat → Int} {f : Int} {X : V5 → Prop} {Y : Nat → Prop} (hL : LO L) (hS : ∀ v, S v → Cro L.1 n v) (hP : Lst L.1 n k P) (h : FG L S k c P le qu gl f) (hY : ∀ a : Nat, a < c → (Y a ↔ X (P (qu a).toNat))) : Num (fun v => (∃ t : Nat, Rk L S t v) ∧ X v) (cnt Y c) := by
  have hq := h.1
  obtain ⟨l, l1, l2, l3⟩ := cnt_l (P := Y) (f := fun a => P (qu a).toNat) (n := c) (fun i j hi hj e => by
    have a1 := hq.1 i hi
    have a2 := hq.1 j hj
    have e2 := Inc_i hP.1 (i := (qu i).toNat) (j := (qu j).toNat) (by omega) (by omega) e
    rcases Nat.lt_trichotomy i j with z | z | z
    · exact absurd (show qu i = qu j by omega) (hq.2.1 i j z hj)
    · exact z
    · exact absurd (show qu j = qu i by omega) (hq.2.1 j i z hi))
  refine ⟨l, l1, fun v => ?_, l3⟩
  rw [l2 v]
  constructor
  · rintro ⟨a, ha, ya, rfl⟩
    exact ⟨⟨_, hq.2.2.2.2.2 a ha⟩, (hY a ha).mp ya⟩
  · rintro ⟨⟨t, ht⟩, hx⟩
    obtain ⟨p, hp, rfl⟩ := hP.2 v (Rk_cro hL hS ht)
    have h0 := QV_all hL hS hP hq h.2.1 (FG_hd hP h) t p hp ht
    obtain ⟨-, a, ha, e⟩ := FG_q h hp (by omega)
    have e2 : (qu a).toNat = p := by omega
    refine ⟨a, ha, (hY a ha).mpr (by rw [e2]; exact hx), ?_⟩
    show P (qu a).toNat = P p
    rw [e2]
theorem cnt_T (c : Nat) : cnt (fun _ => True) c = (c : Int) := by
  induction c with
  | zero => rfl
  | succ c ih => rw [cnt_t trivial, ih]; omega
theorem br_reach {L : Lws} {z set : Int} {k c : Nat} {P : Nat → V5} {mi : Nat → Nat → Int} {r : Int} (hL : LO L) (h : FX L z set k c P mi) (h2 : Num (fun v => (∃ t : Nat, Rk L (St L.1 z set) t v) ∧ True) r) : r = (c : Int) := by
  have q := FG_num (X := fun _ => True) (Y := fun _ => True) hL (fun v hv => hv.1) h.1.2.2.2.1 h.2.2.1 (fun a _ => Iff.rfl)
  rw [cnt_T] at q
  exact Num_u h2 q
def FSm (L : Lws) (set z f : Int) : Prop := (f = -9 ∨ 0 ≤ f ∧ f < 1000000 ∧ ∃ v, St L.1 z set v ∧ Dk L f.toNat v) ∧ ∀ (v : V5) (d : Nat), St L.1 z set v → Dk L d v → 0 ≤ f ∧ f ≤ (d : Int)
theorem FX_m {L : Lws} {z set : Int} {k c : Nat} {P : Nat → V5} {mi : Nat → Nat → Int} (hL : LO L) (hz : 1 ≤ z ∧ z ≤ 8) (h : FX L z set k c P mi) : FSm L set z (mi 461 12) := by
  obtain ⟨h1, h2, h3, h4⟩ := h
  have hP := h1.2.2.2.1
  have hk := Inc_l hP.1 (by omega)
  refine ⟨?_, fun v d hs hd => ?_⟩
  · rcases h3.2.2.2 with ⟨q, -⟩ | ⟨a, ha, q1, q2, q3⟩
    · exact Or.inl q
    · have b := h3.1.2.2.2.1 a ha
      have hc := QV_c h3.1
      obtain ⟨p, hp, e, hl, hs⟩ := FG_start hL (fun v hv => hv.1) hP h3 (by omega)
      refine Or.inr ⟨by omega, by omega, P p, hs, ?_⟩
      have := hl.2.2
      rw [e, Int.sub_zero] at this
      exact this
  · obtain ⟨p, hp, rfl⟩ := hP.2 v hs.1
    have e := h3.2.1 p hp hs
    have := FG_min h3 d p hp (by omega) hd
    omega
theorem br_steps {L : Lws} {set z f f0 : Int} (h0 : FSm L set z f0) (h : SNP L set z f) : f = f0 := by
  obtain ⟨k, m, r, hg, hn, hf⟩ := h
  rcases hn with ⟨q, q2⟩ | ⟨b, hb, q, q1, q2, q3⟩
  · rw [if_pos q] at hf
    rcases h0.1 with w | ⟨w0, w1, v, w2, w3⟩
    · omega
    · obtain ⟨i, hi, rfl⟩ := hg.1.2 v w2.1
      have a := (hg.2.2.2 i hi).2.2 _ w3
      have b := q2 i hi w2
      omega
  · have g0 := (hg.2.2.2 b hb).1.1
    rw [if_neg (by omega), q, Int.toNat_natCast] at hf
    have a := h0.2 _ _ q1 ((hg.2.2.2 b hb).2.1 q2)
    rcases h0.1 with w | ⟨w0, w1, v, w2, w3⟩
    · omega
    · obtain ⟨i, hi, rfl⟩ := hg.1.2 v w2.1
      have c := (hg.2.2.2 i hi).2.2 _ w3
      have d := (q3 i hi w2).1
      omega
theorem br_run {L : Lws} {set z x y r r' f0 : Int} (h0 : FSm L set z f0) (h : r = -9 ∧ ¬ (0 ≤ x ∧ x ≤ f0) ∨ (0 ≤ x ∧ x ≤ f0) ∧ ∃ v, Rn L (St L.1 z set) f0.toNat x.toNat v ∧ r = F5 v y.toNat) (h' : RUP L set z x y r') : r = r' := by
  obtain ⟨f, hf, h'⟩ := h'
  have e := br_steps h0 hf
  subst e
  rcases h with ⟨a, b⟩ | ⟨a, v, v1, v2⟩
  · rcases h' with ⟨a', b'⟩ | ⟨a', b'⟩
    · omega
    · exact absurd a' b
  · rcases h' with ⟨a', b'⟩ | ⟨a', v', v1', v2'⟩
    · exact absurd a b'
    · rw [v2, v2', Rn_u _ v1 v1']
theorem Ef_l {L : Lws} {o : Int} {mi : Nat → Nat → Int} {mr : Nat → Nat → Nat} {A : Nat} (h1 : Srt (Ef mi mr A)) (h2 : ∀ v, Mn (Dk L o.toNat) v ↔ ∃ y ∈ Ef mi mr A, y.1 = v) : MnL (Dk L o.toNat) ((Ef mi mr A).map Prod.fst) := by
  refine ⟨?_, fun v => ?_⟩
  · unfold Srt at h1
    rw [List.pairwise_map]
    exact h1
  · rw [h2 v, List.mem_map]
theorem br_doomedOf {L : Lws} {z set o : Int} {k c : Nat} {P : Nat → V5} {mi : Nat → Nat → Int} {mr : Nat → Nat → Nat} {A : Nat} {r : Int} (hL : LO L) (h : FX L z set k c P mi) (hE : ∀ v, Mn (Dk L o.toNat) v ↔ ∃ y ∈ Ef mi mr A, y.1 = v) (h2 : Num (fun v => (∃ t : Nat, Rk L (St L.1 z set) t v) ∧ Dk L o.toNat v) r) : cnt (fun a => ∃ y ∈ Ef mi mr A, gv (P (mi 468 a).toNat) y.1) c = r := by
  have hP := h.1.2.2.2.1
  have q := FG_num (X := fun v => Dk L o.toNat v) (Y := fun a => ∃ y ∈ Ef mi mr A, gv (P (mi 468 a).toNat) y.1) hL (fun v hv => hv.1) hP h.2.2.1 (fun a ha => by
    have b := h.2.2.1.1.1 a ha
    exact doom_iff hL hE (hP.1.1 (mi 468 a).toNat (by omega)).1)
  exact Num_u q h2
theorem inst_5 {L : Lws} {set : Int} {v : V5} {f : Nat → Int} (hs : 1 ≤ L.1 ∧ L.1 ≤ 5) (hz : zf L.1 (F5 v)) (hn : ∀ j : Nat, j < 5 → 0 ≤ F5 v j) (e : T5 f = v) : inst set f L.1 ↔ ins5 set v := by
  have ej : ∀ j : Nat, j < 5 → F5 v j = f j := fun j hj => by rw [← e]; exact F5_T5 f hj
  constructor
  · intro h j hj
    by_cases q : (j : Int) < L.1
    · have a := h j q
      have b := hn j hj
      rw [← ej j hj] at a
      rcases a with a | a
      · exact Or.inl (by omega)
      · exact Or.inr a
    · exact Or.inl (hz j hj (by omega))
  · intro h j hj
    have a := h j (by omega)
    rw [ej j (by omega)] at a
    rcases a with a | a
    · exact Or.inl (by omega)
    · exact Or.inr a
theorem br_least {L : Lws} {set o r : Int} {mi : Nat → Nat → Int} {mr : Nat → Nat → Nat} {A : Nat} (hL : LO L) (h1 : Srt (Ef mi mr A)) (h2 : ∀ v, Mn (Dk L o.toNat) v ↔ ∃ y ∈ Ef mi mr A, y.1 = v) (h : (r = -9 ∧ ∀ i : Nat, (i : Int) < mi A 2 → ¬ inst set (mi (mr (A + 1) i + 1)) L.1) ∨ ∃ i : Nat, (i : Int) < mi A 2 ∧ inst set (mi (mr (A + 1) i + 1)) L.1 ∧ (∀ j : Nat, j < i → ¬ inst set (mi (mr (A + 1) j + 1)) L.1) ∧ r = sum5 (mi (mr (A + 1) i + 1))) : LSP L set o r := by
  have hm : ∀ i : Nat, (i : Int) < mi A 2 → Mn (Dk L o.toNat) (T5 (mi (mr (A + 1) i + 1))) := fun i hi => (h2 _).mpr ⟨_, Ef_mem.mpr ⟨i, hi, rfl⟩, rfl⟩
  have hi5 : ∀ i : Nat, (i : Int) < mi A 2 → (inst set (mi (mr (A + 1) i + 1)) L.1 ↔ ins5 set (T5 (mi (mr (A + 1) i + 1)))) := fun i hi => by
    have z := Dk_z hL _ (hm i hi).1
    exact inst_5 hL.1 z.1 z.2.1 rfl
  have hex : ∀ v, Mn (Dk L o.toNat) v → ∃ i : Nat, (i : Int) < mi A 2 ∧ T5 (mi (mr (A + 1) i + 1)) = v := fun v hv => by
    obtain ⟨y, y1, rfl⟩ := (h2 v).mp hv
    obtain ⟨i, hi, rfl⟩ := Ef_mem.mp y1
    exact ⟨i, hi, rfl⟩
  rcases h with ⟨a, b⟩ | ⟨i, i1, i2, i3, i4⟩
  · refine Or.inl ⟨a, fun v hv w => ?_⟩
    obtain ⟨i, hi, rfl⟩ := hex v hv
    exact b i hi ((hi5 i hi).mpr w)
  · refine Or.inr ⟨_, hm i i1, (hi5 i i1).mp i2, i4, fun w hw hw2 => ?_⟩
    obtain ⟨j, hj, rfl⟩ := hex w hw
    rcases Nat.lt_trichotomy j i with q | q | q
    · exact absurd ((hi5 j hj).mpr hw2) (i3 j q)
    · subst q; exact Int.le_refl _
    · unfold Srt at h1
      have e1 := Ef_at (mr := mr) i1
      have e2 := Ef_at (mr := mr) hj
      have hlt := List.pairwise_iff_getElem.mp h1 i j (List.getElem?_eq_some_iff.mp e1).1 (List.getElem?_eq_some_iff.mp e2).1 q
      rw [(List.getElem?_eq_some_iff.mp e1).2, (List.getElem?_eq_some_iff.mp e2).2] at hlt
      have hlt2 : bv (T5 (mi (mr (A + 1) i + 1))) (T5 (mi (mr (A + 1) j + 1))) := hlt
      have := bv_x.mp hlt2
      omega
