def NRw (m : Nat → Nat → Int) (i : Nat) : V5 := T5 (fun j => m 484 (5 * i + j))
def NV (m : Nat → Nat → Int) (g : V5) : Prop := NE m (F5 g)
theorem NV_x {m : Nat → Nat → Int} {g : V5} : NV m g ↔ ∃ i : Nat, (i : Int) < m 473 18 ∧ gv g (NRw m i) := by
  constructor
  · rintro ⟨i, hi, h⟩; exact ⟨i, hi, gv_i.mpr (fun j hj => by show F5 (T5 _) j ≤ _; rw [F5_T5 _ hj]; exact h j hj)⟩
  · rintro ⟨i, hi, h⟩; exact ⟨i, hi, fun j hj => by have q := gv_i.mp h j hj; unfold NRw at q; rw [F5_T5 _ hj] at q; exact q⟩
/-- what has been taken, at a sum t: least ones, and all of fewer, and W, covered -/
def NI (D C : V5 → Prop) (t : Int) (W : V5 → Prop) (m : Nat → Nat → Int) : Prop := (0 ≤ m 473 18 ∧ m 473 18 ≤ 101) ∧ (∀ i : Nat, (i : Int) < m 473 18 → Mn D (NRw m i) ∧ sm (NRw m i) ≤ t) ∧ (∀ i j : Nat, i < j → (j : Int) < m 473 18 → NRw m i ≠ NRw m j) ∧ (m 473 18 ≤ 100 → (∀ g, C g → sm g < t → NV m g) ∧ ∀ g, W g → NV m g)
theorem NI_fr {D C : V5 → Prop} {t : Int} {W : V5 → Prop} {m m' : Nat → Nat → Int} (h : NI D C t W m) (h18 : m' 473 18 = m 473 18) (h4 : m' 484 = m 484) : NI D C t W m' := by
  unfold NI NV NE NRw at *
  rw [h18, h4]
  exact h
theorem NI_e {D C : V5 → Prop} {t : Int} {W W' : V5 → Prop} {m : Nat → Nat → Int} (h : NI D C t W m) (hW : ∀ x, W' x → W x) : NI D C t W' m := ⟨h.1, h.2.1, h.2.2.1, fun hc => ⟨(h.2.2.2 hc).1, fun g hg => (h.2.2.2 hc).2 g (hW g hg)⟩⟩
theorem NI_big {D C : V5 → Prop} {t : Int} {W W' : V5 → Prop} {m : Nat → Nat → Int} (h : NI D C t W m) (hb : 100 < m 473 18) : NI D C t W' m := ⟨h.1, h.2.1, h.2.2.1, fun hc => by omega⟩
theorem NI_take {D C : V5 → Prop} {t : Int} {W : V5 → Prop} {m m9 : Nat → Nat → Int} {g : V5} (hG : ∀ v, D v → ∃ g, C g ∧ gv v g) (h : NI D C t W m) (hk : TKP m m9) (hg : T5 (m 485) = g) (hD : D g) (hs : sm g = t) : NI D C t (fun x => W x ∨ x = g) m9 := by
  obtain ⟨n1, n2, n3, n4⟩ := h
  have hgj : ∀ j : Nat, j < 5 → m 485 j = F5 g j := fun j hj => by rw [← hg, F5_T5 _ hj]
  rcases hk with ⟨q, rfl⟩ | ⟨q1, q2, q3, q4, q5, q6⟩
  · refine ⟨n1, n2, n3, fun hc => ⟨(n4 hc).1, fun x hx => ?_⟩⟩
    rcases hx with hx | rfl
    · exact (n4 hc).2 x hx
    · rcases q with q | q
      · omega
      · exact (NE_g hgj).mp q
  · have hro : ∀ i : Nat, (i : Int) < m 473 18 → NRw m9 i = NRw m i := fun i hi => T5_c (fun j hj => by rw [q6, if_neg (by omega)])
    have hrn : NRw m9 (m 473 18).toNat = g := by
      rw [← hg]
      exact T5_c (fun j hj => by rw [q6, if_pos (by omega), show 5 * (m 473 18).toNat + j - 5 * (m 473 18).toNat = j by omega])
    have hno : ¬ NV m g := fun w => q2 ((NE_g hgj).mpr w)
    have hMg : Mn D g := Mn_new (C := C) (E := fun y => ∃ i : Nat, (i : Int) < m 473 18 ∧ NRw m i = y) (t := t) hG (fun g' hc hlt => by
      obtain ⟨i, hi, h⟩ := NV_x.mp ((n4 q1).1 g' hc hlt)
      exact ⟨_, ⟨i, hi, rfl⟩, h⟩) hD hs (fun y ⟨i, hi, e⟩ hgv => hno (NV_x.mpr ⟨i, hi, by rw [e]; exact hgv⟩))
    have hmono : ∀ x, NV m x → NV m9 x := fun x hx => by
      obtain ⟨i, hi, h⟩ := NV_x.mp hx
      exact NV_x.mpr ⟨i, by rw [q5]; omega, by rw [hro i hi]; exact h⟩
    have hng : NV m9 g := NV_x.mpr ⟨(m 473 18).toNat, by rw [q5]; omega, by rw [hrn]; exact gv_r g⟩
    refine ⟨by rw [q5]; omega, fun i hi => ?_, fun i j hij hj => ?_, fun _ => ⟨fun x hx hlt => hmono x ((n4 q1).1 x hx hlt), fun x hx => ?_⟩⟩
    · rw [q5] at hi
      by_cases q : (i : Int) < m 473 18
      · rw [hro i q]; exact n2 i q
      · rw [show i = (m 473 18).toNat by omega, hrn]; exact ⟨hMg, by omega⟩
    · rw [q5] at hj
      rw [hro i (by omega)]
      by_cases q : (j : Int) < m 473 18
      · rw [hro j q]; exact n3 i j hij q
      · rw [show j = (m 473 18).toNat by omega, hrn]
        intro e
        exact hno (NV_x.mpr ⟨i, by omega, by rw [e]; exact gv_r g⟩)
    · rcases hx with hx | rfl
      · exact hmono x ((n4 q1).2 x hx)
      · exact hng
theorem NI_rg {D C : V5 → Prop} {t : Int} {W : V5 → Prop} {m : Nat → Nat → Int} (hDn : ∀ v, D v → ∀ j : Nat, j < 5 → 0 ≤ F5 v j) (h : NI D C t W m) (ht : t ≤ 100000) : ∀ i : Nat, (i : Int) < m 473 18 → ∀ j : Nat, j < 5 → rg (m 484 (5 * i + j)) := fun i hi j hj => by
  obtain ⟨a, b⟩ := h.2.1 i hi
  have c := hDn _ a.1
  have d := (sum5_n c).2 j hj
  have e := c j hj
  have e2 : F5 (NRw m i) j = m 484 (5 * i + j) := F5_T5 _ hj
  have e3 : sum5 (F5 (NRw m i)) = sm (NRw m i) := rfl
  rw [e2] at d e
  exact ⟨by omega, by omega⟩
theorem Pl_x {L : Lws} {ρ u : Nat → Int} {sc : Int} (h : RO sc ρ) {j : Nat} : Plc ρ u j = lk0 ρ u j + lv ρ j ∨ Plc ρ u j = 1 + lv ρ j := by unfold Plc; split <;> omega
noncomputable def ShD (sc : Int) (ρ u x : Nat → Int) : V5 := T5 (Shc ρ (On sc ρ (lk0 ρ u) x))
def ShC (sc : Int) (ρ u : Nat → Int) (y : V5) : Prop := gls sc ρ u ∧ ∃ d : Nat → Int, Dst sc ρ (lk0 ρ u) d ∧ y = T5 (Shc ρ d)
theorem Shc_c {ρ d d' : Nat → Int} {sc : Int} (hR : RO sc ρ) (h : ∀ j : Nat, j < 5 → d j = d' j) : T5 (Shc ρ d) = T5 (Shc ρ d') := T5_c (fun j hj => by
  unfold Shc
  rw [h j hj]
  by_cases q : ρ 7 = -9
  · rw [if_neg (fun w => w.1 q), if_neg (fun w => w.1 q)]
  · have h7 := hR.2.2.2.2.2.1
    have hs := hR.2.2.2.2.2.2.1
    rw [h (ρ 7).toNat (by omega)])
theorem On_c {sc : Int} {ρ w x r : Nat → Int} (h : ∀ j : Nat, j < 5 → x j = r j) {j : Nat} (hj : j < 5) : On sc ρ w x j = On sc ρ w r j := by
  by_cases q : (j : Int) < sc ∧ lastG sc ρ j
  · rw [On_t q.1 q.2, On_t q.1 q.2]
    unfold lf
    rw [tl_c j 0 (fun a _ a2 => h a (by omega))]
  · rw [On_f q, On_f q, h j hj]
def HdL (sc : Int) (ρ u r : Nat → Int) (y : V5) : Prop := ∃ x : Nat → Int, RS sc ρ (lk0 ρ u) x ∧ lx (T5 x) (T5 r) ∧ y = ShD sc ρ u x
theorem HdL_0 {sc : Int} {ρ u r : Nat → Int} (hs : 1 ≤ sc ∧ sc ≤ 5) (hw : ∀ j : Nat, 0 ≤ lk0 ρ u j) (hr : ∀ j : Nat, j < 5 → r j = 0) (y : V5) : ¬ HdL sc ρ u r y := fun ⟨x, h1, h2, _⟩ => (RS_0 hs hw).2 x h1 (by rw [← T5_c (f := r) (g := fun _ => 0) hr]; exact h2)
theorem ShD_e {sc : Int} {ρ u x r : Nat → Int} (hR : RO sc ρ) (h : T5 x = T5 r) : ShD sc ρ u x = ShD sc ρ u r := by
  have hj : ∀ a : Nat, a < 5 → x a = r a := fun a ha => by
    have q : F5 (T5 x) a = F5 (T5 r) a := by rw [h]
    rw [F5_T5 _ ha, F5_T5 _ ha] at q
    exact q
  exact Shc_c hR (fun j hj2 => On_c hj hj2)
theorem Hd_nx {sc : Int} {ρ u r r' : Nat → Int} {i : Nat} (hR : RO sc ρ) (hs : 1 ≤ sc ∧ sc ≤ 5) (hr : RS sc ρ (lk0 ρ u) r) (h : Cnx sc ρ (lk0 ρ u) r r' i) {y : V5} (hy : HdL sc ρ u r' y) : HdL sc ρ u r y ∨ y = ShD sc ρ u r := by
  obtain ⟨x, x1, x2, x3⟩ := hy
  rcases lx_3 (T5 x) (T5 r) with q | q | q
  · exact Or.inl ⟨x, x1, q, x3⟩
  · exact Or.inr (by rw [x3]; exact ShD_e hR q)
  · rcases (RS_nx hs hr h).2 x x1 q with w | w
    · rw [w] at x2; exact absurd x2 (lx_i _)
    · exact absurd (lx_t x2 w) (lx_i _)
theorem Hd_tp {sc : Int} {ρ u r : Nat → Int} (hR : RO sc ρ) (hs : 1 ≤ sc ∧ sc ≤ 5) (hr : RS sc ρ (lk0 ρ u) r) (h : Ctp sc ρ (lk0 ρ u) r) {y : V5} (hy : ShC sc ρ u y) : HdL sc ρ u r y ∨ y = ShD sc ρ u r := by
  obtain ⟨-, d, d1, d2⟩ := hy
  obtain ⟨x, x1, x2⟩ := D_On hs d1
  have e : y = ShD sc ρ u x := by rw [d2]; exact (Shc_c hR x2).symm
  rcases lx_3 (T5 x) (T5 r) with q | q | q
  · exact Or.inl ⟨x, x1, q, e⟩
  · exact Or.inr (by rw [e]; exact ShD_e hR q)
  · exact absurd q (RS_tp hs hr h x1)
theorem ShD_C {sc : Int} {ρ u r : Nat → Int} (hs : 1 ≤ sc ∧ sc ≤ 5) (hg : gls sc ρ u) (hr : RS sc ρ (lk0 ρ u) r) : ShC sc ρ u (ShD sc ρ u r) := ⟨hg, _, On_D hs hr, rfl⟩
theorem Sh_sum {sc : Int} {ρ u d : Nat → Int} (h : RO sc ρ) (h2 : ρ 1 = 2) (hz : zf sc u) (hg0 : gls sc ρ u) (hd : Dst sc ρ (lk0 ρ u) d) : sm (T5 (Shc ρ d)) = als ρ u sc.toNat + 1 + (if ρ 7 ≠ -9 ∧ d (ρ 7).toNat ≤ 0 then 1 else 0) := by
  have e1 := Sh_m h hz hg0 hd
  have e2 := sum_lv h
  have e3 := sum_nd h
  rw [if_pos (show ρ 4 = -9 by have := h.2.2.2.1; omega)] at e2
  rw [sm_T]
  by_cases q : ρ 7 ≠ -9 ∧ d (ρ 7).toNat ≤ 0
  · rw [if_neg q.1] at e3
    have e : sum5 (Shc ρ d) = sum5 (fun j => (fun j => d j + lv ρ j) j + (fun j : Nat => nd ρ j) j) := sum5_c (fun j _ => by unfold Shc; rw [if_pos q])
    have e' := sum5_add d (fun j => lv ρ j)
    rw [e, sum5_add, e', if_pos q]
    omega
  · have e : sum5 (Shc ρ d) = sum5 (fun j => d j + lv ρ j) := sum5_c (fun j _ => by unfold Shc; rw [if_neg q, Int.add_zero])
    have e' := sum5_add d (fun j => lv ρ j)
    rw [e, e', if_neg q]
    omega
def FS (mi m : Nat → Nat → Int) : Prop := (∀ a, a ≠ 473 → a ≠ 484 → a ≠ 485 → a ≠ 486 → m a = mi a) ∧ ∀ j : Nat, j ≠ 18 → m 473 j = mi 473 j
theorem FS_ML {L : Lws} {mi m : Nat → Nat → Int} (hM : ML L mi) (h : FS mi m) : ML L m := ML_fr hM (h.2 1 (by decide)) (h.2 3 (by decide)) (h.2 11 (by decide)) (fun a h1 h2 => h.1 a (by omega) (by omega) (by omega) (by omega))
theorem FS_RB {mi m : Nat → Nat → Int} {b : Nat} (hb : RB mi b) (h : FS mi m) : RB m b ∧ Ub m b = Ub mi b := by
  have e := h.1 483 (by decide) (by decide) (by decide) (by decide)
  exact ⟨⟨hb.1, fun j hj => by rw [e]; exact hb.2 j hj⟩, by funext j; unfold Ub; rw [e]⟩
theorem FS_tk {mi m m9 : Nat → Nat → Int} (h : FS mi m) (hk : TKP m m9) : FS mi m9 ∧ m9 486 = m 486 := by
  rcases hk with ⟨-, rfl⟩ | ⟨-, -, q3, q4, -, -⟩
  · exact ⟨h, rfl⟩
  · exact ⟨⟨fun a h1 h2 h3 h4 => (q3 a h1 h2).trans (h.1 a h1 h2 h3 h4), fun j hj => (q4 j hj).trans (h.2 j hj)⟩, q3 486 (by decide) (by decide)⟩
theorem On_b {sc : Int} {ρ u r : Nat → Int} (hs : 1 ≤ sc ∧ sc ≤ 5) (hR : RO sc ρ) (hr : RS sc ρ (lk0 ρ u) r) (hu : ∀ x : Nat, x < 5 → 0 ≤ lk0 ρ u x ∧ lk0 ρ u x ≤ 1000) {j : Nat} (hj : j < 5) : 0 ≤ On sc ρ (lk0 ρ u) r j ∧ On sc ρ (lk0 ρ u) r j ≤ 1000 := by
  have h0 := (On_D hs hr).1 j hj
  refine ⟨h0, ?_⟩
  by_cases q : (j : Int) < sc
  · have a := RS_lf hs hr q
    have g := hR.2.2.2.2.2.2.2 j hj
    have b := hu (gol ρ j).toNat (by omega)
    by_cases q2 : lastG sc ρ j
    · rw [On_t q q2]; omega
    · rw [On_f (fun w => q2 w.2)]; omega
  · rw [On_f (fun w => q w.1), hr.2.1 j hj (Or.inl (by omega))]
    decide
