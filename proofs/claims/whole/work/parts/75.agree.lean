/-! what the class answers and what the model answers are the same, and both go on alike -/
def JI (mi : Nat → Nat → Int) (mr : Nat → Nat → Nat) : Prop := ∃ (L : Lws) (set : Int) (H : V5) (o : Int), CV mi L set H o mi mr ∧ MV L set H o mi
theorem JI_1 {K : Nat → Nat → Int} {L : Lws} {set : Int} {H : V5} {o : Int} {mi m2 : Nat → Nat → Int} {mr : Nat → Nat → Nat} (h : CV K L set H o mi mr) (hf : ∀ a, a < 473 → m2 a = mi a) (hm : MV L set H o m2) : JI m2 mr := ⟨L, set, H, o, CV_fm h hf (fun _ _ => rfl), hm⟩
theorem CV_k {K : Nat → Nat → Int} {L : Lws} {set : Int} {H : V5} {o : Int} {mi : Nat → Nat → Int} {mr : Nat → Nat → Nat} (h : CV K L set H o mi mr) : ∀ a, 472 < a → mi a = K a := h.2.2.2.2.2.2.2.1
theorem fl_u {r r' : Int} {D : Prop} (h : r = 1 ∧ D ∨ r = 0 ∧ ¬ D) (h' : r' = 1 ∧ D ∨ r' = 0 ∧ ¬ D) : r = r' := by
  rcases h with ⟨a, b⟩ | ⟨a, b⟩ <;> rcases h' with ⟨a', b'⟩ | ⟨a', b'⟩
  · rw [a, a']
  · exact absurd b b'
  · exact absurd b' b
  · rw [a, a']
section Ag
variable {l : Launch} {G : Gt} {n0 : Nat} {mi m1 : Nat → Nat → Int} {mr q1 : Nat → Nat → Nat} {L : Lws} {set : Int} {H : V5} {o r z x y v : Int}
def Ag (l : Launch) (G : Gt) (n0 : Nat) (w : MethodName) (b : ByteArray) (nL : Nat) (lv : Nat) (As : List Value) (r : Int) (m1 : Nat → Nat → Int) (q1 : Nat → Nat → Nat) : Prop := ∃ post : Int → (Nat → Nat → Int) → (Nat → Nat → Nat) → Prop, Ci l w b nL .int lv G n0 (.ref (n0 + 473) :: As) m1 q1 post ∧ ∀ r' m2 q2, post r' m2 q2 → r = r' ∧ JI m2 q2
theorem ag_at (hJ : CV mi L set H o mi mr) (hM : MV L set H o mi) (hz : rg z) (h : mi = m1 ∧ mr = q1 ∧ ((0 ≤ z ∧ z < L.1) ∧ r = F5 H z.toNat ∨ ¬ (0 ≤ z ∧ z < L.1) ∧ r = -1)) : Ag l G n0 yX8_at cX8_at 2 3 [.int (jI z)] r m1 q1 := by
  obtain ⟨rfl, rfl, h⟩ := h
  refine ⟨_, c_X8_at (AV_of hJ) hM hz, fun r' m2 q2 ⟨h2, hm, hf, e⟩ => ?_⟩
  subst e
  exact ⟨by omega, JI_1 hJ hf hm⟩
theorem ag_can (hJ : CV mi L set H o mi mr) (hM : MV L set H o mi) (hz : rg z) (h : mi = m1 ∧ mr = q1 ∧ ((0 ≤ z ∧ z < L.2.1) ∧ (r = 1 ∧ fit (L.2.2.2.1 z.toNat) (F5 H) ∨ r = 0 ∧ ¬ fit (L.2.2.2.1 z.toNat) (F5 H)) ∨ ¬ (0 ≤ z ∧ z < L.2.1) ∧ r = -1)) : Ag l G n0 yX8_can cX8_can 2 4 [.int (jI z)] r m1 q1 := by
  obtain ⟨rfl, rfl, h⟩ := h
  refine ⟨_, c_X8_can (AV_of hJ) hM hz, fun r' m2 q2 ⟨h2, hm, hf, e⟩ => ?_⟩
  subst e
  refine ⟨?_, JI_1 hJ hf hm⟩
  rcases h with ⟨a, b⟩ | ⟨a, b⟩ <;> rcases h2 with ⟨a', b'⟩ | ⟨a', b'⟩
  · exact fl_u b b'
  · exact absurd a a'
  · exact absurd a' a
  · rw [b, b']
theorem ag_isBad (hJ : CV mi L set H o mi mr) (hM : MV L set H o mi) (h : mi = m1 ∧ mr = q1 ∧ (r = 1 ∧ Dk L 0 H ∨ r = 0 ∧ ¬ Dk L 0 H)) : Ag l G n0 yX8_isBad cX8_isBad 1 2 [] r m1 q1 := by
  obtain ⟨rfl, rfl, h⟩ := h
  refine ⟨_, c_X8_isBad (AV_of hJ) hM, fun r' m2 q2 ⟨h2, hm, hf, e⟩ => ?_⟩
  subst e
  exact ⟨fl_u h h2, JI_1 hJ hf hm⟩
theorem ag_doomed (hJ : CV mi L set H o mi mr) (hM : MV L set H o mi) (h : mi = m1 ∧ mr = q1 ∧ (o < 0 ∧ r = o ∨ 0 ≤ o ∧ (r = 1 ∧ Dk L o.toNat H ∨ r = 0 ∧ ¬ Dk L o.toNat H))) : Ag l G n0 yX8_doomed cX8_doomed 1 4 [] r m1 q1 := by
  obtain ⟨rfl, rfl, h⟩ := h
  refine ⟨_, c_X8_doomed (AV_of hJ) hM, fun r' m2 q2 ⟨h2, hm, hf, e⟩ => ?_⟩
  subst e
  refine ⟨?_, JI_1 hJ hf hm⟩
  rcases h with ⟨a, b⟩ | ⟨a, b⟩ <;> rcases h2 with ⟨a', b'⟩ | ⟨a', b'⟩
  · rw [b, b']
  · omega
  · omega
  · exact fl_u b b'
theorem ag_total (hJ : CV mi L set H o mi mr) (hM : MV L set H o mi) (hz : rg z) (h : mi = m1 ∧ mr = q1 ∧ (z = 0 ∧ r = L.1 ∨ z = 1 ∧ r = L.2.1 ∨ z = 2 ∧ r = L.2.2.1 ∨ z = 3 ∧ r = sm H ∨ z = 4 ∧ r = set ∨ (z < 0 ∨ 4 < z) ∧ r = -2)) : Ag l G n0 yX8_total cX8_total 2 2 [.int (jI z)] r m1 q1 := by
  obtain ⟨rfl, rfl, h⟩ := h
  refine ⟨_, c_X8_total (AV_of hJ) hM hz, fun r' m2 q2 ⟨h2, hm, hf, e⟩ => ?_⟩
  subst e
  exact ⟨by omega, JI_1 hJ hf hm⟩
theorem ag_rule (hJ : CV mi L set H o mi mr) (hM : MV L set H o mi) (hz : rg z) (hx : rg x) (h : mi = m1 ∧ mr = q1 ∧ (¬ (0 ≤ z ∧ z < L.2.1) ∧ r = -1 ∨ (0 ≤ z ∧ z < L.2.1) ∧ ((0 ≤ x ∧ x ≤ 6) ∧ r = L.2.2.2.1 z.toNat (x.toNat + 1) ∨ ¬ (0 ≤ x ∧ x ≤ 6) ∧ r = -2))) : Ag l G n0 yX8_rule cX8_rule 3 3 [.int (jI z), .int (jI x)] r m1 q1 := by
  obtain ⟨rfl, rfl, h⟩ := h
  refine ⟨_, c_X8_rule (AV_of hJ) hM hz hx, fun r' m2 q2 ⟨h2, hm, hf, e⟩ => ?_⟩
  subst e
  exact ⟨by omega, JI_1 hJ hf hm⟩
theorem ag_put (hJ : CV mi L set H o mi mr) (hM : MV L set H o mi) (hz : rg z) (hx : rg x) (h : (¬ (0 ≤ z ∧ z < L.1) ∧ r = -1 ∧ mi = m1 ∧ mr = q1) ∨ ((0 ≤ z ∧ z < L.1) ∧ ¬ (0 ≤ x ∧ x ≤ 50 ∧ sm H - F5 H z.toNat + x ≤ 250) ∧ r = -2 ∧ mi = m1 ∧ mr = q1) ∨ ((0 ≤ z ∧ z < L.1) ∧ (0 ≤ x ∧ x ≤ 50 ∧ sm H - F5 H z.toNat + x ≤ 250) ∧ r = F5 H z.toNat ∧ CV mi L set (T5 (fun j => if j = z.toNat then x else F5 H j)) o m1 q1)) : Ag l G n0 yX8_put cX8_put 4 3 [.int (jI z), .int (jI x)] r m1 q1 := by
  have hk : ∀ a, 472 < a → m1 a = mi a := by
    rcases h with ⟨-, -, rfl, -⟩ | ⟨-, -, -, rfl, -⟩ | ⟨-, -, -, h⟩
    · exact fun _ _ => rfl
    · exact fun _ _ => rfl
    · exact CV_k h
  refine ⟨_, c_X8_put (AV_of hJ) (MV_K hM hk) hz hx, fun r' m2 q2 ⟨h2, hf, e⟩ => ?_⟩
  subst e
  rcases h with ⟨a, b, rfl, rfl⟩ | ⟨a, b, c, rfl, rfl⟩ | ⟨a, b, c, h⟩ <;> rcases h2 with ⟨a', b', hm⟩ | ⟨a', b', c', hm⟩ | ⟨a', b', c', hm⟩ <;> first | exact absurd a a' | exact absurd a' a | exact absurd b b' | exact absurd b' b | exact ⟨by omega, JI_1 hJ hf hm⟩ | exact ⟨by omega, JI_1 h hf hm⟩
theorem ag_states (hJ : CV mi L set H o mi mr) (hM : MV L set H o mi) (hz : rg z) (h : (¬ (1 ≤ z ∧ z ≤ 5) ∧ r = -2 ∧ mi = m1 ∧ mr = q1) ∨ ((1 ≤ z ∧ z ≤ 5) ∧ r = L.1 ∧ CV mi (z, 0, 0, L.2.2.2.1, L.2.2.2.2) 1 (0, 0, 0, 0, 0) (-3) m1 q1)) : Ag l G n0 yX8_states cX8_states 4 2 [.int (jI z)] r m1 q1 := by
  have hk : ∀ a, 472 < a → m1 a = mi a := by
    rcases h with ⟨-, -, rfl, -⟩ | ⟨-, -, h⟩
    · exact fun _ _ => rfl
    · exact CV_k h
  refine ⟨_, c_X8_states (AV_of hJ) (MV_K hM hk) hz, fun r' m2 q2 ⟨h2, hf, e⟩ => ?_⟩
  subst e
  rcases h with ⟨a, b, rfl, rfl⟩ | ⟨a, b, h⟩ <;> rcases h2 with ⟨a', b', hm⟩ | ⟨a', b', hm⟩ <;> first | exact absurd a a' | exact absurd a' a | exact ⟨by omega, JI_1 hJ hf hm⟩ | exact ⟨by omega, JI_1 h hf (hm _ _)⟩
theorem ag_start (hJ : CV mi L set H o mi mr) (hM : MV L set H o mi) (hz : rg z) (h : (¬ (1 ≤ z ∧ z < 2 ^ L.1.toNat) ∧ r = -2 ∧ mi = m1 ∧ mr = q1) ∨ ((1 ≤ z ∧ z < 2 ^ L.1.toNat) ∧ r = set ∧ CV mi L z H o m1 q1)) : Ag l G n0 yX8_start cX8_start 3 2 [.int (jI z)] r m1 q1 := by
  have hk : ∀ a, 472 < a → m1 a = mi a := by
    rcases h with ⟨-, -, rfl, -⟩ | ⟨-, -, h⟩
    · exact fun _ _ => rfl
    · exact CV_k h
  refine ⟨_, c_X8_start (AV_of hJ) (MV_K hM hk) hz, fun r' m2 q2 ⟨h2, hf, e⟩ => ?_⟩
  subst e
  rcases h with ⟨a, b, rfl, rfl⟩ | ⟨a, b, h⟩ <;> rcases h2 with ⟨a', b', hm⟩ | ⟨a', b', hm⟩ <;> first | exact absurd a a' | exact absurd a' a | exact ⟨b.trans b'.symm, JI_1 hJ hf hm⟩ | exact ⟨b.trans b'.symm, JI_1 h hf hm⟩
theorem ag_bad (hJ : CV mi L set H o mi mr) (hM : MV L set H o mi) (hz : rg z) (h : (¬ (1 ≤ z ∧ z < p10 L.1) ∧ r = -2 ∧ mi = m1 ∧ mr = q1) ∨ ((1 ≤ z ∧ z < p10 L.1) ∧ 6 ≤ L.2.2.1 ∧ r = -4 ∧ mi = m1 ∧ mr = q1) ∨ ((1 ≤ z ∧ z < p10 L.1) ∧ L.2.2.1 < 6 ∧ r = L.2.2.1 + 1 ∧ CV mi (L.1, L.2.1, L.2.2.1 + 1, L.2.2.2.1, fun b => if (b : Int) = L.2.2.1 then (T5 (fun j => z / 10 ^ j % 10)) else L.2.2.2.2 b) set H (-3) m1 q1)) : Ag l G n0 yX8_bad cX8_bad 4 3 [.int (jI z)] r m1 q1 := by
  have hk : ∀ a, 472 < a → m1 a = mi a := by
    rcases h with ⟨-, -, rfl, -⟩ | ⟨-, -, -, rfl, -⟩ | ⟨-, -, -, h⟩
    · exact fun _ _ => rfl
    · exact fun _ _ => rfl
    · exact CV_k h
  refine ⟨_, c_X8_bad (AV_of hJ) (MV_K hM hk) hz, fun r' m2 q2 ⟨h2, hf, e⟩ => ?_⟩
  subst e
  rcases h with ⟨a, b, rfl, rfl⟩ | ⟨a, b, c, rfl, rfl⟩ | ⟨a, b, c, h⟩ <;> rcases h2 with ⟨a', b', hm⟩ | ⟨a', b', c', hm⟩ | ⟨a', b', c', hm⟩ <;> first | exact absurd a a' | exact absurd a' a | exact absurd b (by omega) | exact ⟨by omega, JI_1 hJ hf hm⟩ | exact ⟨by omega, JI_1 h hf hm⟩
theorem ag_step (hJ : CV mi L set H o mi mr) (hM : MV L set H o mi) (hz : rg z) (h : (¬ (0 ≤ z ∧ z < L.2.1) ∧ r = -1 ∧ mi = m1 ∧ mr = q1) ∨ ((0 ≤ z ∧ z < L.2.1) ∧ ¬ fit (L.2.2.2.1 z.toNat) (F5 H) ∧ r = -3 ∧ mi = m1 ∧ mr = q1) ∨ ((0 ≤ z ∧ z < L.2.1) ∧ fit (L.2.2.2.1 z.toNat) (F5 H) ∧ r = cnt (fun j => fit (L.2.2.2.1 j) (F5 (T5 (led (L.2.2.2.1 z.toNat) (F5 H))))) L.2.1.toNat ∧ CV mi L set (T5 (led (L.2.2.2.1 z.toNat) (F5 H))) o m1 q1)) : Ag l G n0 yX8_step cX8_step 4 4 [.int (jI z)] r m1 q1 := by
  have hk : ∀ a, 472 < a → m1 a = mi a := by
    rcases h with ⟨-, -, rfl, -⟩ | ⟨-, -, -, rfl, -⟩ | ⟨-, -, -, h⟩
    · exact fun _ _ => rfl
    · exact fun _ _ => rfl
    · exact CV_k h
  refine ⟨_, c_X8_step (AV_of hJ) (MV_K hM hk) hz, fun r' m2 q2 ⟨h2, hf, e⟩ => ?_⟩
  subst e
  rcases h with ⟨a, b, rfl, rfl⟩ | ⟨a, b, c, rfl, rfl⟩ | ⟨a, b, c, h⟩ <;> rcases h2 with ⟨a', b', hm⟩ | ⟨a', b', c', hm⟩ | ⟨a', b', c', hm⟩ <;> first | exact absurd a a' | exact absurd a' a | exact absurd b b' | exact absurd b' b | exact ⟨b.trans b'.symm, JI_1 hJ hf hm⟩ | exact ⟨c.trans c'.symm, JI_1 hJ hf hm⟩ | exact ⟨c.trans c'.symm, JI_1 h hf hm⟩
theorem NRP_k {z1 z2 z3 z4 z5 z6 : Int} (h : NRP mi L set H z1 z2 z3 z4 z5 z6 mi mr r m1 q1) : ∀ a, 472 < a → m1 a = mi a := by
  rcases h with ⟨-, -, rfl, -⟩ | ⟨-, -, ρ, -, h⟩
  · exact fun _ _ => rfl
  · exact CV_k h
theorem NRP_ag {z1 z2 z3 z4 z5 z6 r' : Int} {m2 : Nat → Nat → Int} (hJ : CV mi L set H o mi mr) (h : NRP mi L set H z1 z2 z3 z4 z5 z6 mi mr r m1 q1) (h2 : MRP L set H o z1 z2 z3 z4 z5 z6 r' m2) (hf : ∀ a, a < 473 → m2 a = m1 a) : r = r' ∧ JI m2 q1 := by
  rcases h with ⟨a, b, rfl, rfl⟩ | ⟨a, b, ρ, e, h⟩ <;> rcases h2 with ⟨a', b', hm⟩ | ⟨a', b', hm⟩
  · exact ⟨b.trans b'.symm, JI_1 hJ hf hm⟩
  · exact absurd a (by omega)
  · exact absurd a (by omega)
  · exact ⟨b.trans b'.symm, JI_1 h hf (hm ρ e)⟩
theorem ag_alone (hJ : CV mi L set H o mi mr) (hM : MV L set H o mi) (hz : rg z) (hx : rg x) (h : (¬ ((0 ≤ z ∧ z < L.1) ∧ (0 ≤ x ∧ x < L.1)) ∧ r = -1 ∧ mi = m1 ∧ mr = q1) ∨ (((0 ≤ z ∧ z < L.1) ∧ (0 ≤ x ∧ x < L.1)) ∧ NRP mi L set H 0 z x (-9) (-9) (-9) mi mr r m1 q1)) : Ag l G n0 yX8_alone cX8_alone 3 3 [.int (jI z), .int (jI x)] r m1 q1 := by
  have hk : ∀ a, 472 < a → m1 a = mi a := by
    rcases h with ⟨-, -, rfl, -⟩ | ⟨-, h⟩
    · exact fun _ _ => rfl
    · exact NRP_k h
  refine ⟨_, c_X8_alone (AV_of hJ) (MV_K hM hk) hz hx, fun r' m2 q2 ⟨h2, hf, e⟩ => ?_⟩
  subst e
  rcases h with ⟨a, b, rfl, rfl⟩ | ⟨a, h⟩ <;> rcases h2 with ⟨a', b', hm⟩ | ⟨a', hm⟩
  · exact ⟨b.trans b'.symm, JI_1 hJ hf hm⟩
  · exact absurd a' a
  · exact absurd a a'
  · exact NRP_ag hJ h hm hf
theorem ag_pair (hJ : CV mi L set H o mi mr) (hM : MV L set H o mi) (hz : rg z) (hx : rg x) (hy : rg y) (hv : rg v) (h : (¬ ((0 ≤ z ∧ z < L.1) ∧ (0 ≤ x ∧ x < L.1) ∧ (0 ≤ y ∧ y < L.1) ∧ (0 ≤ v ∧ v < L.1)) ∧ r = -1 ∧ mi = m1 ∧ mr = q1) ∨ (((0 ≤ z ∧ z < L.1) ∧ (0 ≤ x ∧ x < L.1) ∧ (0 ≤ y ∧ y < L.1) ∧ (0 ≤ v ∧ v < L.1)) ∧ NRP mi L set H 1 z x y v (-9) mi mr r m1 q1)) : Ag l G n0 yX8_pair cX8_pair 5 3 [.int (jI z), .int (jI x), .int (jI y), .int (jI v)] r m1 q1 := by
  have hk : ∀ a, 472 < a → m1 a = mi a := by
    rcases h with ⟨-, -, rfl, -⟩ | ⟨-, h⟩
    · exact fun _ _ => rfl
    · exact NRP_k h
  refine ⟨_, c_X8_pair (AV_of hJ) (MV_K hM hk) hz hx hy hv, fun r' m2 q2 ⟨h2, hf, e⟩ => ?_⟩
  subst e
  rcases h with ⟨a, b, rfl, rfl⟩ | ⟨a, h⟩ <;> rcases h2 with ⟨a', b', hm⟩ | ⟨a', hm⟩
  · exact ⟨b.trans b'.symm, JI_1 hJ hf hm⟩
  · exact absurd a' a
  · exact absurd a a'
  · exact NRP_ag hJ h hm hf
theorem ag_all (hJ : CV mi L set H o mi mr) (hM : MV L set H o mi) (hz : rg z) (hx : rg x) (hy : rg y) (h : (¬ ((0 ≤ z ∧ z < L.1) ∧ (0 ≤ x ∧ x < L.1)) ∧ r = -1 ∧ mi = m1 ∧ mr = q1) ∨ (((0 ≤ z ∧ z < L.1) ∧ (0 ≤ x ∧ x < L.1)) ∧ ¬ mapok L.1 y ∧ r = -2 ∧ mi = m1 ∧ mr = q1) ∨ (((0 ≤ z ∧ z < L.1) ∧ (0 ≤ x ∧ x < L.1)) ∧ mapok L.1 y ∧ NRP mi L set H 2 z x (-9) (-9) y mi mr r m1 q1)) : Ag l G n0 yX8_all cX8_all 7 3 [.int (jI z), .int (jI x), .int (jI y)] r m1 q1 := by
  have hk : ∀ a, 472 < a → m1 a = mi a := by
    rcases h with ⟨-, -, rfl, -⟩ | ⟨-, -, -, rfl, -⟩ | ⟨-, -, h⟩
    · exact fun _ _ => rfl
    · exact fun _ _ => rfl
    · exact NRP_k h
  refine ⟨_, c_X8_all (AV_of hJ) (MV_K hM hk) hz hx hy, fun r' m2 q2 ⟨h2, hf, e⟩ => ?_⟩
  subst e
  rcases h with ⟨a, b, rfl, rfl⟩ | ⟨a, b, c, rfl, rfl⟩ | ⟨a, b, h⟩ <;> rcases h2 with ⟨a', b', hm⟩ | ⟨a', b', c', hm⟩ | ⟨a', b', hm⟩ <;> first | exact absurd a a' | exact absurd a' a | exact absurd b b' | exact absurd b' b | exact ⟨b.trans b'.symm, JI_1 hJ hf hm⟩ | exact ⟨c.trans c'.symm, JI_1 hJ hf hm⟩ | exact NRP_ag hJ h hm hf
theorem ag_need (hJ : CV mi L set H o mi mr) (hM : MV L set H o mi) (hz : rg z) (hx : rg x) (h : (¬ ((0 ≤ z ∧ z < L.2.1) ∧ (x = -9 ∨ 0 ≤ x ∧ x < L.1)) ∧ r = -1 ∧ mi = m1 ∧ mr = q1) ∨ ((0 ≤ z ∧ z < L.2.1) ∧ (x = -9 ∨ 0 ≤ x ∧ x < L.1) ∧ r = L.2.2.2.1 z.toNat 7 ∧ ∃ ρ : Nat → Int, ((∀ j : Nat, j ≠ 7 → ρ j = L.2.2.2.1 z.toNat j) ∧ ρ 7 = x) ∧ CV mi (L.1, L.2.1, L.2.2.1, fun j => if j = z.toNat then ρ else L.2.2.2.1 j, L.2.2.2.2) set H (-3) m1 q1)) : Ag l G n0 yX8_need cX8_need 4 3 [.int (jI z), .int (jI x)] r m1 q1 := by
  have hk : ∀ a, 472 < a → m1 a = mi a := by
    rcases h with ⟨-, -, rfl, -⟩ | ⟨-, -, -, ρ, -, h⟩
    · exact fun _ _ => rfl
    · exact CV_k h
  refine ⟨_, c_X8_need (AV_of hJ) (MV_K hM hk) hz hx, fun r' m2 q2 ⟨h2, hf, e⟩ => ?_⟩
  subst e
  rcases h with ⟨a, b, rfl, rfl⟩ | ⟨a, b, c, ρ, ⟨e1, e2⟩, h⟩ <;> rcases h2 with ⟨a', b', hm⟩ | ⟨a', b', c', hm⟩
  · exact ⟨b.trans b'.symm, JI_1 hJ hf hm⟩
  · exact absurd ⟨a', b'⟩ a
  · exact absurd ⟨a, b⟩ a'
  · exact ⟨c.trans c'.symm, JI_1 h hf (hm ρ e1 e2)⟩
theorem ag_search (hJ : CV mi L set H o mi mr) (hM : MV L set H o mi) (h : Res L r ∧ CV mi L set H r m1 q1) : Ag l G n0 yX8_search cX8_search 4 6 [] r m1 q1 := by
  obtain ⟨h, hC⟩ := h
  refine ⟨_, c_X8_search (AV_of hJ) (MV_K hM (CV_k hC)), fun r' m2 q2 ⟨h2, hm, hf, e⟩ => ?_⟩
  subst e
  have e := Res_u h h2
  subst e
  exact ⟨rfl, JI_1 hC hf hm⟩
theorem ag_bases (hJ : CV mi L set H o mi mr) (hM : MV L set H o mi) (h : mi = m1 ∧ mr = q1 ∧ (o < 0 ∧ r = o ∨ 0 ≤ o ∧ r = ((Ef mi mr (mr 44 4)).length : Int))) : Ag l G n0 yX8_bases cX8_bases 1 3 [] r m1 q1 := by
  obtain ⟨rfl, rfl, h⟩ := h
  refine ⟨_, c_X8_bases (AV_of hJ) hM, fun r' m2 q2 ⟨h2, hm, hf, e⟩ => ?_⟩
  subst e
  refine ⟨?_, JI_1 hJ hf hm⟩
  rcases h with ⟨a, b⟩ | ⟨a, b⟩ <;> rcases h2 with ⟨a', b'⟩ | ⟨a', ls, b', c'⟩
  · rw [b, b']
  · omega
  · omega
  · obtain ⟨w1, -, w3⟩ := (CV_o hJ).2.2.2.2 a
    have e := MnL_u (Ef_l w1 w3) b'
    rw [b, c', ← e, List.length_map]
theorem ag_base (hJ : CV mi L set H o mi mr) (hM : MV L set H o mi) (hz : rg z) (hx : rg x) (h : mi = m1 ∧ mr = q1 ∧ (o < 0 ∧ r = o ∨ 0 ≤ o ∧ (¬ ((0 ≤ z ∧ z < mi (mr 44 4) 2) ∧ 0 ≤ x ∧ x < L.1) ∧ r = -1 ∨ ((0 ≤ z ∧ z < mi (mr 44 4) 2) ∧ 0 ≤ x ∧ x < L.1) ∧ r = mi (mr (mr 44 4 + 1) z.toNat + 1) x.toNat))) : Ag l G n0 yX8_base cX8_base 3 3 [.int (jI z), .int (jI x)] r m1 q1 := by
  obtain ⟨rfl, rfl, h⟩ := h
  refine ⟨_, c_X8_base (AV_of hJ) hM hz hx, fun r' m2 q2 ⟨h2, hm, hf, e⟩ => ?_⟩
  subst e
  refine ⟨?_, JI_1 hJ hf hm⟩
  rcases h with ⟨a, b⟩ | ⟨a, b⟩ <;> rcases h2 with ⟨a', b'⟩ | ⟨a', ls, b', c'⟩
  · rw [b, b']
  · omega
  · omega
  · obtain ⟨w1, -, w3⟩ := (CV_o hJ).2.2.2.2 a
    have e := MnL_u (Ef_l w1 w3) b'
    have hl := (CV_o hJ).2.1
    have hL5 := hJ.2.1.1
    have e2 : (ls.length : Int) = ((mi (mr 44 4) 2).toNat : Int) := by rw [← e, List.length_map, Ef_len]
    rcases b with ⟨b, r1⟩ | ⟨b, r1⟩ <;> rcases c' with ⟨c, r2⟩ | ⟨c, w, c2, r2⟩
    · rw [r1, r2]
    · exact absurd c (by omega)
    · exact absurd b (by omega)
    · have e3 := Ef_at (mr := mr) (b := mr 44 4) (mi := mi) (i := z.toNat) (by omega)
      rw [← e, List.getElem?_map, e3] at c2
      have c3 : T5 (mi (mr (mr 44 4 + 1) z.toNat + 1)) = w := Option.some.inj c2
      rw [r1, r2, ← c3, F5_T5 _ (by omega)]
theorem ag_least (hJ : CV mi L set H o mi mr) (hM : MV L set H o mi) (h : mi = m1 ∧ mr = q1 ∧ (o < 0 ∧ r = o ∨ 0 ≤ o ∧ ((r = -9 ∧ ∀ i : Nat, (i : Int) < mi (mr 44 4) 2 → ¬ inst set (mi (mr ((mr 44 4) + 1) i + 1)) L.1) ∨ ∃ i : Nat, (i : Int) < mi (mr 44 4) 2 ∧ inst set (mi (mr ((mr 44 4) + 1) i + 1)) L.1 ∧ (∀ j : Nat, j < i → ¬ inst set (mi (mr ((mr 44 4) + 1) j + 1)) L.1) ∧ r = sum5 (mi (mr ((mr 44 4) + 1) i + 1))))) : Ag l G n0 yX8_least cX8_least 5 3 [] r m1 q1 := by
  obtain ⟨rfl, rfl, h⟩ := h
  refine ⟨_, c_X8_least (AV_of hJ) hM, fun r' m2 q2 ⟨h2, hm, hf, e⟩ => ?_⟩
  subst e
  refine ⟨?_, JI_1 hJ hf hm⟩
  rcases h with ⟨a, b⟩ | ⟨a, b⟩ <;> rcases h2 with ⟨a', b'⟩ | ⟨a', b'⟩
  · rw [b, b']
  · omega
  · omega
  · obtain ⟨w1, -, w3⟩ := (CV_o hJ).2.2.2.2 a
    exact LSP_u (br_least hJ.2.1 w1 w3 b) b'
theorem ag_reach (hJ : CV mi L set H o mi mr) (hM : MV L set H o mi) (hz : rg z) (h : (¬ (1 ≤ z ∧ z ≤ 8) ∧ r = -2 ∧ mi = m1 ∧ mr = q1) ∨ ((1 ≤ z ∧ z ≤ 8) ∧ CV mi L set H o m1 q1 ∧ ∃ (k c : Nat) (P : Nat → V5), FX L z set k c P m1 ∧ r = (c : Int))) : Ag l G n0 yX8_reach cX8_reach 4 5 [.int (jI z)] r m1 q1 := by
  have hk : CV mi L set H o m1 q1 := by
    rcases h with ⟨-, -, rfl, rfl⟩ | ⟨-, h, -⟩
    · exact hJ
    · exact h
  refine ⟨_, c_X8_reach (AV_of hJ) (MV_K hM (CV_k hk)) hz, fun r' m2 q2 ⟨h2, hf, e⟩ => ?_⟩
  subst e
  rcases h with ⟨a, b, -⟩ | ⟨a, -, k, c, P, b, h⟩ <;> rcases h2 with ⟨a', b', hm⟩ | ⟨a', b', hm⟩
  · exact ⟨b.trans b'.symm, JI_1 hk hf hm⟩
  · exact absurd a' a
  · exact absurd a a'
  · exact ⟨h.trans (br_reach hJ.2.1 b b').symm, JI_1 hk hf hm⟩
theorem ag_steps (hJ : CV mi L set H o mi mr) (hM : MV L set H o mi) (hz : rg z) (h : (¬ (1 ≤ z ∧ z ≤ 8) ∧ r = -2 ∧ mi = m1 ∧ mr = q1) ∨ ((1 ≤ z ∧ z ≤ 8) ∧ CV mi L set H o m1 q1 ∧ ∃ (k c : Nat) (P : Nat → V5), FX L z set k c P m1 ∧ r = m1 461 12)) : Ag l G n0 yX8_steps cX8_steps 3 5 [.int (jI z)] r m1 q1 := by
  have hk : CV mi L set H o m1 q1 := by
    rcases h with ⟨-, -, rfl, rfl⟩ | ⟨-, h, -⟩
    · exact hJ
    · exact h
  refine ⟨_, c_X8_steps (AV_of hJ) (MV_K hM (CV_k hk)) hz, fun r' m2 q2 ⟨h2, hf, e⟩ => ?_⟩
  subst e
  rcases h with ⟨a, b, -⟩ | ⟨a, -, k, c, P, b, h⟩ <;> rcases h2 with ⟨a', b', hm⟩ | ⟨a', b', hm⟩
  · exact ⟨b.trans b'.symm, JI_1 hk hf hm⟩
  · exact absurd a' a
  · exact absurd a a'
  · exact ⟨h.trans (br_steps (FX_m hJ.2.1 a b) b').symm, JI_1 hk hf hm⟩
theorem ag_run (hJ : CV mi L set H o mi mr) (hM : MV L set H o mi) (hz : rg z) (hx : rg x) (hy : rg y) (h : (¬ (1 ≤ z ∧ z ≤ 8) ∧ r = -2 ∧ mi = m1 ∧ mr = q1) ∨ ((1 ≤ z ∧ z ≤ 8) ∧ ¬ (0 ≤ y ∧ y < L.1) ∧ r = -1 ∧ mi = m1 ∧ mr = q1) ∨ ((1 ≤ z ∧ z ≤ 8) ∧ (0 ≤ y ∧ y < L.1) ∧ CV mi L set H o m1 q1 ∧ ∃ (k c : Nat) (P : Nat → V5) (m : Nat → Nat → Int), FX L z set k c P m ∧ (r = -9 ∧ ¬ (0 ≤ x ∧ x ≤ m 461 12) ∨ (0 ≤ x ∧ x ≤ m 461 12) ∧ ∃ v, Rn L (St L.1 z set) (m 461 12).toNat x.toNat v ∧ r = F5 v y.toNat))) : Ag l G n0 yX8_run cX8_run 9 5 [.int (jI z), .int (jI x), .int (jI y)] r m1 q1 := by
  have hk : CV mi L set H o m1 q1 := by
    rcases h with ⟨-, -, rfl, rfl⟩ | ⟨-, -, -, rfl, rfl⟩ | ⟨-, -, h, -⟩
    · exact hJ
    · exact hJ
    · exact h
  refine ⟨_, c_X8_run (AV_of hJ) (MV_K hM (CV_k hk)) hz hx hy, fun r' m2 q2 ⟨h2, hf, e⟩ => ?_⟩
  subst e
  rcases h with ⟨a, b, -⟩ | ⟨a, b, c, -⟩ | ⟨a, b, -, k, c, P, m, c1, h⟩ <;> rcases h2 with ⟨a', b', hm⟩ | ⟨a', b', c', hm⟩ | ⟨a', b', c', hm⟩ <;> first | exact absurd a a' | exact absurd a' a | exact absurd b b' | exact absurd b' b | exact ⟨b.trans b'.symm, JI_1 hk hf hm⟩ | exact ⟨c.trans c'.symm, JI_1 hk hf hm⟩ | exact ⟨br_run (FX_m hJ.2.1 a c1) h c', JI_1 hk hf hm⟩
theorem ag_doomedOf (hJ : CV mi L set H o mi mr) (hM : MV L set H o mi) (hz : rg z) (h : (¬ (1 ≤ z ∧ z ≤ 8) ∧ r = -2 ∧ mi = m1 ∧ mr = q1) ∨ ((1 ≤ z ∧ z ≤ 8) ∧ o < 0 ∧ r = o ∧ mi = m1 ∧ mr = q1) ∨ ((1 ≤ z ∧ z ≤ 8) ∧ 0 ≤ o ∧ CV mi L set H o m1 q1 ∧ ∃ (k c : Nat) (P : Nat → V5) (m : Nat → Nat → Int), FX L z set k c P m ∧ (0 ≤ o → Srt (Ef m mr (mr 44 4)) ∧ m (mr 44 4) 2 ≤ 100 ∧ ∀ v, Mn (Dk L o.toNat) v ↔ ∃ y ∈ Ef m mr (mr 44 4), y.1 = v) ∧ r = cnt (fun a => ∃ y ∈ Ef m mr (mr 44 4), gv (P (m 468 a).toNat) y.1) c)) : Ag l G n0 yX8_doomedOf cX8_doomedOf 4 5 [.int (jI z)] r m1 q1 := by
  have hk : CV mi L set H o m1 q1 := by
    rcases h with ⟨-, -, rfl, rfl⟩ | ⟨-, -, -, rfl, rfl⟩ | ⟨-, -, h, -⟩
    · exact hJ
    · exact hJ
    · exact h
  refine ⟨_, c_X8_doomedOf (AV_of hJ) (MV_K hM (CV_k hk)) hz, fun r' m2 q2 ⟨h2, hf, e⟩ => ?_⟩
  subst e
  rcases h with ⟨a, b, -⟩ | ⟨a, b, c, -⟩ | ⟨a, b, -, k, c, P, m, c1, c2, h⟩ <;> rcases h2 with ⟨a', b', hm⟩ | ⟨a', b', c', hm⟩ | ⟨a', b', c', hm⟩ <;> first | exact absurd a a' | exact absurd a' a | exact absurd b (by omega) | exact ⟨b.trans b'.symm, JI_1 hk hf hm⟩ | exact ⟨c.trans c'.symm, JI_1 hk hf hm⟩ | exact ⟨h.trans (br_doomedOf hJ.2.1 c1 (c2 b).2.2 c'), JI_1 hk hf hm⟩
end Ag
