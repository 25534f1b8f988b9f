theorem GT_fr {L : Lws} {set n : Int} {k : Nat} {m m' : Nat → Nat → Int} (h : GT L set n k m) (hf : ∀ a, 488 ≤ a → a ≤ 491 → m' a = m a) : GT L set n k m' := by
  unfold GT Pm at *
  rw [hf 488 (by decide) (by decide), hf 489 (by decide) (by decide), hf 490 (by decide) (by decide), hf 491 (by decide) (by decide)]
  exact h
theorem MV_g {L : Lws} {set : Int} {H : V5} {o : Int} {mi m : Nat → Nat → Int} (h : MV L set H o mi) (hf : FG2 mi m) : MV L set H o m := MV_fr h (fun j _ _ h3 => hf.2 j h3) (fun a h1 h2 => hf.1 a (by omega) (by omega))
theorem cnt_l {P : Nat → Prop} {f : Nat → V5} : ∀ {n : Nat}, (∀ i j : Nat, i < n → j < n → f i = f j → i = j) → ∃ l : List V5, l.Nodup ∧ (∀ v, v ∈ l ↔ ∃ i : Nat, i < n ∧ P i ∧ f i = v) ∧ cnt P n = (l.length : Int)
  | 0, _ => ⟨[], List.nodup_nil, fun v => ⟨fun h => absurd h List.not_mem_nil, fun ⟨i, hi, _⟩ => absurd hi (by omega)⟩, rfl⟩
  | n + 1, h => by
    obtain ⟨l, l1, l2, l3⟩ := cnt_l (P := P) (f := f) (n := n) (fun i j hi hj => h i j (by omega) (by omega))
    by_cases q : P n
    · refine ⟨f n :: l, List.nodup_cons.mpr ⟨fun w => ?_, l1⟩, fun v => ?_, ?_⟩
      · obtain ⟨i, hi, -, e⟩ := (l2 _).mp w
        have := h i n (by omega) (by omega) e
        omega
      · rw [List.mem_cons, l2 v]
        constructor
        · rintro (rfl | ⟨i, hi, a, b⟩)
          · exact ⟨n, by omega, q, rfl⟩
          · exact ⟨i, by omega, a, b⟩
        · rintro ⟨i, hi, a, b⟩
          by_cases w : i = n
          · subst w; exact Or.inl b.symm
          · exact Or.inr ⟨i, by omega, a, b⟩
      · rw [cnt_t q, l3, List.length_cons]; omega
    · refine ⟨l, l1, fun v => ?_, by rw [cnt_f q, l3]⟩
      rw [l2 v]
      constructor
      · rintro ⟨i, hi, a, b⟩; exact ⟨i, by omega, a, b⟩
      · rintro ⟨i, hi, a, b⟩
        by_cases w : i = n
        · subst w; exact absurd a q
        · exact ⟨i, by omega, a, b⟩
/-- how many there are -/
def Num (Q : V5 → Prop) (r : Int) : Prop := ∃ l : List V5, l.Nodup ∧ (∀ v, v ∈ l ↔ Q v) ∧ r = (l.length : Int)
theorem Num_u {Q : V5 → Prop} {r r' : Int} (h : Num Q r) (h' : Num Q r') : r = r' := by
  obtain ⟨l, a, b, c⟩ := h
  obtain ⟨l', a', b', c'⟩ := h'
  have e1 := nd_len a (l2 := l') (fun x hx => (b' x).mpr ((b x).mp hx))
  have e2 := nd_len a' (l2 := l) (fun x hx => (b x).mpr ((b' x).mp hx))
  omega
theorem GT_num {L : Lws} {set n : Int} {k : Nat} {m : Nat → Nat → Int} {X : V5 → Prop} {Y : Nat → Prop} (hL : LO L) (h : GT L set n k m) (hY : ∀ i : Nat, i < k → (Y i ↔ m 491 i = 1 ∧ X (Pm m i))) : Num (fun v => (∃ t : Nat, Rk L (St L.1 n set) t v) ∧ X v) (cnt Y k) := by
  obtain ⟨l, l1, l2, l3⟩ := cnt_l (P := Y) (f := Pm m) (n := k) (fun i j hi hj e => Inc_i h.1.1 hi hj e)
  refine ⟨l, l1, fun v => ?_, l3⟩
  rw [l2 v]
  constructor
  · rintro ⟨i, hi, a, rfl⟩
    have q := (hY i hi).mp a
    exact ⟨(h.2.2.1 i hi).2.mp q.1, q.2⟩
  · rintro ⟨⟨t, ht⟩, q2⟩
    obtain ⟨i, hi, e⟩ := h.1.2 v (Rk_cro hL (fun v hv => hv.1) ht)
    exact ⟨i, hi, (hY i hi).mpr ⟨(h.2.2.1 i hi).2.mpr ⟨t, by rw [e]; exact ht⟩, by rw [e]; exact q2⟩, e⟩
/-- the nearest one as far as one has looked -/
def NPn (L : Lws) (set n : Int) (m : Nat → Nat → Int) (c : Nat) (r : Int) : Prop := (r = -9 ∧ ∀ i : Nat, i < c → St L.1 n set (Pm m i) → 1000000 ≤ m 490 i) ∨ ∃ b : Nat, b < c ∧ r = (b : Int) ∧ St L.1 n set (Pm m b) ∧ m 490 b < 1000000 ∧ ∀ i : Nat, i < c → St L.1 n set (Pm m i) → m 490 b ≤ m 490 i ∧ (m 490 i = m 490 b → b ≤ i)
theorem NPn_b {L : Lws} {set n : Int} {m : Nat → Nat → Int} {c : Nat} {r : Int} (h : NPn L set n m c r) : r = -9 ∨ 0 ≤ r ∧ r < (c : Int) := by
  rcases h with ⟨q, -⟩ | ⟨b, hb, q, -⟩ <;> omega
theorem NPn_n {L : Lws} {set n : Int} {m : Nat → Nat → Int} {c : Nat} {r : Int} (h : NPn L set n m c r) (hn : St L.1 n set (Pm m c) → 1000000 ≤ m 490 c) : NPn L set n m (c + 1) r := by
  rcases h with ⟨q, q2⟩ | ⟨b, hb, q, q1, q2, q3⟩
  · exact Or.inl ⟨q, fun i hi hs => by rcases (show i < c ∨ i = c by omega) with w | w; exact q2 i w hs; subst w; exact hn hs⟩
  · exact Or.inr ⟨b, by omega, q, q1, q2, fun i hi hs => by rcases (show i < c ∨ i = c by omega) with w | w; exact q3 i w hs; subst w; have := hn hs; omega⟩
theorem NPn_k {L : Lws} {set n : Int} {m : Nat → Nat → Int} {c b : Nat} (h : NPn L set n m c (b : Int)) (hk : m 490 b ≤ m 490 c) : NPn L set n m (c + 1) (b : Int) := by
  rcases h with ⟨q, q2⟩ | ⟨b', hb, q, q1, q2, q3⟩
  · omega
  · have e : b = b' := by omega
    subst e
    exact Or.inr ⟨b, by omega, rfl, q1, q2, fun i hi hs => by rcases (show i < c ∨ i = c by omega) with w | w; exact q3 i w hs; subst w; omega⟩
theorem NPn_t {L : Lws} {set n : Int} {m : Nat → Nat → Int} {c : Nat} {r : Int} (h : NPn L set n m c r) (hs : St L.1 n set (Pm m c)) (hf : m 490 c < 1000000) (hr : r = -9 ∨ m 490 c < m 490 r.toNat) : NPn L set n m (c + 1) (c : Int) := by
  refine Or.inr ⟨c, by omega, rfl, hs, hf, fun i hi hsi => ?_⟩
  rcases (show i < c ∨ i = c by omega) with w | w
  · rcases h with ⟨q, q2⟩ | ⟨b, hb, q, q1, q2, q3⟩
    · have := q2 i w hsi; omega
    · have := q3 i w hsi
      rw [q, Int.toNat_natCast] at hr
      omega
  · subst w; omega
theorem NPn_fr {L : Lws} {set n : Int} {m m' : Nat → Nat → Int} {c : Nat} {r : Int} (h : NPn L set n m c r) (hf : ∀ a, 488 ≤ a → a ≤ 491 → m' a = m a) : NPn L set n m' c r := by
  unfold NPn Pm at *
  rw [hf 488 (by decide) (by decide), hf 490 (by decide) (by decide)]
  exact h
/-- fewest steps, told by what was gone through -/
def SNP (L : Lws) (set n f : Int) : Prop := ∃ (k : Nat) (m : Nat → Nat → Int) (r : Int), GT L set n k m ∧ NPn L set n m k r ∧ f = if r = -9 then -9 else m 490 r.toNat
/-- one step of the run -/
def BSn (L : Lws) (k : Nat) (m : Nat → Nat → Int) (a x : Nat) (r : Int) : Prop := (r = -9 ∧ ∀ j : Nat, j < x → ∀ w : Nat, w < k → fit (L.2.2.2.1 j) (F5 (Pm m a)) → Pm m w = T5 (led (L.2.2.2.1 j) (F5 (Pm m a))) → m 490 w ≠ m 490 a - 1) ∨ ∃ b : Nat, b < k ∧ r = (b : Int) ∧ m 490 b = m 490 a - 1 ∧ (∃ j : Nat, j < x ∧ fit (L.2.2.2.1 j) (F5 (Pm m a)) ∧ Pm m b = T5 (led (L.2.2.2.1 j) (F5 (Pm m a)))) ∧ ∀ j : Nat, j < x → ∀ w : Nat, w < k → fit (L.2.2.2.1 j) (F5 (Pm m a)) → Pm m w = T5 (led (L.2.2.2.1 j) (F5 (Pm m a))) → m 490 w = m 490 a - 1 → b ≤ w
theorem BSn_b {L : Lws} {k a x : Nat} {m : Nat → Nat → Int} {r : Int} (h : BSn L k m a x r) : r = -9 ∨ 0 ≤ r ∧ r < (k : Int) := by
  rcases h with ⟨q, -⟩ | ⟨b, hb, q, -⟩ <;> omega
theorem BSn_fr {L : Lws} {k a x : Nat} {m m' : Nat → Nat → Int} {r : Int} (h : BSn L k m a x r) (hf : ∀ a, 488 ≤ a → a ≤ 491 → m' a = m a) : BSn L k m' a x r := by
  unfold BSn Pm at *
  rw [hf 488 (by decide) (by decide), hf 490 (by decide) (by decide)]
  exact h
theorem BSn_n {L : Lws} {k a x : Nat} {m : Nat → Nat → Int} {r : Int} (h : BSn L k m a x r) (hn : ∀ w : Nat, w < k → fit (L.2.2.2.1 x) (F5 (Pm m a)) → Pm m w = T5 (led (L.2.2.2.1 x) (F5 (Pm m a))) → m 490 w ≠ m 490 a - 1 ∨ 0 ≤ r ∧ r ≤ (w : Int)) : BSn L k m a (x + 1) r := by
  rcases h with ⟨q, q2⟩ | ⟨b, hb, q, q1, ⟨j, j1, j2⟩, q3⟩
  · exact Or.inl ⟨q, fun j hj w hw h1 h2 => by
      rcases (show j < x ∨ j = x by omega) with z | z
      · exact q2 j z w hw h1 h2
      · subst z
        rcases hn w hw h1 h2 with z | z
        · exact z
        · omega⟩
  · exact Or.inr ⟨b, hb, q, q1, ⟨j, by omega, j2⟩, fun j hj w hw h1 h2 h3 => by
      rcases (show j < x ∨ j = x by omega) with z | z
      · exact q3 j z w hw h1 h2 h3
      · subst z
        rcases hn w hw h1 h2 with z | z
        · exact absurd h3 z
        · omega⟩
theorem BSn_t {L : Lws} {set n : Int} {k a x w : Nat} {m : Nat → Nat → Int} {r : Int} (hP : Inc L.1 n k (Pm m)) (h : BSn L k m a x r) (hw : w < k) (h1 : fit (L.2.2.2.1 x) (F5 (Pm m a))) (h2 : Pm m w = T5 (led (L.2.2.2.1 x) (F5 (Pm m a)))) (h3 : m 490 w = m 490 a - 1) (hr : r = -9 ∨ (w : Int) < r) : BSn L k m a (x + 1) (w : Int) := by
  refine Or.inr ⟨w, hw, rfl, h3, ⟨x, by omega, h1, h2⟩, fun j hj w' hw' g1 g2 g3 => ?_⟩
  rcases (show j < x ∨ j = x by omega) with z | z
  · rcases h with ⟨q, q2⟩ | ⟨b, hb, q, -, -, q3⟩
    · exact absurd g3 (q2 j z w' hw' g1 g2)
    · have := q3 j z w' hw' g1 g2 g3; omega
  · subst z
    have := Inc_i hP hw hw' (h2.trans g2.symm)
    omega
theorem GT_ge {L : Lws} {set n : Int} {k a w j : Nat} {m : Nat → Nat → Int} (h : GT L set n k m) (ha : a < k) (hw : w < k) (hj : (j : Int) < L.2.1) (hf : fit (L.2.2.2.1 j) (F5 (Pm m a))) (e : Pm m w = T5 (led (L.2.2.2.1 j) (F5 (Pm m a)))) (hlt : m 490 w < 1000000) : m 490 a ≤ m 490 w + 1 := by
  have d := (h.2.2.2 w hw).2.1 hlt
  have g0 := (h.2.2.2 w hw).1.1
  have := (h.2.2.2 a ha).2.2 ((m 490 w).toNat + 1) (Or.inr ⟨(h.1.1.1 a ha).1, j, hj, hf, by rw [← e]; exact d⟩)
  omega
theorem Rn_z {L : Lws} {set n : Int} {k b : Nat} {m : Nat → Nat → Int} (h : GT L set n k m) (hb : b < k) (h1 : St L.1 n set (Pm m b)) (h2 : m 490 b < 1000000) (h3 : ∀ i : Nat, i < k → St L.1 n set (Pm m i) → m 490 b ≤ m 490 i ∧ (m 490 i = m 490 b → b ≤ i)) : Rn L (St L.1 n set) (m 490 b).toNat 0 (Pm m b) := by
  refine ⟨⟨h1, (h.2.2.2 b hb).2.1 h2⟩, fun w hw => ?_⟩
  obtain ⟨i, hi, e⟩ := h.1.2 w hw.1.1
  have a := h3 i hi (by rw [e]; exact hw.1)
  have c := (h.2.2.2 i hi).2.2 (m 490 b).toNat (by rw [e]; exact hw.2)
  have g0 := (h.2.2.2 b hb).1.1
  have le := a.2 (by omega)
  rw [← e]
  rcases Nat.lt_or_eq_of_le le with q | q
  · exact Or.inr (h.1.1.2 b i q hi)
  · rw [q]; exact Or.inl rfl
theorem Rn_y {L : Lws} {set n f : Int} {k a x : Nat} {m : Nat → Nat → Int} {r : Int} (hL : LO L) (h : GT L set n k m) (ha : a < k) (hx : (x : Int) < f) (hf : m 490 a = f - (x : Int)) (hf9 : f < 1000000) (hr : Rn L (St L.1 n set) f.toNat x (Pm m a)) (hb : BSn L k m a L.2.1.toNat r) : ∃ b : Nat, b < k ∧ r = (b : Int) ∧ m 490 b = f - ((x + 1 : Nat) : Int) ∧ Rn L (St L.1 n set) f.toNat (x + 1) (Pm m b) := by
  have hda := (h.2.2.2 a ha).2.1 (by omega)
  have hcr := h.1.1.1 a ha
  rw [show (m 490 a).toNat = (f - (x : Int) - 1).toNat + 1 by omega] at hda
  rcases hda with hda | ⟨-, j, hj, hfit, hda⟩
  · have := (h.2.2.2 a ha).2.2 _ hda; omega
  · obtain ⟨w, hw, ew⟩ := h.1.2 _ (led_cro (hL.2.1 j hj) hcr hfit)
    rw [← ew] at hda
    have h1 := (h.2.2.2 w hw).2.2 _ hda
    have h0 := (h.2.2.2 w hw).1.1
    have h2 := GT_ge h ha hw hj hfit ew (by omega)
    rcases hb with ⟨-, q2⟩ | ⟨b, hb, q, q1, ⟨j', j1, j2, j3⟩, q3⟩
    · exact absurd (show m 490 w = m 490 a - 1 by omega) (q2 j (by omega) w hw hfit ew)
    · have hjb : (j' : Int) < L.2.1 := by have := hL; omega
      refine ⟨b, hb, q, by omega, _, hr, ⟨⟨j', hjb, j2, j3⟩, ?_⟩, fun u hu => ?_⟩
      · have d := (h.2.2.2 b hb).2.1 (by omega)
        rw [show f.toNat - (x + 1) = (m 490 b).toNat by omega]
        exact d
      · obtain ⟨⟨j9, g1, g2, g3⟩, g4⟩ := hu
        obtain ⟨i, hi, ei⟩ := h.1.2 _ (led_cro (hL.2.1 j9 g1) hcr g2)
        have eu : Pm m i = u := ei.trans g3.symm
        rw [← eu] at g4
        have k1 := (h.2.2.2 i hi).2.2 _ g4
        have k0 := (h.2.2.2 i hi).1.1
        have k2 := GT_ge h ha hi g1 g2 ei (by omega)
        have le := q3 j9 (by omega) i hi g2 ei (by omega)
        rw [← eu]
        rcases Nat.lt_or_eq_of_le le with z | z
        · exact Or.inr (h.1.1.2 b i z hi)
        · rw [z]; exact Or.inl rfl
theorem dX8_nearest_0 : decode cX8_nearest 0 = .ok (.bipush (-9), 2) := by decide +kernel
theorem dX8_nearest_2 : decode cX8_nearest 2 = .ok (.istore_n 1, 1) := by decide +kernel
theorem dX8_nearest_3 : decode cX8_nearest 3 = .ok (.iconst 0, 1) := by decide +kernel
theorem dX8_nearest_4 : decode cX8_nearest 4 = .ok (.istore_n 2, 1) := by decide +kernel
theorem dX8_nearest_5 : decode cX8_nearest 5 = .ok (.iload_n 2, 1) := by decide +kernel
theorem dX8_nearest_6 : decode cX8_nearest 6 = .ok (.aload_n 0, 1) := by decide +kernel
theorem dX8_nearest_7 : decode cX8_nearest 7 = .ok (.getfield 185, 3) := by decide +kernel
theorem dX8_nearest_10 : decode cX8_nearest 10 = .ok (.if_icmp .ge 72, 3) := by decide +kernel
theorem dX8_nearest_13 : decode cX8_nearest 13 = .ok (.aload_n 0, 1) := by decide +kernel
theorem dX8_nearest_14 : decode cX8_nearest 14 = .ok (.aload_n 0, 1) := by decide +kernel
theorem dX8_nearest_15 : decode cX8_nearest 15 = .ok (.getfield 59, 3) := by decide +kernel
theorem dX8_nearest_18 : decode cX8_nearest 18 = .ok (.iload_n 2, 1) := by decide +kernel
theorem dX8_nearest_19 : decode cX8_nearest 19 = .ok (.iaload, 1) := by decide +kernel
theorem dX8_nearest_20 : decode cX8_nearest 20 = .ok (.aload_n 0, 1) := by decide +kernel
theorem dX8_nearest_21 : decode cX8_nearest 21 = .ok (.getfield 50, 3) := by decide +kernel
theorem dX8_nearest_24 : decode cX8_nearest 24 = .ok (.invokevirtual 188, 3) := by decide +kernel
theorem dX8_nearest_27 : decode cX8_nearest 27 = .ok (.aload_n 0, 1) := by decide +kernel
theorem dX8_nearest_28 : decode cX8_nearest 28 = .ok (.aload_n 0, 1) := by decide +kernel
theorem dX8_nearest_29 : decode cX8_nearest 29 = .ok (.getfield 50, 3) := by decide +kernel
theorem dX8_nearest_32 : decode cX8_nearest 32 = .ok (.invokevirtual 192, 3) := by decide +kernel
theorem dX8_nearest_35 : decode cX8_nearest 35 = .ok (.ifCond .eq 39, 3) := by decide +kernel
theorem dX8_nearest_38 : decode cX8_nearest 38 = .ok (.aload_n 0, 1) := by decide +kernel
theorem dX8_nearest_39 : decode cX8_nearest 39 = .ok (.getfield 66, 3) := by decide +kernel
theorem dX8_nearest_42 : decode cX8_nearest 42 = .ok (.iload_n 2, 1) := by decide +kernel
theorem dX8_nearest_43 : decode cX8_nearest 43 = .ok (.iaload, 1) := by decide +kernel
theorem dX8_nearest_44 : decode cX8_nearest 44 = .ok (.ldc 195, 2) := by decide +kernel
theorem dX8_nearest_46 : decode cX8_nearest 46 = .ok (.if_icmp .ge 28, 3) := by decide +kernel
theorem dX8_nearest_49 : decode cX8_nearest 49 = .ok (.iload_n 1, 1) := by decide +kernel
theorem dX8_nearest_50 : decode cX8_nearest 50 = .ok (.bipush (-9), 2) := by decide +kernel
theorem dX8_nearest_52 : decode cX8_nearest 52 = .ok (.if_icmp .eq 18, 3) := by decide +kernel
theorem dX8_nearest_55 : decode cX8_nearest 55 = .ok (.aload_n 0, 1) := by decide +kernel
theorem dX8_nearest_56 : decode cX8_nearest 56 = .ok (.getfield 66, 3) := by decide +kernel
theorem dX8_nearest_59 : decode cX8_nearest 59 = .ok (.iload_n 2, 1) := by decide +kernel
theorem dX8_nearest_60 : decode cX8_nearest 60 = .ok (.iaload, 1) := by decide +kernel
theorem dX8_nearest_61 : decode cX8_nearest 61 = .ok (.aload_n 0, 1) := by decide +kernel
theorem dX8_nearest_62 : decode cX8_nearest 62 = .ok (.getfield 66, 3) := by decide +kernel
theorem dX8_nearest_65 : decode cX8_nearest 65 = .ok (.iload_n 1, 1) := by decide +kernel
theorem dX8_nearest_66 : decode cX8_nearest 66 = .ok (.iaload, 1) := by decide +kernel
theorem dX8_nearest_67 : decode cX8_nearest 67 = .ok (.if_icmp .ge 7, 3) := by decide +kernel
theorem dX8_nearest_70 : decode cX8_nearest 70 = .ok (.iload_n 2, 1) := by decide +kernel
theorem dX8_nearest_71 : decode cX8_nearest 71 = .ok (.goto 4, 3) := by decide +kernel
theorem dX8_nearest_74 : decode cX8_nearest 74 = .ok (.iload_n 1, 1) := by decide +kernel
theorem dX8_nearest_75 : decode cX8_nearest 75 = .ok (.istore_n 1, 1) := by decide +kernel
theorem dX8_nearest_76 : decode cX8_nearest 76 = .ok (.iinc 2 1, 3) := by decide +kernel
theorem dX8_nearest_79 : decode cX8_nearest 79 = .ok (.goto (-74), 3) := by decide +kernel
theorem dX8_nearest_82 : decode cX8_nearest 82 = .ok (.iload_n 1, 1) := by decide +kernel
theorem dX8_nearest_83 : decode cX8_nearest 83 = .ok (.ireturn, 1) := by decide +kernel
theorem hl_yX8_nearest : (yX8_nearest.cls ≠ "java/lang/invoke/MethodHandle" ∧ yX8_nearest.cls ≠ "java/lang/invoke/VarHandle") ∧ (parseMethodDescriptor yX8_nearest.desc).map (fun d => d.parameters.length) = some 0 := by decide +kernel
set_option maxRecDepth 20000 in
set_option maxHeartbeats 4000000 in
theorem c_X8_nearest {l : Launch} {G : Gt} {n0 : Nat} {mi : Nat → Nat → Int} {mr : Nat → Nat → Nat} {L : Lws} {set z : Int} {k : Nat} (hsc : 1 ≤ L.1 ∧ L.1 ≤ 5) (hset : mi 473 2 = set) (hs32 : 1 ≤ set ∧ set < 32) (hk95 : k ≤ 495) (h23 : mi 473 23 = (k : Int)) (hgt : GT L set z k mi) : Ci l yX8_nearest cX8_nearest 3 .int 2 G n0 [.ref (n0 + 473)] mi mr (fun r9 mi9 mr9 => NPn L set z mi9 k r9 ∧ (∀ a, a ≠ 485 → mi9 a = mi a) ∧ mr = mr9) := by
  refine Ct_of (by decide +kernel) (by intro v hv; simp at hv; rcases hv with rfl <;> rfl) (Nat.le_of_ble_eq_true rfl) ?_
  intro p e s m args below meth c9 X hr hname
  show WW _ _ _ _ _ _ _ _ _ _ _ _ _ _ _ _ _ _ _ [some (.ref (n0 + 473)), none, none] _
  refine w_bipush X dX8_nearest_0 rfl ?_
  refine w_ist3_1 X dX8_nearest_2 ?_
  refine w_iconst X dX8_nearest_3 ?_
  refine w_ist3_2 X dX8_nearest_4 ?_
  have loop : ∀ (n : Nat) (m1 : Nat → Nat → Int) (c : Nat) (r : Int), (c ≤ k) → (∀ a, a ≠ 485 → m1 a = mi a) → (NPn L set z m1 c r) → n = k - c → WSi p l e s m args below meth c9 2 (fun r9 mi9 mr9 => NPn L set z mi9 k r9 ∧ (∀ a, a ≠ 485 → mi9 a = mi a) ∧ mr = mr9) G n0 3 m1 mr 5 [some (.ref (n0 + 473)), some (.int (jI r)), some (.int (jI (c : Int)))] [] := by
    intro n
    induction n using Nat.strongRecOn with
    | ind n ih_loop =>
      intro m1 c r hc hm hnp hn
      have hnb := NPn_b hnp
      have h23m : m1 473 23 = (k : Int) := by rw [hm 473 (by decide)]; exact h23
      refine w_iload_n X dX8_nearest_5 rfl ?_
      refine w_aload_n X dX8_nearest_6 rfl ?_
      refine w_get X (by decide) (σ_473 G n0 _ _) rfl gW_X8 23 (by decide) gF_X8_185 rfl dX8_nearest_7 ?_
      rw [h23m]
      refine w_icmp_ge X 82 dX8_nearest_10 (by decide) (fun c10_1 => ?_) (fun c10_1 => ?_)
      ·
        refine w_iload_n X dX8_nearest_82 rfl ?_
        refine s_iret X hr dX8_nearest_83 ?_
        exact ⟨NPn_fr (show NPn L set z m1 k r by rw [show k = c by omega]; exact hnp) (fun a h1 h2 => rfl), hm, rfl⟩
      ·
        have hgtm : GT L set z k m1 := GT_fr hgt (fun a h1 h2 => hm a (by omega))
        have hxc := (hgtm.2.1 c (by omega)).1
        refine w_aload_n X dX8_nearest_13 rfl ?_
        refine w_aload_n X dX8_nearest_14 rfl ?_
        refine w_get X (by decide) (σ_473 G n0 _ _) rfl gW_X8 24 (by decide) gF_X8_59 rfl dX8_nearest_15 ?_
        refine w_iload_n X dX8_nearest_18 rfl ?_
        refine s_iald X (c) (by decide) (fun _ => σ_m500 G n0 _ _ (by decide)) dX8_nearest_19 ?_
        refine w_aload_n X dX8_nearest_20 rfl ?_
        refine w_get X (by decide) (σ_473 G n0 _ _) rfl gW_X8 20 (by decide) gF_X8_50 rfl dX8_nearest_21 ?_
        refine s_callVv X _ (c_X8_crowdOf (l := l) (G := G) (n0 := n0) IA_485 (z := m1 488 c) hxc) gM_X8_188 gI_yX8_crowdOf gS_yX8_crowdOf gN_X8 gC_yX8_crowdOf (by decide) (σ_473 G n0 _ _) rfl dX8_nearest_24 hl_yX8_crowdOf ⟨Nat.le_of_ble_eq_true rfl, Nat.le_of_ble_eq_true rfl⟩ (Nat.le_of_ble_eq_true rfl) rfl (fun mi1 mr1 h1 => ?_)
        obtain ⟨hOc, hPc, rfl⟩ := h1
        have hmn : ∀ a, a ≠ 485 → mi1 a = mi a := fun a ha => (hPc a ha).trans (hm a ha)
        have hsT : 1 ≤ mi1 473 2 ∧ mi1 473 2 < 32 := by rw [hmn 473 (by decide), hset]; exact hs32
        have hvT : ∀ j : Nat, j < 5 → 0 ≤ mi1 485 j ∧ mi1 485 j ≤ 1000 := fun j hj => by rw [hOc j hj]; have := dg9_b (m1 488 c) j; omega
        have hnp2 : NPn L set z mi1 c r := NPn_fr hnp (fun a h1 h2 => hPc a (by omega))
        have hfc0 := (hgtm.2.2.2 c (by omega)).1
        have hfe : mi1 490 c = m1 490 c := by rw [hPc 490 (by decide)]
        have hcrc := hgtm.1.1.1 c (by omega)
        have hstq : (∀ j : Nat, j < 5 → mi1 485 j = 0 ∨ btz (mi1 473 2) j = 1) ↔ St L.1 z set (Pm mi1 c) := by
          have e : Pm mi1 c = T9 (m1 488 c) := by unfold Pm; rw [hPc 488 (by decide)]
          rw [e, show mi1 473 2 = set by rw [hmn 473 (by decide)]; exact hset]
          exact St_dg hsc hcrc hOc
        refine w_aload_n X dX8_nearest_27 rfl ?_
        refine w_aload_n X dX8_nearest_28 rfl ?_
        refine w_get X (by decide) (σ_473 G n0 _ _) rfl gW_X8 20 (by decide) gF_X8_50 rfl dX8_nearest_29 ?_
        refine s_callVi X _ (c_X8_isStart (l := l) (G := G) (n0 := n0) hsT IA_485 hvT) gM_X8_192 gI_yX8_isStart gS_yX8_isStart gN_X8 gC_yX8_isStart (by decide) (σ_473 G n0 _ _) rfl dX8_nearest_32 hl_yX8_isStart ⟨Nat.le_of_ble_eq_true rfl, Nat.le_of_ble_eq_true rfl⟩ (Nat.le_of_ble_eq_true rfl) rfl (fun r2 mi2 mr2 h2 => ?_)
        obtain ⟨rfl, rfl, h2⟩ := h2
        have bs := flg_b h2
        have hst := h2
        refine w_if_eq X 74 dX8_nearest_35 (by decide) (fun c35_2 => ?_) (fun c35_2 => ?_)
        ·
          refine w_iload_n X dX8_nearest_74 rfl ?_
          refine w_ist3_1 X dX8_nearest_75 ?_
          refine w_iinc3_2 X dX8_nearest_76 ?_
          refine w_goto X 5 dX8_nearest_79 (by decide) ?_
          exact ih_loop _ (by omega) _ (c + 1) _ (by omega) hmn (NPn_n hnp2 (fun w => absurd (hstq.mpr w) (flg_0 hst (by omega)))) rfl
        ·
          refine w_aload_n X dX8_nearest_38 rfl ?_
          refine w_get X (by decide) (σ_473 G n0 _ _) rfl gW_X8 26 (by decide) gF_X8_66 rfl dX8_nearest_39 ?_
          refine w_iload_n X dX8_nearest_42 rfl ?_
          refine s_iald X (c) (by decide) (fun _ => σ_m500 G n0 _ _ (by decide)) dX8_nearest_43 ?_
          refine w_ldc X (z := 1000000) gK_X8_195 rfl dX8_nearest_44 ?_
          refine w_icmp_ge X 74 dX8_nearest_46 (by decide) (fun c46_3 => ?_) (fun c46_3 => ?_)
          ·
            refine w_iload_n X dX8_nearest_74 rfl ?_
            refine w_ist3_1 X dX8_nearest_75 ?_
            refine w_iinc3_2 X dX8_nearest_76 ?_
            refine w_goto X 5 dX8_nearest_79 (by decide) ?_
            exact ih_loop _ (by omega) _ (c + 1) _ (by omega) hmn (NPn_n hnp2 (fun _ => by omega)) rfl
          ·
            refine w_iload_n X dX8_nearest_49 rfl ?_
            refine w_bipush X dX8_nearest_50 rfl ?_
            refine w_icmp_eq X 70 dX8_nearest_52 (by decide) (fun c52_4 => ?_) (fun c52_4 => ?_)
            ·
              refine w_iload_n X dX8_nearest_70 rfl ?_
              refine w_goto X 75 dX8_nearest_71 (by decide) ?_
              refine w_ist3_1 X dX8_nearest_75 ?_
              refine w_iinc3_2 X dX8_nearest_76 ?_
              refine w_goto X 5 dX8_nearest_79 (by decide) ?_
              exact ih_loop _ (by omega) _ (c + 1) _ (by omega) hmn (NPn_t hnp2 (hstq.mp (flg_1 hst (by omega))) (by omega) (Or.inl (by omega))) rfl
            ·
              obtain ⟨b, rfl⟩ := Int.eq_ofNat_of_zero_le (show 0 ≤ r by omega)
              have hfb0 := (hgtm.2.2.2 b (by omega)).1
              have hfbe : mi1 490 b = m1 490 b := by rw [hPc 490 (by decide)]
              refine w_aload_n X dX8_nearest_55 rfl ?_
              refine w_get X (by decide) (σ_473 G n0 _ _) rfl gW_X8 26 (by decide) gF_X8_66 rfl dX8_nearest_56 ?_
              refine w_iload_n X dX8_nearest_59 rfl ?_
              refine s_iald X (c) (by decide) (fun _ => σ_m500 G n0 _ _ (by decide)) dX8_nearest_60 ?_
              refine w_aload_n X dX8_nearest_61 rfl ?_
              refine w_get X (by decide) (σ_473 G n0 _ _) rfl gW_X8 26 (by decide) gF_X8_66 rfl dX8_nearest_62 ?_
              refine w_iload_n X dX8_nearest_65 rfl ?_
              refine s_iald X (b) (by decide) (fun _ => σ_m500 G n0 _ _ (by decide)) dX8_nearest_66 ?_
              refine w_icmp_ge X 74 dX8_nearest_67 (by decide) (fun c67_5 => ?_) (fun c67_5 => ?_)
              ·
                refine w_iload_n X dX8_nearest_74 rfl ?_
                refine w_ist3_1 X dX8_nearest_75 ?_
                refine w_iinc3_2 X dX8_nearest_76 ?_
                refine w_goto X 5 dX8_nearest_79 (by decide) ?_
                exact ih_loop _ (by omega) _ (c + 1) _ (by omega) hmn (NPn_k hnp2 (by omega)) rfl
              ·
                refine w_iload_n X dX8_nearest_70 rfl ?_
                refine w_goto X 75 dX8_nearest_71 (by decide) ?_
                refine w_ist3_1 X dX8_nearest_75 ?_
                refine w_iinc3_2 X dX8_nearest_76 ?_
                refine w_goto X 5 dX8_nearest_79 (by decide) ?_
                exact ih_loop _ (by omega) _ (c + 1) _ (by omega) hmn (NPn_t hnp2 (hstq.mp (flg_1 hst (by omega))) (by omega) (Or.inr (by rw [Int.toNat_natCast]; omega))) rfl
  exact loop _ mi 0 (-9) (by omega) (fun _ _ => rfl) (Or.inl ⟨rfl, fun i hi => absurd hi (by omega)⟩) rfl
theorem dX8_steps_0 : decode cX8_steps 0 = .ok (.aload_n 0, 1) := by decide +kernel
theorem dX8_steps_1 : decode cX8_steps 1 = .ok (.iconst 0, 1) := by decide +kernel
theorem dX8_steps_2 : decode cX8_steps 2 = .ok (.putfield 73, 3) := by decide +kernel
theorem dX8_steps_5 : decode cX8_steps 5 = .ok (.iload_n 1, 1) := by decide +kernel
theorem dX8_steps_6 : decode cX8_steps 6 = .ok (.i2l, 1) := by decide +kernel
theorem dX8_steps_7 : decode cX8_steps 7 = .ok (.lconst 1, 1) := by decide +kernel
theorem dX8_steps_8 : decode cX8_steps 8 = .ok (.ldc2_w 200, 3) := by decide +kernel
theorem dX8_steps_11 : decode cX8_steps 11 = .ok (.invokestatic 76, 3) := by decide +kernel
theorem dX8_steps_14 : decode cX8_steps 14 = .ok (.ifCond .ne 6, 3) := by decide +kernel
theorem dX8_steps_17 : decode cX8_steps 17 = .ok (.bipush (-2), 2) := by decide +kernel
theorem dX8_steps_19 : decode cX8_steps 19 = .ok (.ireturn, 1) := by decide +kernel
theorem dX8_steps_20 : decode cX8_steps 20 = .ok (.aload_n 0, 1) := by decide +kernel
theorem dX8_steps_21 : decode cX8_steps 21 = .ok (.iload_n 1, 1) := by decide +kernel
theorem dX8_steps_22 : decode cX8_steps 22 = .ok (.invokevirtual 202, 3) := by decide +kernel
theorem dX8_steps_25 : decode cX8_steps 25 = .ok (.aload_n 0, 1) := by decide +kernel
theorem dX8_steps_26 : decode cX8_steps 26 = .ok (.invokevirtual 206, 3) := by decide +kernel
theorem dX8_steps_29 : decode cX8_steps 29 = .ok (.istore_n 2, 1) := by decide +kernel
theorem dX8_steps_30 : decode cX8_steps 30 = .ok (.iload_n 2, 1) := by decide +kernel
theorem dX8_steps_31 : decode cX8_steps 31 = .ok (.bipush (-9), 2) := by decide +kernel
theorem dX8_steps_33 : decode cX8_steps 33 = .ok (.if_icmp .ne 8, 3) := by decide +kernel
theorem dX8_steps_36 : decode cX8_steps 36 = .ok (.bipush (-9), 2) := by decide +kernel
theorem dX8_steps_38 : decode cX8_steps 38 = .ok (.goto 9, 3) := by decide +kernel
theorem dX8_steps_41 : decode cX8_steps 41 = .ok (.aload_n 0, 1) := by decide +kernel
theorem dX8_steps_42 : decode cX8_steps 42 = .ok (.getfield 66, 3) := by decide +kernel
theorem dX8_steps_45 : decode cX8_steps 45 = .ok (.iload_n 2, 1) := by decide +kernel
theorem dX8_steps_46 : decode cX8_steps 46 = .ok (.iaload, 1) := by decide +kernel
theorem dX8_steps_47 : decode cX8_steps 47 = .ok (.ireturn, 1) := by decide +kernel
theorem hl_yX8_steps : (yX8_steps.cls ≠ "java/lang/invoke/MethodHandle" ∧ yX8_steps.cls ≠ "java/lang/invoke/VarHandle") ∧ (parseMethodDescriptor yX8_steps.desc).map (fun d => d.parameters.length) = some 1 := by decide +kernel
set_option maxRecDepth 20000 in
set_option maxHeartbeats 4000000 in
theorem c_X8_steps {l : Launch} {G : Gt} {n0 : Nat} {mi : Nat → Nat → Int} {mr : Nat → Nat → Nat} {L : Lws} {set : Int} {H : V5} {o : Int} (hA : AV L set H) (hV : MV L set H o mi) {z : Int} (hz : rg z) : Ci l yX8_steps cX8_steps 3 .int 5 G n0 [.ref (n0 + 473), .int (jI z)] mi mr (fun r9 mi9 mr9 => ((¬ (1 ≤ z ∧ z ≤ 8) ∧ r9 = -2 ∧ MV L set H o mi9) ∨ ((1 ≤ z ∧ z ≤ 8) ∧ SNP L set z r9 ∧ MV L set H o mi9)) ∧ (∀ a, a < 473 → mi9 a = mi a) ∧ mr = mr9) := by
  refine Ct_of (by decide +kernel) (by intro v hv; simp at hv; rcases hv with rfl | rfl <;> rfl) (Nat.le_of_ble_eq_true rfl) ?_
  intro p e s m args below meth c9 X hr hname
  show WW _ _ _ _ _ _ _ _ _ _ _ _ _ _ _ _ _ _ _ [some (.ref (n0 + 473)), some (.int (jI z)), none] _
  refine w_aload_n X dX8_steps_0 rfl ?_
  refine w_iconst X dX8_steps_1 ?_
  refine w_put X (by decide) (σ_473 G n0 _ _) rfl gW_X8 tyX8 tyX8_ok nmX8 0 (by decide) gF_X8_73 rfl rfl rfl (Nat.le_of_ble_eq_true rfl) dX8_steps_2 (WW.eqf (sp_473_0 _) ?_)
  have hV1 := MV_t hV
  have hfr0 : ∀ a, a < 473 → up2 mi 473 0 0 a = mi a := fun a ha => up2_k _ _ _ _ (by omega)
  generalize up2 mi 473 0 0 = m0 at *
  obtain ⟨hM, hset, hH, hS⟩ := id hV1
  have hM1 := hM.1
  have hM2 := hM.2.1
  have hM3 := hM.2.2.1
  have hsc : 1 ≤ m0 473 1 ∧ m0 473 1 ≤ 5 := by rw [hM1]; exact hA.1.1.1
  have hrc : 0 ≤ m0 473 3 ∧ m0 473 3 ≤ 12 := by rw [hM2]; exact hA.1.2.1
  have hset2 := hA.2.1
  refine w_iload_n X dX8_steps_5 rfl ?_
  refine w_i2l X dX8_steps_6 ?_
  refine w_lconst X dX8_steps_7 1 rfl ?_
  refine w_ldc2 X (z := 8) gK_X8_200 rfl dX8_steps_8 ?_
  refine s_callSi X _ (c_X8_in (l := l) (G := G) (n0 := n0) (by first | assumption | (refine ⟨?_, ?_⟩ <;> omega)) (by first | assumption | (refine ⟨?_, ?_⟩ <;> omega)) (by first | assumption | (refine ⟨?_, ?_⟩ <;> omega))) gM_X8_76 gT_yX8_in gN_X8 gC_yX8_in dX8_steps_11 hl_yX8_in ⟨Nat.le_of_ble_eq_true rfl, Nat.le_of_ble_eq_true rfl⟩ (Nat.le_of_ble_eq_true rfl) rfl (fun r1 mi1 mr1 h1 => ?_)
  obtain ⟨rfl, rfl, h1⟩ := h1
  refine w_if_ne X 20 dX8_steps_14 (by decide) (fun c14_1 => ?_) (fun c14_1 => ?_)
  ·
    have hz8 : 1 ≤ z ∧ z ≤ 8 := by omega
    refine w_aload_n X dX8_steps_20 rfl ?_
    refine w_iload_n X dX8_steps_21 rfl ?_
    refine s_callVv X _ (c_X8_goThrough (l := l) (G := G) (n0 := n0) hA.1 hM hset hset2 hz8) gM_X8_202 gI_yX8_goThrough gS_yX8_goThrough gN_X8 gC_yX8_goThrough (by decide) (σ_473 G n0 _ _) rfl dX8_steps_22 hl_yX8_goThrough ⟨Nat.le_of_ble_eq_true rfl, Nat.le_of_ble_eq_true rfl⟩ (Nat.le_of_ble_eq_true rfl) rfl (fun mi2 mr2 h2 => ?_)
    obtain ⟨⟨k, hk23, hgt⟩, hfg, rfl⟩ := h2
    have hk95 := Inc_l hgt.1.1 (by omega)
    refine w_aload_n X dX8_steps_25 rfl ?_
    refine s_callVi X _ (c_X8_nearest (l := l) (G := G) (n0 := n0) (set := set) (z := z) (k := k) hA.1.1.1 (by rw [hfg.2 2 (by decide)]; exact hset) hset2 hk95 hk23 hgt) gM_X8_206 gI_yX8_nearest gS_yX8_nearest gN_X8 gC_yX8_nearest (by decide) (σ_473 G n0 _ _) rfl dX8_steps_26 hl_yX8_nearest ⟨Nat.le_of_ble_eq_true rfl, Nat.le_of_ble_eq_true rfl⟩ (Nat.le_of_ble_eq_true rfl) rfl (fun r3 mi3 mr3 h3 => ?_)
    obtain ⟨hnp, hmn, rfl⟩ := h3
    have hnb := NPn_b hnp
    refine w_ist3_2 X dX8_steps_29 ?_
    refine w_iload_n X dX8_steps_30 rfl ?_
    refine w_bipush X dX8_steps_31 rfl ?_
    refine w_icmp_ne X 41 dX8_steps_33 (by decide) (fun c33_2 => ?_) (fun c33_2 => ?_)
    ·
      obtain ⟨b, hbq⟩ := Int.eq_ofNat_of_zero_le (show 0 ≤ r3 by omega)
      rw [hbq]
      refine w_aload_n X dX8_steps_41 rfl ?_
      refine w_get X (by decide) (σ_473 G n0 _ _) rfl gW_X8 26 (by decide) gF_X8_66 rfl dX8_steps_42 ?_
      refine w_iload_n X dX8_steps_45 rfl ?_
      refine s_iald X (b) (by decide) (fun _ => σ_m500 G n0 _ _ (by decide)) dX8_steps_46 ?_
      refine s_iret X hr dX8_steps_47 ?_
      exact ⟨Or.inr ⟨hz8, ⟨k, mi3, r3, (GT_fr hgt (fun a h1 h2 => hmn a (by omega))), hnp, by rw [if_neg (by omega), hbq, Int.toNat_natCast]⟩, (MV_g (MV_g hV1 hfg) ⟨fun a h1 h2 => hmn a (by omega), fun j hj => by rw [hmn 473 (by decide)]⟩)⟩, (fun a ha => by rw [hmn a (by omega), hfg.1 a (by omega) (by omega)]; exact hfr0 a ha), rfl⟩
    ·
      refine w_bipush X dX8_steps_36 rfl ?_
      refine w_goto X 47 dX8_steps_38 (by decide) ?_
      refine s_iret X hr dX8_steps_47 ?_
      exact ⟨Or.inr ⟨hz8, ⟨k, mi3, r3, (GT_fr hgt (fun a h1 h2 => hmn a (by omega))), hnp, by rw [if_pos (by omega)]⟩, (MV_g (MV_g hV1 hfg) ⟨fun a h1 h2 => hmn a (by omega), fun j hj => by rw [hmn 473 (by decide)]⟩)⟩, (fun a ha => by rw [hmn a (by omega), hfg.1 a (by omega) (by omega)]; exact hfr0 a ha), rfl⟩
  ·
    refine w_bipush X dX8_steps_17 rfl ?_
    refine s_iret X hr dX8_steps_19 ?_
    exact ⟨Or.inl ⟨by omega, rfl, hV1⟩, hfr0, rfl⟩
theorem dX8_reach_0 : decode cX8_reach 0 = .ok (.aload_n 0, 1) := by decide +kernel
theorem dX8_reach_1 : decode cX8_reach 1 = .ok (.iconst 0, 1) := by decide +kernel
theorem dX8_reach_2 : decode cX8_reach 2 = .ok (.putfield 73, 3) := by decide +kernel
theorem dX8_reach_5 : decode cX8_reach 5 = .ok (.iload_n 1, 1) := by decide +kernel
theorem dX8_reach_6 : decode cX8_reach 6 = .ok (.i2l, 1) := by decide +kernel
theorem dX8_reach_7 : decode cX8_reach 7 = .ok (.lconst 1, 1) := by decide +kernel
theorem dX8_reach_8 : decode cX8_reach 8 = .ok (.ldc2_w 200, 3) := by decide +kernel
theorem dX8_reach_11 : decode cX8_reach 11 = .ok (.invokestatic 76, 3) := by decide +kernel
theorem dX8_reach_14 : decode cX8_reach 14 = .ok (.ifCond .ne 6, 3) := by decide +kernel
theorem dX8_reach_17 : decode cX8_reach 17 = .ok (.bipush (-2), 2) := by decide +kernel
theorem dX8_reach_19 : decode cX8_reach 19 = .ok (.ireturn, 1) := by decide +kernel
theorem dX8_reach_20 : decode cX8_reach 20 = .ok (.aload_n 0, 1) := by decide +kernel
theorem dX8_reach_21 : decode cX8_reach 21 = .ok (.iload_n 1, 1) := by decide +kernel
theorem dX8_reach_22 : decode cX8_reach 22 = .ok (.invokevirtual 202, 3) := by decide +kernel
theorem dX8_reach_25 : decode cX8_reach 25 = .ok (.iconst 0, 1) := by decide +kernel
theorem dX8_reach_26 : decode cX8_reach 26 = .ok (.istore_n 2, 1) := by decide +kernel
theorem dX8_reach_27 : decode cX8_reach 27 = .ok (.iconst 0, 1) := by decide +kernel
theorem dX8_reach_28 : decode cX8_reach 28 = .ok (.istore_n 3, 1) := by decide +kernel
theorem dX8_reach_29 : decode cX8_reach 29 = .ok (.iload_n 3, 1) := by decide +kernel
theorem dX8_reach_30 : decode cX8_reach 30 = .ok (.aload_n 0, 1) := by decide +kernel
theorem dX8_reach_31 : decode cX8_reach 31 = .ok (.getfield 185, 3) := by decide +kernel
theorem dX8_reach_34 : decode cX8_reach 34 = .ok (.if_icmp .ge 26, 3) := by decide +kernel
theorem dX8_reach_37 : decode cX8_reach 37 = .ok (.iload_n 2, 1) := by decide +kernel
theorem dX8_reach_38 : decode cX8_reach 38 = .ok (.aload_n 0, 1) := by decide +kernel
theorem dX8_reach_39 : decode cX8_reach 39 = .ok (.getfield 69, 3) := by decide +kernel
theorem dX8_reach_42 : decode cX8_reach 42 = .ok (.iload_n 3, 1) := by decide +kernel
theorem dX8_reach_43 : decode cX8_reach 43 = .ok (.baload, 1) := by decide +kernel
theorem dX8_reach_44 : decode cX8_reach 44 = .ok (.ifCond .eq 7, 3) := by decide +kernel
theorem dX8_reach_47 : decode cX8_reach 47 = .ok (.iconst 1, 1) := by decide +kernel
theorem dX8_reach_48 : decode cX8_reach 48 = .ok (.goto 4, 3) := by decide +kernel
theorem dX8_reach_51 : decode cX8_reach 51 = .ok (.iconst 0, 1) := by decide +kernel
theorem dX8_reach_52 : decode cX8_reach 52 = .ok (.iadd, 1) := by decide +kernel
theorem dX8_reach_53 : decode cX8_reach 53 = .ok (.istore_n 2, 1) := by decide +kernel
theorem dX8_reach_54 : decode cX8_reach 54 = .ok (.iinc 3 1, 3) := by decide +kernel
theorem dX8_reach_57 : decode cX8_reach 57 = .ok (.goto (-28), 3) := by decide +kernel
theorem dX8_reach_60 : decode cX8_reach 60 = .ok (.iload_n 2, 1) := by decide +kernel
theorem dX8_reach_61 : decode cX8_reach 61 = .ok (.ireturn, 1) := by decide +kernel
theorem hl_yX8_reach : (yX8_reach.cls ≠ "java/lang/invoke/MethodHandle" ∧ yX8_reach.cls ≠ "java/lang/invoke/VarHandle") ∧ (parseMethodDescriptor yX8_reach.desc).map (fun d => d.parameters.length) = some 1 := by decide +kernel
set_option maxRecDepth 20000 in
set_option maxHeartbeats 4000000 in
theorem c_X8_reach {l : Launch} {G : Gt} {n0 : Nat} {mi : Nat → Nat → Int} {mr : Nat → Nat → Nat} {L : Lws} {set : Int} {H : V5} {o : Int} (hA : AV L set H) (hV : MV L set H o mi) {z : Int} (hz : rg z) : Ci l yX8_reach cX8_reach 4 .int 5 G n0 [.ref (n0 + 473), .int (jI z)] mi mr (fun r9 mi9 mr9 => ((¬ (1 ≤ z ∧ z ≤ 8) ∧ r9 = -2 ∧ MV L set H o mi9) ∨ ((1 ≤ z ∧ z ≤ 8) ∧ Num (fun v => (∃ t : Nat, Rk L (St L.1 z set) t v) ∧ True) r9 ∧ MV L set H o mi9)) ∧ (∀ a, a < 473 → mi9 a = mi a) ∧ mr = mr9) := by
  refine Ct_of (by decide +kernel) (by intro v hv; simp at hv; rcases hv with rfl | rfl <;> rfl) (Nat.le_of_ble_eq_true rfl) ?_
  intro p e s m args below meth c9 X hr hname
  show WW _ _ _ _ _ _ _ _ _ _ _ _ _ _ _ _ _ _ _ [some (.ref (n0 + 473)), some (.int (jI z)), none, none] _
  refine w_aload_n X dX8_reach_0 rfl ?_
  refine w_iconst X dX8_reach_1 ?_
  refine w_put X (by decide) (σ_473 G n0 _ _) rfl gW_X8 tyX8 tyX8_ok nmX8 0 (by decide) gF_X8_73 rfl rfl rfl (Nat.le_of_ble_eq_true rfl) dX8_reach_2 (WW.eqf (sp_473_0 _) ?_)
  have hV1 := MV_t hV
  have hfr0 : ∀ a, a < 473 → up2 mi 473 0 0 a = mi a := fun a ha => up2_k _ _ _ _ (by omega)
  generalize up2 mi 473 0 0 = m0 at *
  obtain ⟨hM, hset, hH, hS⟩ := id hV1
  have hM1 := hM.1
  have hM2 := hM.2.1
  have hM3 := hM.2.2.1
  have hsc : 1 ≤ m0 473 1 ∧ m0 473 1 ≤ 5 := by rw [hM1]; exact hA.1.1.1
  have hrc : 0 ≤ m0 473 3 ∧ m0 473 3 ≤ 12 := by rw [hM2]; exact hA.1.2.1
  have hset2 := hA.2.1
  refine w_iload_n X dX8_reach_5 rfl ?_
  refine w_i2l X dX8_reach_6 ?_
  refine w_lconst X dX8_reach_7 1 rfl ?_
  refine w_ldc2 X (z := 8) gK_X8_200 rfl dX8_reach_8 ?_
  refine s_callSi X _ (c_X8_in (l := l) (G := G) (n0 := n0) (by first | assumption | (refine ⟨?_, ?_⟩ <;> omega)) (by first | assumption | (refine ⟨?_, ?_⟩ <;> omega)) (by first | assumption | (refine ⟨?_, ?_⟩ <;> omega))) gM_X8_76 gT_yX8_in gN_X8 gC_yX8_in dX8_reach_11 hl_yX8_in ⟨Nat.le_of_ble_eq_true rfl, Nat.le_of_ble_eq_true rfl⟩ (Nat.le_of_ble_eq_true rfl) rfl (fun r1 mi1 mr1 h1 => ?_)
  obtain ⟨rfl, rfl, h1⟩ := h1
  refine w_if_ne X 20 dX8_reach_14 (by decide) (fun c14_1 => ?_) (fun c14_1 => ?_)
  ·
    have hz8 : 1 ≤ z ∧ z ≤ 8 := by omega
    refine w_aload_n X dX8_reach_20 rfl ?_
    refine w_iload_n X dX8_reach_21 rfl ?_
    refine s_callVv X _ (c_X8_goThrough (l := l) (G := G) (n0 := n0) hA.1 hM hset hset2 hz8) gM_X8_202 gI_yX8_goThrough gS_yX8_goThrough gN_X8 gC_yX8_goThrough (by decide) (σ_473 G n0 _ _) rfl dX8_reach_22 hl_yX8_goThrough ⟨Nat.le_of_ble_eq_true rfl, Nat.le_of_ble_eq_true rfl⟩ (Nat.le_of_ble_eq_true rfl) rfl (fun mi2 mr2 h2 => ?_)
    obtain ⟨⟨k, hk23, hgt⟩, hfg, rfl⟩ := h2
    have hk95 := Inc_l hgt.1.1 (by omega)
    refine w_iconst X dX8_reach_25 ?_
    refine w_ist4_2 X dX8_reach_26 ?_
    refine w_iconst X dX8_reach_27 ?_
    refine w_ist4_3 X dX8_reach_28 ?_
    have loop : ∀ (n : Nat) (i : Nat) (t : Int), (i ≤ k) → (0 ≤ t ∧ t ≤ (i : Int) ∧ t = cnt (fun i => mi2 491 i = 1) i) → n = k - i → WSi p l e s m args below meth c9 5 (fun r9 mi9 mr9 => ((¬ (1 ≤ z ∧ z ≤ 8) ∧ r9 = -2 ∧ MV L set H o mi9) ∨ ((1 ≤ z ∧ z ≤ 8) ∧ Num (fun v => (∃ t : Nat, Rk L (St L.1 z set) t v) ∧ True) r9 ∧ MV L set H o mi9)) ∧ (∀ a, a < 473 → mi9 a = mi a) ∧ mr = mr9) G n0 4 mi2 mr 29 [some (.ref (n0 + 473)), some (.int (jI z)), some (.int (jI t)), some (.int (jI (i : Int)))] [] := by
      intro n
      induction n using Nat.strongRecOn with
      | ind n ih_loop =>
        intro i t hi ht hn
        refine w_iload_n X dX8_reach_29 rfl ?_
        refine w_aload_n X dX8_reach_30 rfl ?_
        refine w_get X (by decide) (σ_473 G n0 _ _) rfl gW_X8 23 (by decide) gF_X8_185 rfl dX8_reach_31 ?_
        rw [hk23]
        refine w_icmp_ge X 60 dX8_reach_34 (by decide) (fun c34_2 => ?_) (fun c34_2 => ?_)
        ·
          refine w_iload_n X dX8_reach_60 rfl ?_
          refine s_iret X hr dX8_reach_61 ?_
          exact ⟨Or.inr ⟨hz8, by rw [ht.2.2, show i = k by omega]; exact GT_num (X := fun _ => True) hA.1.1 hgt (fun i _ => ⟨fun q => ⟨q, trivial⟩, fun q => q.1⟩), MV_g hV1 hfg⟩, fun a ha => (hfg.1 a (by omega) (by omega)).trans (hfr0 a ha), rfl⟩
        ·
          refine w_iload_n X dX8_reach_37 rfl ?_
          refine w_aload_n X dX8_reach_38 rfl ?_
          refine w_get X (by decide) (σ_473 G n0 _ _) rfl gW_X8 27 (by decide) gF_X8_69 rfl dX8_reach_39 ?_
          refine w_iload_n X dX8_reach_42 rfl ?_
          refine s_zald X (i) (by decide) (fun _ => σ_491 G n0 _ _) dX8_reach_43 ?_
          have hg1 := (hgt.2.2.1 i (by omega)).1
          refine w_if_eq X 51 dX8_reach_44 (by decide) (fun c44_3 => ?_) (fun c44_3 => ?_)
          ·
            refine w_iconst X dX8_reach_51 ?_
            refine w_iadd X dX8_reach_52 ?_
            refine w_ist4_2 X dX8_reach_53 ?_
            refine w_iinc4_3 X dX8_reach_54 ?_
            refine w_goto X 29 dX8_reach_57 (by decide) ?_
            have hct := cnt_f (P := fun i => mi2 491 i = 1) (n := i) (by omega)
            exact ih_loop _ (by omega) (i + 1) _ (by omega) ⟨by omega, by omega, by omega⟩ rfl
          ·
            refine w_iconst X dX8_reach_47 ?_
            refine w_goto X 52 dX8_reach_48 (by decide) ?_
            refine w_iadd X dX8_reach_52 ?_
            refine w_ist4_2 X dX8_reach_53 ?_
            refine w_iinc4_3 X dX8_reach_54 ?_
            refine w_goto X 29 dX8_reach_57 (by decide) ?_
            have hct := cnt_t (P := fun i => mi2 491 i = 1) (n := i) (by omega)
            exact ih_loop _ (by omega) (i + 1) _ (by omega) ⟨by omega, by omega, by omega⟩ rfl
    exact loop _ 0 0 (by omega) ⟨by decide, by decide, rfl⟩ rfl
  ·
    refine w_bipush X dX8_reach_17 rfl ?_
    refine s_iret X hr dX8_reach_19 ?_
    exact ⟨Or.inl ⟨by omega, rfl, hV1⟩, hfr0, rfl⟩
