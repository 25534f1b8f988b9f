def FG2 (mi m : Nat → Nat → Int) : Prop := (∀ a, a ≠ 473 → a < 485 ∨ 491 < a → m a = mi a) ∧ ∀ j : Nat, j ≠ 23 → m 473 j = mi 473 j
theorem FG2_t {a b c : Nat → Nat → Int} (h : FG2 a b) (h1 : ∀ x, x < 485 ∨ 491 < x → c x = b x) : FG2 a c := ⟨fun x q1 q2 => (h1 x q2).trans (h.1 x q1 q2), fun j hj => by rw [h1 473 (by decide)]; exact h.2 j hj⟩
theorem FG2_ML {L : Lws} {mi m : Nat → Nat → Int} (hM : ML L mi) (h : FG2 mi m) : ML L m := ML_fr hM (h.2 1 (by decide)) (h.2 3 (by decide)) (h.2 11 (by decide)) (fun a h1 h2 => h.1 a (by omega) (by omega))
def IN0 (L : Lws) (set n : Int) (k : Nat) (m : Nat → Nat → Int) : Prop := ∀ i : Nat, i < k → flg (m 491 i) (St L.1 n set (Pm m i)) ∧ (m 490 i = 0 ∧ Dk L 0 (Pm m i) ∨ m 490 i = 1000000 ∧ ¬ Dk L 0 (Pm m i))
theorem IN0_fr {L : Lws} {set n : Int} {k : Nat} {m m' : Nat → Nat → Int} (h : IN0 L set n k m) (h8 : m' 488 = m 488) (h0 : m' 490 = m 490) (h1 : m' 491 = m 491) : IN0 L set n k m' := by
  unfold IN0 Pm at *
  rw [h8, h0, h1]; exact h
theorem IN0_s {L : Lws} {set n c : Int} {k : Nat} {m m' : Nat → Nat → Int} (h : IN0 L set n k m) (h8 : ∀ j : Nat, m' 488 j = if j = k then c else m 488 j) (h0 : ∀ j : Nat, j ≠ k → m' 490 j = m 490 j) (h1 : ∀ j : Nat, j ≠ k → m' 491 j = m 491 j) (hs : flg (m' 491 k) (St L.1 n set (T9 c))) (hf : m' 490 k = 0 ∧ Dk L 0 (T9 c) ∨ m' 490 k = 1000000 ∧ ¬ Dk L 0 (T9 c)) : IN0 L set n (k + 1) m' := fun i hi => by
  by_cases q : i = k
  · subst q
    have e : Pm m' i = T9 c := by unfold Pm; rw [h8, if_pos rfl]
    rw [e]; exact ⟨hs, hf⟩
  · have e : Pm m' i = Pm m i := by unfold Pm; rw [h8, if_neg q]
    rw [e, h0 i q, h1 i q]; exact h i (by omega)
theorem IN0_XI {L : Lws} {set n : Int} {k : Nat} {m : Nat → Nat → Int} (hn : 1 ≤ n ∧ n ≤ 8) (hc : CLI L n 59049 k m) (h : IN0 L set n k m) : XI L set n k m := by
  refine ⟨CLI_all hn hc, fun i hi => ⟨by have := (hc.1 i hi).1; omega, (hc.1 i hi).2.2⟩, fun i hi => ⟨flg_b (h i hi).1, fun q => ⟨0, flg_1 (h i hi).1 (by omega)⟩, fun q => ?_⟩, fun i hi => ?_⟩
  · rcases (h i hi).1 with ⟨w, -⟩ | ⟨-, w⟩
    · exact w
    · exact absurd q w
  · rcases (h i hi).2 with ⟨a, b⟩ | ⟨a, b⟩
    · rw [a]; exact ⟨by omega, fun _ => b, fun _ => rfl⟩
    · rw [a]; exact ⟨by omega, fun q => by omega, fun q => absurd q b⟩
theorem XI_fr {L : Lws} {set n : Int} {k : Nat} {m m' : Nat → Nat → Int} (h : XI L set n k m) (hf : ∀ a, 488 ≤ a → a ≤ 491 → m' a = m a) : XI L set n k m' := by
  unfold XI Pm at *
  rw [hf 488 (by decide) (by decide), hf 489 (by decide) (by decide), hf 490 (by decide) (by decide), hf 491 (by decide) (by decide)]
  exact h
theorem CLO_fr {L : Lws} {k i j : Nat} {m m' : Nat → Nat → Int} (h : CLO L k m i j) (hf : ∀ a, 488 ≤ a → a ≤ 491 → m' a = m a) : CLO L k m' i j := by
  unfold CLO Pm at *
  rw [hf 488 (by decide) (by decide), hf 490 (by decide) (by decide), hf 491 (by decide) (by decide)]
  exact h
theorem mes_fr {k : Nat} {m m' : Nat → Nat → Int} (hf : ∀ a, 488 ≤ a → a ≤ 491 → m' a = m a) : mes m' k = mes m k := by
  unfold mes
  rw [hf 490 (by decide) (by decide), hf 491 (by decide) (by decide)]
def PSS (L : Lws) (k : Nat) (M : Int) (m : Nat → Nat → Int) (z : Int) (c x : Nat) : Prop := (z = 1 ∧ mes m k < M) ∨ (z = 0 ∧ mes m k ≤ M ∧ (∀ i : Nat, i < c → ∀ j : Nat, (j : Int) < L.2.1 → CLO L k m i j) ∧ ∀ j : Nat, j < x → CLO L k m c j)
theorem PSS_b {L : Lws} {k c x : Nat} {M z : Int} {m : Nat → Nat → Int} (h : PSS L k M m z c x) : (z = 0 ∨ z = 1) ∧ mes m k ≤ M := by rcases h with ⟨q, w⟩ | ⟨q, w, -⟩ <;> omega
theorem PSS_fr {L : Lws} {k c x : Nat} {M z : Int} {m m' : Nat → Nat → Int} (h : PSS L k M m z c x) (hf : ∀ a, 488 ≤ a → a ≤ 491 → m' a = m a) : PSS L k M m' z c x := by
  rcases h with ⟨q, w⟩ | ⟨q, w, w2, w3⟩
  · exact Or.inl ⟨q, by rw [mes_fr hf]; exact w⟩
  · exact Or.inr ⟨q, by rw [mes_fr hf]; exact w, fun i hi j hj => CLO_fr (w2 i hi j hj) hf, fun j hj => CLO_fr (w3 j hj) hf⟩
theorem PSS_x {L : Lws} {k c x : Nat} {M z : Int} {m : Nat → Nat → Int} (h : PSS L k M m z c x) (hc : CLO L k m c x) : PSS L k M m z c (x + 1) := by
  rcases h with h | ⟨q, w, w2, w3⟩
  · exact Or.inl h
  · exact Or.inr ⟨q, w, w2, fun j hj => by rcases (show j < x ∨ j = x by omega) with r | r; exact w3 j r; subst r; exact hc⟩
theorem PSS_c {L : Lws} {k c x : Nat} {M z : Int} {m : Nat → Nat → Int} (h : PSS L k M m z c x) (hx : (x : Int) = L.2.1) : PSS L k M m z (c + 1) 0 := by
  rcases h with h | ⟨q, w, w2, w3⟩
  · exact Or.inl h
  · exact Or.inr ⟨q, w, fun i hi j hj => by rcases (show i < c ∨ i = c by omega) with r | r; exact w2 i r j hj; subst r; exact w3 j (by omega), fun j hj => absurd hj (by omega)⟩
theorem Cro_dg {L : Lws} {n c : Int} (hs : 1 ≤ L.1 ∧ L.1 ≤ 5) : Cro L.1 n (T9 c) ↔ (sm (T9 c) = n ∧ ∀ j : Nat, j < 5 → L.1 ≤ (j : Int) → dg9 c j = 0) := by
  constructor
  · rintro ⟨a, b, d⟩; exact ⟨d, fun j hj hj2 => by have := a j hj hj2; rw [T9_j hj] at this; exact this⟩
  · rintro ⟨a, b⟩; exact ⟨fun j hj hj2 => by rw [T9_j hj]; exact b j hj hj2, fun j hj => by rw [T9_j hj]; exact (dg9_b c j).1, a⟩
theorem St_dg {L : Lws} {n set c : Int} {v : Nat → Int} (hs : 1 ≤ L.1 ∧ L.1 ≤ 5) (hc : Cro L.1 n (T9 c)) (hv : ∀ j : Nat, j < 5 → v j = dg9 c j) : (∀ j : Nat, j < 5 → v j = 0 ∨ btz set j = 1) ↔ St L.1 n set (T9 c) := by
  constructor
  · intro h
    refine ⟨hc, fun j hj => ?_⟩
    have q := h j (by omega)
    rw [hv j (by omega)] at q
    rw [T9_j (by omega)]
    rcases q with q | q
    · exact Or.inl (by omega)
    · exact Or.inr q
  · rintro ⟨-, h⟩ j hj
    rw [hv j hj]
    by_cases q : (j : Int) < L.1
    · have w := h j q
      rw [T9_j hj] at w
      have := (dg9_b c j).1
      rcases w with w | w
      · exact Or.inl (by omega)
      · exact Or.inr w
    · exact Or.inl (by have := hc.1 j hj (by omega); rw [T9_j hj] at this; exact this)
theorem Bad_dg {L : Lws} {n c : Int} {v : Nat → Int} (hc : Cro L.1 n (T9 c)) (hv : ∀ j : Nat, j < 5 → v j = dg9 c j) : (∃ b : Nat, (b : Int) < L.2.2.1 ∧ ∀ j : Nat, j < 5 → F5 (L.2.2.2.2 b) j ≤ v j) ↔ Dk L 0 (T9 c) := by
  constructor
  · rintro ⟨b, b1, b2⟩; exact ⟨hc.1, b, b1, gv_i.mpr (fun j hj => by rw [T9_j hj, ← hv j hj]; exact b2 j hj)⟩
  · rintro ⟨-, b, b1, b2⟩; exact ⟨b, b1, fun j hj => by have := gv_i.mp b2 j hj; rw [T9_j hj, ← hv j hj] at this; exact this⟩
theorem dX8_goThrough_0 : decode cX8_goThrough 0 = .ok (.aload_n 0, 1) := by decide +kernel
theorem dX8_goThrough_1 : decode cX8_goThrough 1 = .ok (.iconst 0, 1) := by decide +kernel
theorem dX8_goThrough_2 : decode cX8_goThrough 2 = .ok (.putfield 185, 3) := by decide +kernel
theorem dX8_goThrough_5 : decode cX8_goThrough 5 = .ok (.iconst 0, 1) := by decide +kernel
theorem dX8_goThrough_6 : decode cX8_goThrough 6 = .ok (.istore_n 2, 1) := by decide +kernel
theorem dX8_goThrough_7 : decode cX8_goThrough 7 = .ok (.iload_n 2, 1) := by decide +kernel
theorem dX8_goThrough_8 : decode cX8_goThrough 8 = .ok (.ldc 62, 2) := by decide +kernel
theorem dX8_goThrough_10 : decode cX8_goThrough 10 = .ok (.if_icmp .ge 159, 3) := by decide +kernel
theorem dX8_goThrough_13 : decode cX8_goThrough 13 = .ok (.aload_n 0, 1) := by decide +kernel
theorem dX8_goThrough_14 : decode cX8_goThrough 14 = .ok (.getfield 63, 3) := by decide +kernel
theorem dX8_goThrough_17 : decode cX8_goThrough 17 = .ok (.iload_n 2, 1) := by decide +kernel
theorem dX8_goThrough_18 : decode cX8_goThrough 18 = .ok (.bipush (-9), 2) := by decide +kernel
theorem dX8_goThrough_20 : decode cX8_goThrough 20 = .ok (.iastore, 1) := by decide +kernel
theorem dX8_goThrough_21 : decode cX8_goThrough 21 = .ok (.aload_n 0, 1) := by decide +kernel
theorem dX8_goThrough_22 : decode cX8_goThrough 22 = .ok (.iload_n 2, 1) := by decide +kernel
theorem dX8_goThrough_23 : decode cX8_goThrough 23 = .ok (.aload_n 0, 1) := by decide +kernel
theorem dX8_goThrough_24 : decode cX8_goThrough 24 = .ok (.getfield 50, 3) := by decide +kernel
theorem dX8_goThrough_27 : decode cX8_goThrough 27 = .ok (.invokevirtual 188, 3) := by decide +kernel
theorem dX8_goThrough_30 : decode cX8_goThrough 30 = .ok (.aload_n 0, 1) := by decide +kernel
theorem dX8_goThrough_31 : decode cX8_goThrough 31 = .ok (.getfield 50, 3) := by decide +kernel
theorem dX8_goThrough_34 : decode cX8_goThrough 34 = .ok (.iconst 0, 1) := by decide +kernel
theorem dX8_goThrough_35 : decode cX8_goThrough 35 = .ok (.invokestatic 116, 3) := by decide +kernel
theorem dX8_goThrough_38 : decode cX8_goThrough 38 = .ok (.iload_n 1, 1) := by decide +kernel
theorem dX8_goThrough_39 : decode cX8_goThrough 39 = .ok (.if_icmp .ne 7, 3) := by decide +kernel
theorem dX8_goThrough_42 : decode cX8_goThrough 42 = .ok (.iconst 1, 1) := by decide +kernel
theorem dX8_goThrough_43 : decode cX8_goThrough 43 = .ok (.goto 4, 3) := by decide +kernel
theorem dX8_goThrough_46 : decode cX8_goThrough 46 = .ok (.iconst 0, 1) := by decide +kernel
theorem dX8_goThrough_47 : decode cX8_goThrough 47 = .ok (.istore_n 3, 1) := by decide +kernel
theorem dX8_goThrough_48 : decode cX8_goThrough 48 = .ok (.aload_n 0, 1) := by decide +kernel
theorem dX8_goThrough_49 : decode cX8_goThrough 49 = .ok (.getfield 7, 3) := by decide +kernel
theorem dX8_goThrough_52 : decode cX8_goThrough 52 = .ok (.istore 4, 2) := by decide +kernel
theorem dX8_goThrough_54 : decode cX8_goThrough 54 = .ok (.iload 4, 2) := by decide +kernel
theorem dX8_goThrough_56 : decode cX8_goThrough 56 = .ok (.iconst 5, 1) := by decide +kernel
theorem dX8_goThrough_57 : decode cX8_goThrough 57 = .ok (.if_icmp .ge 29, 3) := by decide +kernel
theorem dX8_goThrough_60 : decode cX8_goThrough 60 = .ok (.iload_n 3, 1) := by decide +kernel
theorem dX8_goThrough_61 : decode cX8_goThrough 61 = .ok (.ifCond .eq 17, 3) := by decide +kernel
theorem dX8_goThrough_64 : decode cX8_goThrough 64 = .ok (.aload_n 0, 1) := by decide +kernel
theorem dX8_goThrough_65 : decode cX8_goThrough 65 = .ok (.getfield 50, 3) := by decide +kernel
theorem dX8_goThrough_68 : decode cX8_goThrough 68 = .ok (.iload 4, 2) := by decide +kernel
theorem dX8_goThrough_70 : decode cX8_goThrough 70 = .ok (.iaload, 1) := by decide +kernel
theorem dX8_goThrough_71 : decode cX8_goThrough 71 = .ok (.ifCond .ne 7, 3) := by decide +kernel
theorem dX8_goThrough_74 : decode cX8_goThrough 74 = .ok (.iconst 1, 1) := by decide +kernel
theorem dX8_goThrough_75 : decode cX8_goThrough 75 = .ok (.goto 4, 3) := by decide +kernel
theorem dX8_goThrough_78 : decode cX8_goThrough 78 = .ok (.iconst 0, 1) := by decide +kernel
theorem dX8_goThrough_79 : decode cX8_goThrough 79 = .ok (.istore_n 3, 1) := by decide +kernel
theorem dX8_goThrough_80 : decode cX8_goThrough 80 = .ok (.iinc 4 1, 3) := by decide +kernel
theorem dX8_goThrough_83 : decode cX8_goThrough 83 = .ok (.goto (-29), 3) := by decide +kernel
theorem dX8_goThrough_86 : decode cX8_goThrough 86 = .ok (.iload_n 3, 1) := by decide +kernel
theorem dX8_goThrough_87 : decode cX8_goThrough 87 = .ok (.ifCond .eq 76, 3) := by decide +kernel
theorem dX8_goThrough_90 : decode cX8_goThrough 90 = .ok (.aload_n 0, 1) := by decide +kernel
theorem dX8_goThrough_91 : decode cX8_goThrough 91 = .ok (.getfield 63, 3) := by decide +kernel
theorem dX8_goThrough_94 : decode cX8_goThrough 94 = .ok (.iload_n 2, 1) := by decide +kernel
theorem dX8_goThrough_95 : decode cX8_goThrough 95 = .ok (.aload_n 0, 1) := by decide +kernel
theorem dX8_goThrough_96 : decode cX8_goThrough 96 = .ok (.getfield 185, 3) := by decide +kernel
theorem dX8_goThrough_99 : decode cX8_goThrough 99 = .ok (.iastore, 1) := by decide +kernel
theorem dX8_goThrough_100 : decode cX8_goThrough 100 = .ok (.aload_n 0, 1) := by decide +kernel
theorem dX8_goThrough_101 : decode cX8_goThrough 101 = .ok (.getfield 59, 3) := by decide +kernel
theorem dX8_goThrough_104 : decode cX8_goThrough 104 = .ok (.aload_n 0, 1) := by decide +kernel
theorem dX8_goThrough_105 : decode cX8_goThrough 105 = .ok (.getfield 185, 3) := by decide +kernel
theorem dX8_goThrough_108 : decode cX8_goThrough 108 = .ok (.iload_n 2, 1) := by decide +kernel
theorem dX8_goThrough_109 : decode cX8_goThrough 109 = .ok (.iastore, 1) := by decide +kernel
theorem dX8_goThrough_110 : decode cX8_goThrough 110 = .ok (.aload_n 0, 1) := by decide +kernel
theorem dX8_goThrough_111 : decode cX8_goThrough 111 = .ok (.getfield 69, 3) := by decide +kernel
theorem dX8_goThrough_114 : decode cX8_goThrough 114 = .ok (.aload_n 0, 1) := by decide +kernel
theorem dX8_goThrough_115 : decode cX8_goThrough 115 = .ok (.getfield 185, 3) := by decide +kernel
theorem dX8_goThrough_118 : decode cX8_goThrough 118 = .ok (.aload_n 0, 1) := by decide +kernel
theorem dX8_goThrough_119 : decode cX8_goThrough 119 = .ok (.aload_n 0, 1) := by decide +kernel
theorem dX8_goThrough_120 : decode cX8_goThrough 120 = .ok (.getfield 50, 3) := by decide +kernel
theorem dX8_goThrough_123 : decode cX8_goThrough 123 = .ok (.invokevirtual 192, 3) := by decide +kernel
theorem dX8_goThrough_126 : decode cX8_goThrough 126 = .ok (.bastore, 1) := by decide +kernel
theorem dX8_goThrough_127 : decode cX8_goThrough 127 = .ok (.aload_n 0, 1) := by decide +kernel
theorem dX8_goThrough_128 : decode cX8_goThrough 128 = .ok (.getfield 66, 3) := by decide +kernel
theorem dX8_goThrough_131 : decode cX8_goThrough 131 = .ok (.aload_n 0, 1) := by decide +kernel
theorem dX8_goThrough_132 : decode cX8_goThrough 132 = .ok (.getfield 185, 3) := by decide +kernel
theorem dX8_goThrough_135 : decode cX8_goThrough 135 = .ok (.aload_n 0, 1) := by decide +kernel
theorem dX8_goThrough_136 : decode cX8_goThrough 136 = .ok (.aload_n 0, 1) := by decide +kernel
theorem dX8_goThrough_137 : decode cX8_goThrough 137 = .ok (.getfield 50, 3) := by decide +kernel
theorem dX8_goThrough_140 : decode cX8_goThrough 140 = .ok (.invokevirtual 124, 3) := by decide +kernel
theorem dX8_goThrough_143 : decode cX8_goThrough 143 = .ok (.ifCond .eq 7, 3) := by decide +kernel
theorem dX8_goThrough_146 : decode cX8_goThrough 146 = .ok (.iconst 0, 1) := by decide +kernel
theorem dX8_goThrough_147 : decode cX8_goThrough 147 = .ok (.goto 5, 3) := by decide +kernel
theorem dX8_goThrough_150 : decode cX8_goThrough 150 = .ok (.ldc 195, 2) := by decide +kernel
theorem dX8_goThrough_152 : decode cX8_goThrough 152 = .ok (.iastore, 1) := by decide +kernel
theorem dX8_goThrough_153 : decode cX8_goThrough 153 = .ok (.aload_n 0, 1) := by decide +kernel
theorem dX8_goThrough_154 : decode cX8_goThrough 154 = .ok (.dup, 1) := by decide +kernel
theorem dX8_goThrough_155 : decode cX8_goThrough 155 = .ok (.getfield 185, 3) := by decide +kernel
theorem dX8_goThrough_158 : decode cX8_goThrough 158 = .ok (.iconst 1, 1) := by decide +kernel
theorem dX8_goThrough_159 : decode cX8_goThrough 159 = .ok (.iadd, 1) := by decide +kernel
theorem dX8_goThrough_160 : decode cX8_goThrough 160 = .ok (.putfield 185, 3) := by decide +kernel
theorem dX8_goThrough_163 : decode cX8_goThrough 163 = .ok (.iinc 2 1, 3) := by decide +kernel
theorem dX8_goThrough_166 : decode cX8_goThrough 166 = .ok (.goto (-159), 3) := by decide +kernel
theorem dX8_goThrough_169 : decode cX8_goThrough 169 = .ok (.iconst 1, 1) := by decide +kernel
theorem dX8_goThrough_170 : decode cX8_goThrough 170 = .ok (.istore_n 2, 1) := by decide +kernel
theorem dX8_goThrough_171 : decode cX8_goThrough 171 = .ok (.iload_n 2, 1) := by decide +kernel
theorem dX8_goThrough_172 : decode cX8_goThrough 172 = .ok (.ifCond .eq 205, 3) := by decide +kernel
theorem dX8_goThrough_175 : decode cX8_goThrough 175 = .ok (.iconst 0, 1) := by decide +kernel
theorem dX8_goThrough_176 : decode cX8_goThrough 176 = .ok (.istore_n 2, 1) := by decide +kernel
theorem dX8_goThrough_177 : decode cX8_goThrough 177 = .ok (.iconst 0, 1) := by decide +kernel
theorem dX8_goThrough_178 : decode cX8_goThrough 178 = .ok (.istore_n 3, 1) := by decide +kernel
theorem dX8_goThrough_179 : decode cX8_goThrough 179 = .ok (.iload_n 3, 1) := by decide +kernel
theorem dX8_goThrough_180 : decode cX8_goThrough 180 = .ok (.aload_n 0, 1) := by decide +kernel
theorem dX8_goThrough_181 : decode cX8_goThrough 181 = .ok (.getfield 185, 3) := by decide +kernel
theorem dX8_goThrough_184 : decode cX8_goThrough 184 = .ok (.if_icmp .ge 190, 3) := by decide +kernel
theorem dX8_goThrough_187 : decode cX8_goThrough 187 = .ok (.aload_n 0, 1) := by decide +kernel
theorem dX8_goThrough_188 : decode cX8_goThrough 188 = .ok (.aload_n 0, 1) := by decide +kernel
theorem dX8_goThrough_189 : decode cX8_goThrough 189 = .ok (.getfield 59, 3) := by decide +kernel
theorem dX8_goThrough_192 : decode cX8_goThrough 192 = .ok (.iload_n 3, 1) := by decide +kernel
theorem dX8_goThrough_193 : decode cX8_goThrough 193 = .ok (.iaload, 1) := by decide +kernel
theorem dX8_goThrough_194 : decode cX8_goThrough 194 = .ok (.aload_n 0, 1) := by decide +kernel
theorem dX8_goThrough_195 : decode cX8_goThrough 195 = .ok (.getfield 50, 3) := by decide +kernel
theorem dX8_goThrough_198 : decode cX8_goThrough 198 = .ok (.invokevirtual 188, 3) := by decide +kernel
theorem dX8_goThrough_201 : decode cX8_goThrough 201 = .ok (.iconst 0, 1) := by decide +kernel
theorem dX8_goThrough_202 : decode cX8_goThrough 202 = .ok (.istore 4, 2) := by decide +kernel
theorem dX8_goThrough_204 : decode cX8_goThrough 204 = .ok (.iload 4, 2) := by decide +kernel
theorem dX8_goThrough_206 : decode cX8_goThrough 206 = .ok (.aload_n 0, 1) := by decide +kernel
theorem dX8_goThrough_207 : decode cX8_goThrough 207 = .ok (.getfield 80, 3) := by decide +kernel
theorem dX8_goThrough_210 : decode cX8_goThrough 210 = .ok (.if_icmp .ge 158, 3) := by decide +kernel
theorem dX8_goThrough_213 : decode cX8_goThrough 213 = .ok (.aload_n 0, 1) := by decide +kernel
theorem dX8_goThrough_214 : decode cX8_goThrough 214 = .ok (.aload_n 0, 1) := by decide +kernel
theorem dX8_goThrough_215 : decode cX8_goThrough 215 = .ok (.getfield 50, 3) := by decide +kernel
theorem dX8_goThrough_218 : decode cX8_goThrough 218 = .ok (.iload 4, 2) := by decide +kernel
theorem dX8_goThrough_220 : decode cX8_goThrough 220 = .ok (.invokevirtual 106, 3) := by decide +kernel
theorem dX8_goThrough_223 : decode cX8_goThrough 223 = .ok (.ifCond .eq 139, 3) := by decide +kernel
theorem dX8_goThrough_226 : decode cX8_goThrough 226 = .ok (.aload_n 0, 1) := by decide +kernel
theorem dX8_goThrough_227 : decode cX8_goThrough 227 = .ok (.aload_n 0, 1) := by decide +kernel
theorem dX8_goThrough_228 : decode cX8_goThrough 228 = .ok (.getfield 50, 3) := by decide +kernel
theorem dX8_goThrough_231 : decode cX8_goThrough 231 = .ok (.iload 4, 2) := by decide +kernel
theorem dX8_goThrough_233 : decode cX8_goThrough 233 = .ok (.invokevirtual 120, 3) := by decide +kernel
theorem dX8_goThrough_236 : decode cX8_goThrough 236 = .ok (.aload_n 0, 1) := by decide +kernel
theorem dX8_goThrough_237 : decode cX8_goThrough 237 = .ok (.getfield 63, 3) := by decide +kernel
theorem dX8_goThrough_240 : decode cX8_goThrough 240 = .ok (.aload_n 0, 1) := by decide +kernel
theorem dX8_goThrough_241 : decode cX8_goThrough 241 = .ok (.getfield 56, 3) := by decide +kernel
theorem dX8_goThrough_244 : decode cX8_goThrough 244 = .ok (.invokestatic 196, 3) := by decide +kernel
theorem dX8_goThrough_247 : decode cX8_goThrough 247 = .ok (.iaload, 1) := by decide +kernel
theorem dX8_goThrough_248 : decode cX8_goThrough 248 = .ok (.istore 5, 2) := by decide +kernel
theorem dX8_goThrough_250 : decode cX8_goThrough 250 = .ok (.aload_n 0, 1) := by decide +kernel
theorem dX8_goThrough_251 : decode cX8_goThrough 251 = .ok (.getfield 69, 3) := by decide +kernel
theorem dX8_goThrough_254 : decode cX8_goThrough 254 = .ok (.iload_n 3, 1) := by decide +kernel
theorem dX8_goThrough_255 : decode cX8_goThrough 255 = .ok (.baload, 1) := by decide +kernel
theorem dX8_goThrough_256 : decode cX8_goThrough 256 = .ok (.ifCond .eq 13, 3) := by decide +kernel
theorem dX8_goThrough_259 : decode cX8_goThrough 259 = .ok (.aload_n 0, 1) := by decide +kernel
theorem dX8_goThrough_260 : decode cX8_goThrough 260 = .ok (.getfield 69, 3) := by decide +kernel
theorem dX8_goThrough_263 : decode cX8_goThrough 263 = .ok (.iload 5, 2) := by decide +kernel
theorem dX8_goThrough_265 : decode cX8_goThrough 265 = .ok (.baload, 1) := by decide +kernel
theorem dX8_goThrough_266 : decode cX8_goThrough 266 = .ok (.ifCond .eq 21, 3) := by decide +kernel
theorem dX8_goThrough_269 : decode cX8_goThrough 269 = .ok (.aload_n 0, 1) := by decide +kernel
theorem dX8_goThrough_270 : decode cX8_goThrough 270 = .ok (.getfield 66, 3) := by decide +kernel
theorem dX8_goThrough_273 : decode cX8_goThrough 273 = .ok (.iload 5, 2) := by decide +kernel
theorem dX8_goThrough_275 : decode cX8_goThrough 275 = .ok (.iaload, 1) := by decide +kernel
theorem dX8_goThrough_276 : decode cX8_goThrough 276 = .ok (.iconst 1, 1) := by decide +kernel
theorem dX8_goThrough_277 : decode cX8_goThrough 277 = .ok (.iadd, 1) := by decide +kernel
theorem dX8_goThrough_278 : decode cX8_goThrough 278 = .ok (.aload_n 0, 1) := by decide +kernel
theorem dX8_goThrough_279 : decode cX8_goThrough 279 = .ok (.getfield 66, 3) := by decide +kernel
theorem dX8_goThrough_282 : decode cX8_goThrough 282 = .ok (.iload_n 3, 1) := by decide +kernel
theorem dX8_goThrough_283 : decode cX8_goThrough 283 = .ok (.iaload, 1) := by decide +kernel
theorem dX8_goThrough_284 : decode cX8_goThrough 284 = .ok (.if_icmp .ge 78, 3) := by decide +kernel
theorem dX8_goThrough_287 : decode cX8_goThrough 287 = .ok (.aload_n 0, 1) := by decide +kernel
theorem dX8_goThrough_288 : decode cX8_goThrough 288 = .ok (.getfield 69, 3) := by decide +kernel
theorem dX8_goThrough_291 : decode cX8_goThrough 291 = .ok (.iload 5, 2) := by decide +kernel
theorem dX8_goThrough_293 : decode cX8_goThrough 293 = .ok (.aload_n 0, 1) := by decide +kernel
theorem dX8_goThrough_294 : decode cX8_goThrough 294 = .ok (.getfield 69, 3) := by decide +kernel
theorem dX8_goThrough_297 : decode cX8_goThrough 297 = .ok (.iload 5, 2) := by decide +kernel
theorem dX8_goThrough_299 : decode cX8_goThrough 299 = .ok (.baload, 1) := by decide +kernel
theorem dX8_goThrough_300 : decode cX8_goThrough 300 = .ok (.ifCond .ne 12, 3) := by decide +kernel
theorem dX8_goThrough_303 : decode cX8_goThrough 303 = .ok (.aload_n 0, 1) := by decide +kernel
theorem dX8_goThrough_304 : decode cX8_goThrough 304 = .ok (.getfield 69, 3) := by decide +kernel
theorem dX8_goThrough_307 : decode cX8_goThrough 307 = .ok (.iload_n 3, 1) := by decide +kernel
theorem dX8_goThrough_308 : decode cX8_goThrough 308 = .ok (.baload, 1) := by decide +kernel
theorem dX8_goThrough_309 : decode cX8_goThrough 309 = .ok (.ifCond .eq 7, 3) := by decide +kernel
theorem dX8_goThrough_312 : decode cX8_goThrough 312 = .ok (.iconst 1, 1) := by decide +kernel
theorem dX8_goThrough_313 : decode cX8_goThrough 313 = .ok (.goto 4, 3) := by decide +kernel
theorem dX8_goThrough_316 : decode cX8_goThrough 316 = .ok (.iconst 0, 1) := by decide +kernel
theorem dX8_goThrough_317 : decode cX8_goThrough 317 = .ok (.bastore, 1) := by decide +kernel
theorem dX8_goThrough_318 : decode cX8_goThrough 318 = .ok (.aload_n 0, 1) := by decide +kernel
theorem dX8_goThrough_319 : decode cX8_goThrough 319 = .ok (.getfield 66, 3) := by decide +kernel
theorem dX8_goThrough_322 : decode cX8_goThrough 322 = .ok (.iload_n 3, 1) := by decide +kernel
theorem dX8_goThrough_323 : decode cX8_goThrough 323 = .ok (.aload_n 0, 1) := by decide +kernel
theorem dX8_goThrough_324 : decode cX8_goThrough 324 = .ok (.getfield 66, 3) := by decide +kernel
theorem dX8_goThrough_327 : decode cX8_goThrough 327 = .ok (.iload 5, 2) := by decide +kernel
theorem dX8_goThrough_329 : decode cX8_goThrough 329 = .ok (.iaload, 1) := by decide +kernel
theorem dX8_goThrough_330 : decode cX8_goThrough 330 = .ok (.iconst 1, 1) := by decide +kernel
theorem dX8_goThrough_331 : decode cX8_goThrough 331 = .ok (.iadd, 1) := by decide +kernel
theorem dX8_goThrough_332 : decode cX8_goThrough 332 = .ok (.aload_n 0, 1) := by decide +kernel
theorem dX8_goThrough_333 : decode cX8_goThrough 333 = .ok (.getfield 66, 3) := by decide +kernel
theorem dX8_goThrough_336 : decode cX8_goThrough 336 = .ok (.iload_n 3, 1) := by decide +kernel
theorem dX8_goThrough_337 : decode cX8_goThrough 337 = .ok (.iaload, 1) := by decide +kernel
theorem dX8_goThrough_338 : decode cX8_goThrough 338 = .ok (.if_icmp .ge 15, 3) := by decide +kernel
theorem dX8_goThrough_341 : decode cX8_goThrough 341 = .ok (.aload_n 0, 1) := by decide +kernel
theorem dX8_goThrough_342 : decode cX8_goThrough 342 = .ok (.getfield 66, 3) := by decide +kernel
theorem dX8_goThrough_345 : decode cX8_goThrough 345 = .ok (.iload 5, 2) := by decide +kernel
theorem dX8_goThrough_347 : decode cX8_goThrough 347 = .ok (.iaload, 1) := by decide +kernel
theorem dX8_goThrough_348 : decode cX8_goThrough 348 = .ok (.iconst 1, 1) := by decide +kernel
theorem dX8_goThrough_349 : decode cX8_goThrough 349 = .ok (.iadd, 1) := by decide +kernel
theorem dX8_goThrough_350 : decode cX8_goThrough 350 = .ok (.goto 9, 3) := by decide +kernel
theorem dX8_goThrough_353 : decode cX8_goThrough 353 = .ok (.aload_n 0, 1) := by decide +kernel
theorem dX8_goThrough_354 : decode cX8_goThrough 354 = .ok (.getfield 66, 3) := by decide +kernel
theorem dX8_goThrough_357 : decode cX8_goThrough 357 = .ok (.iload_n 3, 1) := by decide +kernel
theorem dX8_goThrough_358 : decode cX8_goThrough 358 = .ok (.iaload, 1) := by decide +kernel
theorem dX8_goThrough_359 : decode cX8_goThrough 359 = .ok (.iastore, 1) := by decide +kernel
theorem dX8_goThrough_360 : decode cX8_goThrough 360 = .ok (.iconst 1, 1) := by decide +kernel
theorem dX8_goThrough_361 : decode cX8_goThrough 361 = .ok (.istore_n 2, 1) := by decide +kernel
theorem dX8_goThrough_362 : decode cX8_goThrough 362 = .ok (.iinc 4 1, 3) := by decide +kernel
theorem dX8_goThrough_365 : decode cX8_goThrough 365 = .ok (.goto (-161), 3) := by decide +kernel
theorem dX8_goThrough_368 : decode cX8_goThrough 368 = .ok (.iinc 3 1, 3) := by decide +kernel
theorem dX8_goThrough_371 : decode cX8_goThrough 371 = .ok (.goto (-192), 3) := by decide +kernel
theorem dX8_goThrough_374 : decode cX8_goThrough 374 = .ok (.goto (-203), 3) := by decide +kernel
theorem dX8_goThrough_377 : decode cX8_goThrough 377 = .ok (.return_, 1) := by decide +kernel
theorem hl_yX8_goThrough : (yX8_goThrough.cls ≠ "java/lang/invoke/MethodHandle" ∧ yX8_goThrough.cls ≠ "java/lang/invoke/VarHandle") ∧ (parseMethodDescriptor yX8_goThrough.desc).map (fun d => d.parameters.length) = some 1 := by decide +kernel
set_option maxRecDepth 20000 in
set_option maxHeartbeats 4000000 in
theorem c_X8_goThrough {l : Launch} {G : Gt} {n0 : Nat} {mi : Nat → Nat → Int} {mr : Nat → Nat → Nat} {L : Lws} (hA : AB L) (hM : ML L mi) {set : Int} (hset : mi 473 2 = set) (hs32 : 1 ≤ set ∧ set < 32) {z : Int} (hz : 1 ≤ z ∧ z ≤ 8) : Cv l yX8_goThrough cX8_goThrough 6 4 G n0 [.ref (n0 + 473), .int (jI z)] mi mr (fun mi9 mr9 => (∃ k : Nat, mi9 473 23 = (k : Int) ∧ GT L set z k mi9) ∧ FG2 mi mi9 ∧ mr = mr9) := by
  refine Ct_of (by decide +kernel) (by intro v hv; simp at hv; rcases hv with rfl | rfl <;> rfl) (Nat.le_of_ble_eq_true rfl) ?_
  intro p e s m args below meth c9 X hr hname
  show WW _ _ _ _ _ _ _ _ _ _ _ _ _ _ _ _ _ _ _ [some (.ref (n0 + 473)), some (.int (jI z)), none, none, none, none] _
  have hsc := hA.1.1
  have hrc := hA.2.1
  have hM1 := hM.1
  refine w_aload_n X dX8_goThrough_0 rfl ?_
  refine w_iconst X dX8_goThrough_1 ?_
  refine w_put X (by decide) (σ_473 G n0 _ _) rfl gW_X8 tyX8 tyX8_ok nmX8 23 (by decide) gF_X8_185 rfl rfl rfl (Nat.le_of_ble_eq_true rfl) dX8_goThrough_2 (WW.eqf (sp_473_23 _) ?_)
  have hfs0 : FG2 mi (up2 mi 473 23 0) := ⟨fun a h1 _ => up2_k _ _ _ _ h1, fun j hj => up2_j _ _ _ _ hj⟩
  have h230 : (up2 mi 473 23 0) 473 23 = ((0 : Nat) : Int) := up2_s _ _ _ _
  generalize (up2 mi 473 23 0) = m0 at *
  refine w_iconst X dX8_goThrough_5 ?_
  refine w_ist6_2 X dX8_goThrough_6 ?_
  have ploop : ∀ (n : Nat) (m1 : Nat → Nat → Int) (k c : Nat) (x3 x4 x5 : Option Value), (c ≤ 59049) → (FG2 mi m1) → (m1 473 23 = (k : Int)) → (CLI L z (c : Int) k m1) → (IN0 L set z k m1) → n = 59049 - c → WSv p l e s m args below meth c9 4 (fun mi9 mr9 => (∃ k : Nat, mi9 473 23 = (k : Int) ∧ GT L set z k mi9) ∧ FG2 mi mi9 ∧ mr = mr9) G n0 6 m1 mr 7 [some (.ref (n0 + 473)), some (.int (jI z)), some (.int (jI (c : Int))), x3, x4, x5] [] := by
    intro n
    induction n using Nat.strongRecOn with
    | ind n ih_ploop =>
      intro m1 k c x3 x4 x5 hc hfs h23 hcli hin hn
      refine w_iload_n X dX8_goThrough_7 rfl ?_
      refine w_ldc X (z := 59049) gK_X8_62 rfl dX8_goThrough_8 ?_
      refine w_icmp_ge X 169 dX8_goThrough_10 (by decide) (fun c10_1 => ?_) (fun c10_1 => ?_)
      ·
        have hc9 : c = 59049 := by omega
        subst hc9
        have hk95 := CLI_l hz (by omega) hcli
        have hxi0 := IN0_XI hz hcli hin
        refine w_iconst X dX8_goThrough_169 ?_
        refine w_ist6_2 X dX8_goThrough_170 ?_
        have wloop : ∀ (n : Nat) (m1 : Nat → Nat → Int) (w2 : Int) (x3 x4 x5 : Option Value), (FG2 mi m1) → (m1 473 23 = (k : Int)) → (XI L set z k m1) → (w2 = 0 ∧ (∀ i : Nat, i < k → ∀ j : Nat, (j : Int) < L.2.1 → CLO L k m1 i j) ∨ w2 = 1) → n = (if w2 = 0 then 0 else 1 + (mes m1 k).toNat) → WSv p l e s m args below meth c9 4 (fun mi9 mr9 => (∃ k : Nat, mi9 473 23 = (k : Int) ∧ GT L set z k mi9) ∧ FG2 mi mi9 ∧ mr = mr9) G n0 6 m1 mr 171 [some (.ref (n0 + 473)), some (.int (jI z)), some (.int (jI w2)), x3, x4, x5] [] := by
          intro n
          induction n using Nat.strongRecOn with
          | ind n ih_wloop =>
            intro m1 w2 x3 x4 x5 hfs h23 hxi hcl hn
            have hnw := hn
            refine w_iload_n X dX8_goThrough_171 rfl ?_
            refine w_if_eq X 377 dX8_goThrough_172 (by decide) (fun c172_2 => ?_) (fun c172_2 => ?_)
            ·
              refine s_vret X hr dX8_goThrough_377 ?_
              rcases hcl with ⟨-, q⟩ | q
              · exact ⟨⟨k, h23, XI_fix hA.1 hxi q⟩, hfs, rfl⟩
              · omega
            ·
              refine w_iconst X dX8_goThrough_175 ?_
              refine w_ist6_2 X dX8_goThrough_176 ?_
              refine w_iconst X dX8_goThrough_177 ?_
              refine w_ist6_3 X dX8_goThrough_178 ?_
              have cloop : ∀ (n : Nat) (m2 : Nat → Nat → Int) (c : Nat) (w4 : Int) (x4 x5 : Option Value), (c ≤ k) → (FG2 mi m2) → (m2 473 23 = (k : Int)) → (XI L set z k m2) → (PSS L k (mes m1 k) m2 w4 c 0) → n = k - c → WSv p l e s m args below meth c9 4 (fun mi9 mr9 => (∃ k : Nat, mi9 473 23 = (k : Int) ∧ GT L set z k mi9) ∧ FG2 mi mi9 ∧ mr = mr9) G n0 6 m2 mr 179 [some (.ref (n0 + 473)), some (.int (jI z)), some (.int (jI w4)), some (.int (jI (c : Int))), x4, x5] [] := by
                intro n
                induction n using Nat.strongRecOn with
                | ind n ih_cloop =>
                  intro m2 c w4 x4 x5 hck hfs h23 hxi hps hn
                  have hpb := PSS_b hps
                  refine w_iload_n X dX8_goThrough_179 rfl ?_
                  refine w_aload_n X dX8_goThrough_180 rfl ?_
                  refine w_get X (by decide) (σ_473 G n0 _ _) rfl gW_X8 23 (by decide) gF_X8_185 rfl dX8_goThrough_181 ?_
                  rw [h23]
                  refine w_icmp_ge X 374 dX8_goThrough_184 (by decide) (fun c184_3 => ?_) (fun c184_3 => ?_)
                  ·
                    refine w_goto X 171 dX8_goThrough_374 (by decide) ?_
                    rcases hps with ⟨q, q2⟩ | ⟨q, q2, q3, -⟩
                    · have hmn := mes_n hxi
                      exact ih_wloop _ (by rw [hnw, if_neg (show ¬ w4 = 0 by omega), if_neg (show ¬ w2 = 0 by omega)]; omega) _ _ _ _ _ hfs h23 hxi (Or.inr q) rfl
                    · exact ih_wloop _ (by rw [hnw, if_pos q, if_neg (show ¬ w2 = 0 by omega)]; omega) _ _ _ _ _ hfs h23 hxi (Or.inl ⟨q, fun i hi j hj => q3 i (by omega) j hj⟩) rfl
                  ·
                    have hxc := (hxi.2.1 c (by omega)).1
                    refine w_aload_n X dX8_goThrough_187 rfl ?_
                    refine w_aload_n X dX8_goThrough_188 rfl ?_
                    refine w_get X (by decide) (σ_473 G n0 _ _) rfl gW_X8 24 (by decide) gF_X8_59 rfl dX8_goThrough_189 ?_
                    refine w_iload_n X dX8_goThrough_192 rfl ?_
                    refine s_iald X (c) (by decide) (fun _ => σ_m500 G n0 _ _ (by decide)) dX8_goThrough_193 ?_
                    refine w_aload_n X dX8_goThrough_194 rfl ?_
                    refine w_get X (by decide) (σ_473 G n0 _ _) rfl gW_X8 20 (by decide) gF_X8_50 rfl dX8_goThrough_195 ?_
                    refine s_callVv X _ (c_X8_crowdOf (l := l) (G := G) (n0 := n0) IA_485 (z := m2 488 c) hxc) gM_X8_188 gI_yX8_crowdOf gS_yX8_crowdOf gN_X8 gC_yX8_crowdOf (by decide) (σ_473 G n0 _ _) rfl dX8_goThrough_198 hl_yX8_crowdOf ⟨Nat.le_of_ble_eq_true rfl, Nat.le_of_ble_eq_true rfl⟩ (Nat.le_of_ble_eq_true rfl) rfl (fun mi1 mr1 h1 => ?_)
                    obtain ⟨hOc, hPc, rfl⟩ := h1
                    refine w_iconst X dX8_goThrough_201 ?_
                    refine w_ist6_4 X dX8_goThrough_202 ?_
                    have xloop : ∀ (n : Nat) (m3 : Nat → Nat → Int) (x : Nat) (w5 : Int) (x5 : Option Value), ((x : Int) ≤ L.2.1) → (FG2 mi m3) → (m3 473 23 = (k : Int)) → (XI L set z k m3) → (∀ j : Nat, j < 5 → m3 485 j = dg9 (m3 488 c) j) → (PSS L k (mes m1 k) m3 w5 c x) → n = 12 - x → WSv p l e s m args below meth c9 4 (fun mi9 mr9 => (∃ k : Nat, mi9 473 23 = (k : Int) ∧ GT L set z k mi9) ∧ FG2 mi mi9 ∧ mr = mr9) G n0 6 m3 mr 204 [some (.ref (n0 + 473)), some (.int (jI z)), some (.int (jI w5)), some (.int (jI (c : Int))), some (.int (jI (x : Int))), x5] [] := by
                      intro n
                      induction n using Nat.strongRecOn with
                      | ind n ih_xloop =>
                        intro m3 x w5 x5 hx hfs h23 hxi hone hps hn
                        have hpb := PSS_b hps
                        have hM3 := FG2_ML hM hfs
                        have h33 : m3 473 3 = L.2.1 := hM3.2.1
                        have hva3 : ∀ j : Nat, j < 5 → 0 ≤ m3 485 j ∧ m3 485 j ≤ 1000 := fun j hj => by rw [hone j hj]; have := dg9_b (m3 488 c) j; omega
                        have hPj : ∀ j : Nat, j < 5 → m3 485 j = F5 (Pm m3 c) j := fun j hj => by rw [hone j hj]; exact (T9_j hj).symm
                        have hfc := fun (y : Nat) => fit_c (ρ := L.2.2.2.1 y) (f := m3 485) (g := F5 (Pm m3 c)) hPj
                        refine w_iload X dX8_goThrough_204 rfl ?_
                        refine w_aload_n X dX8_goThrough_206 rfl ?_
                        refine w_get X (by decide) (σ_473 G n0 _ _) rfl gW_X8 3 (by decide) gF_X8_80 rfl dX8_goThrough_207 ?_
                        rw [h33]
                        refine w_icmp_ge X 368 dX8_goThrough_210 (by decide) (fun c210_4 => ?_) (fun c210_4 => ?_)
                        ·
                          refine w_iinc6_3 X dX8_goThrough_368 ?_
                          refine w_goto X 179 dX8_goThrough_371 (by decide) ?_
                          exact ih_cloop _ (by omega) _ (c + 1) _ _ _ (by omega) hfs h23 hxi (PSS_c hps (by omega)) rfl
                        ·
                          refine w_aload_n X dX8_goThrough_213 rfl ?_
                          refine w_aload_n X dX8_goThrough_214 rfl ?_
                          refine w_get X (by decide) (σ_473 G n0 _ _) rfl gW_X8 20 (by decide) gF_X8_50 rfl dX8_goThrough_215 ?_
                          refine w_iload X dX8_goThrough_218 rfl ?_
                          refine s_callVi X _ (c_X8_leaves (l := l) (G := G) (n0 := n0) hA hM3 IA_485 (by decide) hva3 (k := x) (by omega)) gM_X8_106 gI_yX8_leaves gS_yX8_leaves gN_X8 gC_yX8_leaves (by decide) (σ_473 G n0 _ _) rfl dX8_goThrough_220 hl_yX8_leaves ⟨Nat.le_of_ble_eq_true rfl, Nat.le_of_ble_eq_true rfl⟩ (Nat.le_of_ble_eq_true rfl) rfl (fun r2 mi2 mr2 h2 => ?_)
                          obtain ⟨hgl, hFl, hml, rfl⟩ := h2
                          have bgl := flg_b hgl
                          refine w_if_eq X 362 dX8_goThrough_223 (by decide) (fun c223_5 => ?_) (fun c223_5 => ?_)
                          ·
                            refine w_iinc6_4 X dX8_goThrough_362 ?_
                            refine w_goto X 204 dX8_goThrough_365 (by decide) ?_
                            exact ih_xloop _ (by omega) _ (x + 1) _ _ (by omega) (FG2_t hfs (fun a ha => hml a (by omega))) (by rw [hml 473 (by decide)]; exact h23) (XI_fr hxi (fun a h1 h2 => hml a (by omega))) (fun j hj => by rw [hml 485 (by decide), hml 488 (by decide)]; exact hone j hj) (PSS_x (PSS_fr hps (fun a h1 h2 => hml a (by omega))) (CLO_fr (m := m3) (fun q => absurd ((hfc x).mpr q) (flg_0 hgl (by omega))) (fun a h1 h2 => hml a (by omega)))) rfl
                          ·
                            have hM5 : ML L mi2 := FG2_ML hM (FG2_t hfs (fun a ha => hml a (by omega)))
                            have hva5 : ∀ j : Nat, j < 5 → 0 ≤ mi2 485 j ∧ mi2 485 j ≤ 1000 := fun j hj => by rw [hml 485 (by decide)]; exact hva3 j hj
                            have hfitx : fit (L.2.2.2.1 x) (m3 485) := flg_1 hgl (by omega)
                            have hfit5 : fit (L.2.2.2.1 x) (mi2 485) := by rw [hml 485 (by decide)]; exact hfitx
                            have hfitP : fit (L.2.2.2.1 x) (F5 (Pm m3 c)) := (hfc x).mp hfitx
                            refine w_aload_n X dX8_goThrough_226 rfl ?_
                            refine w_aload_n X dX8_goThrough_227 rfl ?_
                            refine w_get X (by decide) (σ_473 G n0 _ _) rfl gW_X8 20 (by decide) gF_X8_50 rfl dX8_goThrough_228 ?_
                            refine w_iload X dX8_goThrough_231 rfl ?_
                            refine s_callVv X _ (c_X8_goBy (l := l) (G := G) (n0 := n0) hA hM5 IA_485 (by decide) hva5 (k := x) (by omega) (by decide) hfit5) gM_X8_120 gI_yX8_goBy gS_yX8_goBy gN_X8 gC_yX8_goBy (by decide) (σ_473 G n0 _ _) rfl dX8_goThrough_233 hl_yX8_goBy ⟨Nat.le_of_ble_eq_true rfl, Nat.le_of_ble_eq_true rfl⟩ (Nat.le_of_ble_eq_true rfl) rfl (fun mi3 mr3 h3 => ?_)
                            obtain ⟨hF6, hm6, rfl⟩ := h3
                            have h6f : ∀ a, a ≠ 486 → a ≠ 487 → mi3 a = m3 a := fun a h1 h2 => (hm6 a h1 h2).trans (hml a h1)
                            have hal : ∀ j : Nat, j < 5 → mi3 487 j = F5 (T5 (led (L.2.2.2.1 x) (F5 (Pm m3 c)))) j := fun j hj => by rw [hF6 j hj, F5_T5 _ hj]; exact led_c (fun a ha => by rw [hml 485 (by decide)]; exact hPj a ha) j
                            generalize mi3 = m6 at *
                            have hcrP := hxi.1.1.1 c (by omega)
                            have hcrW := led_cro (hA.1.2.1 x (by omega)) hcrP hfitP
                            obtain ⟨w, hwk, hew0⟩ := hxi.1.2 _ hcrW
                            have hcd := dg_cd (v := m6 487) (fun j hj => by rw [hal j hj]; exact Cro_8 hcrW hz.2 j hj)
                            have hT9 : T9 (cd9 (m6 487)) = Pm m3 w := by rw [hcd.2, hew0, T5_c hal]; rfl
                            have hP5 : Pm m6 c = Pm m3 c := by unfold Pm; rw [h6f 488 (by decide) (by decide)]
                            have hP6 : ∀ i, Pm m6 i = Pm m3 i := fun i => by unfold Pm; rw [h6f 488 (by decide) (by decide)]
                            have hfs5 : FG2 mi m6 := FG2_t hfs (fun a ha => h6f a (by omega) (by omega))
                            have h235 : m6 473 23 = (k : Int) := by rw [h6f 473 (by decide) (by decide)]; exact h23
                            have hxi5 : XI L set z k m6 := XI_fr hxi (fun a h1 h2 => h6f a (by omega) (by omega))
                            have hone5 : ∀ j : Nat, j < 5 → m6 485 j = dg9 (m6 488 c) j := fun j hj => by rw [h6f 485 (by decide) (by decide), h6f 488 (by decide) (by decide)]; exact hone j hj
                            have hps5 : PSS L k (mes m1 k) m6 w5 c x := PSS_fr hps (fun a h1 h2 => h6f a (by omega) (by omega))
                            have hew : Pm m6 w = T5 (led (L.2.2.2.1 x) (F5 (Pm m6 c))) := by rw [hP6, hP5]; exact hew0
                            have hfit6 : fit (L.2.2.2.1 x) (F5 (Pm m6 c)) := by rw [hP5]; exact hfitP
                            have hwr := hxi5.2.1 w hwk
                            have hce : cd9 (m6 487) = m6 488 w := by
                              have q1 : cd9 (dg9 (cd9 (m6 487))) = cd9 (m6 487) := cd9_dg hcd.1
                              have q2 : cd9 (dg9 (m6 488 w)) = m6 488 w := cd9_dg hwr.1
                              rw [← q1, ← q2]
                              have q3 : T9 (cd9 (m6 487)) = T9 (m6 488 w) := by rw [hT9, ← hP6]; rfl
                              have q4 : ∀ j : Nat, j < 5 → dg9 (cd9 (m6 487)) j = dg9 (m6 488 w) j := fun j hj => by rw [← T9_j hj, ← T9_j hj, q3]
                              unfold cd9
                              show _ * 6561 + _ * 729 + _ * 81 + _ * 9 + _ = _ * 6561 + _ * 729 + _ * 81 + _ * 9 + _
                              have := q4 0 (by decide); have := q4 1 (by decide); have := q4 2 (by decide); have := q4 3 (by decide); have := q4 4 (by decide)
                              unfold cd9 at *
                              omega
                            have gw1 := hxi5.2.2.1 w hwk
                            have gc1 := (hxi5.2.2.1 c (by omega)).1
                            have gw0 := (hxi5.2.2.2 w hwk).1
                            have gc0 := (hxi5.2.2.2 c (by omega)).1
                            have gw1b := gw1.1
                            have hwk500 : w < 500 := by omega
                            have hck500 : c < 500 := by omega
                            refine w_aload_n X dX8_goThrough_236 rfl ?_
                            refine w_get X (by decide) (σ_473 G n0 _ _) rfl gW_X8 25 (by decide) gF_X8_63 rfl dX8_goThrough_237 ?_
                            refine w_aload_n X dX8_goThrough_240 rfl ?_
                            refine w_get X (by decide) (σ_473 G n0 _ _) rfl gW_X8 22 (by decide) gF_X8_56 rfl dX8_goThrough_241 ?_
                            refine s_callSi X _ (c_X8_codeOf (l := l) (G := G) (n0 := n0) IA_487) gM_X8_196 gT_yX8_codeOf gN_X8 gC_yX8_codeOf dX8_goThrough_244 hl_yX8_codeOf ⟨Nat.le_of_ble_eq_true rfl, Nat.le_of_ble_eq_true rfl⟩ (Nat.le_of_ble_eq_true rfl) rfl (fun r4 mi4 mr4 h4 => ?_)
                            obtain ⟨rfl, rfl, h4⟩ := h4
                            rw [h4, hce]
                            refine s_iald X _ (by decide) (fun _ => σ_489 G n0 _ _) dX8_goThrough_247 ?_ (hz := hwr.1) (hj := rfl)
                            rw [hwr.2]
                            refine w_ist6_5 X dX8_goThrough_248 ?_
                            refine w_aload_n X dX8_goThrough_250 rfl ?_
                            refine w_get X (by decide) (σ_473 G n0 _ _) rfl gW_X8 27 (by decide) gF_X8_69 rfl dX8_goThrough_251 ?_
                            refine w_iload_n X dX8_goThrough_254 rfl ?_
                            refine s_zald X (c) (by decide) (fun _ => σ_491 G n0 _ _) dX8_goThrough_255 ?_
                            refine w_if_eq X 269 dX8_goThrough_256 (by decide) (fun c256_6 => ?_) (fun c256_6 => ?_)
                            ·
                              refine w_aload_n X dX8_goThrough_269 rfl ?_
                              refine w_get X (by decide) (σ_473 G n0 _ _) rfl gW_X8 26 (by decide) gF_X8_66 rfl dX8_goThrough_270 ?_
                              refine w_iload X dX8_goThrough_273 rfl ?_
                              refine s_iald X (w) (by decide) (fun _ => σ_m500 G n0 _ _ (by decide)) dX8_goThrough_275 ?_
                              refine w_iconst X dX8_goThrough_276 ?_
                              refine w_iadd X dX8_goThrough_277 ?_
                              refine w_aload_n X dX8_goThrough_278 rfl ?_
                              refine w_get X (by decide) (σ_473 G n0 _ _) rfl gW_X8 26 (by decide) gF_X8_66 rfl dX8_goThrough_279 ?_
                              refine w_iload_n X dX8_goThrough_282 rfl ?_
                              refine s_iald X (c) (by decide) (fun _ => σ_m500 G n0 _ _ (by decide)) dX8_goThrough_283 ?_
                              refine w_icmp_ge X 362 dX8_goThrough_284 (by decide) (fun c284_7 => ?_) (fun c284_7 => ?_)
                              ·
                                refine w_iinc6_4 X dX8_goThrough_362 ?_
                                refine w_goto X 204 dX8_goThrough_365 (by decide) ?_
                                exact ih_xloop _ (by omega) _ (x + 1) _ _ (by omega) hfs5 h235 hxi5 hone5 (PSS_x hps5 (fun _ w hw ew => by
                                  have e := Inc_i hxi5.1.1 hw hwk (ew.trans hew.symm)
                                  subst e
                                  exact ⟨by omega, by omega⟩)) rfl
                              ·
                                refine w_aload_n X dX8_goThrough_287 rfl ?_
                                refine w_get X (by decide) (σ_473 G n0 _ _) rfl gW_X8 27 (by decide) gF_X8_69 rfl dX8_goThrough_288 ?_
                                refine w_iload X dX8_goThrough_291 rfl ?_
                                refine w_aload_n X dX8_goThrough_293 rfl ?_
                                refine w_get X (by decide) (σ_473 G n0 _ _) rfl gW_X8 27 (by decide) gF_X8_69 rfl dX8_goThrough_294 ?_
                                refine w_iload X dX8_goThrough_297 rfl ?_
                                refine s_zald X (w) (by decide) (fun _ => σ_491 G n0 _ _) dX8_goThrough_299 ?_
                                refine w_if_ne X 312 dX8_goThrough_300 (by decide) (fun c300_8 => ?_) (fun c300_8 => ?_)
                                ·
                                  refine w_iconst X dX8_goThrough_312 ?_
                                  refine w_goto X 317 dX8_goThrough_313 (by decide) ?_
                                  refine s_zast X (w) (by decide) (fun _ => σ_491 G n0 _ _) (by omega) dX8_goThrough_317 ?_
                                  have h71 : ∀ i : Nat, (up2 m6 491 w 1) 491 i = if i = w then (if m6 491 w = 1 ∨ m6 491 c = 1 then 1 else 0) else m6 491 i := fun i => by
                                    by_cases q : i = w
                                    · rw [q, up2_s, if_pos rfl]; rw [if_pos (by omega)]
                                    · rw [up2_j _ _ _ _ q, if_neg q]
                                  have h7f : ∀ a, a ≠ 491 → (up2 m6 491 w 1) a = m6 a := fun a h1 => up2_k _ _ _ _ h1
                                  generalize (up2 m6 491 w 1) = m7 at *
                                  refine w_aload_n X dX8_goThrough_318 rfl ?_
                                  refine w_get X (by decide) (σ_473 G n0 _ _) rfl gW_X8 26 (by decide) gF_X8_66 rfl dX8_goThrough_319 ?_
                                  refine w_iload_n X dX8_goThrough_322 rfl ?_
                                  refine w_aload_n X dX8_goThrough_323 rfl ?_
                                  refine w_get X (by decide) (σ_473 G n0 _ _) rfl gW_X8 26 (by decide) gF_X8_66 rfl dX8_goThrough_324 ?_
                                  refine w_iload X dX8_goThrough_327 rfl ?_
                                  refine s_iald X (w) (by decide) (fun _ => σ_m500 G n0 _ _ (by decide)) dX8_goThrough_329 ?_
                                  rw [h7f 490 (by decide)]
                                  refine w_iconst X dX8_goThrough_330 ?_
                                  refine w_iadd X dX8_goThrough_331 ?_
                                  refine w_aload_n X dX8_goThrough_332 rfl ?_
                                  refine w_get X (by decide) (σ_473 G n0 _ _) rfl gW_X8 26 (by decide) gF_X8_66 rfl dX8_goThrough_333 ?_
                                  refine w_iload_n X dX8_goThrough_336 rfl ?_
                                  refine s_iald X (c) (by decide) (fun _ => σ_m500 G n0 _ _ (by decide)) dX8_goThrough_337 ?_
                                  rw [h7f 490 (by decide)]
                                  refine w_icmp_ge X 353 dX8_goThrough_338 (by decide) (fun c338_9 => ?_) (fun c338_9 => ?_)
                                  ·
                                    refine w_aload_n X dX8_goThrough_353 rfl ?_
                                    refine w_get X (by decide) (σ_473 G n0 _ _) rfl gW_X8 26 (by decide) gF_X8_66 rfl dX8_goThrough_354 ?_
                                    refine w_iload_n X dX8_goThrough_357 rfl ?_
                                    refine s_iald X (c) (by decide) (fun _ => σ_m500 G n0 _ _ (by decide)) dX8_goThrough_358 ?_
                                    rw [h7f 490 (by decide)]
                                    refine s_iast X (c) (by decide) (fun _ => σ_m500 G n0 _ _ (by decide)) dX8_goThrough_359 ?_
                                    refine w_iconst X dX8_goThrough_360 ?_
                                    refine w_ist6_2 X dX8_goThrough_361 ?_
                                    refine w_iinc6_4 X dX8_goThrough_362 ?_
                                    refine w_goto X 204 dX8_goThrough_365 (by decide) ?_
                                    have hv1 : ∀ i : Nat, up2 m7 490 c (m6 490 c) 491 i = if i = w then (if m6 491 w = 1 ∨ m6 491 c = 1 then 1 else 0) else m6 491 i := fun i => by rw [up2_k _ _ _ _ (show (491 : Nat) ≠ 490 by decide)]; exact h71 i
                                    have hv0 : ∀ i : Nat, up2 m7 490 c (m6 490 c) 490 i = if i = c then (if m6 490 w + 1 < m6 490 c then m6 490 w + 1 else m6 490 c) else m6 490 i := fun i => by
                                      by_cases q : i = c
                                      · rw [q, up2_s, if_pos rfl]; rw [if_neg (by omega)]
                                      · rw [up2_j _ _ _ _ q, if_neg q, h7f 490 (by decide)]
                                    have hvf : ∀ a, a ≠ 490 → a ≠ 491 → up2 m7 490 c (m6 490 c) a = m6 a := fun a h1 h2 => by rw [up2_k _ _ _ _ h1, h7f a h2]
                                    have hms := mes_up hxi5 (by omega) hwk hv1 hv0 (by omega)
                                    have hpb5 := (PSS_b hps5).2
                                    exact ih_xloop _ (by omega) _ (x + 1) 1 _ (by omega) (FG2_t hfs5 (fun a ha => hvf a (by omega) (by omega))) (by rw [hvf 473 (by decide) (by decide)]; exact h235) (XI_up hA.1 hxi5 (by omega) hwk (by omega) hfit6 hew (hvf 488 (by decide) (by decide)) (hvf 489 (by decide) (by decide)) hv1 hv0) (fun j hj => by rw [hvf 485 (by decide) (by decide), hvf 488 (by decide) (by decide)]; exact hone5 j hj) (Or.inl ⟨rfl, by omega⟩) rfl
                                  ·
                                    refine w_aload_n X dX8_goThrough_341 rfl ?_
                                    refine w_get X (by decide) (σ_473 G n0 _ _) rfl gW_X8 26 (by decide) gF_X8_66 rfl dX8_goThrough_342 ?_
                                    refine w_iload X dX8_goThrough_345 rfl ?_
                                    refine s_iald X (w) (by decide) (fun _ => σ_m500 G n0 _ _ (by decide)) dX8_goThrough_347 ?_
                                    rw [h7f 490 (by decide)]
                                    refine w_iconst X dX8_goThrough_348 ?_
                                    refine w_iadd X dX8_goThrough_349 ?_
                                    refine w_goto X 359 dX8_goThrough_350 (by decide) ?_
                                    refine s_iast X (c) (by decide) (fun _ => σ_m500 G n0 _ _ (by decide)) dX8_goThrough_359 ?_
                                    refine w_iconst X dX8_goThrough_360 ?_
                                    refine w_ist6_2 X dX8_goThrough_361 ?_
                                    refine w_iinc6_4 X dX8_goThrough_362 ?_
                                    refine w_goto X 204 dX8_goThrough_365 (by decide) ?_
                                    have hv1 : ∀ i : Nat, up2 m7 490 c (m6 490 w + 1) 491 i = if i = w then (if m6 491 w = 1 ∨ m6 491 c = 1 then 1 else 0) else m6 491 i := fun i => by rw [up2_k _ _ _ _ (show (491 : Nat) ≠ 490 by decide)]; exact h71 i
                                    have hv0 : ∀ i : Nat, up2 m7 490 c (m6 490 w + 1) 490 i = if i = c then (if m6 490 w + 1 < m6 490 c then m6 490 w + 1 else m6 490 c) else m6 490 i := fun i => by
                                      by_cases q : i = c
                                      · rw [q, up2_s, if_pos rfl]; rw [if_pos (by omega)]
                                      · rw [up2_j _ _ _ _ q, if_neg q, h7f 490 (by decide)]
                                    have hvf : ∀ a, a ≠ 490 → a ≠ 491 → up2 m7 490 c (m6 490 w + 1) a = m6 a := fun a h1 h2 => by rw [up2_k _ _ _ _ h1, h7f a h2]
                                    have hms := mes_up hxi5 (by omega) hwk hv1 hv0 (by omega)
                                    have hpb5 := (PSS_b hps5).2
                                    exact ih_xloop _ (by omega) _ (x + 1) 1 _ (by omega) (FG2_t hfs5 (fun a ha => hvf a (by omega) (by omega))) (by rw [hvf 473 (by decide) (by decide)]; exact h235) (XI_up hA.1 hxi5 (by omega) hwk (by omega) hfit6 hew (hvf 488 (by decide) (by decide)) (hvf 489 (by decide) (by decide)) hv1 hv0) (fun j hj => by rw [hvf 485 (by decide) (by decide), hvf 488 (by decide) (by decide)]; exact hone5 j hj) (Or.inl ⟨rfl, by omega⟩) rfl
                                ·
                                  refine w_aload_n X dX8_goThrough_303 rfl ?_
                                  refine w_get X (by decide) (σ_473 G n0 _ _) rfl gW_X8 27 (by decide) gF_X8_69 rfl dX8_goThrough_304 ?_
                                  refine w_iload_n X dX8_goThrough_307 rfl ?_
                                  refine s_zald X (c) (by decide) (fun _ => σ_491 G n0 _ _) dX8_goThrough_308 ?_
                                  refine w_if_eq X 316 dX8_goThrough_309 (by decide) (fun c309_10 => ?_) (fun c309_10 => ?_)
                                  ·
                                    refine w_iconst X dX8_goThrough_316 ?_
                                    refine s_zast X (w) (by decide) (fun _ => σ_491 G n0 _ _) (by omega) dX8_goThrough_317 ?_
                                    have h71 : ∀ i : Nat, (up2 m6 491 w 0) 491 i = if i = w then (if m6 491 w = 1 ∨ m6 491 c = 1 then 1 else 0) else m6 491 i := fun i => by
                                      by_cases q : i = w
                                      · rw [q, up2_s, if_pos rfl]; rw [if_neg (by omega)]
                                      · rw [up2_j _ _ _ _ q, if_neg q]
                                    have h7f : ∀ a, a ≠ 491 → (up2 m6 491 w 0) a = m6 a := fun a h1 => up2_k _ _ _ _ h1
                                    generalize (up2 m6 491 w 0) = m7 at *
                                    refine w_aload_n X dX8_goThrough_318 rfl ?_
                                    refine w_get X (by decide) (σ_473 G n0 _ _) rfl gW_X8 26 (by decide) gF_X8_66 rfl dX8_goThrough_319 ?_
                                    refine w_iload_n X dX8_goThrough_322 rfl ?_
                                    refine w_aload_n X dX8_goThrough_323 rfl ?_
                                    refine w_get X (by decide) (σ_473 G n0 _ _) rfl gW_X8 26 (by decide) gF_X8_66 rfl dX8_goThrough_324 ?_
                                    refine w_iload X dX8_goThrough_327 rfl ?_
                                    refine s_iald X (w) (by decide) (fun _ => σ_m500 G n0 _ _ (by decide)) dX8_goThrough_329 ?_
                                    rw [h7f 490 (by decide)]
                                    refine w_iconst X dX8_goThrough_330 ?_
                                    refine w_iadd X dX8_goThrough_331 ?_
                                    refine w_aload_n X dX8_goThrough_332 rfl ?_
                                    refine w_get X (by decide) (σ_473 G n0 _ _) rfl gW_X8 26 (by decide) gF_X8_66 rfl dX8_goThrough_333 ?_
                                    refine w_iload_n X dX8_goThrough_336 rfl ?_
                                    refine s_iald X (c) (by decide) (fun _ => σ_m500 G n0 _ _ (by decide)) dX8_goThrough_337 ?_
                                    rw [h7f 490 (by decide)]
                                    refine w_icmp_ge X 353 dX8_goThrough_338 (by decide) (fun c338_11 => ?_) (fun c338_11 => ?_)
                                    ·
                                      refine w_aload_n X dX8_goThrough_353 rfl ?_
                                      refine w_get X (by decide) (σ_473 G n0 _ _) rfl gW_X8 26 (by decide) gF_X8_66 rfl dX8_goThrough_354 ?_
                                      refine w_iload_n X dX8_goThrough_357 rfl ?_
                                      refine s_iald X (c) (by decide) (fun _ => σ_m500 G n0 _ _ (by decide)) dX8_goThrough_358 ?_
                                      rw [h7f 490 (by decide)]
                                      refine s_iast X (c) (by decide) (fun _ => σ_m500 G n0 _ _ (by decide)) dX8_goThrough_359 ?_
                                      refine w_iconst X dX8_goThrough_360 ?_
                                      refine w_ist6_2 X dX8_goThrough_361 ?_
                                      refine w_iinc6_4 X dX8_goThrough_362 ?_
                                      refine w_goto X 204 dX8_goThrough_365 (by decide) ?_
                                      have hv1 : ∀ i : Nat, up2 m7 490 c (m6 490 c) 491 i = if i = w then (if m6 491 w = 1 ∨ m6 491 c = 1 then 1 else 0) else m6 491 i := fun i => by rw [up2_k _ _ _ _ (show (491 : Nat) ≠ 490 by decide)]; exact h71 i
                                      have hv0 : ∀ i : Nat, up2 m7 490 c (m6 490 c) 490 i = if i = c then (if m6 490 w + 1 < m6 490 c then m6 490 w + 1 else m6 490 c) else m6 490 i := fun i => by
                                        by_cases q : i = c
                                        · rw [q, up2_s, if_pos rfl]; rw [if_neg (by omega)]
                                        · rw [up2_j _ _ _ _ q, if_neg q, h7f 490 (by decide)]
                                      have hvf : ∀ a, a ≠ 490 → a ≠ 491 → up2 m7 490 c (m6 490 c) a = m6 a := fun a h1 h2 => by rw [up2_k _ _ _ _ h1, h7f a h2]
                                      have hms := mes_up hxi5 (by omega) hwk hv1 hv0 (by omega)
                                      have hpb5 := (PSS_b hps5).2
                                      exact ih_xloop _ (by omega) _ (x + 1) 1 _ (by omega) (FG2_t hfs5 (fun a ha => hvf a (by omega) (by omega))) (by rw [hvf 473 (by decide) (by decide)]; exact h235) (XI_up hA.1 hxi5 (by omega) hwk (by omega) hfit6 hew (hvf 488 (by decide) (by decide)) (hvf 489 (by decide) (by decide)) hv1 hv0) (fun j hj => by rw [hvf 485 (by decide) (by decide), hvf 488 (by decide) (by decide)]; exact hone5 j hj) (Or.inl ⟨rfl, by omega⟩) rfl
                                    ·
                                      refine w_aload_n X dX8_goThrough_341 rfl ?_
                                      refine w_get X (by decide) (σ_473 G n0 _ _) rfl gW_X8 26 (by decide) gF_X8_66 rfl dX8_goThrough_342 ?_
                                      refine w_iload X dX8_goThrough_345 rfl ?_
                                      refine s_iald X (w) (by decide) (fun _ => σ_m500 G n0 _ _ (by decide)) dX8_goThrough_347 ?_
                                      rw [h7f 490 (by decide)]
                                      refine w_iconst X dX8_goThrough_348 ?_
                                      refine w_iadd X dX8_goThrough_349 ?_
                                      refine w_goto X 359 dX8_goThrough_350 (by decide) ?_
                                      refine s_iast X (c) (by decide) (fun _ => σ_m500 G n0 _ _ (by decide)) dX8_goThrough_359 ?_
                                      refine w_iconst X dX8_goThrough_360 ?_
                                      refine w_ist6_2 X dX8_goThrough_361 ?_
                                      refine w_iinc6_4 X dX8_goThrough_362 ?_
                                      refine w_goto X 204 dX8_goThrough_365 (by decide) ?_
                                      have hv1 : ∀ i : Nat, up2 m7 490 c (m6 490 w + 1) 491 i = if i = w then (if m6 491 w = 1 ∨ m6 491 c = 1 then 1 else 0) else m6 491 i := fun i => by rw [up2_k _ _ _ _ (show (491 : Nat) ≠ 490 by decide)]; exact h71 i
                                      have hv0 : ∀ i : Nat, up2 m7 490 c (m6 490 w + 1) 490 i = if i = c then (if m6 490 w + 1 < m6 490 c then m6 490 w + 1 else m6 490 c) else m6 490 i := fun i => by
                                        by_cases q : i = c
                                        · rw [q, up2_s, if_pos rfl]; rw [if_pos (by omega)]
                                        · rw [up2_j _ _ _ _ q, if_neg q, h7f 490 (by decide)]
                                      have hvf : ∀ a, a ≠ 490 → a ≠ 491 → up2 m7 490 c (m6 490 w + 1) a = m6 a := fun a h1 h2 => by rw [up2_k _ _ _ _ h1, h7f a h2]
                                      have hms := mes_up hxi5 (by omega) hwk hv1 hv0 (by omega)
                                      have hpb5 := (PSS_b hps5).2
                                      exact ih_xloop _ (by omega) _ (x + 1) 1 _ (by omega) (FG2_t hfs5 (fun a ha => hvf a (by omega) (by omega))) (by rw [hvf 473 (by decide) (by decide)]; exact h235) (XI_up hA.1 hxi5 (by omega) hwk (by omega) hfit6 hew (hvf 488 (by decide) (by decide)) (hvf 489 (by decide) (by decide)) hv1 hv0) (fun j hj => by rw [hvf 485 (by decide) (by decide), hvf 488 (by decide) (by decide)]; exact hone5 j hj) (Or.inl ⟨rfl, by omega⟩) rfl
                                  ·
                                    refine w_iconst X dX8_goThrough_312 ?_
                                    refine w_goto X 317 dX8_goThrough_313 (by decide) ?_
                                    refine s_zast X (w) (by decide) (fun _ => σ_491 G n0 _ _) (by omega) dX8_goThrough_317 ?_
                                    have h71 : ∀ i : Nat, (up2 m6 491 w 1) 491 i = if i = w then (if m6 491 w = 1 ∨ m6 491 c = 1 then 1 else 0) else m6 491 i := fun i => by
                                      by_cases q : i = w
                                      · rw [q, up2_s, if_pos rfl]; rw [if_pos (by omega)]
                                      · rw [up2_j _ _ _ _ q, if_neg q]
                                    have h7f : ∀ a, a ≠ 491 → (up2 m6 491 w 1) a = m6 a := fun a h1 => up2_k _ _ _ _ h1
                                    generalize (up2 m6 491 w 1) = m7 at *
                                    refine w_aload_n X dX8_goThrough_318 rfl ?_
                                    refine w_get X (by decide) (σ_473 G n0 _ _) rfl gW_X8 26 (by decide) gF_X8_66 rfl dX8_goThrough_319 ?_
                                    refine w_iload_n X dX8_goThrough_322 rfl ?_
                                    refine w_aload_n X dX8_goThrough_323 rfl ?_
                                    refine w_get X (by decide) (σ_473 G n0 _ _) rfl gW_X8 26 (by decide) gF_X8_66 rfl dX8_goThrough_324 ?_
                                    refine w_iload X dX8_goThrough_327 rfl ?_
                                    refine s_iald X (w) (by decide) (fun _ => σ_m500 G n0 _ _ (by decide)) dX8_goThrough_329 ?_
                                    rw [h7f 490 (by decide)]
                                    refine w_iconst X dX8_goThrough_330 ?_
                                    refine w_iadd X dX8_goThrough_331 ?_
                                    refine w_aload_n X dX8_goThrough_332 rfl ?_
                                    refine w_get X (by decide) (σ_473 G n0 _ _) rfl gW_X8 26 (by decide) gF_X8_66 rfl dX8_goThrough_333 ?_
                                    refine w_iload_n X dX8_goThrough_336 rfl ?_
                                    refine s_iald X (c) (by decide) (fun _ => σ_m500 G n0 _ _ (by decide)) dX8_goThrough_337 ?_
                                    rw [h7f 490 (by decide)]
                                    refine w_icmp_ge X 353 dX8_goThrough_338 (by decide) (fun c338_12 => ?_) (fun c338_12 => ?_)
                                    ·
                                      refine w_aload_n X dX8_goThrough_353 rfl ?_
                                      refine w_get X (by decide) (σ_473 G n0 _ _) rfl gW_X8 26 (by decide) gF_X8_66 rfl dX8_goThrough_354 ?_
                                      refine w_iload_n X dX8_goThrough_357 rfl ?_
                                      refine s_iald X (c) (by decide) (fun _ => σ_m500 G n0 _ _ (by decide)) dX8_goThrough_358 ?_
                                      rw [h7f 490 (by decide)]
                                      refine s_iast X (c) (by decide) (fun _ => σ_m500 G n0 _ _ (by decide)) dX8_goThrough_359 ?_
                                      refine w_iconst X dX8_goThrough_360 ?_
                                      refine w_ist6_2 X dX8_goThrough_361 ?_
                                      refine w_iinc6_4 X dX8_goThrough_362 ?_
                                      refine w_goto X 204 dX8_goThrough_365 (by decide) ?_
                                      have hv1 : ∀ i : Nat, up2 m7 490 c (m6 490 c) 491 i = if i = w then (if m6 491 w = 1 ∨ m6 491 c = 1 then 1 else 0) else m6 491 i := fun i => by rw [up2_k _ _ _ _ (show (491 : Nat) ≠ 490 by decide)]; exact h71 i
                                      have hv0 : ∀ i : Nat, up2 m7 490 c (m6 490 c) 490 i = if i = c then (if m6 490 w + 1 < m6 490 c then m6 490 w + 1 else m6 490 c) else m6 490 i := fun i => by
                                        by_cases q : i = c
                                        · rw [q, up2_s, if_pos rfl]; rw [if_neg (by omega)]
                                        · rw [up2_j _ _ _ _ q, if_neg q, h7f 490 (by decide)]
                                      have hvf : ∀ a, a ≠ 490 → a ≠ 491 → up2 m7 490 c (m6 490 c) a = m6 a := fun a h1 h2 => by rw [up2_k _ _ _ _ h1, h7f a h2]
                                      have hms := mes_up hxi5 (by omega) hwk hv1 hv0 (by omega)
                                      have hpb5 := (PSS_b hps5).2
                                      exact ih_xloop _ (by omega) _ (x + 1) 1 _ (by omega) (FG2_t hfs5 (fun a ha => hvf a (by omega) (by omega))) (by rw [hvf 473 (by decide) (by decide)]; exact h235) (XI_up hA.1 hxi5 (by omega) hwk (by omega) hfit6 hew (hvf 488 (by decide) (by decide)) (hvf 489 (by decide) (by decide)) hv1 hv0) (fun j hj => by rw [hvf 485 (by decide) (by decide), hvf 488 (by decide) (by decide)]; exact hone5 j hj) (Or.inl ⟨rfl, by omega⟩) rfl
                                    ·
                                      refine w_aload_n X dX8_goThrough_341 rfl ?_
                                      refine w_get X (by decide) (σ_473 G n0 _ _) rfl gW_X8 26 (by decide) gF_X8_66 rfl dX8_goThrough_342 ?_
                                      refine w_iload X dX8_goThrough_345 rfl ?_
                                      refine s_iald X (w) (by decide) (fun _ => σ_m500 G n0 _ _ (by decide)) dX8_goThrough_347 ?_
                                      rw [h7f 490 (by decide)]
                                      refine w_iconst X dX8_goThrough_348 ?_
                                      refine w_iadd X dX8_goThrough_349 ?_
                                      refine w_goto X 359 dX8_goThrough_350 (by decide) ?_
                                      refine s_iast X (c) (by decide) (fun _ => σ_m500 G n0 _ _ (by decide)) dX8_goThrough_359 ?_
                                      refine w_iconst X dX8_goThrough_360 ?_
                                      refine w_ist6_2 X dX8_goThrough_361 ?_
                                      refine w_iinc6_4 X dX8_goThrough_362 ?_
                                      refine w_goto X 204 dX8_goThrough_365 (by decide) ?_
                                      have hv1 : ∀ i : Nat, up2 m7 490 c (m6 490 w + 1) 491 i = if i = w then (if m6 491 w = 1 ∨ m6 491 c = 1 then 1 else 0) else m6 491 i := fun i => by rw [up2_k _ _ _ _ (show (491 : Nat) ≠ 490 by decide)]; exact h71 i
                                      have hv0 : ∀ i : Nat, up2 m7 490 c (m6 490 w + 1) 490 i = if i = c then (if m6 490 w + 1 < m6 490 c then m6 490 w + 1 else m6 490 c) else m6 490 i := fun i => by
                                        by_cases q : i = c
                                        · rw [q, up2_s, if_pos rfl]; rw [if_pos (by omega)]
                                        · rw [up2_j _ _ _ _ q, if_neg q, h7f 490 (by decide)]
                                      have hvf : ∀ a, a ≠ 490 → a ≠ 491 → up2 m7 490 c (m6 490 w + 1) a = m6 a := fun a h1 h2 => by rw [up2_k _ _ _ _ h1, h7f a h2]
                                      have hms := mes_up hxi5 (by omega) hwk hv1 hv0 (by omega)
                                      have hpb5 := (PSS_b hps5).2
                                      exact ih_xloop _ (by omega) _ (x + 1) 1 _ (by omega) (FG2_t hfs5 (fun a ha => hvf a (by omega) (by omega))) (by rw [hvf 473 (by decide) (by decide)]; exact h235) (XI_up hA.1 hxi5 (by omega) hwk (by omega) hfit6 hew (hvf 488 (by decide) (by decide)) (hvf 489 (by decide) (by decide)) hv1 hv0) (fun j hj => by rw [hvf 485 (by decide) (by decide), hvf 488 (by decide) (by decide)]; exact hone5 j hj) (Or.inl ⟨rfl, by omega⟩) rfl
                            ·
                              refine w_aload_n X dX8_goThrough_259 rfl ?_
                              refine w_get X (by decide) (σ_473 G n0 _ _) rfl gW_X8 27 (by decide) gF_X8_69 rfl dX8_goThrough_260 ?_
                              refine w_iload X dX8_goThrough_263 rfl ?_
                              refine s_zald X (w) (by decide) (fun _ => σ_491 G n0 _ _) dX8_goThrough_265 ?_
                              refine w_if_eq X 287 dX8_goThrough_266 (by decide) (fun c266_13 => ?_) (fun c266_13 => ?_)
                              ·
                                refine w_aload_n X dX8_goThrough_287 rfl ?_
                                refine w_get X (by decide) (σ_473 G n0 _ _) rfl gW_X8 27 (by decide) gF_X8_69 rfl dX8_goThrough_288 ?_
                                refine w_iload X dX8_goThrough_291 rfl ?_
                                refine w_aload_n X dX8_goThrough_293 rfl ?_
                                refine w_get X (by decide) (σ_473 G n0 _ _) rfl gW_X8 27 (by decide) gF_X8_69 rfl dX8_goThrough_294 ?_
                                refine w_iload X dX8_goThrough_297 rfl ?_
                                refine s_zald X (w) (by decide) (fun _ => σ_491 G n0 _ _) dX8_goThrough_299 ?_
                                refine w_if_ne X 312 dX8_goThrough_300 (by decide) (fun c300_14 => ?_) (fun c300_14 => ?_)
                                ·
                                  refine w_iconst X dX8_goThrough_312 ?_
                                  refine w_goto X 317 dX8_goThrough_313 (by decide) ?_
                                  refine s_zast X (w) (by decide) (fun _ => σ_491 G n0 _ _) (by omega) dX8_goThrough_317 ?_
                                  have h71 : ∀ i : Nat, (up2 m6 491 w 1) 491 i = if i = w then (if m6 491 w = 1 ∨ m6 491 c = 1 then 1 else 0) else m6 491 i := fun i => by
                                    by_cases q : i = w
                                    · rw [q, up2_s, if_pos rfl]; rw [if_pos (by omega)]
                                    · rw [up2_j _ _ _ _ q, if_neg q]
                                  have h7f : ∀ a, a ≠ 491 → (up2 m6 491 w 1) a = m6 a := fun a h1 => up2_k _ _ _ _ h1
                                  generalize (up2 m6 491 w 1) = m7 at *
                                  refine w_aload_n X dX8_goThrough_318 rfl ?_
                                  refine w_get X (by decide) (σ_473 G n0 _ _) rfl gW_X8 26 (by decide) gF_X8_66 rfl dX8_goThrough_319 ?_
                                  refine w_iload_n X dX8_goThrough_322 rfl ?_
                                  refine w_aload_n X dX8_goThrough_323 rfl ?_
                                  refine w_get X (by decide) (σ_473 G n0 _ _) rfl gW_X8 26 (by decide) gF_X8_66 rfl dX8_goThrough_324 ?_
                                  refine w_iload X dX8_goThrough_327 rfl ?_
                                  refine s_iald X (w) (by decide) (fun _ => σ_m500 G n0 _ _ (by decide)) dX8_goThrough_329 ?_
                                  rw [h7f 490 (by decide)]
                                  refine w_iconst X dX8_goThrough_330 ?_
                                  refine w_iadd X dX8_goThrough_331 ?_
                                  refine w_aload_n X dX8_goThrough_332 rfl ?_
                                  refine w_get X (by decide) (σ_473 G n0 _ _) rfl gW_X8 26 (by decide) gF_X8_66 rfl dX8_goThrough_333 ?_
                                  refine w_iload_n X dX8_goThrough_336 rfl ?_
                                  refine s_iald X (c) (by decide) (fun _ => σ_m500 G n0 _ _ (by decide)) dX8_goThrough_337 ?_
                                  rw [h7f 490 (by decide)]
                                  refine w_icmp_ge X 353 dX8_goThrough_338 (by decide) (fun c338_15 => ?_) (fun c338_15 => ?_)
                                  ·
                                    refine w_aload_n X dX8_goThrough_353 rfl ?_
                                    refine w_get X (by decide) (σ_473 G n0 _ _) rfl gW_X8 26 (by decide) gF_X8_66 rfl dX8_goThrough_354 ?_
                                    refine w_iload_n X dX8_goThrough_357 rfl ?_
                                    refine s_iald X (c) (by decide) (fun _ => σ_m500 G n0 _ _ (by decide)) dX8_goThrough_358 ?_
                                    rw [h7f 490 (by decide)]
                                    refine s_iast X (c) (by decide) (fun _ => σ_m500 G n0 _ _ (by decide)) dX8_goThrough_359 ?_
                                    refine w_iconst X dX8_goThrough_360 ?_
                                    refine w_ist6_2 X dX8_goThrough_361 ?_
                                    refine w_iinc6_4 X dX8_goThrough_362 ?_
                                    refine w_goto X 204 dX8_goThrough_365 (by decide) ?_
                                    have hv1 : ∀ i : Nat, up2 m7 490 c (m6 490 c) 491 i = if i = w then (if m6 491 w = 1 ∨ m6 491 c = 1 then 1 else 0) else m6 491 i := fun i => by rw [up2_k _ _ _ _ (show (491 : Nat) ≠ 490 by decide)]; exact h71 i
                                    have hv0 : ∀ i : Nat, up2 m7 490 c (m6 490 c) 490 i = if i = c then (if m6 490 w + 1 < m6 490 c then m6 490 w + 1 else m6 490 c) else m6 490 i := fun i => by
                                      by_cases q : i = c
                                      · rw [q, up2_s, if_pos rfl]; rw [if_neg (by omega)]
                                      · rw [up2_j _ _ _ _ q, if_neg q, h7f 490 (by decide)]
                                    have hvf : ∀ a, a ≠ 490 → a ≠ 491 → up2 m7 490 c (m6 490 c) a = m6 a := fun a h1 h2 => by rw [up2_k _ _ _ _ h1, h7f a h2]
                                    have hms := mes_up hxi5 (by omega) hwk hv1 hv0 (by omega)
                                    have hpb5 := (PSS_b hps5).2
                                    exact ih_xloop _ (by omega) _ (x + 1) 1 _ (by omega) (FG2_t hfs5 (fun a ha => hvf a (by omega) (by omega))) (by rw [hvf 473 (by decide) (by decide)]; exact h235) (XI_up hA.1 hxi5 (by omega) hwk (by omega) hfit6 hew (hvf 488 (by decide) (by decide)) (hvf 489 (by decide) (by decide)) hv1 hv0) (fun j hj => by rw [hvf 485 (by decide) (by decide), hvf 488 (by decide) (by decide)]; exact hone5 j hj) (Or.inl ⟨rfl, by omega⟩) rfl
                                  ·
                                    refine w_aload_n X dX8_goThrough_341 rfl ?_
                                    refine w_get X (by decide) (σ_473 G n0 _ _) rfl gW_X8 26 (by decide) gF_X8_66 rfl dX8_goThrough_342 ?_
                                    refine w_iload X dX8_goThrough_345 rfl ?_
                                    refine s_iald X (w) (by decide) (fun _ => σ_m500 G n0 _ _ (by decide)) dX8_goThrough_347 ?_
                                    rw [h7f 490 (by decide)]
                                    refine w_iconst X dX8_goThrough_348 ?_
                                    refine w_iadd X dX8_goThrough_349 ?_
                                    refine w_goto X 359 dX8_goThrough_350 (by decide) ?_
                                    refine s_iast X (c) (by decide) (fun _ => σ_m500 G n0 _ _ (by decide)) dX8_goThrough_359 ?_
                                    refine w_iconst X dX8_goThrough_360 ?_
                                    refine w_ist6_2 X dX8_goThrough_361 ?_
                                    refine w_iinc6_4 X dX8_goThrough_362 ?_
                                    refine w_goto X 204 dX8_goThrough_365 (by decide) ?_
                                    have hv1 : ∀ i : Nat, up2 m7 490 c (m6 490 w + 1) 491 i = if i = w then (if m6 491 w = 1 ∨ m6 491 c = 1 then 1 else 0) else m6 491 i := fun i => by rw [up2_k _ _ _ _ (show (491 : Nat) ≠ 490 by decide)]; exact h71 i
                                    have hv0 : ∀ i : Nat, up2 m7 490 c (m6 490 w + 1) 490 i = if i = c then (if m6 490 w + 1 < m6 490 c then m6 490 w + 1 else m6 490 c) else m6 490 i := fun i => by
                                      by_cases q : i = c
                                      · rw [q, up2_s, if_pos rfl]; rw [if_pos (by omega)]
                                      · rw [up2_j _ _ _ _ q, if_neg q, h7f 490 (by decide)]
                                    have hvf : ∀ a, a ≠ 490 → a ≠ 491 → up2 m7 490 c (m6 490 w + 1) a = m6 a := fun a h1 h2 => by rw [up2_k _ _ _ _ h1, h7f a h2]
                                    have hms := mes_up hxi5 (by omega) hwk hv1 hv0 (by omega)
                                    have hpb5 := (PSS_b hps5).2
                                    exact ih_xloop _ (by omega) _ (x + 1) 1 _ (by omega) (FG2_t hfs5 (fun a ha => hvf a (by omega) (by omega))) (by rw [hvf 473 (by decide) (by decide)]; exact h235) (XI_up hA.1 hxi5 (by omega) hwk (by omega) hfit6 hew (hvf 488 (by decide) (by decide)) (hvf 489 (by decide) (by decide)) hv1 hv0) (fun j hj => by rw [hvf 485 (by decide) (by decide), hvf 488 (by decide) (by decide)]; exact hone5 j hj) (Or.inl ⟨rfl, by omega⟩) rfl
                                ·
                                  refine w_aload_n X dX8_goThrough_303 rfl ?_
                                  refine w_get X (by decide) (σ_473 G n0 _ _) rfl gW_X8 27 (by decide) gF_X8_69 rfl dX8_goThrough_304 ?_
                                  refine w_iload_n X dX8_goThrough_307 rfl ?_
                                  refine s_zald X (c) (by decide) (fun _ => σ_491 G n0 _ _) dX8_goThrough_308 ?_
                                  refine w_if_eq X 316 dX8_goThrough_309 (by decide) (fun c309_16 => ?_) (fun c309_16 => ?_)
                                  ·
                                    refine w_iconst X dX8_goThrough_316 ?_
                                    refine s_zast X (w) (by decide) (fun _ => σ_491 G n0 _ _) (by omega) dX8_goThrough_317 ?_
                                    have h71 : ∀ i : Nat, (up2 m6 491 w 0) 491 i = if i = w then (if m6 491 w = 1 ∨ m6 491 c = 1 then 1 else 0) else m6 491 i := fun i => by
                                      by_cases q : i = w
                                      · rw [q, up2_s, if_pos rfl]; rw [if_neg (by omega)]
                                      · rw [up2_j _ _ _ _ q, if_neg q]
                                    have h7f : ∀ a, a ≠ 491 → (up2 m6 491 w 0) a = m6 a := fun a h1 => up2_k _ _ _ _ h1
                                    generalize (up2 m6 491 w 0) = m7 at *
                                    refine w_aload_n X dX8_goThrough_318 rfl ?_
                                    refine w_get X (by decide) (σ_473 G n0 _ _) rfl gW_X8 26 (by decide) gF_X8_66 rfl dX8_goThrough_319 ?_
                                    refine w_iload_n X dX8_goThrough_322 rfl ?_
                                    refine w_aload_n X dX8_goThrough_323 rfl ?_
                                    refine w_get X (by decide) (σ_473 G n0 _ _) rfl gW_X8 26 (by decide) gF_X8_66 rfl dX8_goThrough_324 ?_
                                    refine w_iload X dX8_goThrough_327 rfl ?_
                                    refine s_iald X (w) (by decide) (fun _ => σ_m500 G n0 _ _ (by decide)) dX8_goThrough_329 ?_
                                    rw [h7f 490 (by decide)]
                                    refine w_iconst X dX8_goThrough_330 ?_
                                    refine w_iadd X dX8_goThrough_331 ?_
                                    refine w_aload_n X dX8_goThrough_332 rfl ?_
                                    refine w_get X (by decide) (σ_473 G n0 _ _) rfl gW_X8 26 (by decide) gF_X8_66 rfl dX8_goThrough_333 ?_
                                    refine w_iload_n X dX8_goThrough_336 rfl ?_
                                    refine s_iald X (c) (by decide) (fun _ => σ_m500 G n0 _ _ (by decide)) dX8_goThrough_337 ?_
                                    rw [h7f 490 (by decide)]
                                    refine w_icmp_ge X 353 dX8_goThrough_338 (by decide) (fun c338_17 => ?_) (fun c338_17 => ?_)
                                    ·
                                      refine w_aload_n X dX8_goThrough_353 rfl ?_
                                      refine w_get X (by decide) (σ_473 G n0 _ _) rfl gW_X8 26 (by decide) gF_X8_66 rfl dX8_goThrough_354 ?_
                                      refine w_iload_n X dX8_goThrough_357 rfl ?_
                                      refine s_iald X (c) (by decide) (fun _ => σ_m500 G n0 _ _ (by decide)) dX8_goThrough_358 ?_
                                      rw [h7f 490 (by decide)]
                                      refine s_iast X (c) (by decide) (fun _ => σ_m500 G n0 _ _ (by decide)) dX8_goThrough_359 ?_
                                      refine w_iconst X dX8_goThrough_360 ?_
                                      refine w_ist6_2 X dX8_goThrough_361 ?_
                                      refine w_iinc6_4 X dX8_goThrough_362 ?_
                                      refine w_goto X 204 dX8_goThrough_365 (by decide) ?_
                                      have hv1 : ∀ i : Nat, up2 m7 490 c (m6 490 c) 491 i = if i = w then (if m6 491 w = 1 ∨ m6 491 c = 1 then 1 else 0) else m6 491 i := fun i => by rw [up2_k _ _ _ _ (show (491 : Nat) ≠ 490 by decide)]; exact h71 i
                                      have hv0 : ∀ i : Nat, up2 m7 490 c (m6 490 c) 490 i = if i = c then (if m6 490 w + 1 < m6 490 c then m6 490 w + 1 else m6 490 c) else m6 490 i := fun i => by
                                        by_cases q : i = c
                                        · rw [q, up2_s, if_pos rfl]; rw [if_neg (by omega)]
                                        · rw [up2_j _ _ _ _ q, if_neg q, h7f 490 (by decide)]
                                      have hvf : ∀ a, a ≠ 490 → a ≠ 491 → up2 m7 490 c (m6 490 c) a = m6 a := fun a h1 h2 => by rw [up2_k _ _ _ _ h1, h7f a h2]
                                      have hms := mes_up hxi5 (by omega) hwk hv1 hv0 (by omega)
                                      have hpb5 := (PSS_b hps5).2
                                      exact ih_xloop _ (by omega) _ (x + 1) 1 _ (by omega) (FG2_t hfs5 (fun a ha => hvf a (by omega) (by omega))) (by rw [hvf 473 (by decide) (by decide)]; exact h235) (XI_up hA.1 hxi5 (by omega) hwk (by omega) hfit6 hew (hvf 488 (by decide) (by decide)) (hvf 489 (by decide) (by decide)) hv1 hv0) (fun j hj => by rw [hvf 485 (by decide) (by decide), hvf 488 (by decide) (by decide)]; exact hone5 j hj) (Or.inl ⟨rfl, by omega⟩) rfl
                                    ·
                                      refine w_aload_n X dX8_goThrough_341 rfl ?_
                                      refine w_get X (by decide) (σ_473 G n0 _ _) rfl gW_X8 26 (by decide) gF_X8_66 rfl dX8_goThrough_342 ?_
                                      refine w_iload X dX8_goThrough_345 rfl ?_
                                      refine s_iald X (w) (by decide) (fun _ => σ_m500 G n0 _ _ (by decide)) dX8_goThrough_347 ?_
                                      rw [h7f 490 (by decide)]
                                      refine w_iconst X dX8_goThrough_348 ?_
                                      refine w_iadd X dX8_goThrough_349 ?_
                                      refine w_goto X 359 dX8_goThrough_350 (by decide) ?_
                                      refine s_iast X (c) (by decide) (fun _ => σ_m500 G n0 _ _ (by decide)) dX8_goThrough_359 ?_
                                      refine w_iconst X dX8_goThrough_360 ?_
                                      refine w_ist6_2 X dX8_goThrough_361 ?_
                                      refine w_iinc6_4 X dX8_goThrough_362 ?_
                                      refine w_goto X 204 dX8_goThrough_365 (by decide) ?_
                                      have hv1 : ∀ i : Nat, up2 m7 490 c (m6 490 w + 1) 491 i = if i = w then (if m6 491 w = 1 ∨ m6 491 c = 1 then 1 else 0) else m6 491 i := fun i => by rw [up2_k _ _ _ _ (show (491 : Nat) ≠ 490 by decide)]; exact h71 i
                                      have hv0 : ∀ i : Nat, up2 m7 490 c (m6 490 w + 1) 490 i = if i = c then (if m6 490 w + 1 < m6 490 c then m6 490 w + 1 else m6 490 c) else m6 490 i := fun i => by
                                        by_cases q : i = c
                                        · rw [q, up2_s, if_pos rfl]; rw [if_pos (by omega)]
                                        · rw [up2_j _ _ _ _ q, if_neg q, h7f 490 (by decide)]
                                      have hvf : ∀ a, a ≠ 490 → a ≠ 491 → up2 m7 490 c (m6 490 w + 1) a = m6 a := fun a h1 h2 => by rw [up2_k _ _ _ _ h1, h7f a h2]
                                      have hms := mes_up hxi5 (by omega) hwk hv1 hv0 (by omega)
                                      have hpb5 := (PSS_b hps5).2
                                      exact ih_xloop _ (by omega) _ (x + 1) 1 _ (by omega) (FG2_t hfs5 (fun a ha => hvf a (by omega) (by omega))) (by rw [hvf 473 (by decide) (by decide)]; exact h235) (XI_up hA.1 hxi5 (by omega) hwk (by omega) hfit6 hew (hvf 488 (by decide) (by decide)) (hvf 489 (by decide) (by decide)) hv1 hv0) (fun j hj => by rw [hvf 485 (by decide) (by decide), hvf 488 (by decide) (by decide)]; exact hone5 j hj) (Or.inl ⟨rfl, by omega⟩) rfl
                                  ·
                                    refine w_iconst X dX8_goThrough_312 ?_
                                    refine w_goto X 317 dX8_goThrough_313 (by decide) ?_
                                    refine s_zast X (w) (by decide) (fun _ => σ_491 G n0 _ _) (by omega) dX8_goThrough_317 ?_
                                    have h71 : ∀ i : Nat, (up2 m6 491 w 1) 491 i = if i = w then (if m6 491 w = 1 ∨ m6 491 c = 1 then 1 else 0) else m6 491 i := fun i => by
                                      by_cases q : i = w
                                      · rw [q, up2_s, if_pos rfl]; rw [if_pos (by omega)]
                                      · rw [up2_j _ _ _ _ q, if_neg q]
                                    have h7f : ∀ a, a ≠ 491 → (up2 m6 491 w 1) a = m6 a := fun a h1 => up2_k _ _ _ _ h1
                                    generalize (up2 m6 491 w 1) = m7 at *
                                    refine w_aload_n X dX8_goThrough_318 rfl ?_
                                    refine w_get X (by decide) (σ_473 G n0 _ _) rfl gW_X8 26 (by decide) gF_X8_66 rfl dX8_goThrough_319 ?_
                                    refine w_iload_n X dX8_goThrough_322 rfl ?_
                                    refine w_aload_n X dX8_goThrough_323 rfl ?_
                                    refine w_get X (by decide) (σ_473 G n0 _ _) rfl gW_X8 26 (by decide) gF_X8_66 rfl dX8_goThrough_324 ?_
                                    refine w_iload X dX8_goThrough_327 rfl ?_
                                    refine s_iald X (w) (by decide) (fun _ => σ_m500 G n0 _ _ (by decide)) dX8_goThrough_329 ?_
                                    rw [h7f 490 (by decide)]
                                    refine w_iconst X dX8_goThrough_330 ?_
                                    refine w_iadd X dX8_goThrough_331 ?_
                                    refine w_aload_n X dX8_goThrough_332 rfl ?_
                                    refine w_get X (by decide) (σ_473 G n0 _ _) rfl gW_X8 26 (by decide) gF_X8_66 rfl dX8_goThrough_333 ?_
                                    refine w_iload_n X dX8_goThrough_336 rfl ?_
                                    refine s_iald X (c) (by decide) (fun _ => σ_m500 G n0 _ _ (by decide)) dX8_goThrough_337 ?_
                                    rw [h7f 490 (by decide)]
                                    refine w_icmp_ge X 353 dX8_goThrough_338 (by decide) (fun c338_18 => ?_) (fun c338_18 => ?_)
                                    ·
                                      refine w_aload_n X dX8_goThrough_353 rfl ?_
                                      refine w_get X (by decide) (σ_473 G n0 _ _) rfl gW_X8 26 (by decide) gF_X8_66 rfl dX8_goThrough_354 ?_
                                      refine w_iload_n X dX8_goThrough_357 rfl ?_
                                      refine s_iald X (c) (by decide) (fun _ => σ_m500 G n0 _ _ (by decide)) dX8_goThrough_358 ?_
                                      rw [h7f 490 (by decide)]
                                      refine s_iast X (c) (by decide) (fun _ => σ_m500 G n0 _ _ (by decide)) dX8_goThrough_359 ?_
                                      refine w_iconst X dX8_goThrough_360 ?_
                                      refine w_ist6_2 X dX8_goThrough_361 ?_
                                      refine w_iinc6_4 X dX8_goThrough_362 ?_
                                      refine w_goto X 204 dX8_goThrough_365 (by decide) ?_
                                      have hv1 : ∀ i : Nat, up2 m7 490 c (m6 490 c) 491 i = if i = w then (if m6 491 w = 1 ∨ m6 491 c = 1 then 1 else 0) else m6 491 i := fun i => by rw [up2_k _ _ _ _ (show (491 : Nat) ≠ 490 by decide)]; exact h71 i
                                      have hv0 : ∀ i : Nat, up2 m7 490 c (m6 490 c) 490 i = if i = c then (if m6 490 w + 1 < m6 490 c then m6 490 w + 1 else m6 490 c) else m6 490 i := fun i => by
                                        by_cases q : i = c
                                        · rw [q, up2_s, if_pos rfl]; rw [if_neg (by omega)]
                                        · rw [up2_j _ _ _ _ q, if_neg q, h7f 490 (by decide)]
                                      have hvf : ∀ a, a ≠ 490 → a ≠ 491 → up2 m7 490 c (m6 490 c) a = m6 a := fun a h1 h2 => by rw [up2_k _ _ _ _ h1, h7f a h2]
                                      have hms := mes_up hxi5 (by omega) hwk hv1 hv0 (by omega)
                                      have hpb5 := (PSS_b hps5).2
                                      exact ih_xloop _ (by omega) _ (x + 1) 1 _ (by omega) (FG2_t hfs5 (fun a ha => hvf a (by omega) (by omega))) (by rw [hvf 473 (by decide) (by decide)]; exact h235) (XI_up hA.1 hxi5 (by omega) hwk (by omega) hfit6 hew (hvf 488 (by decide) (by decide)) (hvf 489 (by decide) (by decide)) hv1 hv0) (fun j hj => by rw [hvf 485 (by decide) (by decide), hvf 488 (by decide) (by decide)]; exact hone5 j hj) (Or.inl ⟨rfl, by omega⟩) rfl
                                    ·
                                      refine w_aload_n X dX8_goThrough_341 rfl ?_
                                      refine w_get X (by decide) (σ_473 G n0 _ _) rfl gW_X8 26 (by decide) gF_X8_66 rfl dX8_goThrough_342 ?_
                                      refine w_iload X dX8_goThrough_345 rfl ?_
                                      refine s_iald X (w) (by decide) (fun _ => σ_m500 G n0 _ _ (by decide)) dX8_goThrough_347 ?_
                                      rw [h7f 490 (by decide)]
                                      refine w_iconst X dX8_goThrough_348 ?_
                                      refine w_iadd X dX8_goThrough_349 ?_
                                      refine w_goto X 359 dX8_goThrough_350 (by decide) ?_
                                      refine s_iast X (c) (by decide) (fun _ => σ_m500 G n0 _ _ (by decide)) dX8_goThrough_359 ?_
                                      refine w_iconst X dX8_goThrough_360 ?_
                                      refine w_ist6_2 X dX8_goThrough_361 ?_
                                      refine w_iinc6_4 X dX8_goThrough_362 ?_
                                      refine w_goto X 204 dX8_goThrough_365 (by decide) ?_
                                      have hv1 : ∀ i : Nat, up2 m7 490 c (m6 490 w + 1) 491 i = if i = w then (if m6 491 w = 1 ∨ m6 491 c = 1 then 1 else 0) else m6 491 i := fun i => by rw [up2_k _ _ _ _ (show (491 : Nat) ≠ 490 by decide)]; exact h71 i
                                      have hv0 : ∀ i : Nat, up2 m7 490 c (m6 490 w + 1) 490 i = if i = c then (if m6 490 w + 1 < m6 490 c then m6 490 w + 1 else m6 490 c) else m6 490 i := fun i => by
                                        by_cases q : i = c
                                        · rw [q, up2_s, if_pos rfl]; rw [if_pos (by omega)]
                                        · rw [up2_j _ _ _ _ q, if_neg q, h7f 490 (by decide)]
                                      have hvf : ∀ a, a ≠ 490 → a ≠ 491 → up2 m7 490 c (m6 490 w + 1) a = m6 a := fun a h1 h2 => by rw [up2_k _ _ _ _ h1, h7f a h2]
                                      have hms := mes_up hxi5 (by omega) hwk hv1 hv0 (by omega)
                                      have hpb5 := (PSS_b hps5).2
                                      exact ih_xloop _ (by omega) _ (x + 1) 1 _ (by omega) (FG2_t hfs5 (fun a ha => hvf a (by omega) (by omega))) (by rw [hvf 473 (by decide) (by decide)]; exact h235) (XI_up hA.1 hxi5 (by omega) hwk (by omega) hfit6 hew (hvf 488 (by decide) (by decide)) (hvf 489 (by decide) (by decide)) hv1 hv0) (fun j hj => by rw [hvf 485 (by decide) (by decide), hvf 488 (by decide) (by decide)]; exact hone5 j hj) (Or.inl ⟨rfl, by omega⟩) rfl
                              ·
                                refine w_aload_n X dX8_goThrough_269 rfl ?_
                                refine w_get X (by decide) (σ_473 G n0 _ _) rfl gW_X8 26 (by decide) gF_X8_66 rfl dX8_goThrough_270 ?_
                                refine w_iload X dX8_goThrough_273 rfl ?_
                                refine s_iald X (w) (by decide) (fun _ => σ_m500 G n0 _ _ (by decide)) dX8_goThrough_275 ?_
                                refine w_iconst X dX8_goThrough_276 ?_
                                refine w_iadd X dX8_goThrough_277 ?_
                                refine w_aload_n X dX8_goThrough_278 rfl ?_
                                refine w_get X (by decide) (σ_473 G n0 _ _) rfl gW_X8 26 (by decide) gF_X8_66 rfl dX8_goThrough_279 ?_
                                refine w_iload_n X dX8_goThrough_282 rfl ?_
                                refine s_iald X (c) (by decide) (fun _ => σ_m500 G n0 _ _ (by decide)) dX8_goThrough_283 ?_
                                refine w_icmp_ge X 362 dX8_goThrough_284 (by decide) (fun c284_19 => ?_) (fun c284_19 => ?_)
                                ·
                                  refine w_iinc6_4 X dX8_goThrough_362 ?_
                                  refine w_goto X 204 dX8_goThrough_365 (by decide) ?_
                                  exact ih_xloop _ (by omega) _ (x + 1) _ _ (by omega) hfs5 h235 hxi5 hone5 (PSS_x hps5 (fun _ w hw ew => by
                                    have e := Inc_i hxi5.1.1 hw hwk (ew.trans hew.symm)
                                    subst e
                                    exact ⟨by omega, by omega⟩)) rfl
                                ·
                                  refine w_aload_n X dX8_goThrough_287 rfl ?_
                                  refine w_get X (by decide) (σ_473 G n0 _ _) rfl gW_X8 27 (by decide) gF_X8_69 rfl dX8_goThrough_288 ?_
                                  refine w_iload X dX8_goThrough_291 rfl ?_
                                  refine w_aload_n X dX8_goThrough_293 rfl ?_
                                  refine w_get X (by decide) (σ_473 G n0 _ _) rfl gW_X8 27 (by decide) gF_X8_69 rfl dX8_goThrough_294 ?_
                                  refine w_iload X dX8_goThrough_297 rfl ?_
                                  refine s_zald X (w) (by decide) (fun _ => σ_491 G n0 _ _) dX8_goThrough_299 ?_
                                  refine w_if_ne X 312 dX8_goThrough_300 (by decide) (fun c300_20 => ?_) (fun c300_20 => ?_)
                                  ·
                                    refine w_iconst X dX8_goThrough_312 ?_
                                    refine w_goto X 317 dX8_goThrough_313 (by decide) ?_
                                    refine s_zast X (w) (by decide) (fun _ => σ_491 G n0 _ _) (by omega) dX8_goThrough_317 ?_
                                    have h71 : ∀ i : Nat, (up2 m6 491 w 1) 491 i = if i = w then (if m6 491 w = 1 ∨ m6 491 c = 1 then 1 else 0) else m6 491 i := fun i => by
                                      by_cases q : i = w
                                      · rw [q, up2_s, if_pos rfl]; rw [if_pos (by omega)]
                                      · rw [up2_j _ _ _ _ q, if_neg q]
                                    have h7f : ∀ a, a ≠ 491 → (up2 m6 491 w 1) a = m6 a := fun a h1 => up2_k _ _ _ _ h1
                                    generalize (up2 m6 491 w 1) = m7 at *
                                    refine w_aload_n X dX8_goThrough_318 rfl ?_
                                    refine w_get X (by decide) (σ_473 G n0 _ _) rfl gW_X8 26 (by decide) gF_X8_66 rfl dX8_goThrough_319 ?_
                                    refine w_iload_n X dX8_goThrough_322 rfl ?_
                                    refine w_aload_n X dX8_goThrough_323 rfl ?_
                                    refine w_get X (by decide) (σ_473 G n0 _ _) rfl gW_X8 26 (by decide) gF_X8_66 rfl dX8_goThrough_324 ?_
                                    refine w_iload X dX8_goThrough_327 rfl ?_
                                    refine s_iald X (w) (by decide) (fun _ => σ_m500 G n0 _ _ (by decide)) dX8_goThrough_329 ?_
                                    rw [h7f 490 (by decide)]
                                    refine w_iconst X dX8_goThrough_330 ?_
                                    refine w_iadd X dX8_goThrough_331 ?_
                                    refine w_aload_n X dX8_goThrough_332 rfl ?_
                                    refine w_get X (by decide) (σ_473 G n0 _ _) rfl gW_X8 26 (by decide) gF_X8_66 rfl dX8_goThrough_333 ?_
                                    refine w_iload_n X dX8_goThrough_336 rfl ?_
                                    refine s_iald X (c) (by decide) (fun _ => σ_m500 G n0 _ _ (by decide)) dX8_goThrough_337 ?_
                                    rw [h7f 490 (by decide)]
                                    refine w_icmp_ge X 353 dX8_goThrough_338 (by decide) (fun c338_21 => ?_) (fun c338_21 => ?_)
                                    ·
                                      refine w_aload_n X dX8_goThrough_353 rfl ?_
                                      refine w_get X (by decide) (σ_473 G n0 _ _) rfl gW_X8 26 (by decide) gF_X8_66 rfl dX8_goThrough_354 ?_
                                      refine w_iload_n X dX8_goThrough_357 rfl ?_
                                      refine s_iald X (c) (by decide) (fun _ => σ_m500 G n0 _ _ (by decide)) dX8_goThrough_358 ?_
                                      rw [h7f 490 (by decide)]
                                      refine s_iast X (c) (by decide) (fun _ => σ_m500 G n0 _ _ (by decide)) dX8_goThrough_359 ?_
                                      refine w_iconst X dX8_goThrough_360 ?_
                                      refine w_ist6_2 X dX8_goThrough_361 ?_
                                      refine w_iinc6_4 X dX8_goThrough_362 ?_
                                      refine w_goto X 204 dX8_goThrough_365 (by decide) ?_
                                      have hv1 : ∀ i : Nat, up2 m7 490 c (m6 490 c) 491 i = if i = w then (if m6 491 w = 1 ∨ m6 491 c = 1 then 1 else 0) else m6 491 i := fun i => by rw [up2_k _ _ _ _ (show (491 : Nat) ≠ 490 by decide)]; exact h71 i
                                      have hv0 : ∀ i : Nat, up2 m7 490 c (m6 490 c) 490 i = if i = c then (if m6 490 w + 1 < m6 490 c then m6 490 w + 1 else m6 490 c) else m6 490 i := fun i => by
                                        by_cases q : i = c
                                        · rw [q, up2_s, if_pos rfl]; rw [if_neg (by omega)]
                                        · rw [up2_j _ _ _ _ q, if_neg q, h7f 490 (by decide)]
                                      have hvf : ∀ a, a ≠ 490 → a ≠ 491 → up2 m7 490 c (m6 490 c) a = m6 a := fun a h1 h2 => by rw [up2_k _ _ _ _ h1, h7f a h2]
                                      have hms := mes_up hxi5 (by omega) hwk hv1 hv0 (by omega)
                                      have hpb5 := (PSS_b hps5).2
                                      exact ih_xloop _ (by omega) _ (x + 1) 1 _ (by omega) (FG2_t hfs5 (fun a ha => hvf a (by omega) (by omega))) (by rw [hvf 473 (by decide) (by decide)]; exact h235) (XI_up hA.1 hxi5 (by omega) hwk (by omega) hfit6 hew (hvf 488 (by decide) (by decide)) (hvf 489 (by decide) (by decide)) hv1 hv0) (fun j hj => by rw [hvf 485 (by decide) (by decide), hvf 488 (by decide) (by decide)]; exact hone5 j hj) (Or.inl ⟨rfl, by omega⟩) rfl
                                    ·
                                      refine w_aload_n X dX8_goThrough_341 rfl ?_
                                      refine w_get X (by decide) (σ_473 G n0 _ _) rfl gW_X8 26 (by decide) gF_X8_66 rfl dX8_goThrough_342 ?_
                                      refine w_iload X dX8_goThrough_345 rfl ?_
                                      refine s_iald X (w) (by decide) (fun _ => σ_m500 G n0 _ _ (by decide)) dX8_goThrough_347 ?_
                                      rw [h7f 490 (by decide)]
                                      refine w_iconst X dX8_goThrough_348 ?_
                                      refine w_iadd X dX8_goThrough_349 ?_
                                      refine w_goto X 359 dX8_goThrough_350 (by decide) ?_
                                      refine s_iast X (c) (by decide) (fun _ => σ_m500 G n0 _ _ (by decide)) dX8_goThrough_359 ?_
                                      refine w_iconst X dX8_goThrough_360 ?_
                                      refine w_ist6_2 X dX8_goThrough_361 ?_
                                      refine w_iinc6_4 X dX8_goThrough_362 ?_
                                      refine w_goto X 204 dX8_goThrough_365 (by decide) ?_
                                      have hv1 : ∀ i : Nat, up2 m7 490 c (m6 490 w + 1) 491 i = if i = w then (if m6 491 w = 1 ∨ m6 491 c = 1 then 1 else 0) else m6 491 i := fun i => by rw [up2_k _ _ _ _ (show (491 : Nat) ≠ 490 by decide)]; exact h71 i
                                      have hv0 : ∀ i : Nat, up2 m7 490 c (m6 490 w + 1) 490 i = if i = c then (if m6 490 w + 1 < m6 490 c then m6 490 w + 1 else m6 490 c) else m6 490 i := fun i => by
                                        by_cases q : i = c
                                        · rw [q, up2_s, if_pos rfl]; rw [if_pos (by omega)]
                                        · rw [up2_j _ _ _ _ q, if_neg q, h7f 490 (by decide)]
                                      have hvf : ∀ a, a ≠ 490 → a ≠ 491 → up2 m7 490 c (m6 490 w + 1) a = m6 a := fun a h1 h2 => by rw [up2_k _ _ _ _ h1, h7f a h2]
                                      have hms := mes_up hxi5 (by omega) hwk hv1 hv0 (by omega)
                                      have hpb5 := (PSS_b hps5).2
                                      exact ih_xloop _ (by omega) _ (x + 1) 1 _ (by omega) (FG2_t hfs5 (fun a ha => hvf a (by omega) (by omega))) (by rw [hvf 473 (by decide) (by decide)]; exact h235) (XI_up hA.1 hxi5 (by omega) hwk (by omega) hfit6 hew (hvf 488 (by decide) (by decide)) (hvf 489 (by decide) (by decide)) hv1 hv0) (fun j hj => by rw [hvf 485 (by decide) (by decide), hvf 488 (by decide) (by decide)]; exact hone5 j hj) (Or.inl ⟨rfl, by omega⟩) rfl
                                  ·
                                    refine w_aload_n X dX8_goThrough_303 rfl ?_
                                    refine w_get X (by decide) (σ_473 G n0 _ _) rfl gW_X8 27 (by decide) gF_X8_69 rfl dX8_goThrough_304 ?_
                                    refine w_iload_n X dX8_goThrough_307 rfl ?_
                                    refine s_zald X (c) (by decide) (fun _ => σ_491 G n0 _ _) dX8_goThrough_308 ?_
                                    refine w_if_eq X 316 dX8_goThrough_309 (by decide) (fun c309_22 => ?_) (fun c309_22 => ?_)
                                    ·
                                      refine w_iconst X dX8_goThrough_316 ?_
                                      refine s_zast X (w) (by decide) (fun _ => σ_491 G n0 _ _) (by omega) dX8_goThrough_317 ?_
                                      have h71 : ∀ i : Nat, (up2 m6 491 w 0) 491 i = if i = w then (if m6 491 w = 1 ∨ m6 491 c = 1 then 1 else 0) else m6 491 i := fun i => by
                                        by_cases q : i = w
                                        · rw [q, up2_s, if_pos rfl]; rw [if_neg (by omega)]
                                        · rw [up2_j _ _ _ _ q, if_neg q]
                                      have h7f : ∀ a, a ≠ 491 → (up2 m6 491 w 0) a = m6 a := fun a h1 => up2_k _ _ _ _ h1
                                      generalize (up2 m6 491 w 0) = m7 at *
                                      refine w_aload_n X dX8_goThrough_318 rfl ?_
                                      refine w_get X (by decide) (σ_473 G n0 _ _) rfl gW_X8 26 (by decide) gF_X8_66 rfl dX8_goThrough_319 ?_
                                      refine w_iload_n X dX8_goThrough_322 rfl ?_
                                      refine w_aload_n X dX8_goThrough_323 rfl ?_
                                      refine w_get X (by decide) (σ_473 G n0 _ _) rfl gW_X8 26 (by decide) gF_X8_66 rfl dX8_goThrough_324 ?_
                                      refine w_iload X dX8_goThrough_327 rfl ?_
                                      refine s_iald X (w) (by decide) (fun _ => σ_m500 G n0 _ _ (by decide)) dX8_goThrough_329 ?_
                                      rw [h7f 490 (by decide)]
                                      refine w_iconst X dX8_goThrough_330 ?_
                                      refine w_iadd X dX8_goThrough_331 ?_
                                      refine w_aload_n X dX8_goThrough_332 rfl ?_
                                      refine w_get X (by decide) (σ_473 G n0 _ _) rfl gW_X8 26 (by decide) gF_X8_66 rfl dX8_goThrough_333 ?_
                                      refine w_iload_n X dX8_goThrough_336 rfl ?_
                                      refine s_iald X (c) (by decide) (fun _ => σ_m500 G n0 _ _ (by decide)) dX8_goThrough_337 ?_
                                      rw [h7f 490 (by decide)]
                                      refine w_icmp_ge X 353 dX8_goThrough_338 (by decide) (fun c338_23 => ?_) (fun c338_23 => ?_)
                                      ·
                                        refine w_aload_n X dX8_goThrough_353 rfl ?_
                                        refine w_get X (by decide) (σ_473 G n0 _ _) rfl gW_X8 26 (by decide) gF_X8_66 rfl dX8_goThrough_354 ?_
                                        refine w_iload_n X dX8_goThrough_357 rfl ?_
                                        refine s_iald X (c) (by decide) (fun _ => σ_m500 G n0 _ _ (by decide)) dX8_goThrough_358 ?_
                                        rw [h7f 490 (by decide)]
                                        refine s_iast X (c) (by decide) (fun _ => σ_m500 G n0 _ _ (by decide)) dX8_goThrough_359 ?_
                                        refine w_iconst X dX8_goThrough_360 ?_
                                        refine w_ist6_2 X dX8_goThrough_361 ?_
                                        refine w_iinc6_4 X dX8_goThrough_362 ?_
                                        refine w_goto X 204 dX8_goThrough_365 (by decide) ?_
                                        have hv1 : ∀ i : Nat, up2 m7 490 c (m6 490 c) 491 i = if i = w then (if m6 491 w = 1 ∨ m6 491 c = 1 then 1 else 0) else m6 491 i := fun i => by rw [up2_k _ _ _ _ (show (491 : Nat) ≠ 490 by decide)]; exact h71 i
                                        have hv0 : ∀ i : Nat, up2 m7 490 c (m6 490 c) 490 i = if i = c then (if m6 490 w + 1 < m6 490 c then m6 490 w + 1 else m6 490 c) else m6 490 i := fun i => by
                                          by_cases q : i = c
                                          · rw [q, up2_s, if_pos rfl]; rw [if_neg (by omega)]
                                          · rw [up2_j _ _ _ _ q, if_neg q, h7f 490 (by decide)]
                                        have hvf : ∀ a, a ≠ 490 → a ≠ 491 → up2 m7 490 c (m6 490 c) a = m6 a := fun a h1 h2 => by rw [up2_k _ _ _ _ h1, h7f a h2]
                                        have hms := mes_up hxi5 (by omega) hwk hv1 hv0 (by omega)
                                        have hpb5 := (PSS_b hps5).2
                                        exact ih_xloop _ (by omega) _ (x + 1) 1 _ (by omega) (FG2_t hfs5 (fun a ha => hvf a (by omega) (by omega))) (by rw [hvf 473 (by decide) (by decide)]; exact h235) (XI_up hA.1 hxi5 (by omega) hwk (by omega) hfit6 hew (hvf 488 (by decide) (by decide)) (hvf 489 (by decide) (by decide)) hv1 hv0) (fun j hj => by rw [hvf 485 (by decide) (by decide), hvf 488 (by decide) (by decide)]; exact hone5 j hj) (Or.inl ⟨rfl, by omega⟩) rfl
                                      ·
                                        refine w_aload_n X dX8_goThrough_341 rfl ?_
                                        refine w_get X (by decide) (σ_473 G n0 _ _) rfl gW_X8 26 (by decide) gF_X8_66 rfl dX8_goThrough_342 ?_
                                        refine w_iload X dX8_goThrough_345 rfl ?_
                                        refine s_iald X (w) (by decide) (fun _ => σ_m500 G n0 _ _ (by decide)) dX8_goThrough_347 ?_
                                        rw [h7f 490 (by decide)]
                                        refine w_iconst X dX8_goThrough_348 ?_
                                        refine w_iadd X dX8_goThrough_349 ?_
                                        refine w_goto X 359 dX8_goThrough_350 (by decide) ?_
                                        refine s_iast X (c) (by decide) (fun _ => σ_m500 G n0 _ _ (by decide)) dX8_goThrough_359 ?_
                                        refine w_iconst X dX8_goThrough_360 ?_
                                        refine w_ist6_2 X dX8_goThrough_361 ?_
                                        refine w_iinc6_4 X dX8_goThrough_362 ?_
                                        refine w_goto X 204 dX8_goThrough_365 (by decide) ?_
                                        have hv1 : ∀ i : Nat, up2 m7 490 c (m6 490 w + 1) 491 i = if i = w then (if m6 491 w = 1 ∨ m6 491 c = 1 then 1 else 0) else m6 491 i := fun i => by rw [up2_k _ _ _ _ (show (491 : Nat) ≠ 490 by decide)]; exact h71 i
                                        have hv0 : ∀ i : Nat, up2 m7 490 c (m6 490 w + 1) 490 i = if i = c then (if m6 490 w + 1 < m6 490 c then m6 490 w + 1 else m6 490 c) else m6 490 i := fun i => by
                                          by_cases q : i = c
                                          · rw [q, up2_s, if_pos rfl]; rw [if_pos (by omega)]
                                          · rw [up2_j _ _ _ _ q, if_neg q, h7f 490 (by decide)]
                                        have hvf : ∀ a, a ≠ 490 → a ≠ 491 → up2 m7 490 c (m6 490 w + 1) a = m6 a := fun a h1 h2 => by rw [up2_k _ _ _ _ h1, h7f a h2]
                                        have hms := mes_up hxi5 (by omega) hwk hv1 hv0 (by omega)
                                        have hpb5 := (PSS_b hps5).2
                                        exact ih_xloop _ (by omega) _ (x + 1) 1 _ (by omega) (FG2_t hfs5 (fun a ha => hvf a (by omega) (by omega))) (by rw [hvf 473 (by decide) (by decide)]; exact h235) (XI_up hA.1 hxi5 (by omega) hwk (by omega) hfit6 hew (hvf 488 (by decide) (by decide)) (hvf 489 (by decide) (by decide)) hv1 hv0) (fun j hj => by rw [hvf 485 (by decide) (by decide), hvf 488 (by decide) (by decide)]; exact hone5 j hj) (Or.inl ⟨rfl, by omega⟩) rfl
                                    ·
                                      refine w_iconst X dX8_goThrough_312 ?_
                                      refine w_goto X 317 dX8_goThrough_313 (by decide) ?_
                                      refine s_zast X (w) (by decide) (fun _ => σ_491 G n0 _ _) (by omega) dX8_goThrough_317 ?_
                                      have h71 : ∀ i : Nat, (up2 m6 491 w 1) 491 i = if i = w then (if m6 491 w = 1 ∨ m6 491 c = 1 then 1 else 0) else m6 491 i := fun i => by
                                        by_cases q : i = w
                                        · rw [q, up2_s, if_pos rfl]; rw [if_pos (by omega)]
                                        · rw [up2_j _ _ _ _ q, if_neg q]
                                      have h7f : ∀ a, a ≠ 491 → (up2 m6 491 w 1) a = m6 a := fun a h1 => up2_k _ _ _ _ h1
                                      generalize (up2 m6 491 w 1) = m7 at *
                                      refine w_aload_n X dX8_goThrough_318 rfl ?_
                                      refine w_get X (by decide) (σ_473 G n0 _ _) rfl gW_X8 26 (by decide) gF_X8_66 rfl dX8_goThrough_319 ?_
                                      refine w_iload_n X dX8_goThrough_322 rfl ?_
                                      refine w_aload_n X dX8_goThrough_323 rfl ?_
                                      refine w_get X (by decide) (σ_473 G n0 _ _) rfl gW_X8 26 (by decide) gF_X8_66 rfl dX8_goThrough_324 ?_
                                      refine w_iload X dX8_goThrough_327 rfl ?_
                                      refine s_iald X (w) (by decide) (fun _ => σ_m500 G n0 _ _ (by decide)) dX8_goThrough_329 ?_
                                      rw [h7f 490 (by decide)]
                                      refine w_iconst X dX8_goThrough_330 ?_
                                      refine w_iadd X dX8_goThrough_331 ?_
                                      refine w_aload_n X dX8_goThrough_332 rfl ?_
                                      refine w_get X (by decide) (σ_473 G n0 _ _) rfl gW_X8 26 (by decide) gF_X8_66 rfl dX8_goThrough_333 ?_
                                      refine w_iload_n X dX8_goThrough_336 rfl ?_
                                      refine s_iald X (c) (by decide) (fun _ => σ_m500 G n0 _ _ (by decide)) dX8_goThrough_337 ?_
                                      rw [h7f 490 (by decide)]
                                      refine w_icmp_ge X 353 dX8_goThrough_338 (by decide) (fun c338_24 => ?_) (fun c338_24 => ?_)
                                      ·
                                        refine w_aload_n X dX8_goThrough_353 rfl ?_
                                        refine w_get X (by decide) (σ_473 G n0 _ _) rfl gW_X8 26 (by decide) gF_X8_66 rfl dX8_goThrough_354 ?_
                                        refine w_iload_n X dX8_goThrough_357 rfl ?_
                                        refine s_iald X (c) (by decide) (fun _ => σ_m500 G n0 _ _ (by decide)) dX8_goThrough_358 ?_
                                        rw [h7f 490 (by decide)]
                                        refine s_iast X (c) (by decide) (fun _ => σ_m500 G n0 _ _ (by decide)) dX8_goThrough_359 ?_
                                        refine w_iconst X dX8_goThrough_360 ?_
                                        refine w_ist6_2 X dX8_goThrough_361 ?_
                                        refine w_iinc6_4 X dX8_goThrough_362 ?_
                                        refine w_goto X 204 dX8_goThrough_365 (by decide) ?_
                                        have hv1 : ∀ i : Nat, up2 m7 490 c (m6 490 c) 491 i = if i = w then (if m6 491 w = 1 ∨ m6 491 c = 1 then 1 else 0) else m6 491 i := fun i => by rw [up2_k _ _ _ _ (show (491 : Nat) ≠ 490 by decide)]; exact h71 i
                                        have hv0 : ∀ i : Nat, up2 m7 490 c (m6 490 c) 490 i = if i = c then (if m6 490 w + 1 < m6 490 c then m6 490 w + 1 else m6 490 c) else m6 490 i := fun i => by
                                          by_cases q : i = c
                                          · rw [q, up2_s, if_pos rfl]; rw [if_neg (by omega)]
                                          · rw [up2_j _ _ _ _ q, if_neg q, h7f 490 (by decide)]
                                        have hvf : ∀ a, a ≠ 490 → a ≠ 491 → up2 m7 490 c (m6 490 c) a = m6 a := fun a h1 h2 => by rw [up2_k _ _ _ _ h1, h7f a h2]
                                        have hms := mes_up hxi5 (by omega) hwk hv1 hv0 (by omega)
                                        have hpb5 := (PSS_b hps5).2
                                        exact ih_xloop _ (by omega) _ (x + 1) 1 _ (by omega) (FG2_t hfs5 (fun a ha => hvf a (by omega) (by omega))) (by rw [hvf 473 (by decide) (by decide)]; exact h235) (XI_up hA.1 hxi5 (by omega) hwk (by omega) hfit6 hew (hvf 488 (by decide) (by decide)) (hvf 489 (by decide) (by decide)) hv1 hv0) (fun j hj => by rw [hvf 485 (by decide) (by decide), hvf 488 (by decide) (by decide)]; exact hone5 j hj) (Or.inl ⟨rfl, by omega⟩) rfl
                                      ·
                                        refine w_aload_n X dX8_goThrough_341 rfl ?_
                                        refine w_get X (by decide) (σ_473 G n0 _ _) rfl gW_X8 26 (by decide) gF_X8_66 rfl dX8_goThrough_342 ?_
                                        refine w_iload X dX8_goThrough_345 rfl ?_
                                        refine s_iald X (w) (by decide) (fun _ => σ_m500 G n0 _ _ (by decide)) dX8_goThrough_347 ?_
                                        rw [h7f 490 (by decide)]
                                        refine w_iconst X dX8_goThrough_348 ?_
                                        refine w_iadd X dX8_goThrough_349 ?_
                                        refine w_goto X 359 dX8_goThrough_350 (by decide) ?_
                                        refine s_iast X (c) (by decide) (fun _ => σ_m500 G n0 _ _ (by decide)) dX8_goThrough_359 ?_
                                        refine w_iconst X dX8_goThrough_360 ?_
                                        refine w_ist6_2 X dX8_goThrough_361 ?_
                                        refine w_iinc6_4 X dX8_goThrough_362 ?_
                                        refine w_goto X 204 dX8_goThrough_365 (by decide) ?_
                                        have hv1 : ∀ i : Nat, up2 m7 490 c (m6 490 w + 1) 491 i = if i = w then (if m6 491 w = 1 ∨ m6 491 c = 1 then 1 else 0) else m6 491 i := fun i => by rw [up2_k _ _ _ _ (show (491 : Nat) ≠ 490 by decide)]; exact h71 i
                                        have hv0 : ∀ i : Nat, up2 m7 490 c (m6 490 w + 1) 490 i = if i = c then (if m6 490 w + 1 < m6 490 c then m6 490 w + 1 else m6 490 c) else m6 490 i := fun i => by
                                          by_cases q : i = c
                                          · rw [q, up2_s, if_pos rfl]; rw [if_pos (by omega)]
                                          · rw [up2_j _ _ _ _ q, if_neg q, h7f 490 (by decide)]
                                        have hvf : ∀ a, a ≠ 490 → a ≠ 491 → up2 m7 490 c (m6 490 w + 1) a = m6 a := fun a h1 h2 => by rw [up2_k _ _ _ _ h1, h7f a h2]
                                        have hms := mes_up hxi5 (by omega) hwk hv1 hv0 (by omega)
                                        have hpb5 := (PSS_b hps5).2
                                        exact ih_xloop _ (by omega) _ (x + 1) 1 _ (by omega) (FG2_t hfs5 (fun a ha => hvf a (by omega) (by omega))) (by rw [hvf 473 (by decide) (by decide)]; exact h235) (XI_up hA.1 hxi5 (by omega) hwk (by omega) hfit6 hew (hvf 488 (by decide) (by decide)) (hvf 489 (by decide) (by decide)) hv1 hv0) (fun j hj => by rw [hvf 485 (by decide) (by decide), hvf 488 (by decide) (by decide)]; exact hone5 j hj) (Or.inl ⟨rfl, by omega⟩) rfl
                    exact xloop _ _ 0 _ _ (by omega) (FG2_t hfs (fun a ha => hPc a (by omega))) (by rw [hPc 473 (by decide)]; exact h23) (XI_fr hxi (fun a h1 h2 => hPc a (by omega))) (fun j hj => by rw [hPc 488 (by decide)]; exact hOc j hj) (PSS_fr hps (fun a h1 h2 => hPc a (by omega))) rfl
              exact cloop _ m1 0 0 _ _ (by omega) hfs h23 hxi (Or.inr ⟨rfl, by omega, fun i hi => absurd hi (by omega), fun j hj => absurd hj (by omega)⟩) rfl
        exact wloop _ m1 1 _ _ _ hfs h23 hxi0 (Or.inr rfl) rfl
      ·
        refine w_aload_n X dX8_goThrough_13 rfl ?_
        refine w_get X (by decide) (σ_473 G n0 _ _) rfl gW_X8 25 (by decide) gF_X8_63 rfl dX8_goThrough_14 ?_
        refine w_iload_n X dX8_goThrough_17 rfl ?_
        refine w_bipush X dX8_goThrough_18 rfl ?_
        refine s_iast X (c) (by decide) (fun _ => σ_489 G n0 _ _) dX8_goThrough_20 ?_
        refine w_aload_n X dX8_goThrough_21 rfl ?_
        refine w_iload_n X dX8_goThrough_22 rfl ?_
        refine w_aload_n X dX8_goThrough_23 rfl ?_
        refine w_get X (by decide) (σ_473 G n0 _ _) rfl gW_X8 20 (by decide) gF_X8_50 rfl dX8_goThrough_24 ?_
        refine s_callVv X _ (c_X8_crowdOf (l := l) (G := G) (n0 := n0) IA_485 (z := (c : Int)) (by omega)) gM_X8_188 gI_yX8_crowdOf gS_yX8_crowdOf gN_X8 gC_yX8_crowdOf (by decide) (σ_473 G n0 _ _) rfl dX8_goThrough_27 hl_yX8_crowdOf ⟨Nat.le_of_ble_eq_true rfl, Nat.le_of_ble_eq_true rfl⟩ (Nat.le_of_ble_eq_true rfl) rfl (fun mi1 mr1 h1 => ?_)
        obtain ⟨hO9_, hP9_, rfl⟩ := h1
        have hf2 : ∀ a, a ≠ 485 → a ≠ 489 → mi1 a = m1 a := fun a h1 h2 => by rw [hP9_ a h1, up2_k _ _ _ _ h2]
        have hp2 : ∀ j : Nat, j ≠ c → mi1 489 j = m1 489 j := fun j hj => by rw [hP9_ 489 (by decide), up2_j _ _ _ _ hj]
        clear hP9_
        refine w_aload_n X dX8_goThrough_30 rfl ?_
        refine w_get X (by decide) (σ_473 G n0 _ _) rfl gW_X8 20 (by decide) gF_X8_50 rfl dX8_goThrough_31 ?_
        refine w_iconst X dX8_goThrough_34 ?_
        refine s_callSi X _ (c_X8_sum (b := 0) (l := l) (G := G) (n0 := n0) IA_485 (by decide) (by decide)) gM_X8_116 gT_yX8_sum gN_X8 gC_yX8_sum dX8_goThrough_35 hl_yX8_sum ⟨Nat.le_of_ble_eq_true rfl, Nat.le_of_ble_eq_true rfl⟩ (Nat.le_of_ble_eq_true rfl) rfl (fun r2 mi2 mr2 h2 => ?_)
        obtain ⟨rfl, rfl, h2⟩ := h2
        have hsq : r2 = sm (T9 (c : Int)) := by
          rw [h2, sm_x]
          rw [hO9_ 0 (by decide), hO9_ (0 + 1) (by decide), hO9_ (0 + 2) (by decide), hO9_ (0 + 3) (by decide), hO9_ (0 + 4) (by decide)]
          rfl
        have hsb : 0 ≤ r2 ∧ r2 ≤ 40 := by
          rw [h2, hO9_ 0 (by decide), hO9_ (0 + 1) (by decide), hO9_ (0 + 2) (by decide), hO9_ (0 + 3) (by decide), hO9_ (0 + 4) (by decide)]
          have b0 := dg9_b (c : Int) 0; have b1 := dg9_b (c : Int) (0 + 1); have b2 := dg9_b (c : Int) (0 + 2); have b3 := dg9_b (c : Int) (0 + 3); have b4 := dg9_b (c : Int) (0 + 4)
          omega
        refine w_iload_n X dX8_goThrough_38 rfl ?_
        refine w_icmp_ne X 46 dX8_goThrough_39 (by decide) (fun c39_25 => ?_) (fun c39_25 => ?_)
        ·
          refine w_iconst X dX8_goThrough_46 ?_
          refine w_ist6_3 X dX8_goThrough_47 ?_
          refine w_aload_n X dX8_goThrough_48 rfl ?_
          refine w_get X (by decide) (σ_473 G n0 _ _) rfl gW_X8 1 (by decide) gF_X8_7 rfl dX8_goThrough_49 ?_
          rw [show mi1 473 1 = (L.1.toNat : Int) by rw [hf2 473 (by decide) (by decide), hfs.2 1 (by decide)]; omega]
          refine w_ist6_4 X dX8_goThrough_52 ?_
          have sloop : ∀ (n : Nat) (i : Nat) (w3 : Int), (L.1 ≤ (i : Int) ∧ i ≤ 5) → (flg w3 (sm (T9 (c : Int)) = z ∧ AU (fun j => L.1 ≤ (j : Int) → dg9 (c : Int) j = 0) i)) → n = 5 - i → WSv p l e s m args below meth c9 4 (fun mi9 mr9 => (∃ k : Nat, mi9 473 23 = (k : Int) ∧ GT L set z k mi9) ∧ FG2 mi mi9 ∧ mr = mr9) G n0 6 mi1 mr 54 [some (.ref (n0 + 473)), some (.int (jI z)), some (.int (jI (c : Int))), some (.int (jI w3)), some (.int (jI (i : Int))), x5] [] := by
            intro n
            induction n using Nat.strongRecOn with
            | ind n ih_sloop =>
              intro i w3 hi hf hn
              have hw3 := flg_b hf
              refine w_iload X dX8_goThrough_54 rfl ?_
              refine w_iconst X dX8_goThrough_56 ?_
              refine w_icmp_ge X 86 dX8_goThrough_57 (by decide) (fun c57_26 => ?_) (fun c57_26 => ?_)
              ·
                have h5 : i = 5 := by omega
                subst h5
                refine w_iload_n X dX8_goThrough_86 rfl ?_
                refine w_if_eq X 163 dX8_goThrough_87 (by decide) (fun c87_27 => ?_) (fun c87_27 => ?_)
                ·
                  refine w_iinc6_2 X dX8_goThrough_163 ?_
                  refine w_goto X 7 dX8_goThrough_166 (by decide) ?_
                  exact ih_ploop _ (by omega) _ k (c + 1) _ _ _ (by omega) (FG2_t hfs (fun a ha => hf2 a (by omega) (by omega))) (by rw [hf2 473 (by decide) (by decide)]; exact h23) (CLI_no hcli (by omega) (hf2 488 (by decide) (by decide)) (fun j hj => hp2 j (by omega)) (fun w => flg_0 hf (by omega) ⟨((Cro_dg hsc).mp w).1, fun j hj => ((Cro_dg hsc).mp w).2 j (by omega)⟩)) (IN0_fr hin (hf2 488 (by decide) (by decide)) (hf2 490 (by decide) (by decide)) (hf2 491 (by decide) (by decide))) rfl
                ·
                  have hff := flg_1 hf (by omega)
                  have hcro : Cro L.1 z (T9 (c : Int)) := (Cro_dg hsc).mpr ⟨hff.1, fun j hj hj2 => hff.2 j hj hj2⟩
                  have hk95 := CLI_l hz (by omega) hcli
                  refine w_aload_n X dX8_goThrough_90 rfl ?_
                  refine w_get X (by decide) (σ_473 G n0 _ _) rfl gW_X8 25 (by decide) gF_X8_63 rfl dX8_goThrough_91 ?_
                  refine w_iload_n X dX8_goThrough_94 rfl ?_
                  refine w_aload_n X dX8_goThrough_95 rfl ?_
                  refine w_get X (by decide) (σ_473 G n0 _ _) rfl gW_X8 23 (by decide) gF_X8_185 rfl dX8_goThrough_96 ?_
                  rw [show mi1 473 23 = (k : Int) by rw [hf2 473 (by decide) (by decide)]; exact h23]
                  refine s_iast X (c) (by decide) (fun _ => σ_489 G n0 _ _) dX8_goThrough_99 ?_
                  refine w_aload_n X dX8_goThrough_100 rfl ?_
                  refine w_get X (by decide) (σ_473 G n0 _ _) rfl gW_X8 24 (by decide) gF_X8_59 rfl dX8_goThrough_101 ?_
                  refine w_aload_n X dX8_goThrough_104 rfl ?_
                  refine w_get X (by decide) (σ_473 G n0 _ _) rfl gW_X8 23 (by decide) gF_X8_185 rfl dX8_goThrough_105 ?_
                  rw [up2_k _ _ _ _ (show (473 : Nat) ≠ 489 by decide), show mi1 473 23 = (k : Int) by rw [hf2 473 (by decide) (by decide)]; exact h23]
                  refine w_iload_n X dX8_goThrough_108 rfl ?_
                  refine s_iast X (k) (by decide) (fun _ => σ_m500 G n0 _ _ (by decide)) dX8_goThrough_109 ?_
                  have h38 : ∀ j : Nat, (up2 (up2 mi1 489 c (k : Int)) 488 k (c : Int)) 488 j = if j = k then (c : Int) else m1 488 j := fun j => by
                    by_cases q : j = k
                    · rw [q, up2_s, if_pos rfl]
                    · rw [up2_j _ _ _ _ q, if_neg q, up2_k _ _ _ _ (show (488 : Nat) ≠ 489 by decide), hf2 488 (by decide) (by decide)]
                  have h39 : ∀ j : Nat, (up2 (up2 mi1 489 c (k : Int)) 488 k (c : Int)) 489 j = if j = (c : Int).toNat then (k : Int) else m1 489 j := fun j => by
                    rw [up2_k _ _ _ _ (show (489 : Nat) ≠ 488 by decide), Int.toNat_natCast]
                    by_cases q : j = c
                    · rw [q, up2_s, if_pos rfl]
                    · rw [up2_j _ _ _ _ q, if_neg q, hp2 j q]
                  have h3f : ∀ a, a ≠ 485 → a ≠ 488 → a ≠ 489 → (up2 (up2 mi1 489 c (k : Int)) 488 k (c : Int)) a = m1 a := fun a h1 h2 h3 => by rw [up2_k _ _ _ _ h2, up2_k _ _ _ _ h3, hf2 a h1 h3]
                  have h3o : ∀ j : Nat, j < 5 → (up2 (up2 mi1 489 c (k : Int)) 488 k (c : Int)) 485 j = dg9 (c : Int) j := fun j hj => by rw [up2_k _ _ _ _ (show (485 : Nat) ≠ 488 by decide), up2_k _ _ _ _ (show (485 : Nat) ≠ 489 by decide)]; exact hO9_ j hj
                  generalize (up2 (up2 mi1 489 c (k : Int)) 488 k (c : Int)) = m3 at *
                  have hset3 : m3 473 2 = set := by rw [h3f 473 (by decide) (by decide) (by decide), hfs.2 2 (by decide)]; exact hset
                  have hs3 : 1 ≤ m3 473 2 ∧ m3 473 2 < 32 := by rw [hset3]; exact hs32
                  have hv3 : ∀ j : Nat, j < 5 → 0 ≤ m3 485 j ∧ m3 485 j ≤ 1000 := fun j hj => by rw [h3o j hj]; have := dg9_b (c : Int) j; omega
                  have h323 : m3 473 23 = (k : Int) := by rw [h3f 473 (by decide) (by decide) (by decide)]; exact h23
                  refine w_aload_n X dX8_goThrough_110 rfl ?_
                  refine w_get X (by decide) (σ_473 G n0 _ _) rfl gW_X8 27 (by decide) gF_X8_69 rfl dX8_goThrough_111 ?_
                  refine w_aload_n X dX8_goThrough_114 rfl ?_
                  refine w_get X (by decide) (σ_473 G n0 _ _) rfl gW_X8 23 (by decide) gF_X8_185 rfl dX8_goThrough_115 ?_
                  rw [h323]
                  refine w_aload_n X dX8_goThrough_118 rfl ?_
                  refine w_aload_n X dX8_goThrough_119 rfl ?_
                  refine w_get X (by decide) (σ_473 G n0 _ _) rfl gW_X8 20 (by decide) gF_X8_50 rfl dX8_goThrough_120 ?_
                  refine s_callVi X _ (c_X8_isStart (l := l) (G := G) (n0 := n0) hs3 IA_485 hv3) gM_X8_192 gI_yX8_isStart gS_yX8_isStart gN_X8 gC_yX8_isStart (by decide) (σ_473 G n0 _ _) rfl dX8_goThrough_123 hl_yX8_isStart ⟨Nat.le_of_ble_eq_true rfl, Nat.le_of_ble_eq_true rfl⟩ (Nat.le_of_ble_eq_true rfl) rfl (fun r3 mi3 mr3 h3 => ?_)
                  obtain ⟨rfl, rfl, h3⟩ := h3
                  have bs := flg_b h3
                  have hst := h3
                  refine s_zast X (k) (by decide) (fun _ => σ_491 G n0 _ _) bs dX8_goThrough_126 ?_
                  have h41 : ∀ j : Nat, up2 m3 491 k r3 491 j = if j = k then r3 else m1 491 j := fun j => by
                    by_cases q : j = k
                    · rw [q, up2_s, if_pos rfl]
                    · rw [up2_j _ _ _ _ q, if_neg q, h3f 491 (by decide) (by decide) (by decide)]
                  have h4f : ∀ a, a ≠ 491 → up2 m3 491 k r3 a = m3 a := fun a h1 => up2_k _ _ _ _ h1
                  generalize up2 m3 491 k r3 = m4 at *
                  have h4o : ∀ j : Nat, j < 5 → m4 485 j = dg9 (c : Int) j := fun j hj => by rw [h4f 485 (by decide)]; exact h3o j hj
                  have hv4 : ∀ j : Nat, j < 5 → 0 ≤ m4 485 j ∧ m4 485 j ≤ 1000 := fun j hj => by rw [h4f 485 (by decide)]; exact hv3 j hj
                  have hM4 : ML L m4 := FG2_ML hM ⟨fun a h1 h2 => by rw [h4f a (by omega), h3f a (by omega) (by omega) (by omega)]; exact hfs.1 a h1 h2, fun j hj => by rw [h4f 473 (by decide), h3f 473 (by decide) (by decide) (by decide)]; exact hfs.2 j hj⟩
                  have h423 : m4 473 23 = (k : Int) := by rw [h4f 473 (by decide)]; exact h323
                  refine w_aload_n X dX8_goThrough_127 rfl ?_
                  refine w_get X (by decide) (σ_473 G n0 _ _) rfl gW_X8 26 (by decide) gF_X8_66 rfl dX8_goThrough_128 ?_
                  refine w_aload_n X dX8_goThrough_131 rfl ?_
                  refine w_get X (by decide) (σ_473 G n0 _ _) rfl gW_X8 23 (by decide) gF_X8_185 rfl dX8_goThrough_132 ?_
                  rw [h423]
                  refine w_aload_n X dX8_goThrough_135 rfl ?_
                  refine w_aload_n X dX8_goThrough_136 rfl ?_
                  refine w_get X (by decide) (σ_473 G n0 _ _) rfl gW_X8 20 (by decide) gF_X8_50 rfl dX8_goThrough_137 ?_
                  refine s_callVi X _ (c_X8_isBadOne (l := l) (G := G) (n0 := n0) hA hM4 IA_485 hv4) gM_X8_124 gI_yX8_isBadOne gS_yX8_isBadOne gN_X8 gC_yX8_isBadOne (by decide) (σ_473 G n0 _ _) rfl dX8_goThrough_140 hl_yX8_isBadOne ⟨Nat.le_of_ble_eq_true rfl, Nat.le_of_ble_eq_true rfl⟩ (Nat.le_of_ble_eq_true rfl) rfl (fun r4 mi4 mr4 h4 => ?_)
                  obtain ⟨rfl, rfl, h4⟩ := h4
                  have bb9 := flg_b h4
                  have hbad := h4
                  refine w_if_eq X 150 dX8_goThrough_143 (by decide) (fun c143_28 => ?_) (fun c143_28 => ?_)
                  ·
                    refine w_ldc X (z := 1000000) gK_X8_195 rfl dX8_goThrough_150 ?_
                    refine s_iast X (k) (by decide) (fun _ => σ_m500 G n0 _ _ (by decide)) dX8_goThrough_152 ?_
                    refine w_aload_n X dX8_goThrough_153 rfl ?_
                    refine w_dup X dX8_goThrough_154 rfl ?_
                    refine w_get X (by decide) (σ_473 G n0 _ _) rfl gW_X8 23 (by decide) gF_X8_185 rfl dX8_goThrough_155 ?_
                    rw [up2_k _ _ _ _ (show (473 : Nat) ≠ 490 by decide), h423]
                    refine w_iconst X dX8_goThrough_158 ?_
                    refine w_iadd X dX8_goThrough_159 ?_
                    refine w_put X (by decide) (σ_473 G n0 _ _) rfl gW_X8 tyX8 tyX8_ok nmX8 23 (by decide) gF_X8_185 rfl rfl rfl (Nat.le_of_ble_eq_true rfl) dX8_goThrough_160 (WW.eqf (sp_473_23 _) ?_)
                    refine w_iinc6_2 X dX8_goThrough_163 ?_
                    refine w_goto X 7 dX8_goThrough_166 (by decide) ?_
                    refine ih_ploop _ (by omega) _ (k + 1) (c + 1) _ _ _ (by omega) ⟨fun a h1 h2 => ?_, fun j hj => ?_⟩ (by rw [up2_s]; omega) (CLI_yes hcli (by omega) (fun j => ?_) (fun j => ?_) hcro) (IN0_s hin (c := (c : Int)) (fun j => ?_) (fun j hj => ?_) (fun j hj => ?_) ?_ ?_) rfl
                    · rw [up2_k _ _ _ _ h1, up2_k _ _ _ _ (show a ≠ 490 by omega), h4f a (by omega), h3f a (by omega) (by omega) (by omega)]; exact hfs.1 a h1 h2
                    · rw [up2_j _ _ _ _ hj, up2_k _ _ _ _ (show (473 : Nat) ≠ 490 by decide), h4f 473 (by decide), h3f 473 (by decide) (by decide) (by decide)]; exact hfs.2 j hj
                    · rw [up2_k _ _ _ _ (show (488 : Nat) ≠ 473 by decide), up2_k _ _ _ _ (show (488 : Nat) ≠ 490 by decide), h4f 488 (by decide)]; exact h38 j
                    · rw [up2_k _ _ _ _ (show (489 : Nat) ≠ 473 by decide), up2_k _ _ _ _ (show (489 : Nat) ≠ 490 by decide), h4f 489 (by decide)]; exact h39 j
                    · rw [up2_k _ _ _ _ (show (488 : Nat) ≠ 473 by decide), up2_k _ _ _ _ (show (488 : Nat) ≠ 490 by decide), h4f 488 (by decide)]; exact h38 j
                    · rw [up2_k _ _ _ _ (show (490 : Nat) ≠ 473 by decide), up2_j _ _ _ _ hj, h4f 490 (by decide), h3f 490 (by decide) (by decide) (by decide)]
                    · rw [up2_k _ _ _ _ (show (491 : Nat) ≠ 473 by decide), up2_k _ _ _ _ (show (491 : Nat) ≠ 490 by decide), h41 j, if_neg hj]
                    · rw [up2_k _ _ _ _ (show (491 : Nat) ≠ 473 by decide), up2_k _ _ _ _ (show (491 : Nat) ≠ 490 by decide), h41 k, if_pos rfl]; exact flg_i hst (by rw [hset3]; exact St_dg hsc hcro h3o)
                    · rw [up2_k _ _ _ _ (show (490 : Nat) ≠ 473 by decide), up2_s]
                      exact Or.inr ⟨rfl, fun w => flg_0 hbad (by omega) ((Bad_dg hcro h4o).mpr w)⟩
                  ·
                    refine w_iconst X dX8_goThrough_146 ?_
                    refine w_goto X 152 dX8_goThrough_147 (by decide) ?_
                    refine s_iast X (k) (by decide) (fun _ => σ_m500 G n0 _ _ (by decide)) dX8_goThrough_152 ?_
                    refine w_aload_n X dX8_goThrough_153 rfl ?_
                    refine w_dup X dX8_goThrough_154 rfl ?_
                    refine w_get X (by decide) (σ_473 G n0 _ _) rfl gW_X8 23 (by decide) gF_X8_185 rfl dX8_goThrough_155 ?_
                    rw [up2_k _ _ _ _ (show (473 : Nat) ≠ 490 by decide), h423]
                    refine w_iconst X dX8_goThrough_158 ?_
                    refine w_iadd X dX8_goThrough_159 ?_
                    refine w_put X (by decide) (σ_473 G n0 _ _) rfl gW_X8 tyX8 tyX8_ok nmX8 23 (by decide) gF_X8_185 rfl rfl rfl (Nat.le_of_ble_eq_true rfl) dX8_goThrough_160 (WW.eqf (sp_473_23 _) ?_)
                    refine w_iinc6_2 X dX8_goThrough_163 ?_
                    refine w_goto X 7 dX8_goThrough_166 (by decide) ?_
                    refine ih_ploop _ (by omega) _ (k + 1) (c + 1) _ _ _ (by omega) ⟨fun a h1 h2 => ?_, fun j hj => ?_⟩ (by rw [up2_s]; omega) (CLI_yes hcli (by omega) (fun j => ?_) (fun j => ?_) hcro) (IN0_s hin (c := (c : Int)) (fun j => ?_) (fun j hj => ?_) (fun j hj => ?_) ?_ ?_) rfl
                    · rw [up2_k _ _ _ _ h1, up2_k _ _ _ _ (show a ≠ 490 by omega), h4f a (by omega), h3f a (by omega) (by omega) (by omega)]; exact hfs.1 a h1 h2
                    · rw [up2_j _ _ _ _ hj, up2_k _ _ _ _ (show (473 : Nat) ≠ 490 by decide), h4f 473 (by decide), h3f 473 (by decide) (by decide) (by decide)]; exact hfs.2 j hj
                    · rw [up2_k _ _ _ _ (show (488 : Nat) ≠ 473 by decide), up2_k _ _ _ _ (show (488 : Nat) ≠ 490 by decide), h4f 488 (by decide)]; exact h38 j
                    · rw [up2_k _ _ _ _ (show (489 : Nat) ≠ 473 by decide), up2_k _ _ _ _ (show (489 : Nat) ≠ 490 by decide), h4f 489 (by decide)]; exact h39 j
                    · rw [up2_k _ _ _ _ (show (488 : Nat) ≠ 473 by decide), up2_k _ _ _ _ (show (488 : Nat) ≠ 490 by decide), h4f 488 (by decide)]; exact h38 j
                    · rw [up2_k _ _ _ _ (show (490 : Nat) ≠ 473 by decide), up2_j _ _ _ _ hj, h4f 490 (by decide), h3f 490 (by decide) (by decide) (by decide)]
                    · rw [up2_k _ _ _ _ (show (491 : Nat) ≠ 473 by decide), up2_k _ _ _ _ (show (491 : Nat) ≠ 490 by decide), h41 j, if_neg hj]
                    · rw [up2_k _ _ _ _ (show (491 : Nat) ≠ 473 by decide), up2_k _ _ _ _ (show (491 : Nat) ≠ 490 by decide), h41 k, if_pos rfl]; exact flg_i hst (by rw [hset3]; exact St_dg hsc hcro h3o)
                    · rw [up2_k _ _ _ _ (show (490 : Nat) ≠ 473 by decide), up2_s]
                      exact Or.inl ⟨rfl, (Bad_dg hcro h4o).mp (flg_1 hbad (by omega))⟩
              ·
                refine w_iload_n X dX8_goThrough_60 rfl ?_
                refine w_if_eq X 78 dX8_goThrough_61 (by decide) (fun c61_29 => ?_) (fun c61_29 => ?_)
                ·
                  refine w_iconst X dX8_goThrough_78 ?_
                  refine w_ist6_3 X dX8_goThrough_79 ?_
                  refine w_iinc6_4 X dX8_goThrough_80 ?_
                  refine w_goto X 54 dX8_goThrough_83 (by decide) ?_
                  exact ih_sloop _ (by omega) (i + 1) 0 (by omega) (flg_f (fun w => by
                    have w2 := w.2 i (by omega) (by omega)
                    by_cases q : w3 = 0
                    · exact flg_0 hf q ⟨w.1, fun j hj => w.2 j (by omega)⟩
                    · omega)) rfl
                ·
                  refine w_aload_n X dX8_goThrough_64 rfl ?_
                  refine w_get X (by decide) (σ_473 G n0 _ _) rfl gW_X8 20 (by decide) gF_X8_50 rfl dX8_goThrough_65 ?_
                  refine w_iload X dX8_goThrough_68 rfl ?_
                  refine s_iald X (i) (by decide) (fun _ => σ_m5 G n0 _ _ (by decide)) dX8_goThrough_70 ?_
                  rw [hO9_ i (by omega)]
                  have hdb := dg9_b (c : Int) i
                  refine w_if_ne X 78 dX8_goThrough_71 (by decide) (fun c71_30 => ?_) (fun c71_30 => ?_)
                  ·
                    refine w_iconst X dX8_goThrough_78 ?_
                    refine w_ist6_3 X dX8_goThrough_79 ?_
                    refine w_iinc6_4 X dX8_goThrough_80 ?_
                    refine w_goto X 54 dX8_goThrough_83 (by decide) ?_
                    exact ih_sloop _ (by omega) (i + 1) 0 (by omega) (flg_f (fun w => by
                      have w2 := w.2 i (by omega) (by omega)
                      by_cases q : w3 = 0
                      · exact flg_0 hf q ⟨w.1, fun j hj => w.2 j (by omega)⟩
                      · omega)) rfl
                  ·
                    refine w_iconst X dX8_goThrough_74 ?_
                    refine w_goto X 79 dX8_goThrough_75 (by decide) ?_
                    refine w_ist6_3 X dX8_goThrough_79 ?_
                    refine w_iinc6_4 X dX8_goThrough_80 ?_
                    refine w_goto X 54 dX8_goThrough_83 (by decide) ?_
                    have hff := flg_1 hf (by omega)
                    exact ih_sloop _ (by omega) (i + 1) 1 (by omega) (flg_t ⟨hff.1, fun j hj hj2 => by rcases (show j < i ∨ j = i by omega) with q | q; exact hff.2 j q hj2; subst q; omega⟩) rfl
          exact sloop _ L.1.toNat 0 (by omega) (flg_f (fun w => by have := w.1; omega)) rfl
        ·
          refine w_iconst X dX8_goThrough_42 ?_
          refine w_goto X 47 dX8_goThrough_43 (by decide) ?_
          refine w_ist6_3 X dX8_goThrough_47 ?_
          refine w_aload_n X dX8_goThrough_48 rfl ?_
          refine w_get X (by decide) (σ_473 G n0 _ _) rfl gW_X8 1 (by decide) gF_X8_7 rfl dX8_goThrough_49 ?_
          rw [show mi1 473 1 = (L.1.toNat : Int) by rw [hf2 473 (by decide) (by decide), hfs.2 1 (by decide)]; omega]
          refine w_ist6_4 X dX8_goThrough_52 ?_
          have sloop : ∀ (n : Nat) (i : Nat) (w3 : Int), (L.1 ≤ (i : Int) ∧ i ≤ 5) → (flg w3 (sm (T9 (c : Int)) = z ∧ AU (fun j => L.1 ≤ (j : Int) → dg9 (c : Int) j = 0) i)) → n = 5 - i → WSv p l e s m args below meth c9 4 (fun mi9 mr9 => (∃ k : Nat, mi9 473 23 = (k : Int) ∧ GT L set z k mi9) ∧ FG2 mi mi9 ∧ mr = mr9) G n0 6 mi1 mr 54 [some (.ref (n0 + 473)), some (.int (jI z)), some (.int (jI (c : Int))), some (.int (jI w3)), some (.int (jI (i : Int))), x5] [] := by
            intro n
            induction n using Nat.strongRecOn with
            | ind n ih_sloop =>
              intro i w3 hi hf hn
              have hw3 := flg_b hf
              refine w_iload X dX8_goThrough_54 rfl ?_
              refine w_iconst X dX8_goThrough_56 ?_
              refine w_icmp_ge X 86 dX8_goThrough_57 (by decide) (fun c57_31 => ?_) (fun c57_31 => ?_)
              ·
                have h5 : i = 5 := by omega
                subst h5
                refine w_iload_n X dX8_goThrough_86 rfl ?_
                refine w_if_eq X 163 dX8_goThrough_87 (by decide) (fun c87_32 => ?_) (fun c87_32 => ?_)
                ·
                  refine w_iinc6_2 X dX8_goThrough_163 ?_
                  refine w_goto X 7 dX8_goThrough_166 (by decide) ?_
                  exact ih_ploop _ (by omega) _ k (c + 1) _ _ _ (by omega) (FG2_t hfs (fun a ha => hf2 a (by omega) (by omega))) (by rw [hf2 473 (by decide) (by decide)]; exact h23) (CLI_no hcli (by omega) (hf2 488 (by decide) (by decide)) (fun j hj => hp2 j (by omega)) (fun w => flg_0 hf (by omega) ⟨((Cro_dg hsc).mp w).1, fun j hj => ((Cro_dg hsc).mp w).2 j (by omega)⟩)) (IN0_fr hin (hf2 488 (by decide) (by decide)) (hf2 490 (by decide) (by decide)) (hf2 491 (by decide) (by decide))) rfl
                ·
                  have hff := flg_1 hf (by omega)
                  have hcro : Cro L.1 z (T9 (c : Int)) := (Cro_dg hsc).mpr ⟨hff.1, fun j hj hj2 => hff.2 j hj hj2⟩
                  have hk95 := CLI_l hz (by omega) hcli
                  refine w_aload_n X dX8_goThrough_90 rfl ?_
                  refine w_get X (by decide) (σ_473 G n0 _ _) rfl gW_X8 25 (by decide) gF_X8_63 rfl dX8_goThrough_91 ?_
                  refine w_iload_n X dX8_goThrough_94 rfl ?_
                  refine w_aload_n X dX8_goThrough_95 rfl ?_
                  refine w_get X (by decide) (σ_473 G n0 _ _) rfl gW_X8 23 (by decide) gF_X8_185 rfl dX8_goThrough_96 ?_
                  rw [show mi1 473 23 = (k : Int) by rw [hf2 473 (by decide) (by decide)]; exact h23]
                  refine s_iast X (c) (by decide) (fun _ => σ_489 G n0 _ _) dX8_goThrough_99 ?_
                  refine w_aload_n X dX8_goThrough_100 rfl ?_
                  refine w_get X (by decide) (σ_473 G n0 _ _) rfl gW_X8 24 (by decide) gF_X8_59 rfl dX8_goThrough_101 ?_
                  refine w_aload_n X dX8_goThrough_104 rfl ?_
                  refine w_get X (by decide) (σ_473 G n0 _ _) rfl gW_X8 23 (by decide) gF_X8_185 rfl dX8_goThrough_105 ?_
                  rw [up2_k _ _ _ _ (show (473 : Nat) ≠ 489 by decide), show mi1 473 23 = (k : Int) by rw [hf2 473 (by decide) (by decide)]; exact h23]
                  refine w_iload_n X dX8_goThrough_108 rfl ?_
                  refine s_iast X (k) (by decide) (fun _ => σ_m500 G n0 _ _ (by decide)) dX8_goThrough_109 ?_
                  have h38 : ∀ j : Nat, (up2 (up2 mi1 489 c (k : Int)) 488 k (c : Int)) 488 j = if j = k then (c : Int) else m1 488 j := fun j => by
                    by_cases q : j = k
                    · rw [q, up2_s, if_pos rfl]
                    · rw [up2_j _ _ _ _ q, if_neg q, up2_k _ _ _ _ (show (488 : Nat) ≠ 489 by decide), hf2 488 (by decide) (by decide)]
                  have h39 : ∀ j : Nat, (up2 (up2 mi1 489 c (k : Int)) 488 k (c : Int)) 489 j = if j = (c : Int).toNat then (k : Int) else m1 489 j := fun j => by
                    rw [up2_k _ _ _ _ (show (489 : Nat) ≠ 488 by decide), Int.toNat_natCast]
                    by_cases q : j = c
                    · rw [q, up2_s, if_pos rfl]
                    · rw [up2_j _ _ _ _ q, if_neg q, hp2 j q]
                  have h3f : ∀ a, a ≠ 485 → a ≠ 488 → a ≠ 489 → (up2 (up2 mi1 489 c (k : Int)) 488 k (c : Int)) a = m1 a := fun a h1 h2 h3 => by rw [up2_k _ _ _ _ h2, up2_k _ _ _ _ h3, hf2 a h1 h3]
                  have h3o : ∀ j : Nat, j < 5 → (up2 (up2 mi1 489 c (k : Int)) 488 k (c : Int)) 485 j = dg9 (c : Int) j := fun j hj => by rw [up2_k _ _ _ _ (show (485 : Nat) ≠ 488 by decide), up2_k _ _ _ _ (show (485 : Nat) ≠ 489 by decide)]; exact hO9_ j hj
                  generalize (up2 (up2 mi1 489 c (k : Int)) 488 k (c : Int)) = m3 at *
                  have hset3 : m3 473 2 = set := by rw [h3f 473 (by decide) (by decide) (by decide), hfs.2 2 (by decide)]; exact hset
                  have hs3 : 1 ≤ m3 473 2 ∧ m3 473 2 < 32 := by rw [hset3]; exact hs32
                  have hv3 : ∀ j : Nat, j < 5 → 0 ≤ m3 485 j ∧ m3 485 j ≤ 1000 := fun j hj => by rw [h3o j hj]; have := dg9_b (c : Int) j; omega
                  have h323 : m3 473 23 = (k : Int) := by rw [h3f 473 (by decide) (by decide) (by decide)]; exact h23
                  refine w_aload_n X dX8_goThrough_110 rfl ?_
                  refine w_get X (by decide) (σ_473 G n0 _ _) rfl gW_X8 27 (by decide) gF_X8_69 rfl dX8_goThrough_111 ?_
                  refine w_aload_n X dX8_goThrough_114 rfl ?_
                  refine w_get X (by decide) (σ_473 G n0 _ _) rfl gW_X8 23 (by decide) gF_X8_185 rfl dX8_goThrough_115 ?_
                  rw [h323]
                  refine w_aload_n X dX8_goThrough_118 rfl ?_
                  refine w_aload_n X dX8_goThrough_119 rfl ?_
                  refine w_get X (by decide) (σ_473 G n0 _ _) rfl gW_X8 20 (by decide) gF_X8_50 rfl dX8_goThrough_120 ?_
                  refine s_callVi X _ (c_X8_isStart (l := l) (G := G) (n0 := n0) hs3 IA_485 hv3) gM_X8_192 gI_yX8_isStart gS_yX8_isStart gN_X8 gC_yX8_isStart (by decide) (σ_473 G n0 _ _) rfl dX8_goThrough_123 hl_yX8_isStart ⟨Nat.le_of_ble_eq_true rfl, Nat.le_of_ble_eq_true rfl⟩ (Nat.le_of_ble_eq_true rfl) rfl (fun r3 mi3 mr3 h3 => ?_)
                  obtain ⟨rfl, rfl, h3⟩ := h3
                  have bs := flg_b h3
                  have hst := h3
                  refine s_zast X (k) (by decide) (fun _ => σ_491 G n0 _ _) bs dX8_goThrough_126 ?_
                  have h41 : ∀ j : Nat, up2 m3 491 k r3 491 j = if j = k then r3 else m1 491 j := fun j => by
                    by_cases q : j = k
                    · rw [q, up2_s, if_pos rfl]
                    · rw [up2_j _ _ _ _ q, if_neg q, h3f 491 (by decide) (by decide) (by decide)]
                  have h4f : ∀ a, a ≠ 491 → up2 m3 491 k r3 a = m3 a := fun a h1 => up2_k _ _ _ _ h1
                  generalize up2 m3 491 k r3 = m4 at *
                  have h4o : ∀ j : Nat, j < 5 → m4 485 j = dg9 (c : Int) j := fun j hj => by rw [h4f 485 (by decide)]; exact h3o j hj
                  have hv4 : ∀ j : Nat, j < 5 → 0 ≤ m4 485 j ∧ m4 485 j ≤ 1000 := fun j hj => by rw [h4f 485 (by decide)]; exact hv3 j hj
                  have hM4 : ML L m4 := FG2_ML hM ⟨fun a h1 h2 => by rw [h4f a (by omega), h3f a (by omega) (by omega) (by omega)]; exact hfs.1 a h1 h2, fun j hj => by rw [h4f 473 (by decide), h3f 473 (by decide) (by decide) (by decide)]; exact hfs.2 j hj⟩
                  have h423 : m4 473 23 = (k : Int) := by rw [h4f 473 (by decide)]; exact h323
                  refine w_aload_n X dX8_goThrough_127 rfl ?_
                  refine w_get X (by decide) (σ_473 G n0 _ _) rfl gW_X8 26 (by decide) gF_X8_66 rfl dX8_goThrough_128 ?_
                  refine w_aload_n X dX8_goThrough_131 rfl ?_
                  refine w_get X (by decide) (σ_473 G n0 _ _) rfl gW_X8 23 (by decide) gF_X8_185 rfl dX8_goThrough_132 ?_
                  rw [h423]
                  refine w_aload_n X dX8_goThrough_135 rfl ?_
                  refine w_aload_n X dX8_goThrough_136 rfl ?_
                  refine w_get X (by decide) (σ_473 G n0 _ _) rfl gW_X8 20 (by decide) gF_X8_50 rfl dX8_goThrough_137 ?_
                  refine s_callVi X _ (c_X8_isBadOne (l := l) (G := G) (n0 := n0) hA hM4 IA_485 hv4) gM_X8_124 gI_yX8_isBadOne gS_yX8_isBadOne gN_X8 gC_yX8_isBadOne (by decide) (σ_473 G n0 _ _) rfl dX8_goThrough_140 hl_yX8_isBadOne ⟨Nat.le_of_ble_eq_true rfl, Nat.le_of_ble_eq_true rfl⟩ (Nat.le_of_ble_eq_true rfl) rfl (fun r4 mi4 mr4 h4 => ?_)
                  obtain ⟨rfl, rfl, h4⟩ := h4
                  have bb9 := flg_b h4
                  have hbad := h4
                  refine w_if_eq X 150 dX8_goThrough_143 (by decide) (fun c143_33 => ?_) (fun c143_33 => ?_)
                  ·
                    refine w_ldc X (z := 1000000) gK_X8_195 rfl dX8_goThrough_150 ?_
                    refine s_iast X (k) (by decide) (fun _ => σ_m500 G n0 _ _ (by decide)) dX8_goThrough_152 ?_
                    refine w_aload_n X dX8_goThrough_153 rfl ?_
                    refine w_dup X dX8_goThrough_154 rfl ?_
                    refine w_get X (by decide) (σ_473 G n0 _ _) rfl gW_X8 23 (by decide) gF_X8_185 rfl dX8_goThrough_155 ?_
                    rw [up2_k _ _ _ _ (show (473 : Nat) ≠ 490 by decide), h423]
                    refine w_iconst X dX8_goThrough_158 ?_
                    refine w_iadd X dX8_goThrough_159 ?_
                    refine w_put X (by decide) (σ_473 G n0 _ _) rfl gW_X8 tyX8 tyX8_ok nmX8 23 (by decide) gF_X8_185 rfl rfl rfl (Nat.le_of_ble_eq_true rfl) dX8_goThrough_160 (WW.eqf (sp_473_23 _) ?_)
                    refine w_iinc6_2 X dX8_goThrough_163 ?_
                    refine w_goto X 7 dX8_goThrough_166 (by decide) ?_
                    refine ih_ploop _ (by omega) _ (k + 1) (c + 1) _ _ _ (by omega) ⟨fun a h1 h2 => ?_, fun j hj => ?_⟩ (by rw [up2_s]; omega) (CLI_yes hcli (by omega) (fun j => ?_) (fun j => ?_) hcro) (IN0_s hin (c := (c : Int)) (fun j => ?_) (fun j hj => ?_) (fun j hj => ?_) ?_ ?_) rfl
                    · rw [up2_k _ _ _ _ h1, up2_k _ _ _ _ (show a ≠ 490 by omega), h4f a (by omega), h3f a (by omega) (by omega) (by omega)]; exact hfs.1 a h1 h2
                    · rw [up2_j _ _ _ _ hj, up2_k _ _ _ _ (show (473 : Nat) ≠ 490 by decide), h4f 473 (by decide), h3f 473 (by decide) (by decide) (by decide)]; exact hfs.2 j hj
                    · rw [up2_k _ _ _ _ (show (488 : Nat) ≠ 473 by decide), up2_k _ _ _ _ (show (488 : Nat) ≠ 490 by decide), h4f 488 (by decide)]; exact h38 j
                    · rw [up2_k _ _ _ _ (show (489 : Nat) ≠ 473 by decide), up2_k _ _ _ _ (show (489 : Nat) ≠ 490 by decide), h4f 489 (by decide)]; exact h39 j
                    · rw [up2_k _ _ _ _ (show (488 : Nat) ≠ 473 by decide), up2_k _ _ _ _ (show (488 : Nat) ≠ 490 by decide), h4f 488 (by decide)]; exact h38 j
                    · rw [up2_k _ _ _ _ (show (490 : Nat) ≠ 473 by decide), up2_j _ _ _ _ hj, h4f 490 (by decide), h3f 490 (by decide) (by decide) (by decide)]
                    · rw [up2_k _ _ _ _ (show (491 : Nat) ≠ 473 by decide), up2_k _ _ _ _ (show (491 : Nat) ≠ 490 by decide), h41 j, if_neg hj]
                    · rw [up2_k _ _ _ _ (show (491 : Nat) ≠ 473 by decide), up2_k _ _ _ _ (show (491 : Nat) ≠ 490 by decide), h41 k, if_pos rfl]; exact flg_i hst (by rw [hset3]; exact St_dg hsc hcro h3o)
                    · rw [up2_k _ _ _ _ (show (490 : Nat) ≠ 473 by decide), up2_s]
                      exact Or.inr ⟨rfl, fun w => flg_0 hbad (by omega) ((Bad_dg hcro h4o).mpr w)⟩
                  ·
                    refine w_iconst X dX8_goThrough_146 ?_
                    refine w_goto X 152 dX8_goThrough_147 (by decide) ?_
                    refine s_iast X (k) (by decide) (fun _ => σ_m500 G n0 _ _ (by decide)) dX8_goThrough_152 ?_
                    refine w_aload_n X dX8_goThrough_153 rfl ?_
                    refine w_dup X dX8_goThrough_154 rfl ?_
                    refine w_get X (by decide) (σ_473 G n0 _ _) rfl gW_X8 23 (by decide) gF_X8_185 rfl dX8_goThrough_155 ?_
                    rw [up2_k _ _ _ _ (show (473 : Nat) ≠ 490 by decide), h423]
                    refine w_iconst X dX8_goThrough_158 ?_
                    refine w_iadd X dX8_goThrough_159 ?_
                    refine w_put X (by decide) (σ_473 G n0 _ _) rfl gW_X8 tyX8 tyX8_ok nmX8 23 (by decide) gF_X8_185 rfl rfl rfl (Nat.le_of_ble_eq_true rfl) dX8_goThrough_160 (WW.eqf (sp_473_23 _) ?_)
                    refine w_iinc6_2 X dX8_goThrough_163 ?_
                    refine w_goto X 7 dX8_goThrough_166 (by decide) ?_
                    refine ih_ploop _ (by omega) _ (k + 1) (c + 1) _ _ _ (by omega) ⟨fun a h1 h2 => ?_, fun j hj => ?_⟩ (by rw [up2_s]; omega) (CLI_yes hcli (by omega) (fun j => ?_) (fun j => ?_) hcro) (IN0_s hin (c := (c : Int)) (fun j => ?_) (fun j hj => ?_) (fun j hj => ?_) ?_ ?_) rfl
                    · rw [up2_k _ _ _ _ h1, up2_k _ _ _ _ (show a ≠ 490 by omega), h4f a (by omega), h3f a (by omega) (by omega) (by omega)]; exact hfs.1 a h1 h2
                    · rw [up2_j _ _ _ _ hj, up2_k _ _ _ _ (show (473 : Nat) ≠ 490 by decide), h4f 473 (by decide), h3f 473 (by decide) (by decide) (by decide)]; exact hfs.2 j hj
                    · rw [up2_k _ _ _ _ (show (488 : Nat) ≠ 473 by decide), up2_k _ _ _ _ (show (488 : Nat) ≠ 490 by decide), h4f 488 (by decide)]; exact h38 j
                    · rw [up2_k _ _ _ _ (show (489 : Nat) ≠ 473 by decide), up2_k _ _ _ _ (show (489 : Nat) ≠ 490 by decide), h4f 489 (by decide)]; exact h39 j
                    · rw [up2_k _ _ _ _ (show (488 : Nat) ≠ 473 by decide), up2_k _ _ _ _ (show (488 : Nat) ≠ 490 by decide), h4f 488 (by decide)]; exact h38 j
                    · rw [up2_k _ _ _ _ (show (490 : Nat) ≠ 473 by decide), up2_j _ _ _ _ hj, h4f 490 (by decide), h3f 490 (by decide) (by decide) (by decide)]
                    · rw [up2_k _ _ _ _ (show (491 : Nat) ≠ 473 by decide), up2_k _ _ _ _ (show (491 : Nat) ≠ 490 by decide), h41 j, if_neg hj]
                    · rw [up2_k _ _ _ _ (show (491 : Nat) ≠ 473 by decide), up2_k _ _ _ _ (show (491 : Nat) ≠ 490 by decide), h41 k, if_pos rfl]; exact flg_i hst (by rw [hset3]; exact St_dg hsc hcro h3o)
                    · rw [up2_k _ _ _ _ (show (490 : Nat) ≠ 473 by decide), up2_s]
                      exact Or.inl ⟨rfl, (Bad_dg hcro h4o).mp (flg_1 hbad (by omega))⟩
              ·
                refine w_iload_n X dX8_goThrough_60 rfl ?_
                refine w_if_eq X 78 dX8_goThrough_61 (by decide) (fun c61_34 => ?_) (fun c61_34 => ?_)
                ·
                  refine w_iconst X dX8_goThrough_78 ?_
                  refine w_ist6_3 X dX8_goThrough_79 ?_
                  refine w_iinc6_4 X dX8_goThrough_80 ?_
                  refine w_goto X 54 dX8_goThrough_83 (by decide) ?_
                  exact ih_sloop _ (by omega) (i + 1) 0 (by omega) (flg_f (fun w => by
                    have w2 := w.2 i (by omega) (by omega)
                    by_cases q : w3 = 0
                    · exact flg_0 hf q ⟨w.1, fun j hj => w.2 j (by omega)⟩
                    · omega)) rfl
                ·
                  refine w_aload_n X dX8_goThrough_64 rfl ?_
                  refine w_get X (by decide) (σ_473 G n0 _ _) rfl gW_X8 20 (by decide) gF_X8_50 rfl dX8_goThrough_65 ?_
                  refine w_iload X dX8_goThrough_68 rfl ?_
                  refine s_iald X (i) (by decide) (fun _ => σ_m5 G n0 _ _ (by decide)) dX8_goThrough_70 ?_
                  rw [hO9_ i (by omega)]
                  have hdb := dg9_b (c : Int) i
                  refine w_if_ne X 78 dX8_goThrough_71 (by decide) (fun c71_35 => ?_) (fun c71_35 => ?_)
                  ·
                    refine w_iconst X dX8_goThrough_78 ?_
                    refine w_ist6_3 X dX8_goThrough_79 ?_
                    refine w_iinc6_4 X dX8_goThrough_80 ?_
                    refine w_goto X 54 dX8_goThrough_83 (by decide) ?_
                    exact ih_sloop _ (by omega) (i + 1) 0 (by omega) (flg_f (fun w => by
                      have w2 := w.2 i (by omega) (by omega)
                      by_cases q : w3 = 0
                      · exact flg_0 hf q ⟨w.1, fun j hj => w.2 j (by omega)⟩
                      · omega)) rfl
                  ·
                    refine w_iconst X dX8_goThrough_74 ?_
                    refine w_goto X 79 dX8_goThrough_75 (by decide) ?_
                    refine w_ist6_3 X dX8_goThrough_79 ?_
                    refine w_iinc6_4 X dX8_goThrough_80 ?_
                    refine w_goto X 54 dX8_goThrough_83 (by decide) ?_
                    have hff := flg_1 hf (by omega)
                    exact ih_sloop _ (by omega) (i + 1) 1 (by omega) (flg_t ⟨hff.1, fun j hj hj2 => by rcases (show j < i ∨ j = i by omega) with q | q; exact hff.2 j q hj2; subst q; omega⟩) rfl
          exact sloop _ L.1.toNat 1 (by omega) (flg_t ⟨by omega, fun j hj hj2 => by omega⟩) rfl
  exact ploop _ m0 0 0 none none none (by omega) hfs0 h230 ⟨fun i hi => absurd hi (by omega), fun i j _ hj => absurd hj (by omega), fun d d0 d1 _ => by omega⟩ (fun i hi => absurd hi (by omega)) rfl
