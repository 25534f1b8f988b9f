/-! the model: its laws as numbers -/
def IA (a n : Nat) : Prop := a < 492 ∧ ∀ (G : Gt) (n0 : Nat) (mi : Nat → Nat → Int) (mr : Nat → Nat → Nat), σ G n0 mi mr a = .inl (G.2 0, n, .inl (fun j => jI (mi a j)))
theorem IA_481 : IA 481 30 := ⟨by decide, fun G n0 mi mr => σ_481 G n0 mi mr⟩
theorem IA_482 : IA 482 5 := ⟨by decide, fun G n0 mi mr => σ_m5 G n0 mi mr (by decide)⟩
theorem IA_485 : IA 485 5 := ⟨by decide, fun G n0 mi mr => σ_m5 G n0 mi mr (by decide)⟩
theorem IA_486 : IA 486 5 := ⟨by decide, fun G n0 mi mr => σ_m5 G n0 mi mr (by decide)⟩
theorem IA_487 : IA 487 5 := ⟨by decide, fun G n0 mi mr => σ_m5 G n0 mi mr (by decide)⟩
theorem IA_483 : IA 483 505 := ⟨by decide, fun G n0 mi mr => σ_m505 G n0 mi mr (by decide)⟩
theorem IA_484 : IA 484 505 := ⟨by decide, fun G n0 mi mr => σ_m505 G n0 mi mr (by decide)⟩
def ML (L : Lws) (mi : Nat → Nat → Int) : Prop := mi 473 1 = L.1 ∧ mi 473 3 = L.2.1 ∧ mi 473 11 = L.2.2.1 ∧ (∀ k : Nat, (k : Int) < L.2.1 → ∀ w : Nat, 1 ≤ w → w ≤ 7 → mi (473 + w) k = L.2.2.2.1 k w) ∧ ∀ b : Nat, (b : Int) < L.2.2.1 → ∀ i : Nat, i < 5 → mi 481 (5 * b + i) = F5 (L.2.2.2.2 b) i
def AB (L : Lws) : Prop := LO L ∧ (0 ≤ L.2.1 ∧ L.2.1 ≤ 12) ∧ (0 ≤ L.2.2.1 ∧ L.2.2.1 ≤ 6)
theorem ML_fr {L : Lws} {mi mi' : Nat → Nat → Int} (h : ML L mi) (h1 : mi' 473 1 = mi 473 1) (h3 : mi' 473 3 = mi 473 3) (h11 : mi' 473 11 = mi 473 11) (ha : ∀ a, 474 ≤ a → a ≤ 481 → mi' a = mi a) : ML L mi' := by
  obtain ⟨a1, a2, a3, a4, a5⟩ := h
  refine ⟨by rw [h1]; exact a1, by rw [h3]; exact a2, by rw [h11]; exact a3, fun k hk w w1 w2 => ?_, fun b hb i hi => ?_⟩
  · rw [ha _ (by omega) (by omega)]; exact a4 k hk w w1 w2
  · rw [ha _ (by omega) (by omega)]; exact a5 b hb i hi
theorem AB_bad {L : Lws} (h : AB L) {b : Nat} (hb : (b : Int) < L.2.2.1) {i : Nat} (hi : i < 5) : 0 ≤ F5 (L.2.2.2.2 b) i ∧ F5 (L.2.2.2.2 b) i ≤ 45 := by
  obtain ⟨-, a2, -, a4⟩ := h.1.2.2 b hb
  have := (sum5_n a2).2 i hi
  have := a2 i hi
  have : sum5 (F5 (L.2.2.2.2 b)) = sm (L.2.2.2.2 b) := rfl
  omega
theorem ML_rule {L : Lws} {mi : Nat → Nat → Int} (h : ML L mi) {k : Nat} (hk : (k : Int) < L.2.1) : mi 474 k = L.2.2.2.1 k 1 ∧ mi 475 k = L.2.2.2.1 k 2 ∧ mi 476 k = L.2.2.2.1 k 3 ∧ mi 477 k = L.2.2.2.1 k 4 ∧ mi 478 k = L.2.2.2.1 k 5 ∧ mi 479 k = L.2.2.2.1 k 6 ∧ mi 480 k = L.2.2.2.1 k 7 :=
  ⟨h.2.2.2.1 k hk 1 (by decide) (by decide), h.2.2.2.1 k hk 2 (by decide) (by decide), h.2.2.2.1 k hk 3 (by decide) (by decide), h.2.2.2.1 k hk 4 (by decide) (by decide), h.2.2.2.1 k hk 5 (by decide) (by decide), h.2.2.2.1 k hk 6 (by decide) (by decide), h.2.2.2.1 k hk 7 (by decide) (by decide)⟩
def flg (r : Int) (P : Prop) : Prop := r = 1 ∧ P ∨ r = 0 ∧ ¬ P
theorem flg_1 {r : Int} {P : Prop} (h : flg r P) (h0 : ¬ r = 0) : P := by rcases h with ⟨-, q⟩ | ⟨q, -⟩; exact q; exact absurd q h0
theorem flg_0 {r : Int} {P : Prop} (h : flg r P) (h0 : r = 0) : ¬ P := by rcases h with ⟨q, -⟩ | ⟨-, q⟩; omega; exact q
theorem flg_b {r : Int} {P : Prop} (h : flg r P) : r = 0 ∨ r = 1 := by rcases h with ⟨q, -⟩ | ⟨q, -⟩ <;> omega
theorem flg_t {P : Prop} (h : P) : flg 1 P := Or.inl ⟨rfl, h⟩
theorem flg_f {P : Prop} (h : ¬ P) : flg 0 P := Or.inr ⟨rfl, h⟩
theorem flg_i {r : Int} {P Q : Prop} (h : flg r P) (hq : P ↔ Q) : flg r Q := by rcases h with ⟨a, b⟩ | ⟨a, b⟩; exact Or.inl ⟨a, hq.mp b⟩; exact Or.inr ⟨a, fun w => b (hq.mpr w)⟩
def AU (P : Nat → Prop) (n : Nat) : Prop := ∀ j : Nat, j < n → P j
def EU (P : Nat → Prop) (n : Nat) : Prop := ∃ j : Nat, j < n ∧ P j
def FLg (c : Int) (P : Nat → Prop) (i : Nat) : Prop := flg c (AU P i)
def ELg (c : Int) (P : Nat → Prop) (i : Nat) : Prop := flg c (EU P i)
theorem FL_0 {P : Nat → Prop} : FLg 1 P 0 := Or.inl ⟨rfl, fun j hj => absurd hj (by omega)⟩
theorem FL_t {c : Int} {P : Nat → Prop} {i : Nat} (h : FLg c P i) (hc : ¬ c = 0) (hp : P i) : FLg 1 P (i + 1) := flg_t (fun j hj => by
  rcases (show j < i ∨ j = i by omega) with q | q
  · exact flg_1 h hc j q
  · subst q; exact hp)
theorem FL_f {P : Nat → Prop} {i : Nat} (hp : ¬ P i) : FLg 0 P (i + 1) := flg_f (fun w => hp (w i (by omega)))
theorem FL_k {c : Int} {P : Nat → Prop} {i : Nat} (h : FLg c P i) (hc : c = 0) : FLg 0 P (i + 1) := flg_f (fun w => flg_0 h hc (fun j hj => w j (by omega)))
theorem FL_b {c : Int} {P : Nat → Prop} {i : Nat} (h : FLg c P i) : c = 0 ∨ c = 1 := flg_b h
theorem EL_0 {P : Nat → Prop} : ELg 0 P 0 := flg_f (fun ⟨j, hj, _⟩ => absurd hj (by omega))
theorem EL_t {P : Nat → Prop} {i : Nat} (hp : P i) : ELg 1 P (i + 1) := flg_t ⟨i, by omega, hp⟩
theorem EL_k {c : Int} {P : Nat → Prop} {i : Nat} (h : ELg c P i) (hc : ¬ c = 0) : ELg 1 P (i + 1) := flg_t (by obtain ⟨j, hj, hp⟩ := flg_1 h hc; exact ⟨j, by omega, hp⟩)
theorem EL_f {c : Int} {P : Nat → Prop} {i : Nat} (h : ELg c P i) (hc : c = 0) (hp : ¬ P i) : ELg 0 P (i + 1) := flg_f (fun ⟨j, hj, hq⟩ => by
  rcases (show j < i ∨ j = i by omega) with q | q
  · exact flg_0 h hc ⟨j, q, hq⟩
  · subst q; exact hp hq)
theorem EL_b {c : Int} {P : Nat → Prop} {i : Nat} (h : ELg c P i) : c = 0 ∨ c = 1 := flg_b h
def dg9 (z : Int) (j : Nat) : Int := z / 9 ^ (4 - j) % 9
def cd9 (v : Nat → Int) : Int := v 0 * 6561 + v 1 * 729 + v 2 * 81 + v 3 * 9 + v 4
theorem up2_sub1 {mi : Nat → Nat → Int} {k : Nat} {g : Int} (h : 0 ≤ g) (j : Nat) : up2 mi k g.toNat (mi k g.toNat - 1) k j = mi k j - (if (j : Int) = g then 1 else 0) := by
  by_cases hj : j = g.toNat
  · have e : (j : Int) = g := by omega
    subst hj
    rw [up2_s, if_pos e]
  · have e : ¬ (j : Int) = g := by omega
    rw [up2_j _ _ _ _ hj, if_neg e]; omega
theorem dX8_noState_0 : decode cX8_noState 0 = .ok (.iload_n 1, 1) := by decide +kernel
theorem dX8_noState_1 : decode cX8_noState 1 = .ok (.i2l, 1) := by decide +kernel
theorem dX8_noState_2 : decode cX8_noState 2 = .ok (.lconst 0, 1) := by decide +kernel
theorem dX8_noState_3 : decode cX8_noState 3 = .ok (.aload_n 0, 1) := by decide +kernel
theorem dX8_noState_4 : decode cX8_noState 4 = .ok (.getfield 7, 3) := by decide +kernel
theorem dX8_noState_7 : decode cX8_noState 7 = .ok (.iconst 1, 1) := by decide +kernel
theorem dX8_noState_8 : decode cX8_noState 8 = .ok (.isub, 1) := by decide +kernel
theorem dX8_noState_9 : decode cX8_noState 9 = .ok (.i2l, 1) := by decide +kernel
theorem dX8_noState_10 : decode cX8_noState 10 = .ok (.invokestatic 76, 3) := by decide +kernel
theorem dX8_noState_13 : decode cX8_noState 13 = .ok (.ifCond .ne 7, 3) := by decide +kernel
theorem dX8_noState_16 : decode cX8_noState 16 = .ok (.iconst 1, 1) := by decide +kernel
theorem dX8_noState_17 : decode cX8_noState 17 = .ok (.goto 4, 3) := by decide +kernel
theorem dX8_noState_20 : decode cX8_noState 20 = .ok (.iconst 0, 1) := by decide +kernel
theorem dX8_noState_21 : decode cX8_noState 21 = .ok (.ireturn, 1) := by decide +kernel
theorem hl_yX8_noState : (yX8_noState.cls ≠ "java/lang/invoke/MethodHandle" ∧ yX8_noState.cls ≠ "java/lang/invoke/VarHandle") ∧ (parseMethodDescriptor yX8_noState.desc).map (fun d => d.parameters.length) = some 1 := by decide +kernel
set_option maxRecDepth 20000 in
set_option maxHeartbeats 4000000 in
theorem c_X8_noState {l : Launch} {G : Gt} {n0 : Nat} {mi : Nat → Nat → Int} {mr : Nat → Nat → Nat} (hsc : 1 ≤ mi 473 1 ∧ mi 473 1 ≤ 5) {z : Int} (hz : rg z) : Ci l yX8_noState cX8_noState 2 .boolean 2 G n0 [.ref (n0 + 473), .int (jI z)] mi mr (fun r9 mi9 mr9 => mi = mi9 ∧ mr = mr9 ∧ (r9 = 0 ∧ 0 ≤ z ∧ z < mi 473 1 ∨ r9 = 1 ∧ ¬ (0 ≤ z ∧ z < mi 473 1))) := by
  refine Ct_of (by decide +kernel) (by intro v hv; simp at hv; rcases hv with rfl | rfl <;> rfl) (Nat.le_of_ble_eq_true rfl) ?_
  intro p e s m args below meth c9 X hr hname
  show WW _ _ _ _ _ _ _ _ _ _ _ _ _ _ _ _ _ _ _ [some (.ref (n0 + 473)), some (.int (jI z))] _
  refine w_iload_n X dX8_noState_0 rfl ?_
  refine w_i2l X dX8_noState_1 ?_
  refine w_lconst X dX8_noState_2 0 rfl ?_
  refine w_aload_n X dX8_noState_3 rfl ?_
  refine w_get X (by decide) (σ_473 G n0 _ _) rfl gW_X8 1 (by decide) gF_X8_7 rfl dX8_noState_4 ?_
  refine w_iconst X dX8_noState_7 ?_
  refine w_isub X dX8_noState_8 ?_
  refine w_i2l X dX8_noState_9 ?_
  refine s_callSi X _ (c_X8_in (l := l) (G := G) (n0 := n0) (by first | assumption | (refine ⟨?_, ?_⟩ <;> omega)) (by first | assumption | (refine ⟨?_, ?_⟩ <;> omega)) (by first | assumption | (refine ⟨?_, ?_⟩ <;> omega))) gM_X8_76 gT_yX8_in gN_X8 gC_yX8_in dX8_noState_10 hl_yX8_in ⟨Nat.le_of_ble_eq_true rfl, Nat.le_of_ble_eq_true rfl⟩ (Nat.le_of_ble_eq_true rfl) rfl (fun r1 mi1 mr1 h1 => ?_)
  obtain ⟨rfl, rfl, h1⟩ := h1
  refine w_if_ne X 20 dX8_noState_13 (by decide) (fun c13_1 => ?_) (fun c13_1 => ?_)
  ·
    refine w_iconst X dX8_noState_20 ?_
    refine s_zret X hr dX8_noState_21 (by omega) ?_
    exact ⟨rfl, rfl, by omega⟩
  ·
    refine w_iconst X dX8_noState_16 ?_
    refine w_goto X 21 dX8_noState_17 (by decide) ?_
    refine s_zret X hr dX8_noState_21 (by omega) ?_
    exact ⟨rfl, rfl, by omega⟩
theorem dX8_noRule_0 : decode cX8_noRule 0 = .ok (.iload_n 1, 1) := by decide +kernel
theorem dX8_noRule_1 : decode cX8_noRule 1 = .ok (.i2l, 1) := by decide +kernel
theorem dX8_noRule_2 : decode cX8_noRule 2 = .ok (.lconst 0, 1) := by decide +kernel
theorem dX8_noRule_3 : decode cX8_noRule 3 = .ok (.aload_n 0, 1) := by decide +kernel
theorem dX8_noRule_4 : decode cX8_noRule 4 = .ok (.getfield 80, 3) := by decide +kernel
theorem dX8_noRule_7 : decode cX8_noRule 7 = .ok (.iconst 1, 1) := by decide +kernel
theorem dX8_noRule_8 : decode cX8_noRule 8 = .ok (.isub, 1) := by decide +kernel
theorem dX8_noRule_9 : decode cX8_noRule 9 = .ok (.i2l, 1) := by decide +kernel
theorem dX8_noRule_10 : decode cX8_noRule 10 = .ok (.invokestatic 76, 3) := by decide +kernel
theorem dX8_noRule_13 : decode cX8_noRule 13 = .ok (.ifCond .ne 7, 3) := by decide +kernel
theorem dX8_noRule_16 : decode cX8_noRule 16 = .ok (.iconst 1, 1) := by decide +kernel
theorem dX8_noRule_17 : decode cX8_noRule 17 = .ok (.goto 4, 3) := by decide +kernel
theorem dX8_noRule_20 : decode cX8_noRule 20 = .ok (.iconst 0, 1) := by decide +kernel
theorem dX8_noRule_21 : decode cX8_noRule 21 = .ok (.ireturn, 1) := by decide +kernel
theorem hl_yX8_noRule : (yX8_noRule.cls ≠ "java/lang/invoke/MethodHandle" ∧ yX8_noRule.cls ≠ "java/lang/invoke/VarHandle") ∧ (parseMethodDescriptor yX8_noRule.desc).map (fun d => d.parameters.length) = some 1 := by decide +kernel
set_option maxRecDepth 20000 in
set_option maxHeartbeats 4000000 in
theorem c_X8_noRule {l : Launch} {G : Gt} {n0 : Nat} {mi : Nat → Nat → Int} {mr : Nat → Nat → Nat} (hrc : 0 ≤ mi 473 3 ∧ mi 473 3 ≤ 12) {z : Int} (hz : rg z) : Ci l yX8_noRule cX8_noRule 2 .boolean 2 G n0 [.ref (n0 + 473), .int (jI z)] mi mr (fun r9 mi9 mr9 => mi = mi9 ∧ mr = mr9 ∧ (r9 = 0 ∧ 0 ≤ z ∧ z < mi 473 3 ∨ r9 = 1 ∧ ¬ (0 ≤ z ∧ z < mi 473 3))) := by
  refine Ct_of (by decide +kernel) (by intro v hv; simp at hv; rcases hv with rfl | rfl <;> rfl) (Nat.le_of_ble_eq_true rfl) ?_
  intro p e s m args below meth c9 X hr hname
  show WW _ _ _ _ _ _ _ _ _ _ _ _ _ _ _ _ _ _ _ [some (.ref (n0 + 473)), some (.int (jI z))] _
  refine w_iload_n X dX8_noRule_0 rfl ?_
  refine w_i2l X dX8_noRule_1 ?_
  refine w_lconst X dX8_noRule_2 0 rfl ?_
  refine w_aload_n X dX8_noRule_3 rfl ?_
  refine w_get X (by decide) (σ_473 G n0 _ _) rfl gW_X8 3 (by decide) gF_X8_80 rfl dX8_noRule_4 ?_
  refine w_iconst X dX8_noRule_7 ?_
  refine w_isub X dX8_noRule_8 ?_
  refine w_i2l X dX8_noRule_9 ?_
  refine s_callSi X _ (c_X8_in (l := l) (G := G) (n0 := n0) (by first | assumption | (refine ⟨?_, ?_⟩ <;> omega)) (by first | assumption | (refine ⟨?_, ?_⟩ <;> omega)) (by first | assumption | (refine ⟨?_, ?_⟩ <;> omega))) gM_X8_76 gT_yX8_in gN_X8 gC_yX8_in dX8_noRule_10 hl_yX8_in ⟨Nat.le_of_ble_eq_true rfl, Nat.le_of_ble_eq_true rfl⟩ (Nat.le_of_ble_eq_true rfl) rfl (fun r1 mi1 mr1 h1 => ?_)
  obtain ⟨rfl, rfl, h1⟩ := h1
  refine w_if_ne X 20 dX8_noRule_13 (by decide) (fun c13_1 => ?_) (fun c13_1 => ?_)
  ·
    refine w_iconst X dX8_noRule_20 ?_
    refine s_zret X hr dX8_noRule_21 (by omega) ?_
    exact ⟨rfl, rfl, by omega⟩
  ·
    refine w_iconst X dX8_noRule_16 ?_
    refine w_goto X 21 dX8_noRule_17 (by decide) ?_
    refine s_zret X hr dX8_noRule_21 (by omega) ?_
    exact ⟨rfl, rfl, by omega⟩
theorem dX8_mapped_0 : decode cX8_mapped 0 = .ok (.aload_n 0, 1) := by decide +kernel
theorem dX8_mapped_1 : decode cX8_mapped 1 = .ok (.getfield 32, 3) := by decide +kernel
theorem dX8_mapped_4 : decode cX8_mapped 4 = .ok (.iload_n 1, 1) := by decide +kernel
theorem dX8_mapped_5 : decode cX8_mapped 5 = .ok (.iaload, 1) := by decide +kernel
theorem dX8_mapped_6 : decode cX8_mapped 6 = .ok (.istore_n 3, 1) := by decide +kernel
theorem dX8_mapped_7 : decode cX8_mapped 7 = .ok (.iconst 0, 1) := by decide +kernel
theorem dX8_mapped_8 : decode cX8_mapped 8 = .ok (.istore 4, 2) := by decide +kernel
theorem dX8_mapped_10 : decode cX8_mapped 10 = .ok (.iload 4, 2) := by decide +kernel
theorem dX8_mapped_12 : decode cX8_mapped 12 = .ok (.iload_n 2, 1) := by decide +kernel
theorem dX8_mapped_13 : decode cX8_mapped 13 = .ok (.if_icmp .ge 14, 3) := by decide +kernel
theorem dX8_mapped_16 : decode cX8_mapped 16 = .ok (.iload_n 3, 1) := by decide +kernel
theorem dX8_mapped_17 : decode cX8_mapped 17 = .ok (.bipush 10, 2) := by decide +kernel
theorem dX8_mapped_19 : decode cX8_mapped 19 = .ok (.idiv, 1) := by decide +kernel
theorem dX8_mapped_20 : decode cX8_mapped 20 = .ok (.istore_n 3, 1) := by decide +kernel
theorem dX8_mapped_21 : decode cX8_mapped 21 = .ok (.iinc 4 1, 3) := by decide +kernel
theorem dX8_mapped_24 : decode cX8_mapped 24 = .ok (.goto (-14), 3) := by decide +kernel
theorem dX8_mapped_27 : decode cX8_mapped 27 = .ok (.iload_n 3, 1) := by decide +kernel
theorem dX8_mapped_28 : decode cX8_mapped 28 = .ok (.bipush 10, 2) := by decide +kernel
theorem dX8_mapped_30 : decode cX8_mapped 30 = .ok (.irem, 1) := by decide +kernel
theorem dX8_mapped_31 : decode cX8_mapped 31 = .ok (.ireturn, 1) := by decide +kernel
theorem hl_yX8_mapped : (yX8_mapped.cls ≠ "java/lang/invoke/MethodHandle" ∧ yX8_mapped.cls ≠ "java/lang/invoke/VarHandle") ∧ (parseMethodDescriptor yX8_mapped.desc).map (fun d => d.parameters.length) = some 2 := by decide +kernel
set_option maxRecDepth 20000 in
set_option maxHeartbeats 4000000 in
theorem c_X8_mapped {l : Launch} {G : Gt} {n0 : Nat} {mi : Nat → Nat → Int} {mr : Nat → Nat → Nat} {k y : Nat} (hk : k < 12) (hy : y < 5) (hm : 0 ≤ mi 479 k ∧ mi 479 k < 100000) : Ci l yX8_mapped cX8_mapped 5 .int 1 G n0 [.ref (n0 + 473), .int (jI (k : Int)), .int (jI (y : Int))] mi mr (fun r9 mi9 mr9 => mi = mi9 ∧ mr = mr9 ∧ r9 = mi 479 k / 10 ^ y % 10) := by
  refine Ct_of (by decide +kernel) (by intro v hv; simp at hv; rcases hv with rfl | rfl | rfl <;> rfl) (Nat.le_of_ble_eq_true rfl) ?_
  intro p e s m args below meth c9 X hr hname
  show WW _ _ _ _ _ _ _ _ _ _ _ _ _ _ _ _ _ _ _ [some (.ref (n0 + 473)), some (.int (jI (k : Int))), some (.int (jI (y : Int))), none, none] _
  refine w_aload_n X dX8_mapped_0 rfl ?_
  refine w_get X (by decide) (σ_473 G n0 _ _) rfl gW_X8 9 (by decide) gF_X8_32 rfl dX8_mapped_1 ?_
  refine w_iload_n X dX8_mapped_4 rfl ?_
  refine s_iald X (k) (by decide) (fun _ => σ_m12 G n0 _ _ (by decide)) dX8_mapped_5 ?_
  refine w_ist5_3 X dX8_mapped_6 ?_
  refine w_iconst X dX8_mapped_7 ?_
  refine w_ist5_4 X dX8_mapped_8 ?_
  have loop : ∀ (n : Nat) (i : Nat) (x3 : Int), (i ≤ y) → (x3 = mi 479 k / 10 ^ i ∧ 0 ≤ x3 ∧ x3 < 100000) → n = 5 - i → WSi p l e s m args below meth c9 1 (fun r9 mi9 mr9 => mi = mi9 ∧ mr = mr9 ∧ r9 = mi 479 k / 10 ^ y % 10) G n0 5 mi mr 10 [some (.ref (n0 + 473)), some (.int (jI (k : Int))), some (.int (jI (y : Int))), some (.int (jI x3)), some (.int (jI (i : Int)))] [] := by
    intro n
    induction n using Nat.strongRecOn with
    | ind n ih_loop =>
      intro i x3 hi hx hn
      refine w_iload X dX8_mapped_10 rfl ?_
      refine w_iload_n X dX8_mapped_12 rfl ?_
      refine w_icmp_ge X 27 dX8_mapped_13 (by decide) (fun c13_1 => ?_) (fun c13_1 => ?_)
      ·
        refine w_iload_n X dX8_mapped_27 rfl ?_
        refine w_bipush X dX8_mapped_28 rfl ?_
        refine w_irem X dX8_mapped_30 ?_
        refine s_iret X hr dX8_mapped_31 ?_
        refine ⟨rfl, rfl, ?_⟩
        rw [hx.1, show i = y by omega]
      ·
        refine w_iload_n X dX8_mapped_16 rfl ?_
        refine w_bipush X dX8_mapped_17 rfl ?_
        refine w_idiv X dX8_mapped_19 ?_
        refine w_ist5_3 X dX8_mapped_20 ?_
        refine w_iinc5_4 X dX8_mapped_21 ?_
        refine w_goto X 10 dX8_mapped_24 (by decide) ?_
        have e8 : mi 479 k / 10 ^ (i + 1) = x3 / 10 := by rw [Int.pow_succ, ← Int.ediv_ediv_of_nonneg (Int.le_of_lt (Int.pow_pos (by decide))), ← hx.1]
        exact ih_loop _ (by omega) (i + 1) _ (by omega) ⟨e8.symm, by omega, by omega⟩ rfl
  exact loop _ 0 _ (by omega) ⟨by simp, by omega, by omega⟩ rfl
theorem dX8_isShort_0 : decode cX8_isShort 0 = .ok (.iconst 1, 1) := by decide +kernel
theorem dX8_isShort_1 : decode cX8_isShort 1 = .ok (.istore_n 2, 1) := by decide +kernel
theorem dX8_isShort_2 : decode cX8_isShort 2 = .ok (.iconst 0, 1) := by decide +kernel
theorem dX8_isShort_3 : decode cX8_isShort 3 = .ok (.istore_n 3, 1) := by decide +kernel
theorem dX8_isShort_4 : decode cX8_isShort 4 = .ok (.iload_n 3, 1) := by decide +kernel
theorem dX8_isShort_5 : decode cX8_isShort 5 = .ok (.aload_n 0, 1) := by decide +kernel
theorem dX8_isShort_6 : decode cX8_isShort 6 = .ok (.getfield 7, 3) := by decide +kernel
theorem dX8_isShort_9 : decode cX8_isShort 9 = .ok (.if_icmp .ge 14, 3) := by decide +kernel
theorem dX8_isShort_12 : decode cX8_isShort 12 = .ok (.iload_n 2, 1) := by decide +kernel
theorem dX8_isShort_13 : decode cX8_isShort 13 = .ok (.bipush 10, 2) := by decide +kernel
theorem dX8_isShort_15 : decode cX8_isShort 15 = .ok (.imul, 1) := by decide +kernel
theorem dX8_isShort_16 : decode cX8_isShort 16 = .ok (.istore_n 2, 1) := by decide +kernel
theorem dX8_isShort_17 : decode cX8_isShort 17 = .ok (.iinc 3 1, 3) := by decide +kernel
theorem dX8_isShort_20 : decode cX8_isShort 20 = .ok (.goto (-16), 3) := by decide +kernel
theorem dX8_isShort_23 : decode cX8_isShort 23 = .ok (.iload_n 1, 1) := by decide +kernel
theorem dX8_isShort_24 : decode cX8_isShort 24 = .ok (.i2l, 1) := by decide +kernel
theorem dX8_isShort_25 : decode cX8_isShort 25 = .ok (.lconst 0, 1) := by decide +kernel
theorem dX8_isShort_26 : decode cX8_isShort 26 = .ok (.iload_n 2, 1) := by decide +kernel
theorem dX8_isShort_27 : decode cX8_isShort 27 = .ok (.iconst 1, 1) := by decide +kernel
theorem dX8_isShort_28 : decode cX8_isShort 28 = .ok (.isub, 1) := by decide +kernel
theorem dX8_isShort_29 : decode cX8_isShort 29 = .ok (.i2l, 1) := by decide +kernel
theorem dX8_isShort_30 : decode cX8_isShort 30 = .ok (.invokestatic 76, 3) := by decide +kernel
theorem dX8_isShort_33 : decode cX8_isShort 33 = .ok (.ireturn, 1) := by decide +kernel
theorem hl_yX8_isShort : (yX8_isShort.cls ≠ "java/lang/invoke/MethodHandle" ∧ yX8_isShort.cls ≠ "java/lang/invoke/VarHandle") ∧ (parseMethodDescriptor yX8_isShort.desc).map (fun d => d.parameters.length) = some 1 := by decide +kernel
set_option maxRecDepth 20000 in
set_option maxHeartbeats 4000000 in
theorem c_X8_isShort {l : Launch} {G : Gt} {n0 : Nat} {mi : Nat → Nat → Int} {mr : Nat → Nat → Nat} (hsc : 1 ≤ mi 473 1 ∧ mi 473 1 ≤ 5) {z : Int} (hz : rg z) : Ci l yX8_isShort cX8_isShort 4 .boolean 2 G n0 [.ref (n0 + 473), .int (jI z)] mi mr (fun r9 mi9 mr9 => mi = mi9 ∧ mr = mr9 ∧ (r9 = 1 ∧ (0 ≤ z ∧ z < p10 (mi 473 1)) ∨ r9 = 0 ∧ ¬ (0 ≤ z ∧ z < p10 (mi 473 1)))) := by
  refine Ct_of (by decide +kernel) (by intro v hv; simp at hv; rcases hv with rfl | rfl <;> rfl) (Nat.le_of_ble_eq_true rfl) ?_
  intro p e s m args below meth c9 X hr hname
  show WW _ _ _ _ _ _ _ _ _ _ _ _ _ _ _ _ _ _ _ [some (.ref (n0 + 473)), some (.int (jI z)), none, none] _
  refine w_iconst X dX8_isShort_0 ?_
  refine w_ist4_2 X dX8_isShort_1 ?_
  refine w_iconst X dX8_isShort_2 ?_
  refine w_ist4_3 X dX8_isShort_3 ?_
  refine w_iload_n X dX8_isShort_4 rfl ?_
  refine w_aload_n X dX8_isShort_5 rfl ?_
  refine w_get X (by decide) (σ_473 G n0 _ _) rfl gW_X8 1 (by decide) gF_X8_7 rfl dX8_isShort_6 ?_
  refine w_icmp_ge X 23 dX8_isShort_9 (by decide) (fun h9 => absurd h9 (by omega)) (fun h9_ => ?_)
  refine w_iload_n X dX8_isShort_12 rfl ?_
  refine w_bipush X dX8_isShort_13 rfl ?_
  refine w_imul X dX8_isShort_15 ?_
  refine w_ist4_2 X dX8_isShort_16 ?_
  refine w_iinc4_3 X dX8_isShort_17 ?_
  refine w_goto X 4 dX8_isShort_20 (by decide) ?_
  refine w_iload_n X dX8_isShort_4 rfl ?_
  refine w_aload_n X dX8_isShort_5 rfl ?_
  refine w_get X (by decide) (σ_473 G n0 _ _) rfl gW_X8 1 (by decide) gF_X8_7 rfl dX8_isShort_6 ?_
  refine w_icmp_ge X 23 dX8_isShort_9 (by decide) (fun c9_1 => ?_) (fun c9_1 => ?_)
  ·
    refine w_iload_n X dX8_isShort_23 rfl ?_
    refine w_i2l X dX8_isShort_24 ?_
    refine w_lconst X dX8_isShort_25 0 rfl ?_
    refine w_iload_n X dX8_isShort_26 rfl ?_
    refine w_iconst X dX8_isShort_27 ?_
    refine w_isub X dX8_isShort_28 ?_
    refine w_i2l X dX8_isShort_29 ?_
    refine s_callSi X _ (c_X8_in (l := l) (G := G) (n0 := n0) (by first | assumption | (refine ⟨?_, ?_⟩ <;> omega)) (by first | assumption | (refine ⟨?_, ?_⟩ <;> omega)) (by first | assumption | (refine ⟨?_, ?_⟩ <;> omega))) gM_X8_76 gT_yX8_in gN_X8 gC_yX8_in dX8_isShort_30 hl_yX8_in ⟨Nat.le_of_ble_eq_true rfl, Nat.le_of_ble_eq_true rfl⟩ (Nat.le_of_ble_eq_true rfl) rfl (fun r1 mi1 mr1 h1 => ?_)
    obtain ⟨rfl, rfl, h1⟩ := h1
    refine s_zret X hr dX8_isShort_33 (by omega) ?_
    refine ⟨rfl, rfl, ?_⟩
    unfold p10
    split
    · omega
    · split
      · omega
      · split
        · omega
        · split <;> omega
  ·
    refine w_iload_n X dX8_isShort_12 rfl ?_
    refine w_bipush X dX8_isShort_13 rfl ?_
    refine w_imul X dX8_isShort_15 ?_
    refine w_ist4_2 X dX8_isShort_16 ?_
    refine w_iinc4_3 X dX8_isShort_17 ?_
    refine w_goto X 4 dX8_isShort_20 (by decide) ?_
    refine w_iload_n X dX8_isShort_4 rfl ?_
    refine w_aload_n X dX8_isShort_5 rfl ?_
    refine w_get X (by decide) (σ_473 G n0 _ _) rfl gW_X8 1 (by decide) gF_X8_7 rfl dX8_isShort_6 ?_
    refine w_icmp_ge X 23 dX8_isShort_9 (by decide) (fun c9_2 => ?_) (fun c9_2 => ?_)
    ·
      refine w_iload_n X dX8_isShort_23 rfl ?_
      refine w_i2l X dX8_isShort_24 ?_
      refine w_lconst X dX8_isShort_25 0 rfl ?_
      refine w_iload_n X dX8_isShort_26 rfl ?_
      refine w_iconst X dX8_isShort_27 ?_
      refine w_isub X dX8_isShort_28 ?_
      refine w_i2l X dX8_isShort_29 ?_
      refine s_callSi X _ (c_X8_in (l := l) (G := G) (n0 := n0) (by first | assumption | (refine ⟨?_, ?_⟩ <;> omega)) (by first | assumption | (refine ⟨?_, ?_⟩ <;> omega)) (by first | assumption | (refine ⟨?_, ?_⟩ <;> omega))) gM_X8_76 gT_yX8_in gN_X8 gC_yX8_in dX8_isShort_30 hl_yX8_in ⟨Nat.le_of_ble_eq_true rfl, Nat.le_of_ble_eq_true rfl⟩ (Nat.le_of_ble_eq_true rfl) rfl (fun r1 mi1 mr1 h1 => ?_)
      obtain ⟨rfl, rfl, h1⟩ := h1
      refine s_zret X hr dX8_isShort_33 (by omega) ?_
      refine ⟨rfl, rfl, ?_⟩
      unfold p10
      split
      · omega
      · split
        · omega
        · split
          · omega
          · split <;> omega
    ·
      refine w_iload_n X dX8_isShort_12 rfl ?_
      refine w_bipush X dX8_isShort_13 rfl ?_
      refine w_imul X dX8_isShort_15 ?_
      refine w_ist4_2 X dX8_isShort_16 ?_
      refine w_iinc4_3 X dX8_isShort_17 ?_
      refine w_goto X 4 dX8_isShort_20 (by decide) ?_
      refine w_iload_n X dX8_isShort_4 rfl ?_
      refine w_aload_n X dX8_isShort_5 rfl ?_
      refine w_get X (by decide) (σ_473 G n0 _ _) rfl gW_X8 1 (by decide) gF_X8_7 rfl dX8_isShort_6 ?_
      refine w_icmp_ge X 23 dX8_isShort_9 (by decide) (fun c9_3 => ?_) (fun c9_3 => ?_)
      ·
        refine w_iload_n X dX8_isShort_23 rfl ?_
        refine w_i2l X dX8_isShort_24 ?_
        refine w_lconst X dX8_isShort_25 0 rfl ?_
        refine w_iload_n X dX8_isShort_26 rfl ?_
        refine w_iconst X dX8_isShort_27 ?_
        refine w_isub X dX8_isShort_28 ?_
        refine w_i2l X dX8_isShort_29 ?_
        refine s_callSi X _ (c_X8_in (l := l) (G := G) (n0 := n0) (by first | assumption | (refine ⟨?_, ?_⟩ <;> omega)) (by first | assumption | (refine ⟨?_, ?_⟩ <;> omega)) (by first | assumption | (refine ⟨?_, ?_⟩ <;> omega))) gM_X8_76 gT_yX8_in gN_X8 gC_yX8_in dX8_isShort_30 hl_yX8_in ⟨Nat.le_of_ble_eq_true rfl, Nat.le_of_ble_eq_true rfl⟩ (Nat.le_of_ble_eq_true rfl) rfl (fun r1 mi1 mr1 h1 => ?_)
        obtain ⟨rfl, rfl, h1⟩ := h1
        refine s_zret X hr dX8_isShort_33 (by omega) ?_
        refine ⟨rfl, rfl, ?_⟩
        unfold p10
        split
        · omega
        · split
          · omega
          · split
            · omega
            · split <;> omega
      ·
        refine w_iload_n X dX8_isShort_12 rfl ?_
        refine w_bipush X dX8_isShort_13 rfl ?_
        refine w_imul X dX8_isShort_15 ?_
        refine w_ist4_2 X dX8_isShort_16 ?_
        refine w_iinc4_3 X dX8_isShort_17 ?_
        refine w_goto X 4 dX8_isShort_20 (by decide) ?_
        refine w_iload_n X dX8_isShort_4 rfl ?_
        refine w_aload_n X dX8_isShort_5 rfl ?_
        refine w_get X (by decide) (σ_473 G n0 _ _) rfl gW_X8 1 (by decide) gF_X8_7 rfl dX8_isShort_6 ?_
        refine w_icmp_ge X 23 dX8_isShort_9 (by decide) (fun c9_4 => ?_) (fun c9_4 => ?_)
        ·
          refine w_iload_n X dX8_isShort_23 rfl ?_
          refine w_i2l X dX8_isShort_24 ?_
          refine w_lconst X dX8_isShort_25 0 rfl ?_
          refine w_iload_n X dX8_isShort_26 rfl ?_
          refine w_iconst X dX8_isShort_27 ?_
          refine w_isub X dX8_isShort_28 ?_
          refine w_i2l X dX8_isShort_29 ?_
          refine s_callSi X _ (c_X8_in (l := l) (G := G) (n0 := n0) (by first | assumption | (refine ⟨?_, ?_⟩ <;> omega)) (by first | assumption | (refine ⟨?_, ?_⟩ <;> omega)) (by first | assumption | (refine ⟨?_, ?_⟩ <;> omega))) gM_X8_76 gT_yX8_in gN_X8 gC_yX8_in dX8_isShort_30 hl_yX8_in ⟨Nat.le_of_ble_eq_true rfl, Nat.le_of_ble_eq_true rfl⟩ (Nat.le_of_ble_eq_true rfl) rfl (fun r1 mi1 mr1 h1 => ?_)
          obtain ⟨rfl, rfl, h1⟩ := h1
          refine s_zret X hr dX8_isShort_33 (by omega) ?_
          refine ⟨rfl, rfl, ?_⟩
          unfold p10
          split
          · omega
          · split
            · omega
            · split
              · omega
              · split <;> omega
        ·
          refine w_iload_n X dX8_isShort_12 rfl ?_
          refine w_bipush X dX8_isShort_13 rfl ?_
          refine w_imul X dX8_isShort_15 ?_
          refine w_ist4_2 X dX8_isShort_16 ?_
          refine w_iinc4_3 X dX8_isShort_17 ?_
          refine w_goto X 4 dX8_isShort_20 (by decide) ?_
          refine w_iload_n X dX8_isShort_4 rfl ?_
          refine w_aload_n X dX8_isShort_5 rfl ?_
          refine w_get X (by decide) (σ_473 G n0 _ _) rfl gW_X8 1 (by decide) gF_X8_7 rfl dX8_isShort_6 ?_
          refine w_icmp_ge X 23 dX8_isShort_9 (by decide) (fun h9_ => ?_) (fun h9 => absurd (by omega) h9)
          refine w_iload_n X dX8_isShort_23 rfl ?_
          refine w_i2l X dX8_isShort_24 ?_
          refine w_lconst X dX8_isShort_25 0 rfl ?_
          refine w_iload_n X dX8_isShort_26 rfl ?_
          refine w_iconst X dX8_isShort_27 ?_
          refine w_isub X dX8_isShort_28 ?_
          refine w_i2l X dX8_isShort_29 ?_
          refine s_callSi X _ (c_X8_in (l := l) (G := G) (n0 := n0) (by first | assumption | (refine ⟨?_, ?_⟩ <;> omega)) (by first | assumption | (refine ⟨?_, ?_⟩ <;> omega)) (by first | assumption | (refine ⟨?_, ?_⟩ <;> omega))) gM_X8_76 gT_yX8_in gN_X8 gC_yX8_in dX8_isShort_30 hl_yX8_in ⟨Nat.le_of_ble_eq_true rfl, Nat.le_of_ble_eq_true rfl⟩ (Nat.le_of_ble_eq_true rfl) rfl (fun r1 mi1 mr1 h1 => ?_)
          obtain ⟨rfl, rfl, h1⟩ := h1
          refine s_zret X hr dX8_isShort_33 (by omega) ?_
          refine ⟨rfl, rfl, ?_⟩
          unfold p10
          split
          · omega
          · split
            · omega
            · split
              · omega
              · split <;> omega
theorem dX8_sum_0 : decode cX8_sum 0 = .ok (.aload_n 0, 1) := by decide +kernel
theorem dX8_sum_1 : decode cX8_sum 1 = .ok (.iload_n 1, 1) := by decide +kernel
theorem dX8_sum_2 : decode cX8_sum 2 = .ok (.iaload, 1) := by decide +kernel
theorem dX8_sum_3 : decode cX8_sum 3 = .ok (.aload_n 0, 1) := by decide +kernel
theorem dX8_sum_4 : decode cX8_sum 4 = .ok (.iload_n 1, 1) := by decide +kernel
theorem dX8_sum_5 : decode cX8_sum 5 = .ok (.iconst 1, 1) := by decide +kernel
theorem dX8_sum_6 : decode cX8_sum 6 = .ok (.iadd, 1) := by decide +kernel
theorem dX8_sum_7 : decode cX8_sum 7 = .ok (.iaload, 1) := by decide +kernel
theorem dX8_sum_8 : decode cX8_sum 8 = .ok (.iadd, 1) := by decide +kernel
theorem dX8_sum_9 : decode cX8_sum 9 = .ok (.aload_n 0, 1) := by decide +kernel
theorem dX8_sum_10 : decode cX8_sum 10 = .ok (.iload_n 1, 1) := by decide +kernel
theorem dX8_sum_11 : decode cX8_sum 11 = .ok (.iconst 2, 1) := by decide +kernel
theorem dX8_sum_12 : decode cX8_sum 12 = .ok (.iadd, 1) := by decide +kernel
theorem dX8_sum_13 : decode cX8_sum 13 = .ok (.iaload, 1) := by decide +kernel
theorem dX8_sum_14 : decode cX8_sum 14 = .ok (.iadd, 1) := by decide +kernel
theorem dX8_sum_15 : decode cX8_sum 15 = .ok (.aload_n 0, 1) := by decide +kernel
theorem dX8_sum_16 : decode cX8_sum 16 = .ok (.iload_n 1, 1) := by decide +kernel
theorem dX8_sum_17 : decode cX8_sum 17 = .ok (.iconst 3, 1) := by decide +kernel
theorem dX8_sum_18 : decode cX8_sum 18 = .ok (.iadd, 1) := by decide +kernel
theorem dX8_sum_19 : decode cX8_sum 19 = .ok (.iaload, 1) := by decide +kernel
theorem dX8_sum_20 : decode cX8_sum 20 = .ok (.iadd, 1) := by decide +kernel
theorem dX8_sum_21 : decode cX8_sum 21 = .ok (.aload_n 0, 1) := by decide +kernel
theorem dX8_sum_22 : decode cX8_sum 22 = .ok (.iload_n 1, 1) := by decide +kernel
theorem dX8_sum_23 : decode cX8_sum 23 = .ok (.iconst 4, 1) := by decide +kernel
theorem dX8_sum_24 : decode cX8_sum 24 = .ok (.iadd, 1) := by decide +kernel
theorem dX8_sum_25 : decode cX8_sum 25 = .ok (.iaload, 1) := by decide +kernel
theorem dX8_sum_26 : decode cX8_sum 26 = .ok (.iadd, 1) := by decide +kernel
theorem dX8_sum_27 : decode cX8_sum 27 = .ok (.ireturn, 1) := by decide +kernel
theorem hl_yX8_sum : (yX8_sum.cls ≠ "java/lang/invoke/MethodHandle" ∧ yX8_sum.cls ≠ "java/lang/invoke/VarHandle") ∧ (parseMethodDescriptor yX8_sum.desc).map (fun d => d.parameters.length) = some 2 := by decide +kernel
set_option maxRecDepth 20000 in
set_option maxHeartbeats 4000000 in
theorem c_X8_sum {l : Launch} {G : Gt} {n0 : Nat} {mi : Nat → Nat → Int} {mr : Nat → Nat → Nat} {a nn b : Nat} (ha : IA a nn) (hn9 : nn < 2147483648) (hb : b + 5 ≤ nn) : Ci l yX8_sum cX8_sum 2 .int 1 G n0 [.ref (n0 + a), .int (jI (b : Int))] mi mr (fun r9 mi9 mr9 => mi = mi9 ∧ mr = mr9 ∧ r9 = mi a b + mi a (b + 1) + mi a (b + 2) + mi a (b + 3) + mi a (b + 4)) := by
  refine Ct_of (by decide +kernel) (by intro v hv; simp at hv; rcases hv with rfl | rfl <;> rfl) (Nat.le_of_ble_eq_true rfl) ?_
  intro p e s m args below meth c9 X hr hname
  show WW _ _ _ _ _ _ _ _ _ _ _ _ _ _ _ _ _ _ _ [some (.ref (n0 + a)), some (.int (jI (b : Int)))] _
  refine w_aload_n X dX8_sum_0 rfl ?_
  refine w_iload_n X dX8_sum_1 rfl ?_
  refine s_iald X (b) ha.1 (fun _ => ha.2 _ _ _ _) dX8_sum_2 ?_ (hn := hn9)
  refine w_aload_n X dX8_sum_3 rfl ?_
  refine w_iload_n X dX8_sum_4 rfl ?_
  refine w_iconst X dX8_sum_5 ?_
  refine w_iadd X dX8_sum_6 ?_
  refine s_iald X (b + 1) ha.1 (fun _ => ha.2 _ _ _ _) dX8_sum_7 ?_ (hn := hn9)
  refine w_iadd X dX8_sum_8 ?_
  refine w_aload_n X dX8_sum_9 rfl ?_
  refine w_iload_n X dX8_sum_10 rfl ?_
  refine w_iconst X dX8_sum_11 ?_
  refine w_iadd X dX8_sum_12 ?_
  refine s_iald X (b + 2) ha.1 (fun _ => ha.2 _ _ _ _) dX8_sum_13 ?_ (hn := hn9)
  refine w_iadd X dX8_sum_14 ?_
  refine w_aload_n X dX8_sum_15 rfl ?_
  refine w_iload_n X dX8_sum_16 rfl ?_
  refine w_iconst X dX8_sum_17 ?_
  refine w_iadd X dX8_sum_18 ?_
  refine s_iald X (b + 3) ha.1 (fun _ => ha.2 _ _ _ _) dX8_sum_19 ?_ (hn := hn9)
  refine w_iadd X dX8_sum_20 ?_
  refine w_aload_n X dX8_sum_21 rfl ?_
  refine w_iload_n X dX8_sum_22 rfl ?_
  refine w_iconst X dX8_sum_23 ?_
  refine w_iadd X dX8_sum_24 ?_
  refine s_iald X (b + 4) ha.1 (fun _ => ha.2 _ _ _ _) dX8_sum_25 ?_ (hn := hn9)
  refine w_iadd X dX8_sum_26 ?_
  refine s_iret X hr dX8_sum_27 ?_
  exact ⟨rfl, rfl, rfl⟩
theorem dX8_isOver_0 : decode cX8_isOver 0 = .ok (.iconst 1, 1) := by decide +kernel
theorem dX8_isOver_1 : decode cX8_isOver 1 = .ok (.istore_n 3, 1) := by decide +kernel
theorem dX8_isOver_2 : decode cX8_isOver 2 = .ok (.iconst 0, 1) := by decide +kernel
theorem dX8_isOver_3 : decode cX8_isOver 3 = .ok (.istore 4, 2) := by decide +kernel
theorem dX8_isOver_5 : decode cX8_isOver 5 = .ok (.iload 4, 2) := by decide +kernel
theorem dX8_isOver_7 : decode cX8_isOver 7 = .ok (.iconst 5, 1) := by decide +kernel
theorem dX8_isOver_8 : decode cX8_isOver 8 = .ok (.if_icmp .ge 34, 3) := by decide +kernel
theorem dX8_isOver_11 : decode cX8_isOver 11 = .ok (.iload_n 3, 1) := by decide +kernel
theorem dX8_isOver_12 : decode cX8_isOver 12 = .ok (.ifCond .eq 22, 3) := by decide +kernel
theorem dX8_isOver_15 : decode cX8_isOver 15 = .ok (.aload_n 0, 1) := by decide +kernel
theorem dX8_isOver_16 : decode cX8_isOver 16 = .ok (.iload 4, 2) := by decide +kernel
theorem dX8_isOver_18 : decode cX8_isOver 18 = .ok (.iaload, 1) := by decide +kernel
theorem dX8_isOver_19 : decode cX8_isOver 19 = .ok (.aload_n 1, 1) := by decide +kernel
theorem dX8_isOver_20 : decode cX8_isOver 20 = .ok (.iconst 5, 1) := by decide +kernel
theorem dX8_isOver_21 : decode cX8_isOver 21 = .ok (.iload_n 2, 1) := by decide +kernel
theorem dX8_isOver_22 : decode cX8_isOver 22 = .ok (.imul, 1) := by decide +kernel
theorem dX8_isOver_23 : decode cX8_isOver 23 = .ok (.iload 4, 2) := by decide +kernel
theorem dX8_isOver_25 : decode cX8_isOver 25 = .ok (.iadd, 1) := by decide +kernel
theorem dX8_isOver_26 : decode cX8_isOver 26 = .ok (.iaload, 1) := by decide +kernel
theorem dX8_isOver_27 : decode cX8_isOver 27 = .ok (.if_icmp .lt 7, 3) := by decide +kernel
theorem dX8_isOver_30 : decode cX8_isOver 30 = .ok (.iconst 1, 1) := by decide +kernel
theorem dX8_isOver_31 : decode cX8_isOver 31 = .ok (.goto 4, 3) := by decide +kernel
theorem dX8_isOver_34 : decode cX8_isOver 34 = .ok (.iconst 0, 1) := by decide +kernel
theorem dX8_isOver_35 : decode cX8_isOver 35 = .ok (.istore_n 3, 1) := by decide +kernel
theorem dX8_isOver_36 : decode cX8_isOver 36 = .ok (.iinc 4 1, 3) := by decide +kernel
theorem dX8_isOver_39 : decode cX8_isOver 39 = .ok (.goto (-34), 3) := by decide +kernel
theorem dX8_isOver_42 : decode cX8_isOver 42 = .ok (.iload_n 3, 1) := by decide +kernel
theorem dX8_isOver_43 : decode cX8_isOver 43 = .ok (.ireturn, 1) := by decide +kernel
theorem hl_yX8_isOver : (yX8_isOver.cls ≠ "java/lang/invoke/MethodHandle" ∧ yX8_isOver.cls ≠ "java/lang/invoke/VarHandle") ∧ (parseMethodDescriptor yX8_isOver.desc).map (fun d => d.parameters.length) = some 3 := by decide +kernel
set_option maxRecDepth 20000 in
set_option maxHeartbeats 4000000 in
theorem c_X8_isOver {l : Launch} {G : Gt} {n0 : Nat} {mi : Nat → Nat → Int} {mr : Nat → Nat → Nat} {a c b : Nat} (ha : IA a 5) (hc : IA c 505) (hb : 5 * b + 5 ≤ 505) (hva : ∀ j : Nat, j < 5 → rg (mi a j)) (hvc : ∀ j : Nat, j < 5 → rg (mi c (5 * b + j))) : Ci l yX8_isOver cX8_isOver 5 .boolean 1 G n0 [.ref (n0 + a), .ref (n0 + c), .int (jI (b : Int))] mi mr (fun r9 mi9 mr9 => mi = mi9 ∧ mr = mr9 ∧ flg r9 (∀ j : Nat, j < 5 → mi c (5 * b + j) ≤ mi a j)) := by
  refine Ct_of (by decide +kernel) (by intro v hv; simp at hv; rcases hv with rfl | rfl | rfl <;> rfl) (Nat.le_of_ble_eq_true rfl) ?_
  intro p e s m args below meth c9 X hr hname
  show WW _ _ _ _ _ _ _ _ _ _ _ _ _ _ _ _ _ _ _ [some (.ref (n0 + a)), some (.ref (n0 + c)), some (.int (jI (b : Int))), none, none] _
  refine w_iconst X dX8_isOver_0 ?_
  refine w_ist5_3 X dX8_isOver_1 ?_
  refine w_iconst X dX8_isOver_2 ?_
  refine w_ist5_4 X dX8_isOver_3 ?_
  have loop : ∀ (n : Nat) (i : Nat) (w1 : Int), (i ≤ 5) → (FLg w1 (fun j => mi c (5 * b + j) ≤ mi a j) i) → n = 5 - i → WSi p l e s m args below meth c9 1 (fun r9 mi9 mr9 => mi = mi9 ∧ mr = mr9 ∧ flg r9 (∀ j : Nat, j < 5 → mi c (5 * b + j) ≤ mi a j)) G n0 5 mi mr 5 [some (.ref (n0 + a)), some (.ref (n0 + c)), some (.int (jI (b : Int))), some (.int (jI w1)), some (.int (jI (i : Int)))] [] := by
    intro n
    induction n using Nat.strongRecOn with
    | ind n ih_loop =>
      intro i w1 hi hf hn
      have hw1 := FL_b hf
      refine w_iload X dX8_isOver_5 rfl ?_
      refine w_iconst X dX8_isOver_7 ?_
      refine w_icmp_ge X 42 dX8_isOver_8 (by decide) (fun c8_1 => ?_) (fun c8_1 => ?_)
      ·
        refine w_iload_n X dX8_isOver_42 rfl ?_
        refine s_zret X hr dX8_isOver_43 (by omega) ?_
        refine ⟨rfl, rfl, ?_⟩
        rw [show i = 5 by omega] at hf
        exact hf
      ·
        refine w_iload_n X dX8_isOver_11 rfl ?_
        refine w_if_eq X 34 dX8_isOver_12 (by decide) (fun c12_2 => ?_) (fun c12_2 => ?_)
        ·
          refine w_iconst X dX8_isOver_34 ?_
          refine w_ist5_3 X dX8_isOver_35 ?_
          refine w_iinc5_4 X dX8_isOver_36 ?_
          refine w_goto X 5 dX8_isOver_39 (by decide) ?_
          exact ih_loop _ (by omega) (i + 1) 0 (by omega) (by first | exact FL_k hf (by omega) | exact FL_f (show ¬ mi c (5 * b + i) ≤ mi a i by omega)) rfl
        ·
          have q1 := hva i (by omega)
          have q2 := hvc i (by omega)
          refine w_aload_n X dX8_isOver_15 rfl ?_
          refine w_iload X dX8_isOver_16 rfl ?_
          refine s_iald X (i) ha.1 (fun _ => ha.2 _ _ _ _) dX8_isOver_18 ?_
          refine w_aload_n X dX8_isOver_19 rfl ?_
          refine w_iconst X dX8_isOver_20 ?_
          refine w_iload_n X dX8_isOver_21 rfl ?_
          refine w_imul X dX8_isOver_22 ?_
          refine w_iload X dX8_isOver_23 rfl ?_
          refine w_iadd X dX8_isOver_25 ?_
          refine s_iald X ((5 * b + i)) hc.1 (fun _ => hc.2 _ _ _ _) dX8_isOver_26 ?_
          refine w_icmp_lt X 34 dX8_isOver_27 (by decide) (fun c27_3 => ?_) (fun c27_3 => ?_)
          ·
            refine w_iconst X dX8_isOver_34 ?_
            refine w_ist5_3 X dX8_isOver_35 ?_
            refine w_iinc5_4 X dX8_isOver_36 ?_
            refine w_goto X 5 dX8_isOver_39 (by decide) ?_
            exact ih_loop _ (by omega) (i + 1) 0 (by omega) (by first | exact FL_k hf (by omega) | exact FL_f (show ¬ mi c (5 * b + i) ≤ mi a i by omega)) rfl
          ·
            refine w_iconst X dX8_isOver_30 ?_
            refine w_goto X 35 dX8_isOver_31 (by decide) ?_
            refine w_ist5_3 X dX8_isOver_35 ?_
            refine w_iinc5_4 X dX8_isOver_36 ?_
            refine w_goto X 5 dX8_isOver_39 (by decide) ?_
            exact ih_loop _ (by omega) (i + 1) 1 (by omega) (FL_t hf (by omega) (show mi c (5 * b + i) ≤ mi a i by omega)) rfl
  exact loop _ 0 1 (by omega) FL_0 rfl
theorem dX8_isBadOne_0 : decode cX8_isBadOne 0 = .ok (.iconst 0, 1) := by decide +kernel
theorem dX8_isBadOne_1 : decode cX8_isBadOne 1 = .ok (.istore_n 2, 1) := by decide +kernel
theorem dX8_isBadOne_2 : decode cX8_isBadOne 2 = .ok (.iconst 0, 1) := by decide +kernel
theorem dX8_isBadOne_3 : decode cX8_isBadOne 3 = .ok (.istore_n 3, 1) := by decide +kernel
theorem dX8_isBadOne_4 : decode cX8_isBadOne 4 = .ok (.iload_n 3, 1) := by decide +kernel
theorem dX8_isBadOne_5 : decode cX8_isBadOne 5 = .ok (.aload_n 0, 1) := by decide +kernel
theorem dX8_isBadOne_6 : decode cX8_isBadOne 6 = .ok (.getfield 85, 3) := by decide +kernel
theorem dX8_isBadOne_9 : decode cX8_isBadOne 9 = .ok (.if_icmp .ge 72, 3) := by decide +kernel
theorem dX8_isBadOne_12 : decode cX8_isBadOne 12 = .ok (.iconst 1, 1) := by decide +kernel
theorem dX8_isBadOne_13 : decode cX8_isBadOne 13 = .ok (.istore 4, 2) := by decide +kernel
theorem dX8_isBadOne_15 : decode cX8_isBadOne 15 = .ok (.iconst 0, 1) := by decide +kernel
theorem dX8_isBadOne_16 : decode cX8_isBadOne 16 = .ok (.istore 5, 2) := by decide +kernel
theorem dX8_isBadOne_18 : decode cX8_isBadOne 18 = .ok (.iload 5, 2) := by decide +kernel
theorem dX8_isBadOne_20 : decode cX8_isBadOne 20 = .ok (.iconst 5, 1) := by decide +kernel
theorem dX8_isBadOne_21 : decode cX8_isBadOne 21 = .ok (.if_icmp .ge 39, 3) := by decide +kernel
theorem dX8_isBadOne_24 : decode cX8_isBadOne 24 = .ok (.iload 4, 2) := by decide +kernel
theorem dX8_isBadOne_26 : decode cX8_isBadOne 26 = .ok (.ifCond .eq 25, 3) := by decide +kernel
theorem dX8_isBadOne_29 : decode cX8_isBadOne 29 = .ok (.aload_n 1, 1) := by decide +kernel
theorem dX8_isBadOne_30 : decode cX8_isBadOne 30 = .ok (.iload 5, 2) := by decide +kernel
theorem dX8_isBadOne_32 : decode cX8_isBadOne 32 = .ok (.iaload, 1) := by decide +kernel
theorem dX8_isBadOne_33 : decode cX8_isBadOne 33 = .ok (.aload_n 0, 1) := by decide +kernel
theorem dX8_isBadOne_34 : decode cX8_isBadOne 34 = .ok (.getfield 38, 3) := by decide +kernel
theorem dX8_isBadOne_37 : decode cX8_isBadOne 37 = .ok (.iconst 5, 1) := by decide +kernel
theorem dX8_isBadOne_38 : decode cX8_isBadOne 38 = .ok (.iload_n 3, 1) := by decide +kernel
theorem dX8_isBadOne_39 : decode cX8_isBadOne 39 = .ok (.imul, 1) := by decide +kernel
theorem dX8_isBadOne_40 : decode cX8_isBadOne 40 = .ok (.iload 5, 2) := by decide +kernel
theorem dX8_isBadOne_42 : decode cX8_isBadOne 42 = .ok (.iadd, 1) := by decide +kernel
theorem dX8_isBadOne_43 : decode cX8_isBadOne 43 = .ok (.iaload, 1) := by decide +kernel
theorem dX8_isBadOne_44 : decode cX8_isBadOne 44 = .ok (.if_icmp .lt 7, 3) := by decide +kernel
theorem dX8_isBadOne_47 : decode cX8_isBadOne 47 = .ok (.iconst 1, 1) := by decide +kernel
theorem dX8_isBadOne_48 : decode cX8_isBadOne 48 = .ok (.goto 4, 3) := by decide +kernel
theorem dX8_isBadOne_51 : decode cX8_isBadOne 51 = .ok (.iconst 0, 1) := by decide +kernel
theorem dX8_isBadOne_52 : decode cX8_isBadOne 52 = .ok (.istore 4, 2) := by decide +kernel
theorem dX8_isBadOne_54 : decode cX8_isBadOne 54 = .ok (.iinc 5 1, 3) := by decide +kernel
theorem dX8_isBadOne_57 : decode cX8_isBadOne 57 = .ok (.goto (-39), 3) := by decide +kernel
theorem dX8_isBadOne_60 : decode cX8_isBadOne 60 = .ok (.iload_n 2, 1) := by decide +kernel
theorem dX8_isBadOne_61 : decode cX8_isBadOne 61 = .ok (.ifCond .ne 8, 3) := by decide +kernel
theorem dX8_isBadOne_64 : decode cX8_isBadOne 64 = .ok (.iload 4, 2) := by decide +kernel
theorem dX8_isBadOne_66 : decode cX8_isBadOne 66 = .ok (.ifCond .eq 7, 3) := by decide +kernel
theorem dX8_isBadOne_69 : decode cX8_isBadOne 69 = .ok (.iconst 1, 1) := by decide +kernel
theorem dX8_isBadOne_70 : decode cX8_isBadOne 70 = .ok (.goto 4, 3) := by decide +kernel
theorem dX8_isBadOne_73 : decode cX8_isBadOne 73 = .ok (.iconst 0, 1) := by decide +kernel
theorem dX8_isBadOne_74 : decode cX8_isBadOne 74 = .ok (.istore_n 2, 1) := by decide +kernel
theorem dX8_isBadOne_75 : decode cX8_isBadOne 75 = .ok (.iinc 3 1, 3) := by decide +kernel
theorem dX8_isBadOne_78 : decode cX8_isBadOne 78 = .ok (.goto (-74), 3) := by decide +kernel
theorem dX8_isBadOne_81 : decode cX8_isBadOne 81 = .ok (.iload_n 2, 1) := by decide +kernel
theorem dX8_isBadOne_82 : decode cX8_isBadOne 82 = .ok (.ireturn, 1) := by decide +kernel
theorem hl_yX8_isBadOne : (yX8_isBadOne.cls ≠ "java/lang/invoke/MethodHandle" ∧ yX8_isBadOne.cls ≠ "java/lang/invoke/VarHandle") ∧ (parseMethodDescriptor yX8_isBadOne.desc).map (fun d => d.parameters.length) = some 1 := by decide +kernel
set_option maxRecDepth 20000 in
set_option maxHeartbeats 4000000 in
theorem c_X8_isBadOne {l : Launch} {G : Gt} {n0 : Nat} {mi : Nat → Nat → Int} {mr : Nat → Nat → Nat} {L : Lws} (hA : AB L) (hM : ML L mi) {a : Nat} (ha : IA a 5) (hva : ∀ j : Nat, j < 5 → 0 ≤ mi a j ∧ mi a j ≤ 1000) : Ci l yX8_isBadOne cX8_isBadOne 6 .boolean 1 G n0 [.ref (n0 + 473), .ref (n0 + a)] mi mr (fun r9 mi9 mr9 => mi = mi9 ∧ mr = mr9 ∧ flg r9 (∃ b : Nat, (b : Int) < L.2.2.1 ∧ ∀ j : Nat, j < 5 → F5 (L.2.2.2.2 b) j ≤ mi a j)) := by
  refine Ct_of (by decide +kernel) (by intro v hv; simp at hv; rcases hv with rfl | rfl <;> rfl) (Nat.le_of_ble_eq_true rfl) ?_
  intro p e s m args below meth c9 X hr hname
  show WW _ _ _ _ _ _ _ _ _ _ _ _ _ _ _ _ _ _ _ [some (.ref (n0 + 473)), some (.ref (n0 + a)), none, none, none, none] _
  have hbc := hA.2.2
  have hM3 := hM.2.2.1
  refine w_iconst X dX8_isBadOne_0 ?_
  refine w_ist6_2 X dX8_isBadOne_1 ?_
  refine w_iconst X dX8_isBadOne_2 ?_
  refine w_ist6_3 X dX8_isBadOne_3 ?_
  have outer : ∀ (n : Nat) (b : Nat) (w1 : Int) (x4 x5 : Option Value), ((b : Int) ≤ mi 473 11) → (ELg w1 (fun b => ∀ j : Nat, j < 5 → F5 (L.2.2.2.2 b) j ≤ mi a j) b) → n = 6 - b → WSi p l e s m args below meth c9 1 (fun r9 mi9 mr9 => mi = mi9 ∧ mr = mr9 ∧ flg r9 (∃ b : Nat, (b : Int) < L.2.2.1 ∧ ∀ j : Nat, j < 5 → F5 (L.2.2.2.2 b) j ≤ mi a j)) G n0 6 mi mr 4 [some (.ref (n0 + 473)), some (.ref (n0 + a)), some (.int (jI w1)), some (.int (jI (b : Int))), x4, x5] [] := by
    intro n
    induction n using Nat.strongRecOn with
    | ind n ih_outer =>
      intro b w1 x4 x5 hb he hn
      have hw1 := EL_b he
      refine w_iload_n X dX8_isBadOne_4 rfl ?_
      refine w_aload_n X dX8_isBadOne_5 rfl ?_
      refine w_get X (by decide) (σ_473 G n0 _ _) rfl gW_X8 11 (by decide) gF_X8_85 rfl dX8_isBadOne_6 ?_
      refine w_icmp_ge X 81 dX8_isBadOne_9 (by decide) (fun c9_1 => ?_) (fun c9_1 => ?_)
      ·
        refine w_iload_n X dX8_isBadOne_81 rfl ?_
        refine s_zret X hr dX8_isBadOne_82 (by omega) ?_
        refine ⟨rfl, rfl, ?_⟩
        refine flg_i he ?_
        constructor
        · rintro ⟨j, hj, hq⟩; exact ⟨j, by omega, hq⟩
        · rintro ⟨j, hj, hq⟩; exact ⟨j, by omega, hq⟩
      ·
        refine w_iconst X dX8_isBadOne_12 ?_
        refine w_ist6_4 X dX8_isBadOne_13 ?_
        refine w_iconst X dX8_isBadOne_15 ?_
        refine w_ist6_5 X dX8_isBadOne_16 ?_
        have inner : ∀ (n : Nat) (i : Nat) (w2 : Int), (i ≤ 5) → (FLg w2 (fun j => F5 (L.2.2.2.2 b) j ≤ mi a j) i) → n = 5 - i → WSi p l e s m args below meth c9 1 (fun r9 mi9 mr9 => mi = mi9 ∧ mr = mr9 ∧ flg r9 (∃ b : Nat, (b : Int) < L.2.2.1 ∧ ∀ j : Nat, j < 5 → F5 (L.2.2.2.2 b) j ≤ mi a j)) G n0 6 mi mr 18 [some (.ref (n0 + 473)), some (.ref (n0 + a)), some (.int (jI w1)), some (.int (jI (b : Int))), some (.int (jI w2)), some (.int (jI (i : Int)))] [] := by
          intro n
          induction n using Nat.strongRecOn with
          | ind n ih_inner =>
            intro i w2 hi hf hn
            have hw2 := FL_b hf
            refine w_iload X dX8_isBadOne_18 rfl ?_
            refine w_iconst X dX8_isBadOne_20 ?_
            refine w_icmp_ge X 60 dX8_isBadOne_21 (by decide) (fun c21_2 => ?_) (fun c21_2 => ?_)
            ·
              refine w_iload_n X dX8_isBadOne_60 rfl ?_
              refine w_if_ne X 69 dX8_isBadOne_61 (by decide) (fun c61_3 => ?_) (fun c61_3 => ?_)
              ·
                refine w_iconst X dX8_isBadOne_69 ?_
                refine w_goto X 74 dX8_isBadOne_70 (by decide) ?_
                refine w_ist6_2 X dX8_isBadOne_74 ?_
                refine w_iinc6_3 X dX8_isBadOne_75 ?_
                refine w_goto X 4 dX8_isBadOne_78 (by decide) ?_
                have h5 : i = 5 := by omega
                subst h5
                exact ih_outer _ (by omega) (b + 1) 1 _ _ (by omega) (by first | exact EL_k he (by omega) | exact EL_t (flg_1 hf (by omega))) rfl
              ·
                refine w_iload X dX8_isBadOne_64 rfl ?_
                refine w_if_eq X 73 dX8_isBadOne_66 (by decide) (fun c66_4 => ?_) (fun c66_4 => ?_)
                ·
                  refine w_iconst X dX8_isBadOne_73 ?_
                  refine w_ist6_2 X dX8_isBadOne_74 ?_
                  refine w_iinc6_3 X dX8_isBadOne_75 ?_
                  refine w_goto X 4 dX8_isBadOne_78 (by decide) ?_
                  have h5 : i = 5 := by omega
                  subst h5
                  exact ih_outer _ (by omega) (b + 1) 0 _ _ (by omega) (EL_f he (by omega) (flg_0 hf (by omega))) rfl
                ·
                  refine w_iconst X dX8_isBadOne_69 ?_
                  refine w_goto X 74 dX8_isBadOne_70 (by decide) ?_
                  refine w_ist6_2 X dX8_isBadOne_74 ?_
                  refine w_iinc6_3 X dX8_isBadOne_75 ?_
                  refine w_goto X 4 dX8_isBadOne_78 (by decide) ?_
                  have h5 : i = 5 := by omega
                  subst h5
                  exact ih_outer _ (by omega) (b + 1) 1 _ _ (by omega) (by first | exact EL_k he (by omega) | exact EL_t (flg_1 hf (by omega))) rfl
            ·
              refine w_iload X dX8_isBadOne_24 rfl ?_
              refine w_if_eq X 51 dX8_isBadOne_26 (by decide) (fun c26_5 => ?_) (fun c26_5 => ?_)
              ·
                refine w_iconst X dX8_isBadOne_51 ?_
                refine w_ist6_4 X dX8_isBadOne_52 ?_
                refine w_iinc6_5 X dX8_isBadOne_54 ?_
                refine w_goto X 18 dX8_isBadOne_57 (by decide) ?_
                exact ih_inner _ (by omega) (i + 1) 0 (by omega) (by first | exact FL_k hf (by omega) | exact FL_f (show ¬ F5 (L.2.2.2.2 b) i ≤ mi a i by omega)) rfl
              ·
                have q1 := hva i (by omega)
                have q2 := AB_bad hA (b := b) (by omega) (i := i) (by omega)
                have q3 := hM.2.2.2.2 b (by omega) i (by omega)
                refine w_aload_n X dX8_isBadOne_29 rfl ?_
                refine w_iload X dX8_isBadOne_30 rfl ?_
                refine s_iald X (i) ha.1 (fun _ => ha.2 _ _ _ _) dX8_isBadOne_32 ?_
                refine w_aload_n X dX8_isBadOne_33 rfl ?_
                refine w_get X (by decide) (σ_473 G n0 _ _) rfl gW_X8 12 (by decide) gF_X8_38 rfl dX8_isBadOne_34 ?_
                refine w_iconst X dX8_isBadOne_37 ?_
                refine w_iload_n X dX8_isBadOne_38 rfl ?_
                refine w_imul X dX8_isBadOne_39 ?_
                refine w_iload X dX8_isBadOne_40 rfl ?_
                refine w_iadd X dX8_isBadOne_42 ?_
                refine s_iald X ((5 * b + i)) (by decide) (fun _ => σ_481 G n0 _ _) dX8_isBadOne_43 ?_
                refine w_icmp_lt X 51 dX8_isBadOne_44 (by decide) (fun c44_6 => ?_) (fun c44_6 => ?_)
                ·
                  refine w_iconst X dX8_isBadOne_51 ?_
                  refine w_ist6_4 X dX8_isBadOne_52 ?_
                  refine w_iinc6_5 X dX8_isBadOne_54 ?_
                  refine w_goto X 18 dX8_isBadOne_57 (by decide) ?_
                  exact ih_inner _ (by omega) (i + 1) 0 (by omega) (by first | exact FL_k hf (by omega) | exact FL_f (show ¬ F5 (L.2.2.2.2 b) i ≤ mi a i by omega)) rfl
                ·
                  refine w_iconst X dX8_isBadOne_47 ?_
                  refine w_goto X 52 dX8_isBadOne_48 (by decide) ?_
                  refine w_ist6_4 X dX8_isBadOne_52 ?_
                  refine w_iinc6_5 X dX8_isBadOne_54 ?_
                  refine w_goto X 18 dX8_isBadOne_57 (by decide) ?_
                  exact ih_inner _ (by omega) (i + 1) 1 (by omega) (FL_t hf (by omega) (show F5 (L.2.2.2.2 b) i ≤ mi a i by omega)) rfl
        exact inner _ 0 1 (by omega) FL_0 rfl
  exact outer _ 0 0 none none (by omega) EL_0 rfl
theorem dX8_isStart_0 : decode cX8_isStart 0 = .ok (.iconst 1, 1) := by decide +kernel
theorem dX8_isStart_1 : decode cX8_isStart 1 = .ok (.istore_n 2, 1) := by decide +kernel
theorem dX8_isStart_2 : decode cX8_isStart 2 = .ok (.iconst 0, 1) := by decide +kernel
theorem dX8_isStart_3 : decode cX8_isStart 3 = .ok (.istore_n 3, 1) := by decide +kernel
theorem dX8_isStart_4 : decode cX8_isStart 4 = .ok (.iload_n 3, 1) := by decide +kernel
theorem dX8_isStart_5 : decode cX8_isStart 5 = .ok (.iconst 5, 1) := by decide +kernel
theorem dX8_isStart_6 : decode cX8_isStart 6 = .ok (.if_icmp .ge 37, 3) := by decide +kernel
theorem dX8_isStart_9 : decode cX8_isStart 9 = .ok (.iload_n 2, 1) := by decide +kernel
theorem dX8_isStart_10 : decode cX8_isStart 10 = .ok (.ifCond .eq 25, 3) := by decide +kernel
theorem dX8_isStart_13 : decode cX8_isStart 13 = .ok (.aload_n 1, 1) := by decide +kernel
theorem dX8_isStart_14 : decode cX8_isStart 14 = .ok (.iload_n 3, 1) := by decide +kernel
theorem dX8_isStart_15 : decode cX8_isStart 15 = .ok (.iaload, 1) := by decide +kernel
theorem dX8_isStart_16 : decode cX8_isStart 16 = .ok (.ifCond .eq 15, 3) := by decide +kernel
theorem dX8_isStart_19 : decode cX8_isStart 19 = .ok (.aload_n 0, 1) := by decide +kernel
theorem dX8_isStart_20 : decode cX8_isStart 20 = .ok (.getfield 13, 3) := by decide +kernel
theorem dX8_isStart_23 : decode cX8_isStart 23 = .ok (.iload_n 3, 1) := by decide +kernel
theorem dX8_isStart_24 : decode cX8_isStart 24 = .ok (.ishr, 1) := by decide +kernel
theorem dX8_isStart_25 : decode cX8_isStart 25 = .ok (.iconst 1, 1) := by decide +kernel
theorem dX8_isStart_26 : decode cX8_isStart 26 = .ok (.iand, 1) := by decide +kernel
theorem dX8_isStart_27 : decode cX8_isStart 27 = .ok (.iconst 1, 1) := by decide +kernel
theorem dX8_isStart_28 : decode cX8_isStart 28 = .ok (.if_icmp .ne 7, 3) := by decide +kernel
theorem dX8_isStart_31 : decode cX8_isStart 31 = .ok (.iconst 1, 1) := by decide +kernel
theorem dX8_isStart_32 : decode cX8_isStart 32 = .ok (.goto 4, 3) := by decide +kernel
theorem dX8_isStart_35 : decode cX8_isStart 35 = .ok (.iconst 0, 1) := by decide +kernel
theorem dX8_isStart_36 : decode cX8_isStart 36 = .ok (.istore_n 2, 1) := by decide +kernel
theorem dX8_isStart_37 : decode cX8_isStart 37 = .ok (.iinc 3 1, 3) := by decide +kernel
theorem dX8_isStart_40 : decode cX8_isStart 40 = .ok (.goto (-36), 3) := by decide +kernel
theorem dX8_isStart_43 : decode cX8_isStart 43 = .ok (.iload_n 2, 1) := by decide +kernel
theorem dX8_isStart_44 : decode cX8_isStart 44 = .ok (.ireturn, 1) := by decide +kernel
theorem hl_yX8_isStart : (yX8_isStart.cls ≠ "java/lang/invoke/MethodHandle" ∧ yX8_isStart.cls ≠ "java/lang/invoke/VarHandle") ∧ (parseMethodDescriptor yX8_isStart.desc).map (fun d => d.parameters.length) = some 1 := by decide +kernel
set_option maxRecDepth 20000 in
set_option maxHeartbeats 4000000 in
theorem c_X8_isStart {l : Launch} {G : Gt} {n0 : Nat} {mi : Nat → Nat → Int} {mr : Nat → Nat → Nat} (hset : 1 ≤ mi 473 2 ∧ mi 473 2 < 32) {a : Nat} (ha : IA a 5) (hva : ∀ j : Nat, j < 5 → 0 ≤ mi a j ∧ mi a j ≤ 1000) : Ci l yX8_isStart cX8_isStart 4 .boolean 1 G n0 [.ref (n0 + 473), .ref (n0 + a)] mi mr (fun r9 mi9 mr9 => mi = mi9 ∧ mr = mr9 ∧ flg r9 (∀ j : Nat, j < 5 → mi a j = 0 ∨ btz (mi 473 2) j = 1)) := by
  refine Ct_of (by decide +kernel) (by intro v hv; simp at hv; rcases hv with rfl | rfl <;> rfl) (Nat.le_of_ble_eq_true rfl) ?_
  intro p e s m args below meth c9 X hr hname
  show WW _ _ _ _ _ _ _ _ _ _ _ _ _ _ _ _ _ _ _ [some (.ref (n0 + 473)), some (.ref (n0 + a)), none, none] _
  refine w_iconst X dX8_isStart_0 ?_
  refine w_ist4_2 X dX8_isStart_1 ?_
  refine w_iconst X dX8_isStart_2 ?_
  refine w_ist4_3 X dX8_isStart_3 ?_
  have loop : ∀ (n : Nat) (i : Nat) (w1 : Int), (i ≤ 5) → (FLg w1 (fun j => mi a j = 0 ∨ btz (mi 473 2) j = 1) i) → n = 5 - i → WSi p l e s m args below meth c9 1 (fun r9 mi9 mr9 => mi = mi9 ∧ mr = mr9 ∧ flg r9 (∀ j : Nat, j < 5 → mi a j = 0 ∨ btz (mi 473 2) j = 1)) G n0 4 mi mr 4 [some (.ref (n0 + 473)), some (.ref (n0 + a)), some (.int (jI w1)), some (.int (jI (i : Int)))] [] := by
    intro n
    induction n using Nat.strongRecOn with
    | ind n ih_loop =>
      intro i w1 hi hf hn
      have hw1 := FL_b hf
      refine w_iload_n X dX8_isStart_4 rfl ?_
      refine w_iconst X dX8_isStart_5 ?_
      refine w_icmp_ge X 43 dX8_isStart_6 (by decide) (fun c6_1 => ?_) (fun c6_1 => ?_)
      ·
        refine w_iload_n X dX8_isStart_43 rfl ?_
        refine s_zret X hr dX8_isStart_44 (by omega) ?_
        refine ⟨rfl, rfl, ?_⟩
        rw [show i = 5 by omega] at hf
        exact hf
      ·
        refine w_iload_n X dX8_isStart_9 rfl ?_
        refine w_if_eq X 35 dX8_isStart_10 (by decide) (fun c10_2 => ?_) (fun c10_2 => ?_)
        ·
          refine w_iconst X dX8_isStart_35 ?_
          refine w_ist4_2 X dX8_isStart_36 ?_
          refine w_iinc4_3 X dX8_isStart_37 ?_
          refine w_goto X 4 dX8_isStart_40 (by decide) ?_
          first
          | exact ih_loop _ (by omega) (i + 1) 0 (by omega) (FL_k hf (by omega)) rfl
          | exact ih_loop _ (by omega) (i + 1) 0 (by omega) (FL_f (fun w => by unfold btz at w; rw [Int.toNat_natCast] at *; omega)) rfl
        ·
          have q1 := hva i (by omega)
          refine w_aload_n X dX8_isStart_13 rfl ?_
          refine w_iload_n X dX8_isStart_14 rfl ?_
          refine s_iald X (i) ha.1 (fun _ => ha.2 _ _ _ _) dX8_isStart_15 ?_
          refine w_if_eq X 31 dX8_isStart_16 (by decide) (fun c16_3 => ?_) (fun c16_3 => ?_)
          ·
            refine w_iconst X dX8_isStart_31 ?_
            refine w_goto X 36 dX8_isStart_32 (by decide) ?_
            refine w_ist4_2 X dX8_isStart_36 ?_
            refine w_iinc4_3 X dX8_isStart_37 ?_
            refine w_goto X 4 dX8_isStart_40 (by decide) ?_
            have q8 : mi a i = 0 ∨ btz (mi 473 2) i = 1 := by
              first
              | (left; omega)
              | (right; unfold btz; rw [Int.toNat_natCast] at *; omega)
            exact ih_loop _ (by omega) (i + 1) 1 (by omega) (FL_t hf (by omega) q8) rfl
          ·
            have hd0 := Int.ediv_nonneg (show 0 ≤ mi 473 2 by omega) (show (0:Int) ≤ 2 ^ (i : Int).toNat from Int.le_of_lt (Int.pow_pos (by decide)))
            have hd1 := Int.ediv_le_self (2 ^ (i : Int).toNat) (show 0 ≤ mi 473 2 by omega)
            refine w_aload_n X dX8_isStart_19 rfl ?_
            refine w_get X (by decide) (σ_473 G n0 _ _) rfl gW_X8 2 (by decide) gF_X8_13 rfl dX8_isStart_20 ?_
            refine w_iload_n X dX8_isStart_23 rfl ?_
            refine w_ishr X dX8_isStart_24 ?_
            refine w_iconst X dX8_isStart_25 ?_
            refine w_iand1 X dX8_isStart_26 ?_
            refine w_iconst X dX8_isStart_27 ?_
            refine w_icmp_ne X 35 dX8_isStart_28 (by decide) (fun c28_4 => ?_) (fun c28_4 => ?_)
            ·
              refine w_iconst X dX8_isStart_35 ?_
              refine w_ist4_2 X dX8_isStart_36 ?_
              refine w_iinc4_3 X dX8_isStart_37 ?_
              refine w_goto X 4 dX8_isStart_40 (by decide) ?_
              first
              | exact ih_loop _ (by omega) (i + 1) 0 (by omega) (FL_k hf (by omega)) rfl
              | exact ih_loop _ (by omega) (i + 1) 0 (by omega) (FL_f (fun w => by unfold btz at w; rw [Int.toNat_natCast] at *; omega)) rfl
            ·
              refine w_iconst X dX8_isStart_31 ?_
              refine w_goto X 36 dX8_isStart_32 (by decide) ?_
              refine w_ist4_2 X dX8_isStart_36 ?_
              refine w_iinc4_3 X dX8_isStart_37 ?_
              refine w_goto X 4 dX8_isStart_40 (by decide) ?_
              have q8 : mi a i = 0 ∨ btz (mi 473 2) i = 1 := by
                first
                | (left; omega)
                | (right; unfold btz; rw [Int.toNat_natCast] at *; omega)
              exact ih_loop _ (by omega) (i + 1) 1 (by omega) (FL_t hf (by omega) q8) rfl
  exact loop _ 0 1 (by omega) FL_0 rfl
theorem dX8_codeOf_0 : decode cX8_codeOf 0 = .ok (.iconst 0, 1) := by decide +kernel
theorem dX8_codeOf_1 : decode cX8_codeOf 1 = .ok (.istore_n 1, 1) := by decide +kernel
theorem dX8_codeOf_2 : decode cX8_codeOf 2 = .ok (.iconst 0, 1) := by decide +kernel
theorem dX8_codeOf_3 : decode cX8_codeOf 3 = .ok (.istore_n 2, 1) := by decide +kernel
theorem dX8_codeOf_4 : decode cX8_codeOf 4 = .ok (.iload_n 2, 1) := by decide +kernel
theorem dX8_codeOf_5 : decode cX8_codeOf 5 = .ok (.iconst 5, 1) := by decide +kernel
theorem dX8_codeOf_6 : decode cX8_codeOf 6 = .ok (.if_icmp .ge 18, 3) := by decide +kernel
theorem dX8_codeOf_9 : decode cX8_codeOf 9 = .ok (.bipush 9, 2) := by decide +kernel
theorem dX8_codeOf_11 : decode cX8_codeOf 11 = .ok (.iload_n 1, 1) := by decide +kernel
theorem dX8_codeOf_12 : decode cX8_codeOf 12 = .ok (.imul, 1) := by decide +kernel
theorem dX8_codeOf_13 : decode cX8_codeOf 13 = .ok (.aload_n 0, 1) := by decide +kernel
theorem dX8_codeOf_14 : decode cX8_codeOf 14 = .ok (.iload_n 2, 1) := by decide +kernel
theorem dX8_codeOf_15 : decode cX8_codeOf 15 = .ok (.iaload, 1) := by decide +kernel
theorem dX8_codeOf_16 : decode cX8_codeOf 16 = .ok (.iadd, 1) := by decide +kernel
theorem dX8_codeOf_17 : decode cX8_codeOf 17 = .ok (.istore_n 1, 1) := by decide +kernel
theorem dX8_codeOf_18 : decode cX8_codeOf 18 = .ok (.iinc 2 1, 3) := by decide +kernel
theorem dX8_codeOf_21 : decode cX8_codeOf 21 = .ok (.goto (-17), 3) := by decide +kernel
theorem dX8_codeOf_24 : decode cX8_codeOf 24 = .ok (.iload_n 1, 1) := by decide +kernel
theorem dX8_codeOf_25 : decode cX8_codeOf 25 = .ok (.ireturn, 1) := by decide +kernel
theorem hl_yX8_codeOf : (yX8_codeOf.cls ≠ "java/lang/invoke/MethodHandle" ∧ yX8_codeOf.cls ≠ "java/lang/invoke/VarHandle") ∧ (parseMethodDescriptor yX8_codeOf.desc).map (fun d => d.parameters.length) = some 1 := by decide +kernel
set_option maxRecDepth 20000 in
set_option maxHeartbeats 4000000 in
theorem c_X8_codeOf {l : Launch} {G : Gt} {n0 : Nat} {mi : Nat → Nat → Int} {mr : Nat → Nat → Nat} {a : Nat} (ha : IA a 5) : Ci l yX8_codeOf cX8_codeOf 3 .int 1 G n0 [.ref (n0 + a)] mi mr (fun r9 mi9 mr9 => mi = mi9 ∧ mr = mr9 ∧ r9 = cd9 (mi a)) := by
  refine Ct_of (by decide +kernel) (by intro v hv; simp at hv; rcases hv with rfl <;> rfl) (Nat.le_of_ble_eq_true rfl) ?_
  intro p e s m args below meth c9 X hr hname
  show WW _ _ _ _ _ _ _ _ _ _ _ _ _ _ _ _ _ _ _ [some (.ref (n0 + a)), none, none] _
  refine w_iconst X dX8_codeOf_0 ?_
  refine w_ist3_1 X dX8_codeOf_1 ?_
  refine w_iconst X dX8_codeOf_2 ?_
  refine w_ist3_2 X dX8_codeOf_3 ?_
  refine w_iload_n X dX8_codeOf_4 rfl ?_
  refine w_iconst X dX8_codeOf_5 ?_
  refine w_icmp_ge X 24 dX8_codeOf_6 (by decide) (fun h9 => absurd h9 (by decide)) (fun _ => ?_)
  refine w_bipush X dX8_codeOf_9 rfl ?_
  refine w_iload_n X dX8_codeOf_11 rfl ?_
  refine w_imul X dX8_codeOf_12 ?_
  refine w_aload_n X dX8_codeOf_13 rfl ?_
  refine w_iload_n X dX8_codeOf_14 rfl ?_
  refine s_iald X (0) ha.1 (fun _ => ha.2 _ _ _ _) dX8_codeOf_15 ?_
  refine w_iadd X dX8_codeOf_16 ?_
  refine w_ist3_1 X dX8_codeOf_17 ?_
  refine w_iinc3_2 X dX8_codeOf_18 ?_
  refine w_goto X 4 dX8_codeOf_21 (by decide) ?_
  refine w_iload_n X dX8_codeOf_4 rfl ?_
  refine w_iconst X dX8_codeOf_5 ?_
  refine w_icmp_ge X 24 dX8_codeOf_6 (by decide) (fun h9 => absurd h9 (by decide)) (fun _ => ?_)
  refine w_bipush X dX8_codeOf_9 rfl ?_
  refine w_iload_n X dX8_codeOf_11 rfl ?_
  refine w_imul X dX8_codeOf_12 ?_
  refine w_aload_n X dX8_codeOf_13 rfl ?_
  refine w_iload_n X dX8_codeOf_14 rfl ?_
  refine s_iald X (1) ha.1 (fun _ => ha.2 _ _ _ _) dX8_codeOf_15 ?_
  refine w_iadd X dX8_codeOf_16 ?_
  refine w_ist3_1 X dX8_codeOf_17 ?_
  refine w_iinc3_2 X dX8_codeOf_18 ?_
  refine w_goto X 4 dX8_codeOf_21 (by decide) ?_
  refine w_iload_n X dX8_codeOf_4 rfl ?_
  refine w_iconst X dX8_codeOf_5 ?_
  refine w_icmp_ge X 24 dX8_codeOf_6 (by decide) (fun h9 => absurd h9 (by decide)) (fun _ => ?_)
  refine w_bipush X dX8_codeOf_9 rfl ?_
  refine w_iload_n X dX8_codeOf_11 rfl ?_
  refine w_imul X dX8_codeOf_12 ?_
  refine w_aload_n X dX8_codeOf_13 rfl ?_
  refine w_iload_n X dX8_codeOf_14 rfl ?_
  refine s_iald X (2) ha.1 (fun _ => ha.2 _ _ _ _) dX8_codeOf_15 ?_
  refine w_iadd X dX8_codeOf_16 ?_
  refine w_ist3_1 X dX8_codeOf_17 ?_
  refine w_iinc3_2 X dX8_codeOf_18 ?_
  refine w_goto X 4 dX8_codeOf_21 (by decide) ?_
  refine w_iload_n X dX8_codeOf_4 rfl ?_
  refine w_iconst X dX8_codeOf_5 ?_
  refine w_icmp_ge X 24 dX8_codeOf_6 (by decide) (fun h9 => absurd h9 (by decide)) (fun _ => ?_)
  refine w_bipush X dX8_codeOf_9 rfl ?_
  refine w_iload_n X dX8_codeOf_11 rfl ?_
  refine w_imul X dX8_codeOf_12 ?_
  refine w_aload_n X dX8_codeOf_13 rfl ?_
  refine w_iload_n X dX8_codeOf_14 rfl ?_
  refine s_iald X (3) ha.1 (fun _ => ha.2 _ _ _ _) dX8_codeOf_15 ?_
  refine w_iadd X dX8_codeOf_16 ?_
  refine w_ist3_1 X dX8_codeOf_17 ?_
  refine w_iinc3_2 X dX8_codeOf_18 ?_
  refine w_goto X 4 dX8_codeOf_21 (by decide) ?_
  refine w_iload_n X dX8_codeOf_4 rfl ?_
  refine w_iconst X dX8_codeOf_5 ?_
  refine w_icmp_ge X 24 dX8_codeOf_6 (by decide) (fun h9 => absurd h9 (by decide)) (fun _ => ?_)
  refine w_bipush X dX8_codeOf_9 rfl ?_
  refine w_iload_n X dX8_codeOf_11 rfl ?_
  refine w_imul X dX8_codeOf_12 ?_
  refine w_aload_n X dX8_codeOf_13 rfl ?_
  refine w_iload_n X dX8_codeOf_14 rfl ?_
  refine s_iald X (4) ha.1 (fun _ => ha.2 _ _ _ _) dX8_codeOf_15 ?_
  refine w_iadd X dX8_codeOf_16 ?_
  refine w_ist3_1 X dX8_codeOf_17 ?_
  refine w_iinc3_2 X dX8_codeOf_18 ?_
  refine w_goto X 4 dX8_codeOf_21 (by decide) ?_
  refine w_iload_n X dX8_codeOf_4 rfl ?_
  refine w_iconst X dX8_codeOf_5 ?_
  refine w_icmp_ge X 24 dX8_codeOf_6 (by decide) (fun _ => ?_) (fun h9 => absurd (by decide) h9)
  refine w_iload_n X dX8_codeOf_24 rfl ?_
  refine s_iret X hr dX8_codeOf_25 ?_
  exact ⟨rfl, rfl, by unfold cd9; omega⟩
theorem dX8_crowdOf_0 : decode cX8_crowdOf 0 = .ok (.iload_n 1, 1) := by decide +kernel
theorem dX8_crowdOf_1 : decode cX8_crowdOf 1 = .ok (.istore_n 3, 1) := by decide +kernel
theorem dX8_crowdOf_2 : decode cX8_crowdOf 2 = .ok (.iconst 4, 1) := by decide +kernel
theorem dX8_crowdOf_3 : decode cX8_crowdOf 3 = .ok (.istore 4, 2) := by decide +kernel
theorem dX8_crowdOf_5 : decode cX8_crowdOf 5 = .ok (.iload 4, 2) := by decide +kernel
theorem dX8_crowdOf_7 : decode cX8_crowdOf 7 = .ok (.ifCond .lt 22, 3) := by decide +kernel
theorem dX8_crowdOf_10 : decode cX8_crowdOf 10 = .ok (.aload_n 2, 1) := by decide +kernel
theorem dX8_crowdOf_11 : decode cX8_crowdOf 11 = .ok (.iload 4, 2) := by decide +kernel
theorem dX8_crowdOf_13 : decode cX8_crowdOf 13 = .ok (.iload_n 3, 1) := by decide +kernel
theorem dX8_crowdOf_14 : decode cX8_crowdOf 14 = .ok (.bipush 9, 2) := by decide +kernel
theorem dX8_crowdOf_16 : decode cX8_crowdOf 16 = .ok (.irem, 1) := by decide +kernel
theorem dX8_crowdOf_17 : decode cX8_crowdOf 17 = .ok (.iastore, 1) := by decide +kernel
theorem dX8_crowdOf_18 : decode cX8_crowdOf 18 = .ok (.iload_n 3, 1) := by decide +kernel
theorem dX8_crowdOf_19 : decode cX8_crowdOf 19 = .ok (.bipush 9, 2) := by decide +kernel
theorem dX8_crowdOf_21 : decode cX8_crowdOf 21 = .ok (.idiv, 1) := by decide +kernel
theorem dX8_crowdOf_22 : decode cX8_crowdOf 22 = .ok (.istore_n 3, 1) := by decide +kernel
theorem dX8_crowdOf_23 : decode cX8_crowdOf 23 = .ok (.iinc 4 (-1), 3) := by decide +kernel
theorem dX8_crowdOf_26 : decode cX8_crowdOf 26 = .ok (.goto (-21), 3) := by decide +kernel
theorem dX8_crowdOf_29 : decode cX8_crowdOf 29 = .ok (.return_, 1) := by decide +kernel
theorem hl_yX8_crowdOf : (yX8_crowdOf.cls ≠ "java/lang/invoke/MethodHandle" ∧ yX8_crowdOf.cls ≠ "java/lang/invoke/VarHandle") ∧ (parseMethodDescriptor yX8_crowdOf.desc).map (fun d => d.parameters.length) = some 2 := by decide +kernel
set_option maxRecDepth 20000 in
set_option maxHeartbeats 4000000 in
theorem c_X8_crowdOf {l : Launch} {G : Gt} {n0 : Nat} {mi : Nat → Nat → Int} {mr : Nat → Nat → Nat} {a : Nat} (ha : IA a 5) {z : Int} (hz : 0 ≤ z ∧ z < 59049) : Cv l yX8_crowdOf cX8_crowdOf 5 1 G n0 [.ref (n0 + 473), .int (jI z), .ref (n0 + a)] mi mr (fun mi9 mr9 => (∀ j : Nat, j < 5 → mi9 a j = dg9 z j) ∧ (∀ b, b ≠ a → mi9 b = mi b) ∧ mr = mr9) := by
  refine Ct_of (by decide +kernel) (by intro v hv; simp at hv; rcases hv with rfl | rfl | rfl <;> rfl) (Nat.le_of_ble_eq_true rfl) ?_
  intro p e s m args below meth c9 X hr hname
  show WW _ _ _ _ _ _ _ _ _ _ _ _ _ _ _ _ _ _ _ [some (.ref (n0 + 473)), some (.int (jI z)), some (.ref (n0 + a)), none, none] _
  refine w_iload_n X dX8_crowdOf_0 rfl ?_
  refine w_ist5_3 X dX8_crowdOf_1 ?_
  refine w_iconst X dX8_crowdOf_2 ?_
  refine w_ist5_4 X dX8_crowdOf_3 ?_
  refine w_iload X dX8_crowdOf_5 rfl ?_
  refine w_if_lt X 29 dX8_crowdOf_7 (by decide) (fun h9 => absurd h9 (by decide)) (fun _ => ?_)
  refine w_aload_n X dX8_crowdOf_10 rfl ?_
  refine w_iload X dX8_crowdOf_11 rfl ?_
  refine w_iload_n X dX8_crowdOf_13 rfl ?_
  refine w_bipush X dX8_crowdOf_14 rfl ?_
  refine w_irem X dX8_crowdOf_16 ?_
  refine s_iast X (4) ha.1 (fun _ => ha.2 _ _ _ _) dX8_crowdOf_17 ?_
  refine w_iload_n X dX8_crowdOf_18 rfl ?_
  refine w_bipush X dX8_crowdOf_19 rfl ?_
  refine w_idiv X dX8_crowdOf_21 ?_
  refine w_ist5_3 X dX8_crowdOf_22 ?_
  refine w_iinc5_4 X dX8_crowdOf_23 ?_
  refine w_goto X 5 dX8_crowdOf_26 (by decide) ?_
  refine w_iload X dX8_crowdOf_5 rfl ?_
  refine w_if_lt X 29 dX8_crowdOf_7 (by decide) (fun h9 => absurd h9 (by decide)) (fun _ => ?_)
  refine w_aload_n X dX8_crowdOf_10 rfl ?_
  refine w_iload X dX8_crowdOf_11 rfl ?_
  refine w_iload_n X dX8_crowdOf_13 rfl ?_
  refine w_bipush X dX8_crowdOf_14 rfl ?_
  refine w_irem X dX8_crowdOf_16 ?_
  refine s_iast X (3) ha.1 (fun _ => ha.2 _ _ _ _) dX8_crowdOf_17 ?_
  refine w_iload_n X dX8_crowdOf_18 rfl ?_
  refine w_bipush X dX8_crowdOf_19 rfl ?_
  refine w_idiv X dX8_crowdOf_21 ?_
  refine w_ist5_3 X dX8_crowdOf_22 ?_
  refine w_iinc5_4 X dX8_crowdOf_23 ?_
  refine w_goto X 5 dX8_crowdOf_26 (by decide) ?_
  refine w_iload X dX8_crowdOf_5 rfl ?_
  refine w_if_lt X 29 dX8_crowdOf_7 (by decide) (fun h9 => absurd h9 (by decide)) (fun _ => ?_)
  refine w_aload_n X dX8_crowdOf_10 rfl ?_
  refine w_iload X dX8_crowdOf_11 rfl ?_
  refine w_iload_n X dX8_crowdOf_13 rfl ?_
  refine w_bipush X dX8_crowdOf_14 rfl ?_
  refine w_irem X dX8_crowdOf_16 ?_
  refine s_iast X (2) ha.1 (fun _ => ha.2 _ _ _ _) dX8_crowdOf_17 ?_
  refine w_iload_n X dX8_crowdOf_18 rfl ?_
  refine w_bipush X dX8_crowdOf_19 rfl ?_
  refine w_idiv X dX8_crowdOf_21 ?_
  refine w_ist5_3 X dX8_crowdOf_22 ?_
  refine w_iinc5_4 X dX8_crowdOf_23 ?_
  refine w_goto X 5 dX8_crowdOf_26 (by decide) ?_
  refine w_iload X dX8_crowdOf_5 rfl ?_
  refine w_if_lt X 29 dX8_crowdOf_7 (by decide) (fun h9 => absurd h9 (by decide)) (fun _ => ?_)
  refine w_aload_n X dX8_crowdOf_10 rfl ?_
  refine w_iload X dX8_crowdOf_11 rfl ?_
  refine w_iload_n X dX8_crowdOf_13 rfl ?_
  refine w_bipush X dX8_crowdOf_14 rfl ?_
  refine w_irem X dX8_crowdOf_16 ?_
  refine s_iast X (1) ha.1 (fun _ => ha.2 _ _ _ _) dX8_crowdOf_17 ?_
  refine w_iload_n X dX8_crowdOf_18 rfl ?_
  refine w_bipush X dX8_crowdOf_19 rfl ?_
  refine w_idiv X dX8_crowdOf_21 ?_
  refine w_ist5_3 X dX8_crowdOf_22 ?_
  refine w_iinc5_4 X dX8_crowdOf_23 ?_
  refine w_goto X 5 dX8_crowdOf_26 (by decide) ?_
  refine w_iload X dX8_crowdOf_5 rfl ?_
  refine w_if_lt X 29 dX8_crowdOf_7 (by decide) (fun h9 => absurd h9 (by decide)) (fun _ => ?_)
  refine w_aload_n X dX8_crowdOf_10 rfl ?_
  refine w_iload X dX8_crowdOf_11 rfl ?_
  refine w_iload_n X dX8_crowdOf_13 rfl ?_
  refine w_bipush X dX8_crowdOf_14 rfl ?_
  refine w_irem X dX8_crowdOf_16 ?_
  refine s_iast X (0) ha.1 (fun _ => ha.2 _ _ _ _) dX8_crowdOf_17 ?_
  refine w_iload_n X dX8_crowdOf_18 rfl ?_
  refine w_bipush X dX8_crowdOf_19 rfl ?_
  refine w_idiv X dX8_crowdOf_21 ?_
  refine w_ist5_3 X dX8_crowdOf_22 ?_
  refine w_iinc5_4 X dX8_crowdOf_23 ?_
  refine w_goto X 5 dX8_crowdOf_26 (by decide) ?_
  refine w_iload X dX8_crowdOf_5 rfl ?_
  refine w_if_lt X 29 dX8_crowdOf_7 (by decide) (fun _ => ?_) (fun h9 => absurd (by decide) h9)
  refine s_vret X hr dX8_crowdOf_29 ?_
  refine ⟨fun j hj => ?_, fun b hb => ?_, rfl⟩
  · rcases (show j = 0 ∨ j = 1 ∨ j = 2 ∨ j = 3 ∨ j = 4 by omega) with rfl | rfl | rfl | rfl | rfl
    · rw [up2_s]; show _ = z / 6561 % 9; omega
    · rw [up2_j _ _ _ _ (by decide), up2_s]; show _ = z / 729 % 9; omega
    · rw [up2_j _ _ _ _ (by decide), up2_j _ _ _ _ (by decide), up2_s]; show _ = z / 81 % 9; omega
    · rw [up2_j _ _ _ _ (by decide), up2_j _ _ _ _ (by decide), up2_j _ _ _ _ (by decide), up2_s]; show _ = z / 9 % 9; omega
    · rw [up2_j _ _ _ _ (by decide), up2_j _ _ _ _ (by decide), up2_j _ _ _ _ (by decide), up2_j _ _ _ _ (by decide), up2_s]; show _ = z / 1 % 9; omega
  · rw [up2_k _ _ _ _ hb, up2_k _ _ _ _ hb, up2_k _ _ _ _ hb, up2_k _ _ _ _ hb, up2_k _ _ _ _ hb]
