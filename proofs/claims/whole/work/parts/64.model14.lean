def NSv (mi : Nat → Nat → Int) : Int := if mi 473 14 = 0 then -3 else if mi 473 15 = 0 then 0 else -5
theorem SO_n {L : Lws} {o : Int} {mi : Nat → Nat → Int} (h : SO L o mi) : (o < 0 ∧ NSv mi = o ∨ 0 ≤ o ∧ NSv mi = 0 ∧ SB L o mi) := by
  unfold NSv
  rcases h with ⟨a, b⟩ | ⟨a, b, c⟩ | ⟨a, b, c, d⟩
  · rw [if_pos b]; omega
  · rw [if_neg (by omega), if_neg (by omega)]; omega
  · rw [if_neg (by omega), if_pos c]; exact Or.inr ⟨a, rfl, d⟩
theorem SO_nn {L : Lws} {o : Int} {mi : Nat → Nat → Int} (h : SO L o mi) : (o < 0 ∧ NSv mi = o ∨ 0 ≤ o ∧ NSv mi = 0) := by
  rcases SO_n h with q | ⟨q, q2, -⟩
  · exact Or.inl q
  · exact Or.inr ⟨q, q2⟩
theorem SO_s {L : Lws} {o : Int} {mi : Nat → Nat → Int} (h : SO L o mi) (h0 : 0 ≤ o) : SB L o mi := by
  rcases SO_n h with q | ⟨-, -, q⟩
  · omega
  · exact q
theorem SB_rb {L : Lws} {o : Int} {mi : Nat → Nat → Int} (hL : LO L) (h : SB L o mi) {i : Nat} (hi : (i : Int) < mi 473 16) : RB mi i := by
  have h1 := (h.2.2.1 (BR mi i)).mpr ⟨i, hi, rfl⟩
  have h2 := (Dk_z hL _ h1.1).2.1
  have h3 := h.2.2.2 i hi
  have hc := h.1
  refine ⟨by omega, fun j hj => ?_⟩
  have e : F5 (BR mi i) j = mi 483 (5 * i + j) := F5_T5 _ hj
  have h4 := (sum5_n h2).2 j hj
  have h5 := h2 j hj
  have h6 : sum5 (F5 (BR mi i)) = sm (BR mi i) := rfl
  rw [e] at h4 h5
  omega
theorem SB_d {L : Lws} {o : Int} {mi : Nat → Nat → Int} (hL : LO L) (h : SB L o mi) {v : V5} (hz : zf L.1 (F5 v)) : (∃ b : Nat, (b : Int) < mi 473 16 ∧ ∀ j : Nat, j < 5 → mi 483 (5 * b + j) ≤ F5 v j) ↔ Dk L o.toNat v := by
  have hg : ∀ b : Nat, (∀ j : Nat, j < 5 → mi 483 (5 * b + j) ≤ F5 v j) ↔ gv v (BR mi b) := fun b => by
    rw [gv_i]
    exact ⟨fun q j hj => by show F5 (T5 _) j ≤ _; rw [F5_T5 _ hj]; exact q j hj, fun q j hj => by have w := q j hj; unfold BR at w; rw [F5_T5 _ hj] at w; exact w⟩
  constructor
  · rintro ⟨b, hb, q⟩
    exact Dk_up hL _ ((h.2.2.1 _).mpr ⟨b, hb, rfl⟩).1 ((hg b).mp q) hz
  · intro q
    obtain ⟨u, u1, u2⟩ := Dk_ex hL q
    obtain ⟨b, hb, e⟩ := (h.2.2.1 u).mp u1
    exact ⟨b, hb, (hg b).mpr (by rw [e]; exact u2)⟩
/-- the least ones in their order -/
def MnL (D : V5 → Prop) (l : List V5) : Prop := l.Pairwise bv ∧ ∀ v, Mn D v ↔ v ∈ l
theorem pw_u : ∀ {l l' : List V5}, l.Pairwise bv → l'.Pairwise bv → (∀ v, v ∈ l ↔ v ∈ l') → l = l'
  | [], [], _, _, _ => rfl
  | [], b :: _, _, _, h => absurd ((h b).mpr List.mem_cons_self) (List.not_mem_nil)
  | a :: _, [], _, _, h => absurd ((h a).mp List.mem_cons_self) (List.not_mem_nil)
  | a :: l, b :: l', h1, h2, h => by
    obtain ⟨a1, a2⟩ := List.pairwise_cons.mp h1
    obtain ⟨b1, b2⟩ := List.pairwise_cons.mp h2
    have e : a = b := by
      rcases List.mem_cons.mp ((h a).mp List.mem_cons_self) with q | q
      · exact q
      · rcases List.mem_cons.mp ((h b).mpr List.mem_cons_self) with q2 | q2
        · exact q2.symm
        · exact absurd (bv_t (b1 a q) (a1 b q2)) (bv_i _)
    subst e
    rw [pw_u a2 b2 (fun v => ⟨fun q => by
      rcases List.mem_cons.mp ((h v).mp (List.mem_cons_of_mem _ q)) with w | w
      · subst w; exact absurd (a1 _ q) (bv_i _)
      · exact w, fun q => by
      rcases List.mem_cons.mp ((h v).mpr (List.mem_cons_of_mem _ q)) with w | w
      · subst w; exact absurd (b1 _ q) (bv_i _)
      · exact w⟩)]
theorem MnL_u {D : V5 → Prop} {l l' : List V5} (h : MnL D l) (h' : MnL D l') : l = l' := pw_u h.1 h'.1 (fun v => (h.2 v).symm.trans (h'.2 v))
theorem SB_l {L : Lws} {o : Int} {mi : Nat → Nat → Int} (h : SB L o mi) : MnL (Dk L o.toNat) ((List.range (mi 473 16).toNat).map (BR mi)) := by
  have hc := h.1
  refine ⟨?_, fun v => ?_⟩
  · rw [List.pairwise_map]
    refine List.Pairwise.imp_of_mem ?_ List.pairwise_lt_range
    intro a b ha hb hab
    exact h.2.1 a b hab (by have := List.mem_range.mp hb; omega)
  · rw [h.2.2.1 v, List.mem_map]
    constructor
    · rintro ⟨i, hi, e⟩; exact ⟨i, List.mem_range.mpr (by omega), e⟩
    · rintro ⟨i, hi, e⟩; exact ⟨i, by have := List.mem_range.mp hi; omega, e⟩
def ins5 (set : Int) (v : V5) : Prop := ∀ j : Nat, j < 5 → F5 v j = 0 ∨ btz set j = 1
def LSP (L : Lws) (set o r : Int) : Prop := (r = -9 ∧ ∀ v, Mn (Dk L o.toNat) v → ¬ ins5 set v) ∨ (∃ v, Mn (Dk L o.toNat) v ∧ ins5 set v ∧ r = sm v ∧ ∀ w, Mn (Dk L o.toNat) w → ins5 set w → sm v ≤ sm w)
theorem LSP_u {L : Lws} {set o r r' : Int} (h : LSP L set o r) (h' : LSP L set o r') : r = r' := by
  rcases h with ⟨a, b⟩ | ⟨v, v1, v2, v3, v4⟩
  · rcases h' with ⟨a', b'⟩ | ⟨v', v1', v2', v3', v4'⟩
    · omega
    · exact absurd v2' (b v' v1')
  · rcases h' with ⟨a', b'⟩ | ⟨v', v1', v2', v3', v4'⟩
    · exact absurd v2 (b' v v1)
    · have := v4 v' v1' v2'; have := v4' v v1 v2; omega
def LSn (mi : Nat → Nat → Int) (set : Int) (n : Nat) (r : Int) : Prop := (r = -9 ∧ ∀ i : Nat, i < n → ¬ ins5 set (BR mi i)) ∨ (0 ≤ r ∧ ∃ i : Nat, i < n ∧ ins5 set (BR mi i) ∧ r = sm (BR mi i) ∧ ∀ j : Nat, j < n → ins5 set (BR mi j) → r ≤ sm (BR mi j))
theorem LSn_b {mi : Nat → Nat → Int} {set : Int} {n : Nat} {r : Int} (h : LSn mi set n r) : r = -9 ∨ 0 ≤ r := by rcases h with ⟨q, -⟩ | ⟨q, -⟩ <;> omega
theorem LSn_n {mi : Nat → Nat → Int} {set : Int} {n : Nat} {r : Int} (h : LSn mi set n r) (hi : ¬ ins5 set (BR mi n)) : LSn mi set (n + 1) r := by
  rcases h with ⟨a, b⟩ | ⟨a, i, i1, i2, i3, i4⟩
  · exact Or.inl ⟨a, fun j hj => by rcases (show j < n ∨ j = n by omega) with q | q; exact b j q; subst q; exact hi⟩
  · exact Or.inr ⟨a, i, by omega, i2, i3, fun j hj hj2 => by rcases (show j < n ∨ j = n by omega) with q | q; exact i4 j q hj2; subst q; exact absurd hj2 hi⟩
theorem LSn_k {mi : Nat → Nat → Int} {set : Int} {n : Nat} {r : Int} (h : LSn mi set n r) (h9 : ¬ r = -9) (hr : r ≤ sm (BR mi n)) : LSn mi set (n + 1) r := by
  rcases h with ⟨a, b⟩ | ⟨a, i, i1, i2, i3, i4⟩
  · exact absurd a h9
  · exact Or.inr ⟨a, i, by omega, i2, i3, fun j hj hj2 => by rcases (show j < n ∨ j = n by omega) with q | q; exact i4 j q hj2; subst q; exact hr⟩
theorem LSn_t {mi : Nat → Nat → Int} {set : Int} {n : Nat} {r s : Int} (h : LSn mi set n r) (hi : ins5 set (BR mi n)) (hs : s = sm (BR mi n)) (h0 : 0 ≤ s) (hr : r = -9 ∨ s < r) : LSn mi set (n + 1) s := by
  refine Or.inr ⟨h0, n, by omega, hi, hs, fun j hj hj2 => ?_⟩
  rcases (show j < n ∨ j = n by omega) with q | q
  · rcases h with ⟨a, b⟩ | ⟨a, i, i1, i2, i3, i4⟩
    · exact absurd hj2 (b j q)
    · have := i4 j q hj2; omega
  · subst q; omega
theorem LSn_P {L : Lws} {set o r : Int} {mi : Nat → Nat → Int} (h : SB L o mi) (hn : LSn mi set (mi 473 16).toNat r) : LSP L set o r := by
  have hc := h.1
  rcases hn with ⟨a, b⟩ | ⟨a, i, i1, i2, i3, i4⟩
  · exact Or.inl ⟨a, fun v hv => by obtain ⟨j, hj, rfl⟩ := (h.2.2.1 v).mp hv; exact b j (by omega)⟩
  · exact Or.inr ⟨BR mi i, (h.2.2.1 _).mpr ⟨i, by omega, rfl⟩, i2, i3, fun w hw hw2 => by obtain ⟨j, hj, rfl⟩ := (h.2.2.1 w).mp hw; have := i4 j (by omega) hw2; omega⟩
theorem dX8_isDoomed_0 : decode cX8_isDoomed 0 = .ok (.iconst 0, 1) := by decide +kernel
theorem dX8_isDoomed_1 : decode cX8_isDoomed 1 = .ok (.istore_n 2, 1) := by decide +kernel
theorem dX8_isDoomed_2 : decode cX8_isDoomed 2 = .ok (.iconst 0, 1) := by decide +kernel
theorem dX8_isDoomed_3 : decode cX8_isDoomed 3 = .ok (.istore_n 3, 1) := by decide +kernel
theorem dX8_isDoomed_4 : decode cX8_isDoomed 4 = .ok (.iload_n 3, 1) := by decide +kernel
theorem dX8_isDoomed_5 : decode cX8_isDoomed 5 = .ok (.aload_n 0, 1) := by decide +kernel
theorem dX8_isDoomed_6 : decode cX8_isDoomed 6 = .ok (.getfield 128, 3) := by decide +kernel
theorem dX8_isDoomed_9 : decode cX8_isDoomed 9 = .ok (.if_icmp .ge 31, 3) := by decide +kernel
theorem dX8_isDoomed_12 : decode cX8_isDoomed 12 = .ok (.iload_n 2, 1) := by decide +kernel
theorem dX8_isDoomed_13 : decode cX8_isDoomed 13 = .ok (.ifCond .ne 15, 3) := by decide +kernel
theorem dX8_isDoomed_16 : decode cX8_isDoomed 16 = .ok (.aload_n 1, 1) := by decide +kernel
theorem dX8_isDoomed_17 : decode cX8_isDoomed 17 = .ok (.aload_n 0, 1) := by decide +kernel
theorem dX8_isDoomed_18 : decode cX8_isDoomed 18 = .ok (.getfield 44, 3) := by decide +kernel
theorem dX8_isDoomed_21 : decode cX8_isDoomed 21 = .ok (.iload_n 3, 1) := by decide +kernel
theorem dX8_isDoomed_22 : decode cX8_isDoomed 22 = .ok (.invokestatic 131, 3) := by decide +kernel
theorem dX8_isDoomed_25 : decode cX8_isDoomed 25 = .ok (.ifCond .eq 7, 3) := by decide +kernel
theorem dX8_isDoomed_28 : decode cX8_isDoomed 28 = .ok (.iconst 1, 1) := by decide +kernel
theorem dX8_isDoomed_29 : decode cX8_isDoomed 29 = .ok (.goto 4, 3) := by decide +kernel
theorem dX8_isDoomed_32 : decode cX8_isDoomed 32 = .ok (.iconst 0, 1) := by decide +kernel
theorem dX8_isDoomed_33 : decode cX8_isDoomed 33 = .ok (.istore_n 2, 1) := by decide +kernel
theorem dX8_isDoomed_34 : decode cX8_isDoomed 34 = .ok (.iinc 3 1, 3) := by decide +kernel
theorem dX8_isDoomed_37 : decode cX8_isDoomed 37 = .ok (.goto (-33), 3) := by decide +kernel
theorem dX8_isDoomed_40 : decode cX8_isDoomed 40 = .ok (.iload_n 2, 1) := by decide +kernel
theorem dX8_isDoomed_41 : decode cX8_isDoomed 41 = .ok (.ireturn, 1) := by decide +kernel
theorem hl_yX8_isDoomed : (yX8_isDoomed.cls ≠ "java/lang/invoke/MethodHandle" ∧ yX8_isDoomed.cls ≠ "java/lang/invoke/VarHandle") ∧ (parseMethodDescriptor yX8_isDoomed.desc).map (fun d => d.parameters.length) = some 1 := by decide +kernel
set_option maxRecDepth 20000 in
set_option maxHeartbeats 4000000 in
theorem c_X8_isDoomed {l : Launch} {G : Gt} {n0 : Nat} {mi : Nat → Nat → Int} {mr : Nat → Nat → Nat} (hn16 : 0 ≤ mi 473 16 ∧ mi 473 16 ≤ 100) (hrb : ∀ i : Nat, (i : Int) < mi 473 16 → RB mi i) {a : Nat} (ha : IA a 5) (hva : ∀ j : Nat, j < 5 → 0 ≤ mi a j ∧ mi a j ≤ 1000) : Ci l yX8_isDoomed cX8_isDoomed 4 .boolean 2 G n0 [.ref (n0 + 473), .ref (n0 + a)] mi mr (fun r9 mi9 mr9 => mi = mi9 ∧ mr = mr9 ∧ flg r9 (∃ b : Nat, (b : Int) < mi 473 16 ∧ ∀ j : Nat, j < 5 → mi 483 (5 * b + j) ≤ mi a j)) := by
  refine Ct_of (by decide +kernel) (by intro v hv; simp at hv; rcases hv with rfl | rfl <;> rfl) (Nat.le_of_ble_eq_true rfl) ?_
  intro p e s m args below meth c9 X hr hname
  show WW _ _ _ _ _ _ _ _ _ _ _ _ _ _ _ _ _ _ _ [some (.ref (n0 + 473)), some (.ref (n0 + a)), none, none] _
  refine w_iconst X dX8_isDoomed_0 ?_
  refine w_ist4_2 X dX8_isDoomed_1 ?_
  refine w_iconst X dX8_isDoomed_2 ?_
  refine w_ist4_3 X dX8_isDoomed_3 ?_
  have loop : ∀ (n : Nat) (b : Nat) (w1 : Int), ((b : Int) ≤ mi 473 16) → (ELg w1 (fun b => ∀ j : Nat, j < 5 → mi 483 (5 * b + j) ≤ mi a j) b) → n = 101 - b → WSi p l e s m args below meth c9 2 (fun r9 mi9 mr9 => mi = mi9 ∧ mr = mr9 ∧ flg r9 (∃ b : Nat, (b : Int) < mi 473 16 ∧ ∀ j : Nat, j < 5 → mi 483 (5 * b + j) ≤ mi a j)) G n0 4 mi mr 4 [some (.ref (n0 + 473)), some (.ref (n0 + a)), some (.int (jI w1)), some (.int (jI (b : Int)))] [] := by
    intro n
    induction n using Nat.strongRecOn with
    | ind n ih_loop =>
      intro b w1 hb hf hn
      have hw1 := EL_b hf
      refine w_iload_n X dX8_isDoomed_4 rfl ?_
      refine w_aload_n X dX8_isDoomed_5 rfl ?_
      refine w_get X (by decide) (σ_473 G n0 _ _) rfl gW_X8 16 (by decide) gF_X8_128 rfl dX8_isDoomed_6 ?_
      refine w_icmp_ge X 40 dX8_isDoomed_9 (by decide) (fun c9_1 => ?_) (fun c9_1 => ?_)
      ·
        refine w_iload_n X dX8_isDoomed_40 rfl ?_
        refine s_zret X hr dX8_isDoomed_41 (by omega) ?_
        refine ⟨rfl, rfl, flg_i hf ?_⟩
        constructor
        · rintro ⟨j, hj, q⟩; exact ⟨j, by omega, q⟩
        · rintro ⟨j, hj, q⟩; exact ⟨j, by omega, q⟩
      ·
        refine w_iload_n X dX8_isDoomed_12 rfl ?_
        refine w_if_ne X 28 dX8_isDoomed_13 (by decide) (fun c13_2 => ?_) (fun c13_2 => ?_)
        ·
          refine w_iconst X dX8_isDoomed_28 ?_
          refine w_goto X 33 dX8_isDoomed_29 (by decide) ?_
          refine w_ist4_2 X dX8_isDoomed_33 ?_
          refine w_iinc4_3 X dX8_isDoomed_34 ?_
          refine w_goto X 4 dX8_isDoomed_37 (by decide) ?_
          exact ih_loop _ (by omega) (b + 1) 1 (by omega) (by first | exact EL_k hf (by omega) | exact EL_t (flg_1 h1 (by omega))) rfl
        ·
          refine w_aload_n X dX8_isDoomed_16 rfl ?_
          refine w_aload_n X dX8_isDoomed_17 rfl ?_
          refine w_get X (by decide) (σ_473 G n0 _ _) rfl gW_X8 17 (by decide) gF_X8_44 rfl dX8_isDoomed_18 ?_
          refine w_iload_n X dX8_isDoomed_21 rfl ?_
          refine s_callSi X _ (c_X8_isOver (l := l) (G := G) (n0 := n0) ha IA_483 (by omega) (fun j hj => by have := hva j hj; exact ⟨by omega, by omega⟩) (fun j hj => by have := (hrb b (by omega)).2 j hj; exact ⟨by omega, by omega⟩)) gM_X8_131 gT_yX8_isOver gN_X8 gC_yX8_isOver dX8_isDoomed_22 hl_yX8_isOver ⟨Nat.le_of_ble_eq_true rfl, Nat.le_of_ble_eq_true rfl⟩ (Nat.le_of_ble_eq_true rfl) rfl (fun r1 mi1 mr1 h1 => ?_)
          obtain ⟨rfl, rfl, h1⟩ := h1
          have bo1 := flg_b h1
          refine w_if_eq X 32 dX8_isDoomed_25 (by decide) (fun c25_3 => ?_) (fun c25_3 => ?_)
          ·
            refine w_iconst X dX8_isDoomed_32 ?_
            refine w_ist4_2 X dX8_isDoomed_33 ?_
            refine w_iinc4_3 X dX8_isDoomed_34 ?_
            refine w_goto X 4 dX8_isDoomed_37 (by decide) ?_
            exact ih_loop _ (by omega) (b + 1) 0 (by omega) (EL_f hf (by omega) (flg_0 h1 (by omega))) rfl
          ·
            refine w_iconst X dX8_isDoomed_28 ?_
            refine w_goto X 33 dX8_isDoomed_29 (by decide) ?_
            refine w_ist4_2 X dX8_isDoomed_33 ?_
            refine w_iinc4_3 X dX8_isDoomed_34 ?_
            refine w_goto X 4 dX8_isDoomed_37 (by decide) ?_
            exact ih_loop _ (by omega) (b + 1) 1 (by omega) (by first | exact EL_k hf (by omega) | exact EL_t (flg_1 h1 (by omega))) rfl
  exact loop _ 0 0 (by omega) EL_0 rfl
theorem dX8_noSearch_0 : decode cX8_noSearch 0 = .ok (.aload_n 0, 1) := by decide +kernel
theorem dX8_noSearch_1 : decode cX8_noSearch 1 = .ok (.getfield 88, 3) := by decide +kernel
theorem dX8_noSearch_4 : decode cX8_noSearch 4 = .ok (.ifCond .ne 8, 3) := by decide +kernel
theorem dX8_noSearch_7 : decode cX8_noSearch 7 = .ok (.bipush (-3), 2) := by decide +kernel
theorem dX8_noSearch_9 : decode cX8_noSearch 9 = .ok (.goto 16, 3) := by decide +kernel
theorem dX8_noSearch_12 : decode cX8_noSearch 12 = .ok (.aload_n 0, 1) := by decide +kernel
theorem dX8_noSearch_13 : decode cX8_noSearch 13 = .ok (.getfield 135, 3) := by decide +kernel
theorem dX8_noSearch_16 : decode cX8_noSearch 16 = .ok (.ifCond .eq 8, 3) := by decide +kernel
theorem dX8_noSearch_19 : decode cX8_noSearch 19 = .ok (.bipush (-5), 2) := by decide +kernel
theorem dX8_noSearch_21 : decode cX8_noSearch 21 = .ok (.goto 4, 3) := by decide +kernel
theorem dX8_noSearch_24 : decode cX8_noSearch 24 = .ok (.iconst 0, 1) := by decide +kernel
theorem dX8_noSearch_25 : decode cX8_noSearch 25 = .ok (.ireturn, 1) := by decide +kernel
theorem hl_yX8_noSearch : (yX8_noSearch.cls ≠ "java/lang/invoke/MethodHandle" ∧ yX8_noSearch.cls ≠ "java/lang/invoke/VarHandle") ∧ (parseMethodDescriptor yX8_noSearch.desc).map (fun d => d.parameters.length) = some 0 := by decide +kernel
set_option maxRecDepth 20000 in
set_option maxHeartbeats 4000000 in
theorem c_X8_noSearch {l : Launch} {G : Gt} {n0 : Nat} {mi : Nat → Nat → Int} {mr : Nat → Nat → Nat} (h4 : rg (mi 473 14)) (h5 : ¬ mi 473 14 = 0 → rg (mi 473 15)) : Ci l yX8_noSearch cX8_noSearch 1 .int 1 G n0 [.ref (n0 + 473)] mi mr (fun r9 mi9 mr9 => mi = mi9 ∧ mr = mr9 ∧ r9 = NSv mi) := by
  refine Ct_of (by decide +kernel) (by intro v hv; simp at hv; rcases hv with rfl <;> rfl) (Nat.le_of_ble_eq_true rfl) ?_
  intro p e s m args below meth c9 X hr hname
  show WW _ _ _ _ _ _ _ _ _ _ _ _ _ _ _ _ _ _ _ [some (.ref (n0 + 473))] _
  refine w_aload_n X dX8_noSearch_0 rfl ?_
  refine w_get X (by decide) (σ_473 G n0 _ _) rfl gW_X8 14 (by decide) gF_X8_88 rfl dX8_noSearch_1 ?_
  refine w_if_ne X 12 dX8_noSearch_4 (by decide) (fun c4_1 => ?_) (fun c4_1 => ?_)
  ·
    have q15 := h5 (by omega)
    refine w_aload_n X dX8_noSearch_12 rfl ?_
    refine w_get X (by decide) (σ_473 G n0 _ _) rfl gW_X8 15 (by decide) gF_X8_135 rfl dX8_noSearch_13 ?_
    refine w_if_eq X 24 dX8_noSearch_16 (by decide) (fun c16_2 => ?_) (fun c16_2 => ?_)
    ·
      refine w_iconst X dX8_noSearch_24 ?_
      refine s_iret X hr dX8_noSearch_25 ?_
      refine ⟨rfl, rfl, ?_⟩
      unfold NSv
      first | (rw [if_pos (by omega)]) | (rw [if_neg (by omega), if_pos (by omega)]) | (rw [if_neg (by omega), if_neg (by omega)])
    ·
      refine w_bipush X dX8_noSearch_19 rfl ?_
      refine w_goto X 25 dX8_noSearch_21 (by decide) ?_
      refine s_iret X hr dX8_noSearch_25 ?_
      refine ⟨rfl, rfl, ?_⟩
      unfold NSv
      first | (rw [if_pos (by omega)]) | (rw [if_neg (by omega), if_pos (by omega)]) | (rw [if_neg (by omega), if_neg (by omega)])
  ·
    refine w_bipush X dX8_noSearch_7 rfl ?_
    refine w_goto X 25 dX8_noSearch_9 (by decide) ?_
    refine s_iret X hr dX8_noSearch_25 ?_
    refine ⟨rfl, rfl, ?_⟩
    unfold NSv
    first | (rw [if_pos (by omega)]) | (rw [if_neg (by omega), if_pos (by omega)]) | (rw [if_neg (by omega), if_neg (by omega)])
theorem SO_rg {L : Lws} {o : Int} {mi : Nat → Nat → Int} (h : SO L o mi) : rg (mi 473 14) ∧ (¬ mi 473 14 = 0 → rg (mi 473 15)) := by
  rcases h with ⟨a, b⟩ | ⟨a, b, c⟩ | ⟨a, b, c, d⟩
  · exact ⟨⟨by omega, by omega⟩, fun w => absurd b w⟩
  · exact ⟨⟨by omega, by omega⟩, fun _ => ⟨by omega, by omega⟩⟩
  · exact ⟨⟨by omega, by omega⟩, fun _ => ⟨by omega, by omega⟩⟩
