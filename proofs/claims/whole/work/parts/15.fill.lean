def fX : Nat → Prop := fun a => a = 48 ∨ a = 50
theorem Grw_e {X : Nat → Prop} {mi m2 m3 : Nat → Nat → Int} {mr mr2 : Nat → Nat → Nat} {N : Nat} {P : V5 × Int → Prop} (h : Grw X mi m2 mr mr2 N P) (h0 : ∀ a, ¬ X a → m3 a = m2 a) (hX : ∀ a, X a → a < N) : Grw X mi m3 mr mr2 N P := by
  obtain ⟨a1, a2, a3, a4, a5, a6, a7, a8⟩ := h
  have hh : ∀ a, N ≤ a → a < N + 205 → m3 a = m2 a := fun a ha _ => h0 a (fun q => by have := hX a q; omega)
  have e : Ef m3 mr2 N = Ef m2 mr2 N := Ef_fr a1 hh rfl
  refine ⟨BO_fr a1 hh rfl, by rw [e]; exact a2, FCo_fr a1 hh rfl a3, by rw [e]; exact a4, by rw [e]; exact a5, fun a ha hx => (h0 a hx).trans (a6 a ha hx), a7, by rw [hh N (by omega) (by omega)]; exact a8⟩
def lastG (sc : Int) (ρ : Nat → Int) (s : Nat) : Prop := ∀ j : Nat, s < j → (j : Int) < sc → gol ρ j ≠ gol ρ s
def addA (m : Nat → Int) (s : Nat) (n : Int) : Nat → Int := fun j => if j = s then m s + n else m j
/-- all ways to fill up from a state on -/
def Cp (sc : Int) (ρ : Nat → Int) : Nat → Nat → (Nat → Int) → (Nat → Int) → V5 → Prop
  | 0, _, m, _, v => T5 m = v
  | d + 1, s, m, ℓ, v => ∃ n : Int, 0 ≤ n ∧ n ≤ ℓ (gol ρ s).toNat ∧ (lastG sc ρ s → n = ℓ (gol ρ s).toNat) ∧ Cp sc ρ d (s + 1) (addA m s n) (addA ℓ (gol ρ s).toNat (-n)) v
theorem Cp_c {sc : Int} {ρ : Nat → Int} (hg : ∀ j : Nat, j < 5 → 0 ≤ gol ρ j ∧ gol ρ j < 5) : ∀ (d s : Nat) {m m' ℓ ℓ' : Nat → Int} {v : V5}, s + d ≤ 5 → (∀ j, j < 5 → m j = m' j) → (∀ j, j < 5 → ℓ j = ℓ' j) → Cp sc ρ d s m ℓ v → Cp sc ρ d s m' ℓ' v
  | 0, _, _, _, _, _, _, _, hm, _, h => by
    show T5 _ = _
    rw [← T5_c hm]; exact h
  | d + 1, s, m, m', ℓ, ℓ', v, hs, hm, hl, h => by
    obtain ⟨n, h1, h2, h3, h4⟩ := h
    have hb := hg s (by omega)
    have e : ℓ (gol ρ s).toNat = ℓ' (gol ρ s).toNat := hl _ (by omega)
    refine ⟨n, h1, by rw [← e]; exact h2, fun q => by rw [← e]; exact h3 q, Cp_c hg d (s + 1) (by omega) (fun j hj => ?_) (fun j hj => ?_) h4⟩
    · unfold addA; rw [hm j hj, hm s (by omega)]
    · unfold addA; rw [hl j hj, e]
theorem Cp_ge {sc : Int} {ρ : Nat → Int} : ∀ (d s : Nat) {m ℓ : Nat → Int} {v : V5}, Cp sc ρ d s m ℓ v → gv v (T5 m)
  | 0, _, _, _, _, h => by rw [show _ = _ from h.symm]; exact gv_r _
  | d + 1, s, m, ℓ, v, h => by
    obtain ⟨n, h1, h2, h3, h4⟩ := h
    have h5 := Cp_ge d (s + 1) h4
    refine gv_t h5 ?_
    rw [gv_T]
    unfold ge5 addA
    refine ⟨?_, ?_, ?_, ?_, ?_⟩ <;> (split <;> (first | (subst s; omega) | omega))
theorem gv_add {m : Nat → Int} {s : Nat} {n n' : Int} (h : n ≤ n') : gv (T5 (addA m s n')) (T5 (addA m s n)) := by
  rw [gv_T]
  unfold ge5 addA
  refine ⟨?_, ?_, ?_, ?_, ?_⟩ <;> (split <;> omega)
theorem sum5_addA {m : Nat → Int} {s : Nat} {n : Int} (h : s < 5) : sum5 (addA m s n) = sum5 m + n := by
  unfold sum5 addA
  rcases (show s = 0 ∨ s = 1 ∨ s = 2 ∨ s = 3 ∨ s = 4 by omega) with rfl | rfl | rfl | rfl | rfl <;> simp <;> omega
theorem sum5_c {f g : Nat → Int} (h : ∀ j, j < 5 → f j = g j) : sum5 f = sum5 g := by
  unfold sum5
  rw [h 0 (by decide), h 1 (by decide), h 2 (by decide), h 3 (by decide), h 4 (by decide)]
theorem sum5_n {f : Nat → Int} (h : ∀ j, j < 5 → 0 ≤ f j) : 0 ≤ sum5 f ∧ ∀ j, j < 5 → f j ≤ sum5 f := by
  have h0 := h 0 (by decide)
  have h1 := h 1 (by decide)
  have h2 := h 2 (by decide)
  have h3 := h 3 (by decide)
  have h4 := h 4 (by decide)
  unfold sum5
  refine ⟨by omega, fun j hj => ?_⟩
  rcases (show j = 0 ∨ j = 1 ∨ j = 2 ∨ j = 3 ∨ j = 4 by omega) with rfl | rfl | rfl | rfl | rfl <;> omega
/-- what a filling leaves -/
def Fil (mi mi9 : Nat → Nat → Int) (mr mr9 : Nat → Nat → Nat) (N k d s : Nat) (r : Int) : Prop :=
  Grw fX mi mi9 mr mr9 N (fun y => y.2 = 1 ∧ Cp (mi 1 3) (mi k) d s (mi 50) (mi 48) y.1) ∧ (∀ v, Cp (mi 1 3) (mi k) d s (mi 50) (mi 48) v → (∃ y ∈ Ef mi9 mr9 N, gv v y.1) ∨ 100 < mi9 N 2) ∧ (r = 1 ∨ r = 0 ∧ ((∃ y ∈ Ef mi9 mr9 N, gv (T5 (mi 50)) y.1) ∨ 100 < mi9 N 2)) ∧ (∀ j : Nat, j < 5 → mi9 50 j = mi 50 j) ∧ ∀ j : Nat, j < 5 → mi9 48 j = mi 48 j
theorem Fil_0 {mi : Nat → Nat → Int} {mr : Nat → Nat → Nat} {N k d s : Nat} (hB : BO mi mr N) (hS : Srt (Ef mi mr N)) (hF : FCo mi mr N) (h : (∃ y ∈ Ef mi mr N, gv (T5 (mi 50)) y.1) ∨ 100 < mi N 2) : Fil mi mi mr mr N k d s 0 :=
  ⟨Grw_r hB hS hF, fun v hv => h.imp (fun ⟨y, hy, h2⟩ => ⟨y, hy, gv_t (Cp_ge d s hv) h2⟩) id, Or.inr ⟨rfl, h⟩, fun _ _ => rfl, fun _ _ => rfl⟩

theorem dX0_fillFrom_0 : decode cX0_fillFrom 0 = .ok (.aload_n 0, 1) := by decide +kernel
theorem dX0_fillFrom_1 : decode cX0_fillFrom 1 = .ok (.getfield 37, 3) := by decide +kernel
theorem dX0_fillFrom_4 : decode cX0_fillFrom 4 = .ok (.invokevirtual 77, 3) := by decide +kernel
theorem dX0_fillFrom_7 : decode cX0_fillFrom 7 = .ok (.ifCond .ne 17, 3) := by decide +kernel
theorem dX0_fillFrom_10 : decode cX0_fillFrom 10 = .ok (.aload_n 0, 1) := by decide +kernel
theorem dX0_fillFrom_11 : decode cX0_fillFrom 11 = .ok (.getfield 37, 3) := by decide +kernel
theorem dX0_fillFrom_14 : decode cX0_fillFrom 14 = .ok (.aload_n 0, 1) := by decide +kernel
theorem dX0_fillFrom_15 : decode cX0_fillFrom 15 = .ok (.getfield 27, 3) := by decide +kernel
theorem dX0_fillFrom_18 : decode cX0_fillFrom 18 = .ok (.invokevirtual 48, 3) := by decide +kernel
theorem dX0_fillFrom_21 : decode cX0_fillFrom 21 = .ok (.ifCond .eq 5, 3) := by decide +kernel
theorem dX0_fillFrom_24 : decode cX0_fillFrom 24 = .ok (.iconst 0, 1) := by decide +kernel
theorem dX0_fillFrom_25 : decode cX0_fillFrom 25 = .ok (.ireturn, 1) := by decide +kernel
theorem dX0_fillFrom_26 : decode cX0_fillFrom 26 = .ok (.iload_n 2, 1) := by decide +kernel
theorem dX0_fillFrom_27 : decode cX0_fillFrom 27 = .ok (.aload_n 0, 1) := by decide +kernel
theorem dX0_fillFrom_28 : decode cX0_fillFrom 28 = .ok (.getfield 44, 3) := by decide +kernel
theorem dX0_fillFrom_31 : decode cX0_fillFrom 31 = .ok (.getfield 117, 3) := by decide +kernel
theorem dX0_fillFrom_34 : decode cX0_fillFrom 34 = .ok (.if_icmp .lt 17, 3) := by decide +kernel
theorem dX0_fillFrom_37 : decode cX0_fillFrom 37 = .ok (.aload_n 0, 1) := by decide +kernel
theorem dX0_fillFrom_38 : decode cX0_fillFrom 38 = .ok (.getfield 37, 3) := by decide +kernel
theorem dX0_fillFrom_41 : decode cX0_fillFrom 41 = .ok (.aload_n 0, 1) := by decide +kernel
theorem dX0_fillFrom_42 : decode cX0_fillFrom 42 = .ok (.getfield 27, 3) := by decide +kernel
theorem dX0_fillFrom_45 : decode cX0_fillFrom 45 = .ok (.iconst 1, 1) := by decide +kernel
theorem dX0_fillFrom_46 : decode cX0_fillFrom 46 = .ok (.invokevirtual 90, 3) := by decide +kernel
theorem dX0_fillFrom_49 : decode cX0_fillFrom 49 = .ok (.iconst 1, 1) := by decide +kernel
theorem dX0_fillFrom_50 : decode cX0_fillFrom 50 = .ok (.ireturn, 1) := by decide +kernel
theorem dX0_fillFrom_51 : decode cX0_fillFrom 51 = .ok (.aload_n 1, 1) := by decide +kernel
theorem dX0_fillFrom_52 : decode cX0_fillFrom 52 = .ok (.iload_n 2, 1) := by decide +kernel
theorem dX0_fillFrom_53 : decode cX0_fillFrom 53 = .ok (.invokevirtual 159, 3) := by decide +kernel
theorem dX0_fillFrom_56 : decode cX0_fillFrom 56 = .ok (.istore_n 3, 1) := by decide +kernel
theorem dX0_fillFrom_57 : decode cX0_fillFrom 57 = .ok (.aload_n 0, 1) := by decide +kernel
theorem dX0_fillFrom_58 : decode cX0_fillFrom 58 = .ok (.getfield 23, 3) := by decide +kernel
theorem dX0_fillFrom_61 : decode cX0_fillFrom 61 = .ok (.iload_n 3, 1) := by decide +kernel
theorem dX0_fillFrom_62 : decode cX0_fillFrom 62 = .ok (.invokevirtual 163, 3) := by decide +kernel
theorem dX0_fillFrom_65 : decode cX0_fillFrom 65 = .ok (.istore 4, 2) := by decide +kernel
theorem dX0_fillFrom_67 : decode cX0_fillFrom 67 = .ok (.aload_n 1, 1) := by decide +kernel
theorem dX0_fillFrom_68 : decode cX0_fillFrom 68 = .ok (.iload_n 2, 1) := by decide +kernel
theorem dX0_fillFrom_69 : decode cX0_fillFrom 69 = .ok (.aload_n 0, 1) := by decide +kernel
theorem dX0_fillFrom_70 : decode cX0_fillFrom 70 = .ok (.getfield 44, 3) := by decide +kernel
theorem dX0_fillFrom_73 : decode cX0_fillFrom 73 = .ok (.getfield 117, 3) := by decide +kernel
theorem dX0_fillFrom_76 : decode cX0_fillFrom 76 = .ok (.invokevirtual 165, 3) := by decide +kernel
theorem dX0_fillFrom_79 : decode cX0_fillFrom 79 = .ok (.ifCond .eq 8, 3) := by decide +kernel
theorem dX0_fillFrom_82 : decode cX0_fillFrom 82 = .ok (.iload 4, 2) := by decide +kernel
theorem dX0_fillFrom_84 : decode cX0_fillFrom 84 = .ok (.goto 4, 3) := by decide +kernel
theorem dX0_fillFrom_87 : decode cX0_fillFrom 87 = .ok (.iconst 0, 1) := by decide +kernel
theorem dX0_fillFrom_88 : decode cX0_fillFrom 88 = .ok (.istore 5, 2) := by decide +kernel
theorem dX0_fillFrom_90 : decode cX0_fillFrom 90 = .ok (.aload_n 0, 1) := by decide +kernel
theorem dX0_fillFrom_91 : decode cX0_fillFrom 91 = .ok (.getfield 27, 3) := by decide +kernel
theorem dX0_fillFrom_94 : decode cX0_fillFrom 94 = .ok (.iload_n 2, 1) := by decide +kernel
theorem dX0_fillFrom_95 : decode cX0_fillFrom 95 = .ok (.invokevirtual 163, 3) := by decide +kernel
theorem dX0_fillFrom_98 : decode cX0_fillFrom 98 = .ok (.istore 6, 2) := by decide +kernel
theorem dX0_fillFrom_100 : decode cX0_fillFrom 100 = .ok (.iconst 1, 1) := by decide +kernel
theorem dX0_fillFrom_101 : decode cX0_fillFrom 101 = .ok (.istore 7, 2) := by decide +kernel
theorem dX0_fillFrom_103 : decode cX0_fillFrom 103 = .ok (.iload 5, 2) := by decide +kernel
theorem dX0_fillFrom_105 : decode cX0_fillFrom 105 = .ok (.istore 8, 2) := by decide +kernel
theorem dX0_fillFrom_107 : decode cX0_fillFrom 107 = .ok (.iload 8, 2) := by decide +kernel
theorem dX0_fillFrom_109 : decode cX0_fillFrom 109 = .ok (.iload 4, 2) := by decide +kernel
theorem dX0_fillFrom_111 : decode cX0_fillFrom 111 = .ok (.if_icmp .gt 50, 3) := by decide +kernel
theorem dX0_fillFrom_114 : decode cX0_fillFrom 114 = .ok (.iload 7, 2) := by decide +kernel
theorem dX0_fillFrom_116 : decode cX0_fillFrom 116 = .ok (.ifCond .eq 45, 3) := by decide +kernel
theorem dX0_fillFrom_119 : decode cX0_fillFrom 119 = .ok (.aload_n 0, 1) := by decide +kernel
theorem dX0_fillFrom_120 : decode cX0_fillFrom 120 = .ok (.getfield 27, 3) := by decide +kernel
theorem dX0_fillFrom_123 : decode cX0_fillFrom 123 = .ok (.iload_n 2, 1) := by decide +kernel
theorem dX0_fillFrom_124 : decode cX0_fillFrom 124 = .ok (.iload 6, 2) := by decide +kernel
theorem dX0_fillFrom_126 : decode cX0_fillFrom 126 = .ok (.iload 8, 2) := by decide +kernel
theorem dX0_fillFrom_128 : decode cX0_fillFrom 128 = .ok (.iadd, 1) := by decide +kernel
theorem dX0_fillFrom_129 : decode cX0_fillFrom 129 = .ok (.invokevirtual 169, 3) := by decide +kernel
theorem dX0_fillFrom_132 : decode cX0_fillFrom 132 = .ok (.aload_n 0, 1) := by decide +kernel
theorem dX0_fillFrom_133 : decode cX0_fillFrom 133 = .ok (.getfield 23, 3) := by decide +kernel
theorem dX0_fillFrom_136 : decode cX0_fillFrom 136 = .ok (.iload_n 3, 1) := by decide +kernel
theorem dX0_fillFrom_137 : decode cX0_fillFrom 137 = .ok (.iload 4, 2) := by decide +kernel
theorem dX0_fillFrom_139 : decode cX0_fillFrom 139 = .ok (.iload 8, 2) := by decide +kernel
theorem dX0_fillFrom_141 : decode cX0_fillFrom 141 = .ok (.isub, 1) := by decide +kernel
theorem dX0_fillFrom_142 : decode cX0_fillFrom 142 = .ok (.invokevirtual 169, 3) := by decide +kernel
theorem dX0_fillFrom_145 : decode cX0_fillFrom 145 = .ok (.aload_n 0, 1) := by decide +kernel
theorem dX0_fillFrom_146 : decode cX0_fillFrom 146 = .ok (.aload_n 1, 1) := by decide +kernel
theorem dX0_fillFrom_147 : decode cX0_fillFrom 147 = .ok (.iload_n 2, 1) := by decide +kernel
theorem dX0_fillFrom_148 : decode cX0_fillFrom 148 = .ok (.iconst 1, 1) := by decide +kernel
theorem dX0_fillFrom_149 : decode cX0_fillFrom 149 = .ok (.iadd, 1) := by decide +kernel
theorem dX0_fillFrom_150 : decode cX0_fillFrom 150 = .ok (.invokevirtual 141, 3) := by decide +kernel
theorem dX0_fillFrom_153 : decode cX0_fillFrom 153 = .ok (.istore 7, 2) := by decide +kernel
theorem dX0_fillFrom_155 : decode cX0_fillFrom 155 = .ok (.iinc 8 1, 3) := by decide +kernel
theorem dX0_fillFrom_158 : decode cX0_fillFrom 158 = .ok (.goto (-51), 3) := by decide +kernel
theorem dX0_fillFrom_161 : decode cX0_fillFrom 161 = .ok (.aload_n 0, 1) := by decide +kernel
theorem dX0_fillFrom_162 : decode cX0_fillFrom 162 = .ok (.getfield 27, 3) := by decide +kernel
theorem dX0_fillFrom_165 : decode cX0_fillFrom 165 = .ok (.iload_n 2, 1) := by decide +kernel
theorem dX0_fillFrom_166 : decode cX0_fillFrom 166 = .ok (.iload 6, 2) := by decide +kernel
theorem dX0_fillFrom_168 : decode cX0_fillFrom 168 = .ok (.invokevirtual 169, 3) := by decide +kernel
theorem dX0_fillFrom_171 : decode cX0_fillFrom 171 = .ok (.aload_n 0, 1) := by decide +kernel
theorem dX0_fillFrom_172 : decode cX0_fillFrom 172 = .ok (.getfield 23, 3) := by decide +kernel
theorem dX0_fillFrom_175 : decode cX0_fillFrom 175 = .ok (.iload_n 3, 1) := by decide +kernel
theorem dX0_fillFrom_176 : decode cX0_fillFrom 176 = .ok (.iload 4, 2) := by decide +kernel
theorem dX0_fillFrom_178 : decode cX0_fillFrom 178 = .ok (.invokevirtual 169, 3) := by decide +kernel
theorem dX0_fillFrom_181 : decode cX0_fillFrom 181 = .ok (.iconst 1, 1) := by decide +kernel
theorem dX0_fillFrom_182 : decode cX0_fillFrom 182 = .ok (.ireturn, 1) := by decide +kernel
theorem hl_yX0_fillFrom : (yX0_fillFrom.cls ≠ "java/lang/invoke/MethodHandle" ∧ yX0_fillFrom.cls ≠ "java/lang/invoke/VarHandle") ∧ (parseMethodDescriptor yX0_fillFrom.desc).map (fun d => d.parameters.length) = some 2 := by decide +kernel
set_option maxRecDepth 20000 in
set_option maxHeartbeats 4000000 in
theorem c_X0_fillFrom_0 {l : Launch} {G : Gt} {n0 : Nat} {mi : Nat → Nat → Int} {mr : Nat → Nat → Nat} {A N k s1 : Nat} (hAN : AN A N) (hA : mr 44 4 = A) (hN : mr 44 5 = N) (hL : LW mi) (hk : isRu k) (hv : RV (mi 1 3) mi k) (hBN : BO mi mr N) (hSN : Srt (Ef mi mr N)) (hFN : FCo mi mr N) (hml : ∀ j : Nat, j < 5 → 0 ≤ mi 50 j ∧ 0 ≤ mi 48 j) (hsum : ∀ j : Nat, j < 5 → mi 50 j + sum5 (mi 48) ≤ 900) (hs : (s1 : Int) + 0 = mi 1 3) : Ci l yX0_fillFrom cX0_fillFrom 9 .boolean 4 G n0 [.ref (n0 + 44), .ref (n0 + k), .int (jI (s1 : Int))] mi mr (fun r9 mi9 mr9 => Fil mi mi9 mr mr9 N k 0 s1 r9) := by
  refine Ct_of (by decide +kernel) (by intro v hv; simp at hv; rcases hv with rfl | rfl | rfl <;> rfl) (Nat.le_of_ble_eq_true rfl) ?_
  intro p e s m args below meth c9 X hr hname
  show WW _ _ _ _ _ _ _ _ _ _ _ _ _ _ _ _ _ _ _ [some (.ref (n0 + 44)), some (.ref (n0 + k)), some (.int (jI (s1 : Int))), none, none, none, none, none, none] _
  have hBN2 := hBN.2.1
  have hne := hAN.ne
  have hL1 := hL.1
  have hvg : ∀ j : Nat, j < 5 → 0 ≤ gol (mi k) j ∧ gol (mi k) j < 5 := fun j hj => ⟨(hv.2.2.2.2.2.2.2 j hj).2.1, (hv.2.2.2.2.2.2.2 j hj).2.2.1⟩
  have hcb : CB mi 49 := CB_of (fun j hj => by have q1 := hml j hj; have q2 := hsum j hj; have q3 := (sum5_n (fun j hj => (hml j hj).2)).1; exact ⟨q1.1, by show mi 50 j ≤ 1000; omega⟩)
  have hkr := hk
  unfold isRu at hkr
  have hown : ∀ i2 : Nat, i2 < 101 → 49 ≠ mr (N + 1) i2 := fun i2 h2 => by have := hBN.2.2.1 i2 h2; omega
  refine w_aload_n X dX0_fillFrom_0 rfl ?_
  refine w_get X (by decide) (σ_44 G n0 _ _) rfl gW_X0 5 (by decide) gF_X0_37 rfl dX0_fillFrom_1 ?_
  rw [hN]
  refine s_callVi X _ (c_X1_areTooMany (l := l) (G := G) (n0 := n0) hAN.b (by have := hBN2; refine ⟨?_, ?_⟩ <;> omega)) gM_X0_77 gI_yX1_areTooMany gS_yX1_areTooMany gN_X1 gC_yX1_areTooMany (isBs_k hAN.b) (σ_bs G n0 _ _ hAN.b) rfl dX0_fillFrom_4 hl_yX1_areTooMany ⟨Nat.le_of_ble_eq_true rfl, Nat.le_of_ble_eq_true rfl⟩ (Nat.le_of_ble_eq_true rfl) rfl (fun r1 mi1 mr1 h1 => ?_)
  obtain ⟨rfl, rfl, h1⟩ := h1
  refine w_if_ne X 24 dX0_fillFrom_7 (by decide) (fun c7_1 => ?_) (fun c7_1 => ?_)
  ·
    refine w_iconst X dX0_fillFrom_24 ?_
    refine s_zret X hr dX0_fillFrom_25 (by omega) ?_
    rcases h1 with ⟨q, q2⟩ | ⟨q, -⟩
    · exact Fil_0 hBN hSN hFN (Or.inr q2)
    · exact absurd q (by assumption)
  ·
    refine w_aload_n X dX0_fillFrom_10 rfl ?_
    refine w_get X (by decide) (σ_44 G n0 _ _) rfl gW_X0 5 (by decide) gF_X0_37 rfl dX0_fillFrom_11 ?_
    rw [hN]
    refine w_aload_n X dX0_fillFrom_14 rfl ?_
    refine w_get X (by decide) (σ_44 G n0 _ _) rfl gW_X0 3 (by decide) gF_X0_27 rfl dX0_fillFrom_15 ?_
    refine s_callVi X _ (c_X1_cover (l := l) (G := G) (n0 := n0) hBN cr_49 hcb) gM_X0_48 gI_yX1_cover gS_yX1_cover gN_X1 gC_yX1_cover (isBs_k hAN.b) (σ_bs G n0 _ _ hAN.b) rfl dX0_fillFrom_18 hl_yX1_cover ⟨Nat.le_of_ble_eq_true rfl, Nat.le_of_ble_eq_true rfl⟩ (Nat.le_of_ble_eq_true rfl) rfl (fun r2 mi2 mr2 h2 => ?_)
    obtain ⟨rfl, rfl, h2⟩ := h2
    have h2 := cov_E h2
    refine w_if_eq X 26 dX0_fillFrom_21 (by decide) (fun c21_2 => ?_) (fun c21_2 => ?_)
    ·
      refine w_iload_n X dX0_fillFrom_26 rfl ?_
      refine w_aload_n X dX0_fillFrom_27 rfl ?_
      refine w_get X (by decide) (σ_44 G n0 _ _) rfl gW_X0 0 (by decide) gF_X0_44 rfl dX0_fillFrom_28 ?_
      refine w_getN X (by decide) (σ_1 G n0 _ _) rfl gW_X5 3 (by decide) gF_X0_117 rfl dX0_fillFrom_31 ?_
      refine w_icmp_lt X 51 dX0_fillFrom_34 (by decide) (fun h9 => absurd h9 (by omega)) (fun h34_ => ?_)
      refine w_aload_n X dX0_fillFrom_37 rfl ?_
      refine w_get X (by decide) (σ_44 G n0 _ _) rfl gW_X0 5 (by decide) gF_X0_37 rfl dX0_fillFrom_38 ?_
      rw [hN]
      refine w_aload_n X dX0_fillFrom_41 rfl ?_
      refine w_get X (by decide) (σ_44 G n0 _ _) rfl gW_X0 3 (by decide) gF_X0_27 rfl dX0_fillFrom_42 ?_
      refine w_iconst X dX0_fillFrom_45 ?_
      refine s_callVv X _ (c_X1_take (l := l) (G := G) (n0 := n0) (Or.inr rfl) hBN cr_49 hcb hown) gM_X0_90 gI_yX1_take gS_yX1_take gN_X1 gC_yX1_take (isBs_k hAN.b) (σ_bs G n0 _ _ hAN.b) rfl dX0_fillFrom_46 hl_yX1_take ⟨Nat.le_of_ble_eq_true rfl, Nat.le_of_ble_eq_true rfl⟩ (Nat.le_of_ble_eq_true rfl) rfl (fun mi3 mr3 h3 => ?_)
      refine w_iconst X dX0_fillFrom_49 ?_
      refine s_zret X hr dX0_fillFrom_50 (by omega) ?_
      have hunc : ∀ y ∈ Ef mi mr N, ¬ gv (T5 (mi (49 + 1))) y.1 := by
        rcases h2 with ⟨q2, -⟩ | ⟨-, q2⟩
        · omega
        · exact q2
      obtain ⟨hG2, hin⟩ := take_G (X := fX) (P := fun y => y.2 = 1 ∧ Cp (mi 1 3) (mi k) 0 s1 (mi 50) (mi 48) y.1) hBN (Or.inr rfl) hcb hSN hFN hunc ⟨rfl, rfl⟩ h3
      have hcc : 100 < mi N 2 → mi3 = mi := fun q => by rcases h3 with ⟨-, q2, -⟩ | ⟨q2, -⟩; exact q2.symm; omega
      have h48 : ∀ a, a < 51 → mi3 a = mi a := by
        intro a ha
        rcases take_A hBN (Or.inr rfl) hcb hSN hunc h3 with ⟨-, q2, -⟩ | ⟨-, -, -, -, -, -, q2, -⟩
        · rw [q2]
        · exact q2 a (by omega)
      refine ⟨hG2, fun v hv => ?_, Or.inl rfl, fun j hj => by rw [h48 50 (by decide)], fun j hj => by rw [h48 48 (by decide)]⟩
      rcases hin with q2 | q2
      · left; exact ⟨_, q2, by rw [show T5 (mi 50) = v from hv]; exact gv_r _⟩
      · exact Or.inr q2
    ·
      refine w_iconst X dX0_fillFrom_24 ?_
      refine s_zret X hr dX0_fillFrom_25 (by omega) ?_
      rcases h2 with ⟨q, q2⟩ | ⟨q, -⟩
      · exact Fil_0 hBN hSN hFN (Or.inl q2)
      · exact absurd q (by assumption)
set_option maxRecDepth 20000 in
set_option maxHeartbeats 4000000 in
theorem c_X0_fillFrom_1 {l : Launch} {G : Gt} {n0 : Nat} {mi : Nat → Nat → Int} {mr : Nat → Nat → Nat} {A N k s1 : Nat} (hAN : AN A N) (hA : mr 44 4 = A) (hN : mr 44 5 = N) (hL : LW mi) (hk : isRu k) (hv : RV (mi 1 3) mi k) (hBN : BO mi mr N) (hSN : Srt (Ef mi mr N)) (hFN : FCo mi mr N) (hml : ∀ j : Nat, j < 5 → 0 ≤ mi 50 j ∧ 0 ≤ mi 48 j) (hsum : ∀ j : Nat, j < 5 → mi 50 j + sum5 (mi 48) ≤ 900) (hs : (s1 : Int) + 1 = mi 1 3) : Ci l yX0_fillFrom cX0_fillFrom 9 .boolean 5 G n0 [.ref (n0 + 44), .ref (n0 + k), .int (jI (s1 : Int))] mi mr (fun r9 mi9 mr9 => Fil mi mi9 mr mr9 N k 1 s1 r9) := by
  refine Ct_of (by decide +kernel) (by intro v hv; simp at hv; rcases hv with rfl | rfl | rfl <;> rfl) (Nat.le_of_ble_eq_true rfl) ?_
  intro p e s m args below meth c9 X hr hname
  show WW _ _ _ _ _ _ _ _ _ _ _ _ _ _ _ _ _ _ _ [some (.ref (n0 + 44)), some (.ref (n0 + k)), some (.int (jI (s1 : Int))), none, none, none, none, none, none] _
  have hBN2 := hBN.2.1
  have hne := hAN.ne
  have hL1 := hL.1
  have hvg : ∀ j : Nat, j < 5 → 0 ≤ gol (mi k) j ∧ gol (mi k) j < 5 := fun j hj => ⟨(hv.2.2.2.2.2.2.2 j hj).2.1, (hv.2.2.2.2.2.2.2 j hj).2.2.1⟩
  have hcb : CB mi 49 := CB_of (fun j hj => by have q1 := hml j hj; have q2 := hsum j hj; have q3 := (sum5_n (fun j hj => (hml j hj).2)).1; exact ⟨q1.1, by show mi 50 j ≤ 1000; omega⟩)
  have hkr := hk
  unfold isRu at hkr
  have hown : ∀ i2 : Nat, i2 < 101 → 49 ≠ mr (N + 1) i2 := fun i2 h2 => by have := hBN.2.2.1 i2 h2; omega
  refine w_aload_n X dX0_fillFrom_0 rfl ?_
  refine w_get X (by decide) (σ_44 G n0 _ _) rfl gW_X0 5 (by decide) gF_X0_37 rfl dX0_fillFrom_1 ?_
  rw [hN]
  refine s_callVi X _ (c_X1_areTooMany (l := l) (G := G) (n0 := n0) hAN.b (by have := hBN2; refine ⟨?_, ?_⟩ <;> omega)) gM_X0_77 gI_yX1_areTooMany gS_yX1_areTooMany gN_X1 gC_yX1_areTooMany (isBs_k hAN.b) (σ_bs G n0 _ _ hAN.b) rfl dX0_fillFrom_4 hl_yX1_areTooMany ⟨Nat.le_of_ble_eq_true rfl, Nat.le_of_ble_eq_true rfl⟩ (Nat.le_of_ble_eq_true rfl) rfl (fun r1 mi1 mr1 h1 => ?_)
  obtain ⟨rfl, rfl, h1⟩ := h1
  refine w_if_ne X 24 dX0_fillFrom_7 (by decide) (fun c7_1 => ?_) (fun c7_1 => ?_)
  ·
    refine w_iconst X dX0_fillFrom_24 ?_
    refine s_zret X hr dX0_fillFrom_25 (by omega) ?_
    rcases h1 with ⟨q, q2⟩ | ⟨q, -⟩
    · exact Fil_0 hBN hSN hFN (Or.inr q2)
    · exact absurd q (by assumption)
  ·
    refine w_aload_n X dX0_fillFrom_10 rfl ?_
    refine w_get X (by decide) (σ_44 G n0 _ _) rfl gW_X0 5 (by decide) gF_X0_37 rfl dX0_fillFrom_11 ?_
    rw [hN]
    refine w_aload_n X dX0_fillFrom_14 rfl ?_
    refine w_get X (by decide) (σ_44 G n0 _ _) rfl gW_X0 3 (by decide) gF_X0_27 rfl dX0_fillFrom_15 ?_
    refine s_callVi X _ (c_X1_cover (l := l) (G := G) (n0 := n0) hBN cr_49 hcb) gM_X0_48 gI_yX1_cover gS_yX1_cover gN_X1 gC_yX1_cover (isBs_k hAN.b) (σ_bs G n0 _ _ hAN.b) rfl dX0_fillFrom_18 hl_yX1_cover ⟨Nat.le_of_ble_eq_true rfl, Nat.le_of_ble_eq_true rfl⟩ (Nat.le_of_ble_eq_true rfl) rfl (fun r2 mi2 mr2 h2 => ?_)
    obtain ⟨rfl, rfl, h2⟩ := h2
    have h2 := cov_E h2
    refine w_if_eq X 26 dX0_fillFrom_21 (by decide) (fun c21_2 => ?_) (fun c21_2 => ?_)
    ·
      refine w_iload_n X dX0_fillFrom_26 rfl ?_
      refine w_aload_n X dX0_fillFrom_27 rfl ?_
      refine w_get X (by decide) (σ_44 G n0 _ _) rfl gW_X0 0 (by decide) gF_X0_44 rfl dX0_fillFrom_28 ?_
      refine w_getN X (by decide) (σ_1 G n0 _ _) rfl gW_X5 3 (by decide) gF_X0_117 rfl dX0_fillFrom_31 ?_
      refine w_icmp_lt X 51 dX0_fillFrom_34 (by decide) (fun h34_ => ?_) (fun h9 => absurd (by omega) h9)
      have hgb := hvg s1 (by omega)
      obtain ⟨g, hg⟩ := Int.eq_ofNat_of_zero_le hgb.1
      have hg5 : g < 5 := by omega
      have hgt : (gol (mi k) s1).toNat = g := by rw [hg]; exact Int.toNat_natCast g
      have hlg := hml g hg5
      have hms := hml s1 (by omega)
      have hsu := sum5_n (fun j hj => (hml j hj).2)
      have hsg := hsu.2 g hg5
      have hss := hsum s1 (by omega)
      refine w_aload_n X dX0_fillFrom_51 rfl ?_
      refine w_iload_n X dX0_fillFrom_52 rfl ?_
      refine s_callVi X _ (c_X6_goalOf (l := l) (G := G) (n0 := n0) hk hv (by first | assumption | (refine ⟨?_, ?_⟩ <;> omega))) gM_X0_159 gI_yX6_goalOf gS_yX6_goalOf gN_X6 gC_yX6_goalOf (isRu_k hk) (σ_ru G n0 _ _ hk) rfl dX0_fillFrom_53 hl_yX6_goalOf ⟨Nat.le_of_ble_eq_true rfl, Nat.le_of_ble_eq_true rfl⟩ (Nat.le_of_ble_eq_true rfl) rfl (fun r3 mi3 mr3 h3 => ?_)
      obtain ⟨rfl, rfl, h3, b9, q9⟩ := h3
      rw [if_pos ⟨by omega, by omega⟩, Int.toNat_natCast, hg] at h3
      subst h3
      refine w_ist9_3 X dX0_fillFrom_56 ?_
      refine w_aload_n X dX0_fillFrom_57 rfl ?_
      refine w_get X (by decide) (σ_44 G n0 _ _) rfl gW_X0 2 (by decide) gF_X0_23 rfl dX0_fillFrom_58 ?_
      refine w_iload_n X dX0_fillFrom_61 rfl ?_
      refine s_callVi X _ (c_X3_of (l := l) (G := G) (n0 := n0) cr_47 (by first | assumption | (refine ⟨?_, ?_⟩ <;> omega))) gM_X0_163 gI_yX3_of gS_yX3_of gN_X3 gC_yX3_of (isCr_k cr_47) (σ_cr G n0 _ _ cr_47) rfl dX0_fillFrom_62 hl_yX3_of ⟨Nat.le_of_ble_eq_true rfl, Nat.le_of_ble_eq_true rfl⟩ (Nat.le_of_ble_eq_true rfl) rfl (fun r4 mi4 mr4 h4 => ?_)
      obtain ⟨rfl, rfl, h4⟩ := h4
      rw [if_pos ⟨by omega, by omega⟩, Int.toNat_natCast] at h4
      subst h4
      refine w_ist9_4 X dX0_fillFrom_65 ?_
      refine w_aload_n X dX0_fillFrom_67 rfl ?_
      refine w_iload_n X dX0_fillFrom_68 rfl ?_
      refine w_aload_n X dX0_fillFrom_69 rfl ?_
      refine w_get X (by decide) (σ_44 G n0 _ _) rfl gW_X0 0 (by decide) gF_X0_44 rfl dX0_fillFrom_70 ?_
      refine w_getN X (by decide) (σ_1 G n0 _ _) rfl gW_X5 3 (by decide) gF_X0_117 rfl dX0_fillFrom_73 ?_
      refine s_callVi X _ (c_X6_isLastToGoal (l := l) (G := G) (n0 := n0) hk hv (by omega)) gM_X0_165 gI_yX6_isLastToGoal gS_yX6_isLastToGoal gN_X6 gC_yX6_isLastToGoal (isRu_k hk) (σ_ru G n0 _ _ hk) rfl dX0_fillFrom_76 hl_yX6_isLastToGoal ⟨Nat.le_of_ble_eq_true rfl, Nat.le_of_ble_eq_true rfl⟩ (Nat.le_of_ble_eq_true rfl) rfl (fun r5 mi5 mr5 h5 => ?_)
      obtain ⟨rfl, rfl, h5⟩ := h5
      have h5 : r5 = 1 ∧ lastG (mi 1 3) (mi k) s1 ∨ r5 = 0 ∧ ¬ lastG (mi 1 3) (mi k) s1 := by
        rcases h5 with ⟨q, q2⟩ | ⟨q, j, q1, q2, q3⟩
        · exact Or.inl ⟨q, q2⟩
        · exact Or.inr ⟨q, fun w => w j q1 q2 q3⟩
      refine w_if_eq X 87 dX0_fillFrom_79 (by decide) (fun c79_3 => ?_) (fun c79_3 => ?_)
      ·
        have hla : ¬ lastG (mi 1 3) (mi k) s1 := by rcases h5 with ⟨q, -⟩ | ⟨-, q⟩; omega; exact q
        have hf : ∀ n1 : Int, 0 ≤ n1 → (lastG (mi 1 3) (mi k) s1 → n1 = mi 48 g) → 0 ≤ n1 := fun n1 q _ => q
        have hf2 : lastG (mi 1 3) (mi k) s1 → 0 = mi 48 g := fun q => absurd q hla
        clear h5
        refine w_iconst X dX0_fillFrom_87 ?_
        refine w_ist9_5 X dX0_fillFrom_88 ?_
        refine w_aload_n X dX0_fillFrom_90 rfl ?_
        refine w_get X (by decide) (σ_44 G n0 _ _) rfl gW_X0 3 (by decide) gF_X0_27 rfl dX0_fillFrom_91 ?_
        refine w_iload_n X dX0_fillFrom_94 rfl ?_
        refine s_callVi X _ (c_X3_of (l := l) (G := G) (n0 := n0) cr_49 (by first | assumption | (refine ⟨?_, ?_⟩ <;> omega))) gM_X0_163 gI_yX3_of gS_yX3_of gN_X3 gC_yX3_of (isCr_k cr_49) (σ_cr G n0 _ _ cr_49) rfl dX0_fillFrom_95 hl_yX3_of ⟨Nat.le_of_ble_eq_true rfl, Nat.le_of_ble_eq_true rfl⟩ (Nat.le_of_ble_eq_true rfl) rfl (fun r6 mi6 mr6 h6 => ?_)
        obtain ⟨rfl, rfl, h6⟩ := h6
        rw [if_pos ⟨by omega, by omega⟩, Int.toNat_natCast] at h6
        subst h6
        refine w_ist9_6 X dX0_fillFrom_98 ?_
        refine w_iconst X dX0_fillFrom_100 ?_
        refine w_ist9_7 X dX0_fillFrom_101 ?_
        refine w_iload X dX0_fillFrom_103 rfl ?_
        refine w_ist9_8 X dX0_fillFrom_105 ?_
        have loop : ∀ (n : Nat) (mi' : Nat → Nat → Int) (mr' : Nat → Nat → Nat) (n1 w1 : Int), (0 ≤ n1 ∧ n1 ≤ mi 48 g + 1) → (w1 = 0 ∨ w1 = 1) → (Grw fX mi mi' mr mr' N (fun y : V5 × Int => y.2 = 1 ∧ Cp (mi 1 3) (mi k) 1 s1 (mi 50) (mi 48) y.1)) → (∀ j : Nat, j < 5 → j ≠ s1 → mi' 50 j = mi 50 j) → (∀ j : Nat, j < 5 → j ≠ g → mi' 48 j = mi 48 j) → (∀ n2 : Int, 0 ≤ n2 → n2 < n1 → ∀ v, Cp (mi 1 3) (mi k) 0 (s1 + 1) (addA (mi 50) s1 n2) (addA (mi 48) g (-n2)) v → (∃ y ∈ Ef mi' mr' N, gv v y.1) ∨ 100 < mi' N 2) → (w1 = 0 → ∀ n2 : Int, n1 ≤ n2 → n2 ≤ mi 48 g → ∀ v, Cp (mi 1 3) (mi k) 0 (s1 + 1) (addA (mi 50) s1 n2) (addA (mi 48) g (-n2)) v → (∃ y ∈ Ef mi' mr' N, gv v y.1) ∨ 100 < mi' N 2) → n = (mi 48 g + 1 - n1).toNat → WSi p l e s m args below meth c9 5 (fun r9 mi9 mr9 => Fil mi mi9 mr mr9 N k 1 s1 r9) G n0 9 mi' mr' 107 [some (.ref (n0 + 44)), some (.ref (n0 + k)), some (.int (jI (s1 : Int))), some (.int (jI (g : Int))), some (.int (jI (mi 48 g))), some (.int (jI (0))), some (.int (jI (mi 50 s1))), some (.int (jI w1)), some (.int (jI n1))] [] := by
          intro n
          induction n using Nat.strongRecOn with
          | ind n ih_loop =>
            intro mi' mr' n1 w1 hn hw hG hm1 hl1 hc hw0 hn
            have hm' : ∀ a, a < N ∨ N + 205 ≤ a → a ≠ 48 → a ≠ 50 → mi' a = mi a := fun a ha h48 h50 => hG.2.2.2.2.2.1 a ha (fun q => by rcases q with q | q; exact h48 q; exact h50 q)
            have hr' : ∀ a, a ≠ N + 1 → mr' a = mr a := hG.2.2.2.2.2.2.1
            have hA' : mr' 44 4 = A := by rw [hr' 44 (by omega)]; exact hA
            have hN' : mr' 44 5 = N := by rw [hr' 44 (by omega)]; exact hN
            refine w_iload X dX0_fillFrom_107 rfl ?_
            refine w_iload X dX0_fillFrom_109 rfl ?_
            refine w_icmp_gt X 161 dX0_fillFrom_111 (by decide) (fun c111_4 => ?_) (fun c111_4 => ?_)
            ·
              refine w_aload_n X dX0_fillFrom_161 rfl ?_
              refine w_get X (by decide) (σ_44 G n0 _ _) rfl gW_X0 3 (by decide) gF_X0_27 rfl dX0_fillFrom_162 ?_
              refine w_iload_n X dX0_fillFrom_165 rfl ?_
              refine w_iload X dX0_fillFrom_166 rfl ?_
              refine s_callVv X _ (c_X3_set (l := l) (G := G) (n0 := n0) cr_49 (by first | assumption | (refine ⟨?_, ?_⟩ <;> omega))) gM_X0_169 gI_yX3_set gS_yX3_set gN_X3 gC_yX3_set (isCr_k cr_49) (σ_cr G n0 _ _ cr_49) rfl dX0_fillFrom_168 hl_yX3_set ⟨Nat.le_of_ble_eq_true rfl, Nat.le_of_ble_eq_true rfl⟩ (Nat.le_of_ble_eq_true rfl) rfl (fun mi7 mr7 h7 => ?_)
              obtain ⟨e9, rfl⟩ := h7
              rw [if_pos ⟨by omega, by omega⟩, Int.toNat_natCast] at e9
              subst e9
              refine w_aload_n X dX0_fillFrom_171 rfl ?_
              refine w_get X (by decide) (σ_44 G n0 _ _) rfl gW_X0 2 (by decide) gF_X0_23 rfl dX0_fillFrom_172 ?_
              refine w_iload_n X dX0_fillFrom_175 rfl ?_
              refine w_iload X dX0_fillFrom_176 rfl ?_
              refine s_callVv X _ (c_X3_set (l := l) (G := G) (n0 := n0) cr_47 (by first | assumption | (refine ⟨?_, ?_⟩ <;> omega))) gM_X0_169 gI_yX3_set gS_yX3_set gN_X3 gC_yX3_set (isCr_k cr_47) (σ_cr G n0 _ _ cr_47) rfl dX0_fillFrom_178 hl_yX3_set ⟨Nat.le_of_ble_eq_true rfl, Nat.le_of_ble_eq_true rfl⟩ (Nat.le_of_ble_eq_true rfl) rfl (fun mi8 mr8 h8 => ?_)
              obtain ⟨e9, rfl⟩ := h8
              rw [if_pos ⟨by omega, by omega⟩, Int.toNat_natCast] at e9
              subst e9
              refine w_iconst X dX0_fillFrom_181 ?_
              refine s_zret X hr dX0_fillFrom_182 (by omega) ?_
              have h0 : ∀ a, ¬ fX a → (up2 (up2 mi' 50 s1 (mi 50 s1)) 48 g (mi 48 g)) a = mi' a := fun a ha => by rw [up2_k _ _ _ _ (fun q => ha (Or.inl q)), up2_k _ _ _ _ (fun q => ha (Or.inr q))]
              have hX : ∀ a, fX a → a < N := fun a ha => by rcases ha with ha | ha <;> omega
              have hE3 : Ef (up2 (up2 mi' 50 s1 (mi 50 s1)) 48 g (mi 48 g)) mr' N = Ef mi' mr' N := Ef_fr hG.1 (fun a ha ha2 => h0 a (fun q => by have := hX a q; omega)) rfl
              have hN3 : (up2 (up2 mi' 50 s1 (mi 50 s1)) 48 g (mi 48 g)) N = mi' N := h0 N (fun q => by have := hX N q; omega)
              refine ⟨Grw_e hG h0 hX, fun v hv2 => ?_, Or.inl rfl, fun j hj => ?_, fun j hj => ?_⟩
              · obtain ⟨n2, q1, q2, q3, q4⟩ := hv2
                rw [hgt] at q2 q3 q4
                rw [hE3, hN3]
                have q5 := hf n2 q1 q3
                by_cases q6 : n2 < n1
                · exact hc n2 q5 q6 v q4
                · first
                  | (exfalso; omega)
                  | exact hw0 (by omega) n2 (by omega) q2 v q4
              · rw [up2_k _ _ _ _ (by decide)]
                by_cases q : j = s1
                · subst q; rw [up2_s]
                · rw [up2_j _ _ _ _ q]; exact hm1 j hj q
              · by_cases q : j = g
                · subst q; rw [up2_s]
                · rw [up2_j _ _ _ _ q, up2_k _ _ _ _ (by decide)]; exact hl1 j hj q
            ·
              refine w_iload X dX0_fillFrom_114 rfl ?_
              refine w_if_eq X 161 dX0_fillFrom_116 (by decide) (fun c116_5 => ?_) (fun c116_5 => ?_)
              ·
                refine w_aload_n X dX0_fillFrom_161 rfl ?_
                refine w_get X (by decide) (σ_44 G n0 _ _) rfl gW_X0 3 (by decide) gF_X0_27 rfl dX0_fillFrom_162 ?_
                refine w_iload_n X dX0_fillFrom_165 rfl ?_
                refine w_iload X dX0_fillFrom_166 rfl ?_
                refine s_callVv X _ (c_X3_set (l := l) (G := G) (n0 := n0) cr_49 (by first | assumption | (refine ⟨?_, ?_⟩ <;> omega))) gM_X0_169 gI_yX3_set gS_yX3_set gN_X3 gC_yX3_set (isCr_k cr_49) (σ_cr G n0 _ _ cr_49) rfl dX0_fillFrom_168 hl_yX3_set ⟨Nat.le_of_ble_eq_true rfl, Nat.le_of_ble_eq_true rfl⟩ (Nat.le_of_ble_eq_true rfl) rfl (fun mi7 mr7 h7 => ?_)
                obtain ⟨e9, rfl⟩ := h7
                rw [if_pos ⟨by omega, by omega⟩, Int.toNat_natCast] at e9
                subst e9
                refine w_aload_n X dX0_fillFrom_171 rfl ?_
                refine w_get X (by decide) (σ_44 G n0 _ _) rfl gW_X0 2 (by decide) gF_X0_23 rfl dX0_fillFrom_172 ?_
                refine w_iload_n X dX0_fillFrom_175 rfl ?_
                refine w_iload X dX0_fillFrom_176 rfl ?_
                refine s_callVv X _ (c_X3_set (l := l) (G := G) (n0 := n0) cr_47 (by first | assumption | (refine ⟨?_, ?_⟩ <;> omega))) gM_X0_169 gI_yX3_set gS_yX3_set gN_X3 gC_yX3_set (isCr_k cr_47) (σ_cr G n0 _ _ cr_47) rfl dX0_fillFrom_178 hl_yX3_set ⟨Nat.le_of_ble_eq_true rfl, Nat.le_of_ble_eq_true rfl⟩ (Nat.le_of_ble_eq_true rfl) rfl (fun mi8 mr8 h8 => ?_)
                obtain ⟨e9, rfl⟩ := h8
                rw [if_pos ⟨by omega, by omega⟩, Int.toNat_natCast] at e9
                subst e9
                refine w_iconst X dX0_fillFrom_181 ?_
                refine s_zret X hr dX0_fillFrom_182 (by omega) ?_
                have h0 : ∀ a, ¬ fX a → (up2 (up2 mi' 50 s1 (mi 50 s1)) 48 g (mi 48 g)) a = mi' a := fun a ha => by rw [up2_k _ _ _ _ (fun q => ha (Or.inl q)), up2_k _ _ _ _ (fun q => ha (Or.inr q))]
                have hX : ∀ a, fX a → a < N := fun a ha => by rcases ha with ha | ha <;> omega
                have hE3 : Ef (up2 (up2 mi' 50 s1 (mi 50 s1)) 48 g (mi 48 g)) mr' N = Ef mi' mr' N := Ef_fr hG.1 (fun a ha ha2 => h0 a (fun q => by have := hX a q; omega)) rfl
                have hN3 : (up2 (up2 mi' 50 s1 (mi 50 s1)) 48 g (mi 48 g)) N = mi' N := h0 N (fun q => by have := hX N q; omega)
                refine ⟨Grw_e hG h0 hX, fun v hv2 => ?_, Or.inl rfl, fun j hj => ?_, fun j hj => ?_⟩
                · obtain ⟨n2, q1, q2, q3, q4⟩ := hv2
                  rw [hgt] at q2 q3 q4
                  rw [hE3, hN3]
                  have q5 := hf n2 q1 q3
                  by_cases q6 : n2 < n1
                  · exact hc n2 q5 q6 v q4
                  · first
                    | (exfalso; omega)
                    | exact hw0 (by omega) n2 (by omega) q2 v q4
                · rw [up2_k _ _ _ _ (by decide)]
                  by_cases q : j = s1
                  · subst q; rw [up2_s]
                  · rw [up2_j _ _ _ _ q]; exact hm1 j hj q
                · by_cases q : j = g
                  · subst q; rw [up2_s]
                  · rw [up2_j _ _ _ _ q, up2_k _ _ _ _ (by decide)]; exact hl1 j hj q
              ·
                refine w_aload_n X dX0_fillFrom_119 rfl ?_
                refine w_get X (by decide) (σ_44 G n0 _ _) rfl gW_X0 3 (by decide) gF_X0_27 rfl dX0_fillFrom_120 ?_
                refine w_iload_n X dX0_fillFrom_123 rfl ?_
                refine w_iload X dX0_fillFrom_124 rfl ?_
                refine w_iload X dX0_fillFrom_126 rfl ?_
                refine w_iadd X dX0_fillFrom_128 ?_
                refine s_callVv X _ (c_X3_set (l := l) (G := G) (n0 := n0) cr_49 (by first | assumption | (refine ⟨?_, ?_⟩ <;> omega))) gM_X0_169 gI_yX3_set gS_yX3_set gN_X3 gC_yX3_set (isCr_k cr_49) (σ_cr G n0 _ _ cr_49) rfl dX0_fillFrom_129 hl_yX3_set ⟨Nat.le_of_ble_eq_true rfl, Nat.le_of_ble_eq_true rfl⟩ (Nat.le_of_ble_eq_true rfl) rfl (fun mi7 mr7 h7 => ?_)
                obtain ⟨e9, rfl⟩ := h7
                rw [if_pos ⟨by omega, by omega⟩, Int.toNat_natCast] at e9
                subst e9
                refine w_aload_n X dX0_fillFrom_132 rfl ?_
                refine w_get X (by decide) (σ_44 G n0 _ _) rfl gW_X0 2 (by decide) gF_X0_23 rfl dX0_fillFrom_133 ?_
                refine w_iload_n X dX0_fillFrom_136 rfl ?_
                refine w_iload X dX0_fillFrom_137 rfl ?_
                refine w_iload X dX0_fillFrom_139 rfl ?_
                refine w_isub X dX0_fillFrom_141 ?_
                refine s_callVv X _ (c_X3_set (l := l) (G := G) (n0 := n0) cr_47 (by first | assumption | (refine ⟨?_, ?_⟩ <;> omega))) gM_X0_169 gI_yX3_set gS_yX3_set gN_X3 gC_yX3_set (isCr_k cr_47) (σ_cr G n0 _ _ cr_47) rfl dX0_fillFrom_142 hl_yX3_set ⟨Nat.le_of_ble_eq_true rfl, Nat.le_of_ble_eq_true rfl⟩ (Nat.le_of_ble_eq_true rfl) rfl (fun mi8 mr8 h8 => ?_)
                obtain ⟨e9, rfl⟩ := h8
                rw [if_pos ⟨by omega, by omega⟩, Int.toNat_natCast] at e9
                subst e9
                have hfr2 : ∀ a, a ≠ 48 → a ≠ 50 → (up2 (up2 mi' 50 s1 (mi 50 s1 + n1)) 48 g (mi 48 g - n1)) a = mi' a := fun a h48 h50 => by rw [up2_k _ _ _ _ h48, up2_k _ _ _ _ h50]
                have hlt : (mi 48 g + 1 - (n1 + 1)).toNat < n := by omega
                have hn2 : 0 ≤ n1 + 1 ∧ n1 + 1 ≤ mi 48 g + 1 := by omega
                have h250 : ∀ j : Nat, j < 5 → (up2 (up2 mi' 50 s1 (mi 50 s1 + n1)) 48 g (mi 48 g - n1)) 50 j = addA (mi 50) s1 n1 j := by
                  intro j hj
                  rw [up2_k _ _ _ _ (by decide)]
                  unfold addA
                  by_cases q : j = s1
                  · subst q; rw [up2_s, if_pos rfl]
                  · rw [up2_j _ _ _ _ q, if_neg q]; exact hm1 j hj q
                have h248 : ∀ j : Nat, j < 5 → (up2 (up2 mi' 50 s1 (mi 50 s1 + n1)) 48 g (mi 48 g - n1)) 48 j = addA (mi 48) g (-n1) j := by
                  intro j hj
                  unfold addA
                  by_cases q : j = g
                  · subst q; rw [up2_s, if_pos rfl]; omega
                  · rw [up2_j _ _ _ _ q, up2_k _ _ _ _ (by decide), if_neg q]; exact hl1 j hj q
                have hk2 : (up2 (up2 mi' 50 s1 (mi 50 s1 + n1)) 48 g (mi 48 g - n1)) k = mi k := by rw [hfr2 k (by omega) (by omega)]; exact hm' k (by omega) (by omega) (by omega)
                have hk12 : (up2 (up2 mi' 50 s1 (mi 50 s1 + n1)) 48 g (mi 48 g - n1)) 1 = mi 1 := by rw [hfr2 1 (by decide) (by decide)]; exact hm' 1 (by omega) (by decide) (by decide)
                have hL2 : LW (up2 (up2 mi' 50 s1 (mi 50 s1 + n1)) 48 g (mi 48 g - n1)) := LW_fr hL (fun a ha ha2 ha3 => by rw [hfr2 a (by omega) (by omega)]; exact hm' a (by omega) (by omega) (by omega))
                have hv2 : RV ((up2 (up2 mi' 50 s1 (mi 50 s1 + n1)) 48 g (mi 48 g - n1)) 1 3) (up2 (up2 mi' 50 s1 (mi 50 s1 + n1)) 48 g (mi 48 g - n1)) k := by rw [hk12]; exact RV_fr hv hk2 (by rw [hfr2 _ (by omega) (by omega)]; exact hm' _ (by omega) (by omega) (by omega))
                have hB2 : BO (up2 (up2 mi' 50 s1 (mi 50 s1 + n1)) 48 g (mi 48 g - n1)) mr' N := BO_fr hG.1 (fun a ha ha2 => hfr2 a (by omega) (by omega)) rfl
                have hE2 : Ef (up2 (up2 mi' 50 s1 (mi 50 s1 + n1)) 48 g (mi 48 g - n1)) mr' N = Ef mi' mr' N := Ef_fr hG.1 (fun a ha ha2 => hfr2 a (by omega) (by omega)) rfl
                have hS2 : Srt (Ef (up2 (up2 mi' 50 s1 (mi 50 s1 + n1)) 48 g (mi 48 g - n1)) mr' N) := by rw [hE2]; exact hG.2.1
                have hF2 : FCo (up2 (up2 mi' 50 s1 (mi 50 s1 + n1)) 48 g (mi 48 g - n1)) mr' N := FCo_fr hG.1 (fun a ha ha2 => hfr2 a (by omega) (by omega)) rfl hG.2.2.1
                have hml2 : ∀ j : Nat, j < 5 → 0 ≤ (up2 (up2 mi' 50 s1 (mi 50 s1 + n1)) 48 g (mi 48 g - n1)) 50 j ∧ 0 ≤ (up2 (up2 mi' 50 s1 (mi 50 s1 + n1)) 48 g (mi 48 g - n1)) 48 j := by
                  intro j hj
                  have q1 := hml j hj
                  rw [h250 j hj, h248 j hj]
                  unfold addA
                  refine ⟨?_, ?_⟩
                  · split <;> omega
                  · split <;> omega
                have hsum2 : ∀ j : Nat, j < 5 → (up2 (up2 mi' 50 s1 (mi 50 s1 + n1)) 48 g (mi 48 g - n1)) 50 j + sum5 ((up2 (up2 mi' 50 s1 (mi 50 s1 + n1)) 48 g (mi 48 g - n1)) 48) ≤ 900 := by
                  intro j hj
                  have q1 := hsum j hj
                  rw [h250 j hj, sum5_c h248, sum5_addA hg5]
                  unfold addA
                  split <;> omega
                generalize (up2 (up2 mi' 50 s1 (mi 50 s1 + n1)) 48 g (mi 48 g - n1)) = m2 at hfr2 h250 h248 hk2 hk12 hL2 hv2 hB2 hE2 hS2 hF2 hml2 hsum2 ⊢
                refine w_aload_n X dX0_fillFrom_145 rfl ?_
                refine w_aload_n X dX0_fillFrom_146 rfl ?_
                refine w_iload_n X dX0_fillFrom_147 rfl ?_
                refine w_iconst X dX0_fillFrom_148 ?_
                refine w_iadd X dX0_fillFrom_149 ?_
                refine s_callVi X _ (c_X0_fillFrom_0 (l := l) (G := G) (n0 := n0) hAN hA' hN' hL2 hk hv2 hB2 hS2 hF2 hml2 hsum2 (s1 := s1 + 1) (by rw [hk12]; omega)) gM_X0_141 gI_yX0_fillFrom gS_yX0_fillFrom gN_X0 gC_yX0_fillFrom (by decide) (σ_44 G n0 _ _) rfl dX0_fillFrom_150 hl_yX0_fillFrom ⟨Nat.le_of_ble_eq_true rfl, Nat.le_of_ble_eq_true rfl⟩ (Nat.le_of_ble_eq_true rfl) rfl (fun r9 mi9 mr9 h9 => ?_)
                obtain ⟨hG2, hcov, hr9, hk50, hk48⟩ := h9
                rw [hk12, hk2] at hG2 hcov
                have hCpE : ∀ v, Cp (mi 1 3) (mi k) 0 (s1 + 1) (m2 50) (m2 48) v → Cp (mi 1 3) (mi k) 0 (s1 + 1) (addA (mi 50) s1 n1) (addA (mi 48) g (-n1)) v := fun v q => Cp_c hvg 0 (s1 + 1) (by omega) h250 h248 q
                have hCp : ∀ v, Cp (mi 1 3) (mi k) 0 (s1 + 1) (addA (mi 50) s1 n1) (addA (mi 48) g (-n1)) v → Cp (mi 1 3) (mi k) 0 (s1 + 1) (m2 50) (m2 48) v := fun v q => Cp_c hvg 0 (s1 + 1) (by omega) (fun j hj => (h250 j hj).symm) (fun j hj => (h248 j hj).symm) q
                have hT5 : T5 (m2 50) = T5 (addA (mi 50) s1 n1) := T5_c h250
                have hG3 : Grw fX mi' mi9 mr' mr9 N (fun y : V5 × Int => y.2 = 1 ∧ Cp (mi 1 3) (mi k) 1 s1 (mi 50) (mi 48) y.1) := Grw_l hG.1 (Grw_w hG2 (fun _ q => q) (fun y q => ⟨q.1, n1, by omega, by rw [hgt]; omega, fun q2 => by rw [hgt]; have := hf2 q2; omega, by rw [hgt]; exact hCpE _ q.2⟩)) (fun a ha => hfr2 a (fun q => ha (Or.inl q)) (fun q => ha (Or.inr q))) (fun a ha => by rcases ha with ha | ha <;> omega)
                refine w_ist9_7 X dX0_fillFrom_153 ?_
                refine w_iinc9_8 X dX0_fillFrom_155 ?_
                refine w_goto X 107 dX0_fillFrom_158 (by decide) ?_
                have hw9 : r9 = 0 ∨ r9 = 1 := by rcases hr9 with q | q; exact Or.inr q; exact Or.inl q.1
                have hcn : ∀ y, y ∈ Ef mi' mr' N → y ∈ Ef mi9 mr9 N := hG3.2.2.2.1
                have hcc : mi' N 2 ≤ mi9 N 2 := hG3.2.2.2.2.2.2.2
                exact ih_loop _ hlt mi9 mr9 (n1 + 1) r9 hn2 hw9 (Grw_t hG hG3) (fun j hj hjs => by rw [hk50 j hj, h250 j hj]; exact if_neg hjs) (fun j hj hjg => by rw [hk48 j hj, h248 j hj]; exact if_neg hjg)
                  (fun n2 q1 q2 v hv2 => by
                    by_cases q : n2 < n1
                    · rcases hc n2 q1 q v hv2 with ⟨y, hy, hy2⟩ | q3
                      · exact Or.inl ⟨y, hcn y hy, hy2⟩
                      · right; omega
                    · have e : n2 = n1 := by omega
                      subst e
                      exact hcov v (hCp v hv2))
                  (fun q n2 q1 q2 v hv2 => by
                    rcases hr9 with q3 | ⟨-, q3⟩
                    · omega
                    · rcases q3 with ⟨y, hy, hy2⟩ | q4
                      · rw [hT5] at hy2
                        exact Or.inl ⟨y, hy, gv_t (gv_t (Cp_ge _ _ hv2) (gv_add (by omega))) hy2⟩
                      · exact Or.inr q4) rfl
        exact loop _ mi mr 0 1 (by omega) (Or.inr rfl) (Grw_r hBN hSN hFN) (fun j hj h9 => rfl) (fun j hj h9 => rfl) (fun n1 q1 q2 => absurd q1 (by omega)) (fun q => absurd q (by decide)) rfl
      ·
        have hla : lastG (mi 1 3) (mi k) s1 := by rcases h5 with ⟨-, q⟩ | ⟨q, -⟩; exact q; exact absurd q (by assumption)
        have hf : ∀ n1 : Int, 0 ≤ n1 → (lastG (mi 1 3) (mi k) s1 → n1 = mi 48 g) → mi 48 g ≤ n1 := fun n1 _ q => by have := q hla; omega
        have hf2 : lastG (mi 1 3) (mi k) s1 → mi 48 g = mi 48 g := fun _ => rfl
        clear h5
        refine w_iload X dX0_fillFrom_82 rfl ?_
        refine w_goto X 88 dX0_fillFrom_84 (by decide) ?_
        refine w_ist9_5 X dX0_fillFrom_88 ?_
        refine w_aload_n X dX0_fillFrom_90 rfl ?_
        refine w_get X (by decide) (σ_44 G n0 _ _) rfl gW_X0 3 (by decide) gF_X0_27 rfl dX0_fillFrom_91 ?_
        refine w_iload_n X dX0_fillFrom_94 rfl ?_
        refine s_callVi X _ (c_X3_of (l := l) (G := G) (n0 := n0) cr_49 (by first | assumption | (refine ⟨?_, ?_⟩ <;> omega))) gM_X0_163 gI_yX3_of gS_yX3_of gN_X3 gC_yX3_of (isCr_k cr_49) (σ_cr G n0 _ _ cr_49) rfl dX0_fillFrom_95 hl_yX3_of ⟨Nat.le_of_ble_eq_true rfl, Nat.le_of_ble_eq_true rfl⟩ (Nat.le_of_ble_eq_true rfl) rfl (fun r6 mi6 mr6 h6 => ?_)
        obtain ⟨rfl, rfl, h6⟩ := h6
        rw [if_pos ⟨by omega, by omega⟩, Int.toNat_natCast] at h6
        subst h6
        refine w_ist9_6 X dX0_fillFrom_98 ?_
        refine w_iconst X dX0_fillFrom_100 ?_
        refine w_ist9_7 X dX0_fillFrom_101 ?_
        refine w_iload X dX0_fillFrom_103 rfl ?_
        refine w_ist9_8 X dX0_fillFrom_105 ?_
        have loop : ∀ (n : Nat) (mi' : Nat → Nat → Int) (mr' : Nat → Nat → Nat) (n1 w1 : Int), ((mi 48 g) ≤ n1 ∧ n1 ≤ mi 48 g + 1) → (w1 = 0 ∨ w1 = 1) → (Grw fX mi mi' mr mr' N (fun y : V5 × Int => y.2 = 1 ∧ Cp (mi 1 3) (mi k) 1 s1 (mi 50) (mi 48) y.1)) → (∀ j : Nat, j < 5 → j ≠ s1 → mi' 50 j = mi 50 j) → (∀ j : Nat, j < 5 → j ≠ g → mi' 48 j = mi 48 j) → (∀ n2 : Int, (mi 48 g) ≤ n2 → n2 < n1 → ∀ v, Cp (mi 1 3) (mi k) 0 (s1 + 1) (addA (mi 50) s1 n2) (addA (mi 48) g (-n2)) v → (∃ y ∈ Ef mi' mr' N, gv v y.1) ∨ 100 < mi' N 2) → (w1 = 0 → ∀ n2 : Int, n1 ≤ n2 → n2 ≤ mi 48 g → ∀ v, Cp (mi 1 3) (mi k) 0 (s1 + 1) (addA (mi 50) s1 n2) (addA (mi 48) g (-n2)) v → (∃ y ∈ Ef mi' mr' N, gv v y.1) ∨ 100 < mi' N 2) → n = (mi 48 g + 1 - n1).toNat → WSi p l e s m args below meth c9 5 (fun r9 mi9 mr9 => Fil mi mi9 mr mr9 N k 1 s1 r9) G n0 9 mi' mr' 107 [some (.ref (n0 + 44)), some (.ref (n0 + k)), some (.int (jI (s1 : Int))), some (.int (jI (g : Int))), some (.int (jI (mi 48 g))), some (.int (jI ((mi 48 g)))), some (.int (jI (mi 50 s1))), some (.int (jI w1)), some (.int (jI n1))] [] := by
          intro n
          induction n using Nat.strongRecOn with
          | ind n ih_loop =>
            intro mi' mr' n1 w1 hn hw hG hm1 hl1 hc hw0 hn
            have hm' : ∀ a, a < N ∨ N + 205 ≤ a → a ≠ 48 → a ≠ 50 → mi' a = mi a := fun a ha h48 h50 => hG.2.2.2.2.2.1 a ha (fun q => by rcases q with q | q; exact h48 q; exact h50 q)
            have hr' : ∀ a, a ≠ N + 1 → mr' a = mr a := hG.2.2.2.2.2.2.1
            have hA' : mr' 44 4 = A := by rw [hr' 44 (by omega)]; exact hA
            have hN' : mr' 44 5 = N := by rw [hr' 44 (by omega)]; exact hN
            refine w_iload X dX0_fillFrom_107 rfl ?_
            refine w_iload X dX0_fillFrom_109 rfl ?_
            refine w_icmp_gt X 161 dX0_fillFrom_111 (by decide) (fun c111_6 => ?_) (fun c111_6 => ?_)
            ·
              refine w_aload_n X dX0_fillFrom_161 rfl ?_
              refine w_get X (by decide) (σ_44 G n0 _ _) rfl gW_X0 3 (by decide) gF_X0_27 rfl dX0_fillFrom_162 ?_
              refine w_iload_n X dX0_fillFrom_165 rfl ?_
              refine w_iload X dX0_fillFrom_166 rfl ?_
              refine s_callVv X _ (c_X3_set (l := l) (G := G) (n0 := n0) cr_49 (by first | assumption | (refine ⟨?_, ?_⟩ <;> omega))) gM_X0_169 gI_yX3_set gS_yX3_set gN_X3 gC_yX3_set (isCr_k cr_49) (σ_cr G n0 _ _ cr_49) rfl dX0_fillFrom_168 hl_yX3_set ⟨Nat.le_of_ble_eq_true rfl, Nat.le_of_ble_eq_true rfl⟩ (Nat.le_of_ble_eq_true rfl) rfl (fun mi7 mr7 h7 => ?_)
              obtain ⟨e9, rfl⟩ := h7
              rw [if_pos ⟨by omega, by omega⟩, Int.toNat_natCast] at e9
              subst e9
              refine w_aload_n X dX0_fillFrom_171 rfl ?_
              refine w_get X (by decide) (σ_44 G n0 _ _) rfl gW_X0 2 (by decide) gF_X0_23 rfl dX0_fillFrom_172 ?_
              refine w_iload_n X dX0_fillFrom_175 rfl ?_
              refine w_iload X dX0_fillFrom_176 rfl ?_
              refine s_callVv X _ (c_X3_set (l := l) (G := G) (n0 := n0) cr_47 (by first | assumption | (refine ⟨?_, ?_⟩ <;> omega))) gM_X0_169 gI_yX3_set gS_yX3_set gN_X3 gC_yX3_set (isCr_k cr_47) (σ_cr G n0 _ _ cr_47) rfl dX0_fillFrom_178 hl_yX3_set ⟨Nat.le_of_ble_eq_true rfl, Nat.le_of_ble_eq_true rfl⟩ (Nat.le_of_ble_eq_true rfl) rfl (fun mi8 mr8 h8 => ?_)
              obtain ⟨e9, rfl⟩ := h8
              rw [if_pos ⟨by omega, by omega⟩, Int.toNat_natCast] at e9
              subst e9
              refine w_iconst X dX0_fillFrom_181 ?_
              refine s_zret X hr dX0_fillFrom_182 (by omega) ?_
              have h0 : ∀ a, ¬ fX a → (up2 (up2 mi' 50 s1 (mi 50 s1)) 48 g (mi 48 g)) a = mi' a := fun a ha => by rw [up2_k _ _ _ _ (fun q => ha (Or.inl q)), up2_k _ _ _ _ (fun q => ha (Or.inr q))]
              have hX : ∀ a, fX a → a < N := fun a ha => by rcases ha with ha | ha <;> omega
              have hE3 : Ef (up2 (up2 mi' 50 s1 (mi 50 s1)) 48 g (mi 48 g)) mr' N = Ef mi' mr' N := Ef_fr hG.1 (fun a ha ha2 => h0 a (fun q => by have := hX a q; omega)) rfl
              have hN3 : (up2 (up2 mi' 50 s1 (mi 50 s1)) 48 g (mi 48 g)) N = mi' N := h0 N (fun q => by have := hX N q; omega)
              refine ⟨Grw_e hG h0 hX, fun v hv2 => ?_, Or.inl rfl, fun j hj => ?_, fun j hj => ?_⟩
              · obtain ⟨n2, q1, q2, q3, q4⟩ := hv2
                rw [hgt] at q2 q3 q4
                rw [hE3, hN3]
                have q5 := hf n2 q1 q3
                by_cases q6 : n2 < n1
                · exact hc n2 q5 q6 v q4
                · first
                  | (exfalso; omega)
                  | exact hw0 (by omega) n2 (by omega) q2 v q4
              · rw [up2_k _ _ _ _ (by decide)]
                by_cases q : j = s1
                · subst q; rw [up2_s]
                · rw [up2_j _ _ _ _ q]; exact hm1 j hj q
              · by_cases q : j = g
                · subst q; rw [up2_s]
                · rw [up2_j _ _ _ _ q, up2_k _ _ _ _ (by decide)]; exact hl1 j hj q
            ·
              refine w_iload X dX0_fillFrom_114 rfl ?_
              refine w_if_eq X 161 dX0_fillFrom_116 (by decide) (fun c116_7 => ?_) (fun c116_7 => ?_)
              ·
                refine w_aload_n X dX0_fillFrom_161 rfl ?_
                refine w_get X (by decide) (σ_44 G n0 _ _) rfl gW_X0 3 (by decide) gF_X0_27 rfl dX0_fillFrom_162 ?_
                refine w_iload_n X dX0_fillFrom_165 rfl ?_
                refine w_iload X dX0_fillFrom_166 rfl ?_
                refine s_callVv X _ (c_X3_set (l := l) (G := G) (n0 := n0) cr_49 (by first | assumption | (refine ⟨?_, ?_⟩ <;> omega))) gM_X0_169 gI_yX3_set gS_yX3_set gN_X3 gC_yX3_set (isCr_k cr_49) (σ_cr G n0 _ _ cr_49) rfl dX0_fillFrom_168 hl_yX3_set ⟨Nat.le_of_ble_eq_true rfl, Nat.le_of_ble_eq_true rfl⟩ (Nat.le_of_ble_eq_true rfl) rfl (fun mi7 mr7 h7 => ?_)
                obtain ⟨e9, rfl⟩ := h7
                rw [if_pos ⟨by omega, by omega⟩, Int.toNat_natCast] at e9
                subst e9
                refine w_aload_n X dX0_fillFrom_171 rfl ?_
                refine w_get X (by decide) (σ_44 G n0 _ _) rfl gW_X0 2 (by decide) gF_X0_23 rfl dX0_fillFrom_172 ?_
                refine w_iload_n X dX0_fillFrom_175 rfl ?_
                refine w_iload X dX0_fillFrom_176 rfl ?_
                refine s_callVv X _ (c_X3_set (l := l) (G := G) (n0 := n0) cr_47 (by first | assumption | (refine ⟨?_, ?_⟩ <;> omega))) gM_X0_169 gI_yX3_set gS_yX3_set gN_X3 gC_yX3_set (isCr_k cr_47) (σ_cr G n0 _ _ cr_47) rfl dX0_fillFrom_178 hl_yX3_set ⟨Nat.le_of_ble_eq_true rfl, Nat.le_of_ble_eq_true rfl⟩ (Nat.le_of_ble_eq_true rfl) rfl (fun mi8 mr8 h8 => ?_)
                obtain ⟨e9, rfl⟩ := h8
                rw [if_pos ⟨by omega, by omega⟩, Int.toNat_natCast] at e9
                subst e9
                refine w_iconst X dX0_fillFrom_181 ?_
                refine s_zret X hr dX0_fillFrom_182 (by omega) ?_
                have h0 : ∀ a, ¬ fX a → (up2 (up2 mi' 50 s1 (mi 50 s1)) 48 g (mi 48 g)) a = mi' a := fun a ha => by rw [up2_k _ _ _ _ (fun q => ha (Or.inl q)), up2_k _ _ _ _ (fun q => ha (Or.inr q))]
                have hX : ∀ a, fX a → a < N := fun a ha => by rcases ha with ha | ha <;> omega
                have hE3 : Ef (up2 (up2 mi' 50 s1 (mi 50 s1)) 48 g (mi 48 g)) mr' N = Ef mi' mr' N := Ef_fr hG.1 (fun a ha ha2 => h0 a (fun q => by have := hX a q; omega)) rfl
                have hN3 : (up2 (up2 mi' 50 s1 (mi 50 s1)) 48 g (mi 48 g)) N = mi' N := h0 N (fun q => by have := hX N q; omega)
                refine ⟨Grw_e hG h0 hX, fun v hv2 => ?_, Or.inl rfl, fun j hj => ?_, fun j hj => ?_⟩
                · obtain ⟨n2, q1, q2, q3, q4⟩ := hv2
                  rw [hgt] at q2 q3 q4
                  rw [hE3, hN3]
                  have q5 := hf n2 q1 q3
                  by_cases q6 : n2 < n1
                  · exact hc n2 q5 q6 v q4
                  · first
                    | (exfalso; omega)
                    | exact hw0 (by omega) n2 (by omega) q2 v q4
                · rw [up2_k _ _ _ _ (by decide)]
                  by_cases q : j = s1
                  · subst q; rw [up2_s]
                  · rw [up2_j _ _ _ _ q]; exact hm1 j hj q
                · by_cases q : j = g
                  · subst q; rw [up2_s]
                  · rw [up2_j _ _ _ _ q, up2_k _ _ _ _ (by decide)]; exact hl1 j hj q
              ·
                refine w_aload_n X dX0_fillFrom_119 rfl ?_
                refine w_get X (by decide) (σ_44 G n0 _ _) rfl gW_X0 3 (by decide) gF_X0_27 rfl dX0_fillFrom_120 ?_
                refine w_iload_n X dX0_fillFrom_123 rfl ?_
                refine w_iload X dX0_fillFrom_124 rfl ?_
                refine w_iload X dX0_fillFrom_126 rfl ?_
                refine w_iadd X dX0_fillFrom_128 ?_
                refine s_callVv X _ (c_X3_set (l := l) (G := G) (n0 := n0) cr_49 (by first | assumption | (refine ⟨?_, ?_⟩ <;> omega))) gM_X0_169 gI_yX3_set gS_yX3_set gN_X3 gC_yX3_set (isCr_k cr_49) (σ_cr G n0 _ _ cr_49) rfl dX0_fillFrom_129 hl_yX3_set ⟨Nat.le_of_ble_eq_true rfl, Nat.le_of_ble_eq_true rfl⟩ (Nat.le_of_ble_eq_true rfl) rfl (fun mi7 mr7 h7 => ?_)
                obtain ⟨e9, rfl⟩ := h7
                rw [if_pos ⟨by omega, by omega⟩, Int.toNat_natCast] at e9
                subst e9
                refine w_aload_n X dX0_fillFrom_132 rfl ?_
                refine w_get X (by decide) (σ_44 G n0 _ _) rfl gW_X0 2 (by decide) gF_X0_23 rfl dX0_fillFrom_133 ?_
                refine w_iload_n X dX0_fillFrom_136 rfl ?_
                refine w_iload X dX0_fillFrom_137 rfl ?_
                refine w_iload X dX0_fillFrom_139 rfl ?_
                refine w_isub X dX0_fillFrom_141 ?_
                refine s_callVv X _ (c_X3_set (l := l) (G := G) (n0 := n0) cr_47 (by first | assumption | (refine ⟨?_, ?_⟩ <;> omega))) gM_X0_169 gI_yX3_set gS_yX3_set gN_X3 gC_yX3_set (isCr_k cr_47) (σ_cr G n0 _ _ cr_47) rfl dX0_fillFrom_142 hl_yX3_set ⟨Nat.le_of_ble_eq_true rfl, Nat.le_of_ble_eq_true rfl⟩ (Nat.le_of_ble_eq_true rfl) rfl (fun mi8 mr8 h8 => ?_)
                obtain ⟨e9, rfl⟩ := h8
                rw [if_pos ⟨by omega, by omega⟩, Int.toNat_natCast] at e9
                subst e9
                have hfr2 : ∀ a, a ≠ 48 → a ≠ 50 → (up2 (up2 mi' 50 s1 (mi 50 s1 + n1)) 48 g (mi 48 g - n1)) a = mi' a := fun a h48 h50 => by rw [up2_k _ _ _ _ h48, up2_k _ _ _ _ h50]
                have hlt : (mi 48 g + 1 - (n1 + 1)).toNat < n := by omega
                have hn2 : (mi 48 g) ≤ n1 + 1 ∧ n1 + 1 ≤ mi 48 g + 1 := by omega
                have h250 : ∀ j : Nat, j < 5 → (up2 (up2 mi' 50 s1 (mi 50 s1 + n1)) 48 g (mi 48 g - n1)) 50 j = addA (mi 50) s1 n1 j := by
                  intro j hj
                  rw [up2_k _ _ _ _ (by decide)]
                  unfold addA
                  by_cases q : j = s1
                  · subst q; rw [up2_s, if_pos rfl]
                  · rw [up2_j _ _ _ _ q, if_neg q]; exact hm1 j hj q
                have h248 : ∀ j : Nat, j < 5 → (up2 (up2 mi' 50 s1 (mi 50 s1 + n1)) 48 g (mi 48 g - n1)) 48 j = addA (mi 48) g (-n1) j := by
                  intro j hj
                  unfold addA
                  by_cases q : j = g
                  · subst q; rw [up2_s, if_pos rfl]; omega
                  · rw [up2_j _ _ _ _ q, up2_k _ _ _ _ (by decide), if_neg q]; exact hl1 j hj q
                have hk2 : (up2 (up2 mi' 50 s1 (mi 50 s1 + n1)) 48 g (mi 48 g - n1)) k = mi k := by rw [hfr2 k (by omega) (by omega)]; exact hm' k (by omega) (by omega) (by omega)
                have hk12 : (up2 (up2 mi' 50 s1 (mi 50 s1 + n1)) 48 g (mi 48 g - n1)) 1 = mi 1 := by rw [hfr2 1 (by decide) (by decide)]; exact hm' 1 (by omega) (by decide) (by decide)
                have hL2 : LW (up2 (up2 mi' 50 s1 (mi 50 s1 + n1)) 48 g (mi 48 g - n1)) := LW_fr hL (fun a ha ha2 ha3 => by rw [hfr2 a (by omega) (by omega)]; exact hm' a (by omega) (by omega) (by omega))
                have hv2 : RV ((up2 (up2 mi' 50 s1 (mi 50 s1 + n1)) 48 g (mi 48 g - n1)) 1 3) (up2 (up2 mi' 50 s1 (mi 50 s1 + n1)) 48 g (mi 48 g - n1)) k := by rw [hk12]; exact RV_fr hv hk2 (by rw [hfr2 _ (by omega) (by omega)]; exact hm' _ (by omega) (by omega) (by omega))
                have hB2 : BO (up2 (up2 mi' 50 s1 (mi 50 s1 + n1)) 48 g (mi 48 g - n1)) mr' N := BO_fr hG.1 (fun a ha ha2 => hfr2 a (by omega) (by omega)) rfl
                have hE2 : Ef (up2 (up2 mi' 50 s1 (mi 50 s1 + n1)) 48 g (mi 48 g - n1)) mr' N = Ef mi' mr' N := Ef_fr hG.1 (fun a ha ha2 => hfr2 a (by omega) (by omega)) rfl
                have hS2 : Srt (Ef (up2 (up2 mi' 50 s1 (mi 50 s1 + n1)) 48 g (mi 48 g - n1)) mr' N) := by rw [hE2]; exact hG.2.1
                have hF2 : FCo (up2 (up2 mi' 50 s1 (mi 50 s1 + n1)) 48 g (mi 48 g - n1)) mr' N := FCo_fr hG.1 (fun a ha ha2 => hfr2 a (by omega) (by omega)) rfl hG.2.2.1
                have hml2 : ∀ j : Nat, j < 5 → 0 ≤ (up2 (up2 mi' 50 s1 (mi 50 s1 + n1)) 48 g (mi 48 g - n1)) 50 j ∧ 0 ≤ (up2 (up2 mi' 50 s1 (mi 50 s1 + n1)) 48 g (mi 48 g - n1)) 48 j := by
                  intro j hj
                  have q1 := hml j hj
                  rw [h250 j hj, h248 j hj]
                  unfold addA
                  refine ⟨?_, ?_⟩
                  · split <;> omega
                  · split <;> omega
                have hsum2 : ∀ j : Nat, j < 5 → (up2 (up2 mi' 50 s1 (mi 50 s1 + n1)) 48 g (mi 48 g - n1)) 50 j + sum5 ((up2 (up2 mi' 50 s1 (mi 50 s1 + n1)) 48 g (mi 48 g - n1)) 48) ≤ 900 := by
                  intro j hj
                  have q1 := hsum j hj
                  rw [h250 j hj, sum5_c h248, sum5_addA hg5]
                  unfold addA
                  split <;> omega
                generalize (up2 (up2 mi' 50 s1 (mi 50 s1 + n1)) 48 g (mi 48 g - n1)) = m2 at hfr2 h250 h248 hk2 hk12 hL2 hv2 hB2 hE2 hS2 hF2 hml2 hsum2 ⊢
                refine w_aload_n X dX0_fillFrom_145 rfl ?_
                refine w_aload_n X dX0_fillFrom_146 rfl ?_
                refine w_iload_n X dX0_fillFrom_147 rfl ?_
                refine w_iconst X dX0_fillFrom_148 ?_
                refine w_iadd X dX0_fillFrom_149 ?_
                refine s_callVi X _ (c_X0_fillFrom_0 (l := l) (G := G) (n0 := n0) hAN hA' hN' hL2 hk hv2 hB2 hS2 hF2 hml2 hsum2 (s1 := s1 + 1) (by rw [hk12]; omega)) gM_X0_141 gI_yX0_fillFrom gS_yX0_fillFrom gN_X0 gC_yX0_fillFrom (by decide) (σ_44 G n0 _ _) rfl dX0_fillFrom_150 hl_yX0_fillFrom ⟨Nat.le_of_ble_eq_true rfl, Nat.le_of_ble_eq_true rfl⟩ (Nat.le_of_ble_eq_true rfl) rfl (fun r9 mi9 mr9 h9 => ?_)
                obtain ⟨hG2, hcov, hr9, hk50, hk48⟩ := h9
                rw [hk12, hk2] at hG2 hcov
                have hCpE : ∀ v, Cp (mi 1 3) (mi k) 0 (s1 + 1) (m2 50) (m2 48) v → Cp (mi 1 3) (mi k) 0 (s1 + 1) (addA (mi 50) s1 n1) (addA (mi 48) g (-n1)) v := fun v q => Cp_c hvg 0 (s1 + 1) (by omega) h250 h248 q
                have hCp : ∀ v, Cp (mi 1 3) (mi k) 0 (s1 + 1) (addA (mi 50) s1 n1) (addA (mi 48) g (-n1)) v → Cp (mi 1 3) (mi k) 0 (s1 + 1) (m2 50) (m2 48) v := fun v q => Cp_c hvg 0 (s1 + 1) (by omega) (fun j hj => (h250 j hj).symm) (fun j hj => (h248 j hj).symm) q
                have hT5 : T5 (m2 50) = T5 (addA (mi 50) s1 n1) := T5_c h250
                have hG3 : Grw fX mi' mi9 mr' mr9 N (fun y : V5 × Int => y.2 = 1 ∧ Cp (mi 1 3) (mi k) 1 s1 (mi 50) (mi 48) y.1) := Grw_l hG.1 (Grw_w hG2 (fun _ q => q) (fun y q => ⟨q.1, n1, by omega, by rw [hgt]; omega, fun q2 => by rw [hgt]; have := hf2 q2; omega, by rw [hgt]; exact hCpE _ q.2⟩)) (fun a ha => hfr2 a (fun q => ha (Or.inl q)) (fun q => ha (Or.inr q))) (fun a ha => by rcases ha with ha | ha <;> omega)
                refine w_ist9_7 X dX0_fillFrom_153 ?_
                refine w_iinc9_8 X dX0_fillFrom_155 ?_
                refine w_goto X 107 dX0_fillFrom_158 (by decide) ?_
                have hw9 : r9 = 0 ∨ r9 = 1 := by rcases hr9 with q | q; exact Or.inr q; exact Or.inl q.1
                have hcn : ∀ y, y ∈ Ef mi' mr' N → y ∈ Ef mi9 mr9 N := hG3.2.2.2.1
                have hcc : mi' N 2 ≤ mi9 N 2 := hG3.2.2.2.2.2.2.2
                exact ih_loop _ hlt mi9 mr9 (n1 + 1) r9 hn2 hw9 (Grw_t hG hG3) (fun j hj hjs => by rw [hk50 j hj, h250 j hj]; exact if_neg hjs) (fun j hj hjg => by rw [hk48 j hj, h248 j hj]; exact if_neg hjg)
                  (fun n2 q1 q2 v hv2 => by
                    by_cases q : n2 < n1
                    · rcases hc n2 q1 q v hv2 with ⟨y, hy, hy2⟩ | q3
                      · exact Or.inl ⟨y, hcn y hy, hy2⟩
                      · right; omega
                    · have e : n2 = n1 := by omega
                      subst e
                      exact hcov v (hCp v hv2))
                  (fun q n2 q1 q2 v hv2 => by
                    rcases hr9 with q3 | ⟨-, q3⟩
                    · omega
                    · rcases q3 with ⟨y, hy, hy2⟩ | q4
                      · rw [hT5] at hy2
                        exact Or.inl ⟨y, hy, gv_t (gv_t (Cp_ge _ _ hv2) (gv_add (by omega))) hy2⟩
                      · exact Or.inr q4) rfl
        exact loop _ mi mr (mi 48 g) 1 (by omega) (Or.inr rfl) (Grw_r hBN hSN hFN) (fun j hj h9 => rfl) (fun j hj h9 => rfl) (fun n1 q1 q2 => absurd q1 (by omega)) (fun q => absurd q (by decide)) rfl
    ·
      refine w_iconst X dX0_fillFrom_24 ?_
      refine s_zret X hr dX0_fillFrom_25 (by omega) ?_
      rcases h2 with ⟨q, q2⟩ | ⟨q, -⟩
      · exact Fil_0 hBN hSN hFN (Or.inl q2)
      · exact absurd q (by assumption)
set_option maxRecDepth 20000 in
set_option maxHeartbeats 4000000 in
theorem c_X0_fillFrom_2 {l : Launch} {G : Gt} {n0 : Nat} {mi : Nat → Nat → Int} {mr : Nat → Nat → Nat} {A N k s1 : Nat} (hAN : AN A N) (hA : mr 44 4 = A) (hN : mr 44 5 = N) (hL : LW mi) (hk : isRu k) (hv : RV (mi 1 3) mi k) (hBN : BO mi mr N) (hSN : Srt (Ef mi mr N)) (hFN : FCo mi mr N) (hml : ∀ j : Nat, j < 5 → 0 ≤ mi 50 j ∧ 0 ≤ mi 48 j) (hsum : ∀ j : Nat, j < 5 → mi 50 j + sum5 (mi 48) ≤ 900) (hs : (s1 : Int) + 2 = mi 1 3) : Ci l yX0_fillFrom cX0_fillFrom 9 .boolean 6 G n0 [.ref (n0 + 44), .ref (n0 + k), .int (jI (s1 : Int))] mi mr (fun r9 mi9 mr9 => Fil mi mi9 mr mr9 N k 2 s1 r9) := by
  refine Ct_of (by decide +kernel) (by intro v hv; simp at hv; rcases hv with rfl | rfl | rfl <;> rfl) (Nat.le_of_ble_eq_true rfl) ?_
  intro p e s m args below meth c9 X hr hname
  show WW _ _ _ _ _ _ _ _ _ _ _ _ _ _ _ _ _ _ _ [some (.ref (n0 + 44)), some (.ref (n0 + k)), some (.int (jI (s1 : Int))), none, none, none, none, none, none] _
  have hBN2 := hBN.2.1
  have hne := hAN.ne
  have hL1 := hL.1
  have hvg : ∀ j : Nat, j < 5 → 0 ≤ gol (mi k) j ∧ gol (mi k) j < 5 := fun j hj => ⟨(hv.2.2.2.2.2.2.2 j hj).2.1, (hv.2.2.2.2.2.2.2 j hj).2.2.1⟩
  have hcb : CB mi 49 := CB_of (fun j hj => by have q1 := hml j hj; have q2 := hsum j hj; have q3 := (sum5_n (fun j hj => (hml j hj).2)).1; exact ⟨q1.1, by show mi 50 j ≤ 1000; omega⟩)
  have hkr := hk
  unfold isRu at hkr
  have hown : ∀ i2 : Nat, i2 < 101 → 49 ≠ mr (N + 1) i2 := fun i2 h2 => by have := hBN.2.2.1 i2 h2; omega
  refine w_aload_n X dX0_fillFrom_0 rfl ?_
  refine w_get X (by decide) (σ_44 G n0 _ _) rfl gW_X0 5 (by decide) gF_X0_37 rfl dX0_fillFrom_1 ?_
  rw [hN]
  refine s_callVi X _ (c_X1_areTooMany (l := l) (G := G) (n0 := n0) hAN.b (by have := hBN2; refine ⟨?_, ?_⟩ <;> omega)) gM_X0_77 gI_yX1_areTooMany gS_yX1_areTooMany gN_X1 gC_yX1_areTooMany (isBs_k hAN.b) (σ_bs G n0 _ _ hAN.b) rfl dX0_fillFrom_4 hl_yX1_areTooMany ⟨Nat.le_of_ble_eq_true rfl, Nat.le_of_ble_eq_true rfl⟩ (Nat.le_of_ble_eq_true rfl) rfl (fun r1 mi1 mr1 h1 => ?_)
  obtain ⟨rfl, rfl, h1⟩ := h1
  refine w_if_ne X 24 dX0_fillFrom_7 (by decide) (fun c7_1 => ?_) (fun c7_1 => ?_)
  ·
    refine w_iconst X dX0_fillFrom_24 ?_
    refine s_zret X hr dX0_fillFrom_25 (by omega) ?_
    rcases h1 with ⟨q, q2⟩ | ⟨q, -⟩
    · exact Fil_0 hBN hSN hFN (Or.inr q2)
    · exact absurd q (by assumption)
  ·
    refine w_aload_n X dX0_fillFrom_10 rfl ?_
    refine w_get X (by decide) (σ_44 G n0 _ _) rfl gW_X0 5 (by decide) gF_X0_37 rfl dX0_fillFrom_11 ?_
    rw [hN]
    refine w_aload_n X dX0_fillFrom_14 rfl ?_
    refine w_get X (by decide) (σ_44 G n0 _ _) rfl gW_X0 3 (by decide) gF_X0_27 rfl dX0_fillFrom_15 ?_
    refine s_callVi X _ (c_X1_cover (l := l) (G := G) (n0 := n0) hBN cr_49 hcb) gM_X0_48 gI_yX1_cover gS_yX1_cover gN_X1 gC_yX1_cover (isBs_k hAN.b) (σ_bs G n0 _ _ hAN.b) rfl dX0_fillFrom_18 hl_yX1_cover ⟨Nat.le_of_ble_eq_true rfl, Nat.le_of_ble_eq_true rfl⟩ (Nat.le_of_ble_eq_true rfl) rfl (fun r2 mi2 mr2 h2 => ?_)
    obtain ⟨rfl, rfl, h2⟩ := h2
    have h2 := cov_E h2
    refine w_if_eq X 26 dX0_fillFrom_21 (by decide) (fun c21_2 => ?_) (fun c21_2 => ?_)
    ·
      refine w_iload_n X dX0_fillFrom_26 rfl ?_
      refine w_aload_n X dX0_fillFrom_27 rfl ?_
      refine w_get X (by decide) (σ_44 G n0 _ _) rfl gW_X0 0 (by decide) gF_X0_44 rfl dX0_fillFrom_28 ?_
      refine w_getN X (by decide) (σ_1 G n0 _ _) rfl gW_X5 3 (by decide) gF_X0_117 rfl dX0_fillFrom_31 ?_
      refine w_icmp_lt X 51 dX0_fillFrom_34 (by decide) (fun h34_ => ?_) (fun h9 => absurd (by omega) h9)
      have hgb := hvg s1 (by omega)
      obtain ⟨g, hg⟩ := Int.eq_ofNat_of_zero_le hgb.1
      have hg5 : g < 5 := by omega
      have hgt : (gol (mi k) s1).toNat = g := by rw [hg]; exact Int.toNat_natCast g
      have hlg := hml g hg5
      have hms := hml s1 (by omega)
      have hsu := sum5_n (fun j hj => (hml j hj).2)
      have hsg := hsu.2 g hg5
      have hss := hsum s1 (by omega)
      refine w_aload_n X dX0_fillFrom_51 rfl ?_
      refine w_iload_n X dX0_fillFrom_52 rfl ?_
      refine s_callVi X _ (c_X6_goalOf (l := l) (G := G) (n0 := n0) hk hv (by first | assumption | (refine ⟨?_, ?_⟩ <;> omega))) gM_X0_159 gI_yX6_goalOf gS_yX6_goalOf gN_X6 gC_yX6_goalOf (isRu_k hk) (σ_ru G n0 _ _ hk) rfl dX0_fillFrom_53 hl_yX6_goalOf ⟨Nat.le_of_ble_eq_true rfl, Nat.le_of_ble_eq_true rfl⟩ (Nat.le_of_ble_eq_true rfl) rfl (fun r3 mi3 mr3 h3 => ?_)
      obtain ⟨rfl, rfl, h3, b9, q9⟩ := h3
      rw [if_pos ⟨by omega, by omega⟩, Int.toNat_natCast, hg] at h3
      subst h3
      refine w_ist9_3 X dX0_fillFrom_56 ?_
      refine w_aload_n X dX0_fillFrom_57 rfl ?_
      refine w_get X (by decide) (σ_44 G n0 _ _) rfl gW_X0 2 (by decide) gF_X0_23 rfl dX0_fillFrom_58 ?_
      refine w_iload_n X dX0_fillFrom_61 rfl ?_
      refine s_callVi X _ (c_X3_of (l := l) (G := G) (n0 := n0) cr_47 (by first | assumption | (refine ⟨?_, ?_⟩ <;> omega))) gM_X0_163 gI_yX3_of gS_yX3_of gN_X3 gC_yX3_of (isCr_k cr_47) (σ_cr G n0 _ _ cr_47) rfl dX0_fillFrom_62 hl_yX3_of ⟨Nat.le_of_ble_eq_true rfl, Nat.le_of_ble_eq_true rfl⟩ (Nat.le_of_ble_eq_true rfl) rfl (fun r4 mi4 mr4 h4 => ?_)
      obtain ⟨rfl, rfl, h4⟩ := h4
      rw [if_pos ⟨by omega, by omega⟩, Int.toNat_natCast] at h4
      subst h4
      refine w_ist9_4 X dX0_fillFrom_65 ?_
      refine w_aload_n X dX0_fillFrom_67 rfl ?_
      refine w_iload_n X dX0_fillFrom_68 rfl ?_
      refine w_aload_n X dX0_fillFrom_69 rfl ?_
      refine w_get X (by decide) (σ_44 G n0 _ _) rfl gW_X0 0 (by decide) gF_X0_44 rfl dX0_fillFrom_70 ?_
      refine w_getN X (by decide) (σ_1 G n0 _ _) rfl gW_X5 3 (by decide) gF_X0_117 rfl dX0_fillFrom_73 ?_
      refine s_callVi X _ (c_X6_isLastToGoal (l := l) (G := G) (n0 := n0) hk hv (by omega)) gM_X0_165 gI_yX6_isLastToGoal gS_yX6_isLastToGoal gN_X6 gC_yX6_isLastToGoal (isRu_k hk) (σ_ru G n0 _ _ hk) rfl dX0_fillFrom_76 hl_yX6_isLastToGoal ⟨Nat.le_of_ble_eq_true rfl, Nat.le_of_ble_eq_true rfl⟩ (Nat.le_of_ble_eq_true rfl) rfl (fun r5 mi5 mr5 h5 => ?_)
      obtain ⟨rfl, rfl, h5⟩ := h5
      have h5 : r5 = 1 ∧ lastG (mi 1 3) (mi k) s1 ∨ r5 = 0 ∧ ¬ lastG (mi 1 3) (mi k) s1 := by
        rcases h5 with ⟨q, q2⟩ | ⟨q, j, q1, q2, q3⟩
        · exact Or.inl ⟨q, q2⟩
        · exact Or.inr ⟨q, fun w => w j q1 q2 q3⟩
      refine w_if_eq X 87 dX0_fillFrom_79 (by decide) (fun c79_3 => ?_) (fun c79_3 => ?_)
      ·
        have hla : ¬ lastG (mi 1 3) (mi k) s1 := by rcases h5 with ⟨q, -⟩ | ⟨-, q⟩; omega; exact q
        have hf : ∀ n1 : Int, 0 ≤ n1 → (lastG (mi 1 3) (mi k) s1 → n1 = mi 48 g) → 0 ≤ n1 := fun n1 q _ => q
        have hf2 : lastG (mi 1 3) (mi k) s1 → 0 = mi 48 g := fun q => absurd q hla
        clear h5
        refine w_iconst X dX0_fillFrom_87 ?_
        refine w_ist9_5 X dX0_fillFrom_88 ?_
        refine w_aload_n X dX0_fillFrom_90 rfl ?_
        refine w_get X (by decide) (σ_44 G n0 _ _) rfl gW_X0 3 (by decide) gF_X0_27 rfl dX0_fillFrom_91 ?_
        refine w_iload_n X dX0_fillFrom_94 rfl ?_
        refine s_callVi X _ (c_X3_of (l := l) (G := G) (n0 := n0) cr_49 (by first | assumption | (refine ⟨?_, ?_⟩ <;> omega))) gM_X0_163 gI_yX3_of gS_yX3_of gN_X3 gC_yX3_of (isCr_k cr_49) (σ_cr G n0 _ _ cr_49) rfl dX0_fillFrom_95 hl_yX3_of ⟨Nat.le_of_ble_eq_true rfl, Nat.le_of_ble_eq_true rfl⟩ (Nat.le_of_ble_eq_true rfl) rfl (fun r6 mi6 mr6 h6 => ?_)
        obtain ⟨rfl, rfl, h6⟩ := h6
        rw [if_pos ⟨by omega, by omega⟩, Int.toNat_natCast] at h6
        subst h6
        refine w_ist9_6 X dX0_fillFrom_98 ?_
        refine w_iconst X dX0_fillFrom_100 ?_
        refine w_ist9_7 X dX0_fillFrom_101 ?_
        refine w_iload X dX0_fillFrom_103 rfl ?_
        refine w_ist9_8 X dX0_fillFrom_105 ?_
        have loop : ∀ (n : Nat) (mi' : Nat → Nat → Int) (mr' : Nat → Nat → Nat) (n1 w1 : Int), (0 ≤ n1 ∧ n1 ≤ mi 48 g + 1) → (w1 = 0 ∨ w1 = 1) → (Grw fX mi mi' mr mr' N (fun y : V5 × Int => y.2 = 1 ∧ Cp (mi 1 3) (mi k) 2 s1 (mi 50) (mi 48) y.1)) → (∀ j : Nat, j < 5 → j ≠ s1 → mi' 50 j = mi 50 j) → (∀ j : Nat, j < 5 → j ≠ g → mi' 48 j = mi 48 j) → (∀ n2 : Int, 0 ≤ n2 → n2 < n1 → ∀ v, Cp (mi 1 3) (mi k) 1 (s1 + 1) (addA (mi 50) s1 n2) (addA (mi 48) g (-n2)) v → (∃ y ∈ Ef mi' mr' N, gv v y.1) ∨ 100 < mi' N 2) → (w1 = 0 → ∀ n2 : Int, n1 ≤ n2 → n2 ≤ mi 48 g → ∀ v, Cp (mi 1 3) (mi k) 1 (s1 + 1) (addA (mi 50) s1 n2) (addA (mi 48) g (-n2)) v → (∃ y ∈ Ef mi' mr' N, gv v y.1) ∨ 100 < mi' N 2) → n = (mi 48 g + 1 - n1).toNat → WSi p l e s m args below meth c9 6 (fun r9 mi9 mr9 => Fil mi mi9 mr mr9 N k 2 s1 r9) G n0 9 mi' mr' 107 [some (.ref (n0 + 44)), some (.ref (n0 + k)), some (.int (jI (s1 : Int))), some (.int (jI (g : Int))), some (.int (jI (mi 48 g))), some (.int (jI (0))), some (.int (jI (mi 50 s1))), some (.int (jI w1)), some (.int (jI n1))] [] := by
          intro n
          induction n using Nat.strongRecOn with
          | ind n ih_loop =>
            intro mi' mr' n1 w1 hn hw hG hm1 hl1 hc hw0 hn
            have hm' : ∀ a, a < N ∨ N + 205 ≤ a → a ≠ 48 → a ≠ 50 → mi' a = mi a := fun a ha h48 h50 => hG.2.2.2.2.2.1 a ha (fun q => by rcases q with q | q; exact h48 q; exact h50 q)
            have hr' : ∀ a, a ≠ N + 1 → mr' a = mr a := hG.2.2.2.2.2.2.1
            have hA' : mr' 44 4 = A := by rw [hr' 44 (by omega)]; exact hA
            have hN' : mr' 44 5 = N := by rw [hr' 44 (by omega)]; exact hN
            refine w_iload X dX0_fillFrom_107 rfl ?_
            refine w_iload X dX0_fillFrom_109 rfl ?_
            refine w_icmp_gt X 161 dX0_fillFrom_111 (by decide) (fun c111_4 => ?_) (fun c111_4 => ?_)
            ·
              refine w_aload_n X dX0_fillFrom_161 rfl ?_
              refine w_get X (by decide) (σ_44 G n0 _ _) rfl gW_X0 3 (by decide) gF_X0_27 rfl dX0_fillFrom_162 ?_
              refine w_iload_n X dX0_fillFrom_165 rfl ?_
              refine w_iload X dX0_fillFrom_166 rfl ?_
              refine s_callVv X _ (c_X3_set (l := l) (G := G) (n0 := n0) cr_49 (by first | assumption | (refine ⟨?_, ?_⟩ <;> omega))) gM_X0_169 gI_yX3_set gS_yX3_set gN_X3 gC_yX3_set (isCr_k cr_49) (σ_cr G n0 _ _ cr_49) rfl dX0_fillFrom_168 hl_yX3_set ⟨Nat.le_of_ble_eq_true rfl, Nat.le_of_ble_eq_true rfl⟩ (Nat.le_of_ble_eq_true rfl) rfl (fun mi7 mr7 h7 => ?_)
              obtain ⟨e9, rfl⟩ := h7
              rw [if_pos ⟨by omega, by omega⟩, Int.toNat_natCast] at e9
              subst e9
              refine w_aload_n X dX0_fillFrom_171 rfl ?_
              refine w_get X (by decide) (σ_44 G n0 _ _) rfl gW_X0 2 (by decide) gF_X0_23 rfl dX0_fillFrom_172 ?_
              refine w_iload_n X dX0_fillFrom_175 rfl ?_
              refine w_iload X dX0_fillFrom_176 rfl ?_
              refine s_callVv X _ (c_X3_set (l := l) (G := G) (n0 := n0) cr_47 (by first | assumption | (refine ⟨?_, ?_⟩ <;> omega))) gM_X0_169 gI_yX3_set gS_yX3_set gN_X3 gC_yX3_set (isCr_k cr_47) (σ_cr G n0 _ _ cr_47) rfl dX0_fillFrom_178 hl_yX3_set ⟨Nat.le_of_ble_eq_true rfl, Nat.le_of_ble_eq_true rfl⟩ (Nat.le_of_ble_eq_true rfl) rfl (fun mi8 mr8 h8 => ?_)
              obtain ⟨e9, rfl⟩ := h8
              rw [if_pos ⟨by omega, by omega⟩, Int.toNat_natCast] at e9
              subst e9
              refine w_iconst X dX0_fillFrom_181 ?_
              refine s_zret X hr dX0_fillFrom_182 (by omega) ?_
              have h0 : ∀ a, ¬ fX a → (up2 (up2 mi' 50 s1 (mi 50 s1)) 48 g (mi 48 g)) a = mi' a := fun a ha => by rw [up2_k _ _ _ _ (fun q => ha (Or.inl q)), up2_k _ _ _ _ (fun q => ha (Or.inr q))]
              have hX : ∀ a, fX a → a < N := fun a ha => by rcases ha with ha | ha <;> omega
              have hE3 : Ef (up2 (up2 mi' 50 s1 (mi 50 s1)) 48 g (mi 48 g)) mr' N = Ef mi' mr' N := Ef_fr hG.1 (fun a ha ha2 => h0 a (fun q => by have := hX a q; omega)) rfl
              have hN3 : (up2 (up2 mi' 50 s1 (mi 50 s1)) 48 g (mi 48 g)) N = mi' N := h0 N (fun q => by have := hX N q; omega)
              refine ⟨Grw_e hG h0 hX, fun v hv2 => ?_, Or.inl rfl, fun j hj => ?_, fun j hj => ?_⟩
              · obtain ⟨n2, q1, q2, q3, q4⟩ := hv2
                rw [hgt] at q2 q3 q4
                rw [hE3, hN3]
                have q5 := hf n2 q1 q3
                by_cases q6 : n2 < n1
                · exact hc n2 q5 q6 v q4
                · first
                  | (exfalso; omega)
                  | exact hw0 (by omega) n2 (by omega) q2 v q4
              · rw [up2_k _ _ _ _ (by decide)]
                by_cases q : j = s1
                · subst q; rw [up2_s]
                · rw [up2_j _ _ _ _ q]; exact hm1 j hj q
              · by_cases q : j = g
                · subst q; rw [up2_s]
                · rw [up2_j _ _ _ _ q, up2_k _ _ _ _ (by decide)]; exact hl1 j hj q
            ·
              refine w_iload X dX0_fillFrom_114 rfl ?_
              refine w_if_eq X 161 dX0_fillFrom_116 (by decide) (fun c116_5 => ?_) (fun c116_5 => ?_)
              ·
                refine w_aload_n X dX0_fillFrom_161 rfl ?_
                refine w_get X (by decide) (σ_44 G n0 _ _) rfl gW_X0 3 (by decide) gF_X0_27 rfl dX0_fillFrom_162 ?_
                refine w_iload_n X dX0_fillFrom_165 rfl ?_
                refine w_iload X dX0_fillFrom_166 rfl ?_
                refine s_callVv X _ (c_X3_set (l := l) (G := G) (n0 := n0) cr_49 (by first | assumption | (refine ⟨?_, ?_⟩ <;> omega))) gM_X0_169 gI_yX3_set gS_yX3_set gN_X3 gC_yX3_set (isCr_k cr_49) (σ_cr G n0 _ _ cr_49) rfl dX0_fillFrom_168 hl_yX3_set ⟨Nat.le_of_ble_eq_true rfl, Nat.le_of_ble_eq_true rfl⟩ (Nat.le_of_ble_eq_true rfl) rfl (fun mi7 mr7 h7 => ?_)
                obtain ⟨e9, rfl⟩ := h7
                rw [if_pos ⟨by omega, by omega⟩, Int.toNat_natCast] at e9
                subst e9
                refine w_aload_n X dX0_fillFrom_171 rfl ?_
                refine w_get X (by decide) (σ_44 G n0 _ _) rfl gW_X0 2 (by decide) gF_X0_23 rfl dX0_fillFrom_172 ?_
                refine w_iload_n X dX0_fillFrom_175 rfl ?_
                refine w_iload X dX0_fillFrom_176 rfl ?_
                refine s_callVv X _ (c_X3_set (l := l) (G := G) (n0 := n0) cr_47 (by first | assumption | (refine ⟨?_, ?_⟩ <;> omega))) gM_X0_169 gI_yX3_set gS_yX3_set gN_X3 gC_yX3_set (isCr_k cr_47) (σ_cr G n0 _ _ cr_47) rfl dX0_fillFrom_178 hl_yX3_set ⟨Nat.le_of_ble_eq_true rfl, Nat.le_of_ble_eq_true rfl⟩ (Nat.le_of_ble_eq_true rfl) rfl (fun mi8 mr8 h8 => ?_)
                obtain ⟨e9, rfl⟩ := h8
                rw [if_pos ⟨by omega, by omega⟩, Int.toNat_natCast] at e9
                subst e9
                refine w_iconst X dX0_fillFrom_181 ?_
                refine s_zret X hr dX0_fillFrom_182 (by omega) ?_
                have h0 : ∀ a, ¬ fX a → (up2 (up2 mi' 50 s1 (mi 50 s1)) 48 g (mi 48 g)) a = mi' a := fun a ha => by rw [up2_k _ _ _ _ (fun q => ha (Or.inl q)), up2_k _ _ _ _ (fun q => ha (Or.inr q))]
                have hX : ∀ a, fX a → a < N := fun a ha => by rcases ha with ha | ha <;> omega
                have hE3 : Ef (up2 (up2 mi' 50 s1 (mi 50 s1)) 48 g (mi 48 g)) mr' N = Ef mi' mr' N := Ef_fr hG.1 (fun a ha ha2 => h0 a (fun q => by have := hX a q; omega)) rfl
                have hN3 : (up2 (up2 mi' 50 s1 (mi 50 s1)) 48 g (mi 48 g)) N = mi' N := h0 N (fun q => by have := hX N q; omega)
                refine ⟨Grw_e hG h0 hX, fun v hv2 => ?_, Or.inl rfl, fun j hj => ?_, fun j hj => ?_⟩
                · obtain ⟨n2, q1, q2, q3, q4⟩ := hv2
                  rw [hgt] at q2 q3 q4
                  rw [hE3, hN3]
                  have q5 := hf n2 q1 q3
                  by_cases q6 : n2 < n1
                  · exact hc n2 q5 q6 v q4
                  · first
                    | (exfalso; omega)
                    | exact hw0 (by omega) n2 (by omega) q2 v q4
                · rw [up2_k _ _ _ _ (by decide)]
                  by_cases q : j = s1
                  · subst q; rw [up2_s]
                  · rw [up2_j _ _ _ _ q]; exact hm1 j hj q
                · by_cases q : j = g
                  · subst q; rw [up2_s]
                  · rw [up2_j _ _ _ _ q, up2_k _ _ _ _ (by decide)]; exact hl1 j hj q
              ·
                refine w_aload_n X dX0_fillFrom_119 rfl ?_
                refine w_get X (by decide) (σ_44 G n0 _ _) rfl gW_X0 3 (by decide) gF_X0_27 rfl dX0_fillFrom_120 ?_
                refine w_iload_n X dX0_fillFrom_123 rfl ?_
                refine w_iload X dX0_fillFrom_124 rfl ?_
                refine w_iload X dX0_fillFrom_126 rfl ?_
                refine w_iadd X dX0_fillFrom_128 ?_
                refine s_callVv X _ (c_X3_set (l := l) (G := G) (n0 := n0) cr_49 (by first | assumption | (refine ⟨?_, ?_⟩ <;> omega))) gM_X0_169 gI_yX3_set gS_yX3_set gN_X3 gC_yX3_set (isCr_k cr_49) (σ_cr G n0 _ _ cr_49) rfl dX0_fillFrom_129 hl_yX3_set ⟨Nat.le_of_ble_eq_true rfl, Nat.le_of_ble_eq_true rfl⟩ (Nat.le_of_ble_eq_true rfl) rfl (fun mi7 mr7 h7 => ?_)
                obtain ⟨e9, rfl⟩ := h7
                rw [if_pos ⟨by omega, by omega⟩, Int.toNat_natCast] at e9
                subst e9
                refine w_aload_n X dX0_fillFrom_132 rfl ?_
                refine w_get X (by decide) (σ_44 G n0 _ _) rfl gW_X0 2 (by decide) gF_X0_23 rfl dX0_fillFrom_133 ?_
                refine w_iload_n X dX0_fillFrom_136 rfl ?_
                refine w_iload X dX0_fillFrom_137 rfl ?_
                refine w_iload X dX0_fillFrom_139 rfl ?_
                refine w_isub X dX0_fillFrom_141 ?_
                refine s_callVv X _ (c_X3_set (l := l) (G := G) (n0 := n0) cr_47 (by first | assumption | (refine ⟨?_, ?_⟩ <;> omega))) gM_X0_169 gI_yX3_set gS_yX3_set gN_X3 gC_yX3_set (isCr_k cr_47) (σ_cr G n0 _ _ cr_47) rfl dX0_fillFrom_142 hl_yX3_set ⟨Nat.le_of_ble_eq_true rfl, Nat.le_of_ble_eq_true rfl⟩ (Nat.le_of_ble_eq_true rfl) rfl (fun mi8 mr8 h8 => ?_)
                obtain ⟨e9, rfl⟩ := h8
                rw [if_pos ⟨by omega, by omega⟩, Int.toNat_natCast] at e9
                subst e9
                have hfr2 : ∀ a, a ≠ 48 → a ≠ 50 → (up2 (up2 mi' 50 s1 (mi 50 s1 + n1)) 48 g (mi 48 g - n1)) a = mi' a := fun a h48 h50 => by rw [up2_k _ _ _ _ h48, up2_k _ _ _ _ h50]
                have hlt : (mi 48 g + 1 - (n1 + 1)).toNat < n := by omega
                have hn2 : 0 ≤ n1 + 1 ∧ n1 + 1 ≤ mi 48 g + 1 := by omega
                have h250 : ∀ j : Nat, j < 5 → (up2 (up2 mi' 50 s1 (mi 50 s1 + n1)) 48 g (mi 48 g - n1)) 50 j = addA (mi 50) s1 n1 j := by
                  intro j hj
                  rw [up2_k _ _ _ _ (by decide)]
                  unfold addA
                  by_cases q : j = s1
                  · subst q; rw [up2_s, if_pos rfl]
                  · rw [up2_j _ _ _ _ q, if_neg q]; exact hm1 j hj q
                have h248 : ∀ j : Nat, j < 5 → (up2 (up2 mi' 50 s1 (mi 50 s1 + n1)) 48 g (mi 48 g - n1)) 48 j = addA (mi 48) g (-n1) j := by
                  intro j hj
                  unfold addA
                  by_cases q : j = g
                  · subst q; rw [up2_s, if_pos rfl]; omega
                  · rw [up2_j _ _ _ _ q, up2_k _ _ _ _ (by decide), if_neg q]; exact hl1 j hj q
                have hk2 : (up2 (up2 mi' 50 s1 (mi 50 s1 + n1)) 48 g (mi 48 g - n1)) k = mi k := by rw [hfr2 k (by omega) (by omega)]; exact hm' k (by omega) (by omega) (by omega)
                have hk12 : (up2 (up2 mi' 50 s1 (mi 50 s1 + n1)) 48 g (mi 48 g - n1)) 1 = mi 1 := by rw [hfr2 1 (by decide) (by decide)]; exact hm' 1 (by omega) (by decide) (by decide)
                have hL2 : LW (up2 (up2 mi' 50 s1 (mi 50 s1 + n1)) 48 g (mi 48 g - n1)) := LW_fr hL (fun a ha ha2 ha3 => by rw [hfr2 a (by omega) (by omega)]; exact hm' a (by omega) (by omega) (by omega))
                have hv2 : RV ((up2 (up2 mi' 50 s1 (mi 50 s1 + n1)) 48 g (mi 48 g - n1)) 1 3) (up2 (up2 mi' 50 s1 (mi 50 s1 + n1)) 48 g (mi 48 g - n1)) k := by rw [hk12]; exact RV_fr hv hk2 (by rw [hfr2 _ (by omega) (by omega)]; exact hm' _ (by omega) (by omega) (by omega))
                have hB2 : BO (up2 (up2 mi' 50 s1 (mi 50 s1 + n1)) 48 g (mi 48 g - n1)) mr' N := BO_fr hG.1 (fun a ha ha2 => hfr2 a (by omega) (by omega)) rfl
                have hE2 : Ef (up2 (up2 mi' 50 s1 (mi 50 s1 + n1)) 48 g (mi 48 g - n1)) mr' N = Ef mi' mr' N := Ef_fr hG.1 (fun a ha ha2 => hfr2 a (by omega) (by omega)) rfl
                have hS2 : Srt (Ef (up2 (up2 mi' 50 s1 (mi 50 s1 + n1)) 48 g (mi 48 g - n1)) mr' N) := by rw [hE2]; exact hG.2.1
                have hF2 : FCo (up2 (up2 mi' 50 s1 (mi 50 s1 + n1)) 48 g (mi 48 g - n1)) mr' N := FCo_fr hG.1 (fun a ha ha2 => hfr2 a (by omega) (by omega)) rfl hG.2.2.1
                have hml2 : ∀ j : Nat, j < 5 → 0 ≤ (up2 (up2 mi' 50 s1 (mi 50 s1 + n1)) 48 g (mi 48 g - n1)) 50 j ∧ 0 ≤ (up2 (up2 mi' 50 s1 (mi 50 s1 + n1)) 48 g (mi 48 g - n1)) 48 j := by
                  intro j hj
                  have q1 := hml j hj
                  rw [h250 j hj, h248 j hj]
                  unfold addA
                  refine ⟨?_, ?_⟩
                  · split <;> omega
                  · split <;> omega
                have hsum2 : ∀ j : Nat, j < 5 → (up2 (up2 mi' 50 s1 (mi 50 s1 + n1)) 48 g (mi 48 g - n1)) 50 j + sum5 ((up2 (up2 mi' 50 s1 (mi 50 s1 + n1)) 48 g (mi 48 g - n1)) 48) ≤ 900 := by
                  intro j hj
                  have q1 := hsum j hj
                  rw [h250 j hj, sum5_c h248, sum5_addA hg5]
                  unfold addA
                  split <;> omega
                generalize (up2 (up2 mi' 50 s1 (mi 50 s1 + n1)) 48 g (mi 48 g - n1)) = m2 at hfr2 h250 h248 hk2 hk12 hL2 hv2 hB2 hE2 hS2 hF2 hml2 hsum2 ⊢
                refine w_aload_n X dX0_fillFrom_145 rfl ?_
                refine w_aload_n X dX0_fillFrom_146 rfl ?_
                refine w_iload_n X dX0_fillFrom_147 rfl ?_
                refine w_iconst X dX0_fillFrom_148 ?_
                refine w_iadd X dX0_fillFrom_149 ?_
                refine s_callVi X _ (c_X0_fillFrom_1 (l := l) (G := G) (n0 := n0) hAN hA' hN' hL2 hk hv2 hB2 hS2 hF2 hml2 hsum2 (s1 := s1 + 1) (by rw [hk12]; omega)) gM_X0_141 gI_yX0_fillFrom gS_yX0_fillFrom gN_X0 gC_yX0_fillFrom (by decide) (σ_44 G n0 _ _) rfl dX0_fillFrom_150 hl_yX0_fillFrom ⟨Nat.le_of_ble_eq_true rfl, Nat.le_of_ble_eq_true rfl⟩ (Nat.le_of_ble_eq_true rfl) rfl (fun r9 mi9 mr9 h9 => ?_)
                obtain ⟨hG2, hcov, hr9, hk50, hk48⟩ := h9
                rw [hk12, hk2] at hG2 hcov
                have hCpE : ∀ v, Cp (mi 1 3) (mi k) 1 (s1 + 1) (m2 50) (m2 48) v → Cp (mi 1 3) (mi k) 1 (s1 + 1) (addA (mi 50) s1 n1) (addA (mi 48) g (-n1)) v := fun v q => Cp_c hvg 1 (s1 + 1) (by omega) h250 h248 q
                have hCp : ∀ v, Cp (mi 1 3) (mi k) 1 (s1 + 1) (addA (mi 50) s1 n1) (addA (mi 48) g (-n1)) v → Cp (mi 1 3) (mi k) 1 (s1 + 1) (m2 50) (m2 48) v := fun v q => Cp_c hvg 1 (s1 + 1) (by omega) (fun j hj => (h250 j hj).symm) (fun j hj => (h248 j hj).symm) q
                have hT5 : T5 (m2 50) = T5 (addA (mi 50) s1 n1) := T5_c h250
                have hG3 : Grw fX mi' mi9 mr' mr9 N (fun y : V5 × Int => y.2 = 1 ∧ Cp (mi 1 3) (mi k) 2 s1 (mi 50) (mi 48) y.1) := Grw_l hG.1 (Grw_w hG2 (fun _ q => q) (fun y q => ⟨q.1, n1, by omega, by rw [hgt]; omega, fun q2 => by rw [hgt]; have := hf2 q2; omega, by rw [hgt]; exact hCpE _ q.2⟩)) (fun a ha => hfr2 a (fun q => ha (Or.inl q)) (fun q => ha (Or.inr q))) (fun a ha => by rcases ha with ha | ha <;> omega)
                refine w_ist9_7 X dX0_fillFrom_153 ?_
                refine w_iinc9_8 X dX0_fillFrom_155 ?_
                refine w_goto X 107 dX0_fillFrom_158 (by decide) ?_
                have hw9 : r9 = 0 ∨ r9 = 1 := by rcases hr9 with q | q; exact Or.inr q; exact Or.inl q.1
                have hcn : ∀ y, y ∈ Ef mi' mr' N → y ∈ Ef mi9 mr9 N := hG3.2.2.2.1
                have hcc : mi' N 2 ≤ mi9 N 2 := hG3.2.2.2.2.2.2.2
                exact ih_loop _ hlt mi9 mr9 (n1 + 1) r9 hn2 hw9 (Grw_t hG hG3) (fun j hj hjs => by rw [hk50 j hj, h250 j hj]; exact if_neg hjs) (fun j hj hjg => by rw [hk48 j hj, h248 j hj]; exact if_neg hjg)
                  (fun n2 q1 q2 v hv2 => by
                    by_cases q : n2 < n1
                    · rcases hc n2 q1 q v hv2 with ⟨y, hy, hy2⟩ | q3
                      · exact Or.inl ⟨y, hcn y hy, hy2⟩
                      · right; omega
                    · have e : n2 = n1 := by omega
                      subst e
                      exact hcov v (hCp v hv2))
                  (fun q n2 q1 q2 v hv2 => by
                    rcases hr9 with q3 | ⟨-, q3⟩
                    · omega
                    · rcases q3 with ⟨y, hy, hy2⟩ | q4
                      · rw [hT5] at hy2
                        exact Or.inl ⟨y, hy, gv_t (gv_t (Cp_ge _ _ hv2) (gv_add (by omega))) hy2⟩
                      · exact Or.inr q4) rfl
        exact loop _ mi mr 0 1 (by omega) (Or.inr rfl) (Grw_r hBN hSN hFN) (fun j hj h9 => rfl) (fun j hj h9 => rfl) (fun n1 q1 q2 => absurd q1 (by omega)) (fun q => absurd q (by decide)) rfl
      ·
        have hla : lastG (mi 1 3) (mi k) s1 := by rcases h5 with ⟨-, q⟩ | ⟨q, -⟩; exact q; exact absurd q (by assumption)
        have hf : ∀ n1 : Int, 0 ≤ n1 → (lastG (mi 1 3) (mi k) s1 → n1 = mi 48 g) → mi 48 g ≤ n1 := fun n1 _ q => by have := q hla; omega
        have hf2 : lastG (mi 1 3) (mi k) s1 → mi 48 g = mi 48 g := fun _ => rfl
        clear h5
        refine w_iload X dX0_fillFrom_82 rfl ?_
        refine w_goto X 88 dX0_fillFrom_84 (by decide) ?_
        refine w_ist9_5 X dX0_fillFrom_88 ?_
        refine w_aload_n X dX0_fillFrom_90 rfl ?_
        refine w_get X (by decide) (σ_44 G n0 _ _) rfl gW_X0 3 (by decide) gF_X0_27 rfl dX0_fillFrom_91 ?_
        refine w_iload_n X dX0_fillFrom_94 rfl ?_
        refine s_callVi X _ (c_X3_of (l := l) (G := G) (n0 := n0) cr_49 (by first | assumption | (refine ⟨?_, ?_⟩ <;> omega))) gM_X0_163 gI_yX3_of gS_yX3_of gN_X3 gC_yX3_of (isCr_k cr_49) (σ_cr G n0 _ _ cr_49) rfl dX0_fillFrom_95 hl_yX3_of ⟨Nat.le_of_ble_eq_true rfl, Nat.le_of_ble_eq_true rfl⟩ (Nat.le_of_ble_eq_true rfl) rfl (fun r6 mi6 mr6 h6 => ?_)
        obtain ⟨rfl, rfl, h6⟩ := h6
        rw [if_pos ⟨by omega, by omega⟩, Int.toNat_natCast] at h6
        subst h6
        refine w_ist9_6 X dX0_fillFrom_98 ?_
        refine w_iconst X dX0_fillFrom_100 ?_
        refine w_ist9_7 X dX0_fillFrom_101 ?_
        refine w_iload X dX0_fillFrom_103 rfl ?_
        refine w_ist9_8 X dX0_fillFrom_105 ?_
        have loop : ∀ (n : Nat) (mi' : Nat → Nat → Int) (mr' : Nat → Nat → Nat) (n1 w1 : Int), ((mi 48 g) ≤ n1 ∧ n1 ≤ mi 48 g + 1) → (w1 = 0 ∨ w1 = 1) → (Grw fX mi mi' mr mr' N (fun y : V5 × Int => y.2 = 1 ∧ Cp (mi 1 3) (mi k) 2 s1 (mi 50) (mi 48) y.1)) → (∀ j : Nat, j < 5 → j ≠ s1 → mi' 50 j = mi 50 j) → (∀ j : Nat, j < 5 → j ≠ g → mi' 48 j = mi 48 j) → (∀ n2 : Int, (mi 48 g) ≤ n2 → n2 < n1 → ∀ v, Cp (mi 1 3) (mi k) 1 (s1 + 1) (addA (mi 50) s1 n2) (addA (mi 48) g (-n2)) v → (∃ y ∈ Ef mi' mr' N, gv v y.1) ∨ 100 < mi' N 2) → (w1 = 0 → ∀ n2 : Int, n1 ≤ n2 → n2 ≤ mi 48 g → ∀ v, Cp (mi 1 3) (mi k) 1 (s1 + 1) (addA (mi 50) s1 n2) (addA (mi 48) g (-n2)) v → (∃ y ∈ Ef mi' mr' N, gv v y.1) ∨ 100 < mi' N 2) → n = (mi 48 g + 1 - n1).toNat → WSi p l e s m args below meth c9 6 (fun r9 mi9 mr9 => Fil mi mi9 mr mr9 N k 2 s1 r9) G n0 9 mi' mr' 107 [some (.ref (n0 + 44)), some (.ref (n0 + k)), some (.int (jI (s1 : Int))), some (.int (jI (g : Int))), some (.int (jI (mi 48 g))), some (.int (jI ((mi 48 g)))), some (.int (jI (mi 50 s1))), some (.int (jI w1)), some (.int (jI n1))] [] := by
          intro n
          induction n using Nat.strongRecOn with
          | ind n ih_loop =>
            intro mi' mr' n1 w1 hn hw hG hm1 hl1 hc hw0 hn
            have hm' : ∀ a, a < N ∨ N + 205 ≤ a → a ≠ 48 → a ≠ 50 → mi' a = mi a := fun a ha h48 h50 => hG.2.2.2.2.2.1 a ha (fun q => by rcases q with q | q; exact h48 q; exact h50 q)
            have hr' : ∀ a, a ≠ N + 1 → mr' a = mr a := hG.2.2.2.2.2.2.1
            have hA' : mr' 44 4 = A := by rw [hr' 44 (by omega)]; exact hA
            have hN' : mr' 44 5 = N := by rw [hr' 44 (by omega)]; exact hN
            refine w_iload X dX0_fillFrom_107 rfl ?_
            refine w_iload X dX0_fillFrom_109 rfl ?_
            refine w_icmp_gt X 161 dX0_fillFrom_111 (by decide) (fun c111_6 => ?_) (fun c111_6 => ?_)
            ·
              refine w_aload_n X dX0_fillFrom_161 rfl ?_
              refine w_get X (by decide) (σ_44 G n0 _ _) rfl gW_X0 3 (by decide) gF_X0_27 rfl dX0_fillFrom_162 ?_
              refine w_iload_n X dX0_fillFrom_165 rfl ?_
              refine w_iload X dX0_fillFrom_166 rfl ?_
              refine s_callVv X _ (c_X3_set (l := l) (G := G) (n0 := n0) cr_49 (by first | assumption | (refine ⟨?_, ?_⟩ <;> omega))) gM_X0_169 gI_yX3_set gS_yX3_set gN_X3 gC_yX3_set (isCr_k cr_49) (σ_cr G n0 _ _ cr_49) rfl dX0_fillFrom_168 hl_yX3_set ⟨Nat.le_of_ble_eq_true rfl, Nat.le_of_ble_eq_true rfl⟩ (Nat.le_of_ble_eq_true rfl) rfl (fun mi7 mr7 h7 => ?_)
              obtain ⟨e9, rfl⟩ := h7
              rw [if_pos ⟨by omega, by omega⟩, Int.toNat_natCast] at e9
              subst e9
              refine w_aload_n X dX0_fillFrom_171 rfl ?_
              refine w_get X (by decide) (σ_44 G n0 _ _) rfl gW_X0 2 (by decide) gF_X0_23 rfl dX0_fillFrom_172 ?_
              refine w_iload_n X dX0_fillFrom_175 rfl ?_
              refine w_iload X dX0_fillFrom_176 rfl ?_
              refine s_callVv X _ (c_X3_set (l := l) (G := G) (n0 := n0) cr_47 (by first | assumption | (refine ⟨?_, ?_⟩ <;> omega))) gM_X0_169 gI_yX3_set gS_yX3_set gN_X3 gC_yX3_set (isCr_k cr_47) (σ_cr G n0 _ _ cr_47) rfl dX0_fillFrom_178 hl_yX3_set ⟨Nat.le_of_ble_eq_true rfl, Nat.le_of_ble_eq_true rfl⟩ (Nat.le_of_ble_eq_true rfl) rfl (fun mi8 mr8 h8 => ?_)
              obtain ⟨e9, rfl⟩ := h8
              rw [if_pos ⟨by omega, by omega⟩, Int.toNat_natCast] at e9
              subst e9
              refine w_iconst X dX0_fillFrom_181 ?_
              refine s_zret X hr dX0_fillFrom_182 (by omega) ?_
              have h0 : ∀ a, ¬ fX a → (up2 (up2 mi' 50 s1 (mi 50 s1)) 48 g (mi 48 g)) a = mi' a := fun a ha => by rw [up2_k _ _ _ _ (fun q => ha (Or.inl q)), up2_k _ _ _ _ (fun q => ha (Or.inr q))]
              have hX : ∀ a, fX a → a < N := fun a ha => by rcases ha with ha | ha <;> omega
              have hE3 : Ef (up2 (up2 mi' 50 s1 (mi 50 s1)) 48 g (mi 48 g)) mr' N = Ef mi' mr' N := Ef_fr hG.1 (fun a ha ha2 => h0 a (fun q => by have := hX a q; omega)) rfl
              have hN3 : (up2 (up2 mi' 50 s1 (mi 50 s1)) 48 g (mi 48 g)) N = mi' N := h0 N (fun q => by have := hX N q; omega)
              refine ⟨Grw_e hG h0 hX, fun v hv2 => ?_, Or.inl rfl, fun j hj => ?_, fun j hj => ?_⟩
              · obtain ⟨n2, q1, q2, q3, q4⟩ := hv2
                rw [hgt] at q2 q3 q4
                rw [hE3, hN3]
                have q5 := hf n2 q1 q3
                by_cases q6 : n2 < n1
                · exact hc n2 q5 q6 v q4
                · first
                  | (exfalso; omega)
                  | exact hw0 (by omega) n2 (by omega) q2 v q4
              · rw [up2_k _ _ _ _ (by decide)]
                by_cases q : j = s1
                · subst q; rw [up2_s]
                · rw [up2_j _ _ _ _ q]; exact hm1 j hj q
              · by_cases q : j = g
                · subst q; rw [up2_s]
                · rw [up2_j _ _ _ _ q, up2_k _ _ _ _ (by decide)]; exact hl1 j hj q
            ·
              refine w_iload X dX0_fillFrom_114 rfl ?_
              refine w_if_eq X 161 dX0_fillFrom_116 (by decide) (fun c116_7 => ?_) (fun c116_7 => ?_)
              ·
                refine w_aload_n X dX0_fillFrom_161 rfl ?_
                refine w_get X (by decide) (σ_44 G n0 _ _) rfl gW_X0 3 (by decide) gF_X0_27 rfl dX0_fillFrom_162 ?_
                refine w_iload_n X dX0_fillFrom_165 rfl ?_
                refine w_iload X dX0_fillFrom_166 rfl ?_
                refine s_callVv X _ (c_X3_set (l := l) (G := G) (n0 := n0) cr_49 (by first | assumption | (refine ⟨?_, ?_⟩ <;> omega))) gM_X0_169 gI_yX3_set gS_yX3_set gN_X3 gC_yX3_set (isCr_k cr_49) (σ_cr G n0 _ _ cr_49) rfl dX0_fillFrom_168 hl_yX3_set ⟨Nat.le_of_ble_eq_true rfl, Nat.le_of_ble_eq_true rfl⟩ (Nat.le_of_ble_eq_true rfl) rfl (fun mi7 mr7 h7 => ?_)
                obtain ⟨e9, rfl⟩ := h7
                rw [if_pos ⟨by omega, by omega⟩, Int.toNat_natCast] at e9
                subst e9
                refine w_aload_n X dX0_fillFrom_171 rfl ?_
                refine w_get X (by decide) (σ_44 G n0 _ _) rfl gW_X0 2 (by decide) gF_X0_23 rfl dX0_fillFrom_172 ?_
                refine w_iload_n X dX0_fillFrom_175 rfl ?_
                refine w_iload X dX0_fillFrom_176 rfl ?_
                refine s_callVv X _ (c_X3_set (l := l) (G := G) (n0 := n0) cr_47 (by first | assumption | (refine ⟨?_, ?_⟩ <;> omega))) gM_X0_169 gI_yX3_set gS_yX3_set gN_X3 gC_yX3_set (isCr_k cr_47) (σ_cr G n0 _ _ cr_47) rfl dX0_fillFrom_178 hl_yX3_set ⟨Nat.le_of_ble_eq_true rfl, Nat.le_of_ble_eq_true rfl⟩ (Nat.le_of_ble_eq_true rfl) rfl (fun mi8 mr8 h8 => ?_)
                obtain ⟨e9, rfl⟩ := h8
                rw [if_pos ⟨by omega, by omega⟩, Int.toNat_natCast] at e9
                subst e9
                refine w_iconst X dX0_fillFrom_181 ?_
                refine s_zret X hr dX0_fillFrom_182 (by omega) ?_
                have h0 : ∀ a, ¬ fX a → (up2 (up2 mi' 50 s1 (mi 50 s1)) 48 g (mi 48 g)) a = mi' a := fun a ha => by rw [up2_k _ _ _ _ (fun q => ha (Or.inl q)), up2_k _ _ _ _ (fun q => ha (Or.inr q))]
                have hX : ∀ a, fX a → a < N := fun a ha => by rcases ha with ha | ha <;> omega
                have hE3 : Ef (up2 (up2 mi' 50 s1 (mi 50 s1)) 48 g (mi 48 g)) mr' N = Ef mi' mr' N := Ef_fr hG.1 (fun a ha ha2 => h0 a (fun q => by have := hX a q; omega)) rfl
                have hN3 : (up2 (up2 mi' 50 s1 (mi 50 s1)) 48 g (mi 48 g)) N = mi' N := h0 N (fun q => by have := hX N q; omega)
                refine ⟨Grw_e hG h0 hX, fun v hv2 => ?_, Or.inl rfl, fun j hj => ?_, fun j hj => ?_⟩
                · obtain ⟨n2, q1, q2, q3, q4⟩ := hv2
                  rw [hgt] at q2 q3 q4
                  rw [hE3, hN3]
                  have q5 := hf n2 q1 q3
                  by_cases q6 : n2 < n1
                  · exact hc n2 q5 q6 v q4
                  · first
                    | (exfalso; omega)
                    | exact hw0 (by omega) n2 (by omega) q2 v q4
                · rw [up2_k _ _ _ _ (by decide)]
                  by_cases q : j = s1
                  · subst q; rw [up2_s]
                  · rw [up2_j _ _ _ _ q]; exact hm1 j hj q
                · by_cases q : j = g
                  · subst q; rw [up2_s]
                  · rw [up2_j _ _ _ _ q, up2_k _ _ _ _ (by decide)]; exact hl1 j hj q
              ·
                refine w_aload_n X dX0_fillFrom_119 rfl ?_
                refine w_get X (by decide) (σ_44 G n0 _ _) rfl gW_X0 3 (by decide) gF_X0_27 rfl dX0_fillFrom_120 ?_
                refine w_iload_n X dX0_fillFrom_123 rfl ?_
                refine w_iload X dX0_fillFrom_124 rfl ?_
                refine w_iload X dX0_fillFrom_126 rfl ?_
                refine w_iadd X dX0_fillFrom_128 ?_
                refine s_callVv X _ (c_X3_set (l := l) (G := G) (n0 := n0) cr_49 (by first | assumption | (refine ⟨?_, ?_⟩ <;> omega))) gM_X0_169 gI_yX3_set gS_yX3_set gN_X3 gC_yX3_set (isCr_k cr_49) (σ_cr G n0 _ _ cr_49) rfl dX0_fillFrom_129 hl_yX3_set ⟨Nat.le_of_ble_eq_true rfl, Nat.le_of_ble_eq_true rfl⟩ (Nat.le_of_ble_eq_true rfl) rfl (fun mi7 mr7 h7 => ?_)
                obtain ⟨e9, rfl⟩ := h7
                rw [if_pos ⟨by omega, by omega⟩, Int.toNat_natCast] at e9
                subst e9
                refine w_aload_n X dX0_fillFrom_132 rfl ?_
                refine w_get X (by decide) (σ_44 G n0 _ _) rfl gW_X0 2 (by decide) gF_X0_23 rfl dX0_fillFrom_133 ?_
                refine w_iload_n X dX0_fillFrom_136 rfl ?_
                refine w_iload X dX0_fillFrom_137 rfl ?_
                refine w_iload X dX0_fillFrom_139 rfl ?_
                refine w_isub X dX0_fillFrom_141 ?_
                refine s_callVv X _ (c_X3_set (l := l) (G := G) (n0 := n0) cr_47 (by first | assumption | (refine ⟨?_, ?_⟩ <;> omega))) gM_X0_169 gI_yX3_set gS_yX3_set gN_X3 gC_yX3_set (isCr_k cr_47) (σ_cr G n0 _ _ cr_47) rfl dX0_fillFrom_142 hl_yX3_set ⟨Nat.le_of_ble_eq_true rfl, Nat.le_of_ble_eq_true rfl⟩ (Nat.le_of_ble_eq_true rfl) rfl (fun mi8 mr8 h8 => ?_)
                obtain ⟨e9, rfl⟩ := h8
                rw [if_pos ⟨by omega, by omega⟩, Int.toNat_natCast] at e9
                subst e9
                have hfr2 : ∀ a, a ≠ 48 → a ≠ 50 → (up2 (up2 mi' 50 s1 (mi 50 s1 + n1)) 48 g (mi 48 g - n1)) a = mi' a := fun a h48 h50 => by rw [up2_k _ _ _ _ h48, up2_k _ _ _ _ h50]
                have hlt : (mi 48 g + 1 - (n1 + 1)).toNat < n := by omega
                have hn2 : (mi 48 g) ≤ n1 + 1 ∧ n1 + 1 ≤ mi 48 g + 1 := by omega
                have h250 : ∀ j : Nat, j < 5 → (up2 (up2 mi' 50 s1 (mi 50 s1 + n1)) 48 g (mi 48 g - n1)) 50 j = addA (mi 50) s1 n1 j := by
                  intro j hj
                  rw [up2_k _ _ _ _ (by decide)]
                  unfold addA
                  by_cases q : j = s1
                  · subst q; rw [up2_s, if_pos rfl]
                  · rw [up2_j _ _ _ _ q, if_neg q]; exact hm1 j hj q
                have h248 : ∀ j : Nat, j < 5 → (up2 (up2 mi' 50 s1 (mi 50 s1 + n1)) 48 g (mi 48 g - n1)) 48 j = addA (mi 48) g (-n1) j := by
                  intro j hj
                  unfold addA
                  by_cases q : j = g
                  · subst q; rw [up2_s, if_pos rfl]; omega
                  · rw [up2_j _ _ _ _ q, up2_k _ _ _ _ (by decide), if_neg q]; exact hl1 j hj q
                have hk2 : (up2 (up2 mi' 50 s1 (mi 50 s1 + n1)) 48 g (mi 48 g - n1)) k = mi k := by rw [hfr2 k (by omega) (by omega)]; exact hm' k (by omega) (by omega) (by omega)
                have hk12 : (up2 (up2 mi' 50 s1 (mi 50 s1 + n1)) 48 g (mi 48 g - n1)) 1 = mi 1 := by rw [hfr2 1 (by decide) (by decide)]; exact hm' 1 (by omega) (by decide) (by decide)
                have hL2 : LW (up2 (up2 mi' 50 s1 (mi 50 s1 + n1)) 48 g (mi 48 g - n1)) := LW_fr hL (fun a ha ha2 ha3 => by rw [hfr2 a (by omega) (by omega)]; exact hm' a (by omega) (by omega) (by omega))
                have hv2 : RV ((up2 (up2 mi' 50 s1 (mi 50 s1 + n1)) 48 g (mi 48 g - n1)) 1 3) (up2 (up2 mi' 50 s1 (mi 50 s1 + n1)) 48 g (mi 48 g - n1)) k := by rw [hk12]; exact RV_fr hv hk2 (by rw [hfr2 _ (by omega) (by omega)]; exact hm' _ (by omega) (by omega) (by omega))
                have hB2 : BO (up2 (up2 mi' 50 s1 (mi 50 s1 + n1)) 48 g (mi 48 g - n1)) mr' N := BO_fr hG.1 (fun a ha ha2 => hfr2 a (by omega) (by omega)) rfl
                have hE2 : Ef (up2 (up2 mi' 50 s1 (mi 50 s1 + n1)) 48 g (mi 48 g - n1)) mr' N = Ef mi' mr' N := Ef_fr hG.1 (fun a ha ha2 => hfr2 a (by omega) (by omega)) rfl
                have hS2 : Srt (Ef (up2 (up2 mi' 50 s1 (mi 50 s1 + n1)) 48 g (mi 48 g - n1)) mr' N) := by rw [hE2]; exact hG.2.1
                have hF2 : FCo (up2 (up2 mi' 50 s1 (mi 50 s1 + n1)) 48 g (mi 48 g - n1)) mr' N := FCo_fr hG.1 (fun a ha ha2 => hfr2 a (by omega) (by omega)) rfl hG.2.2.1
                have hml2 : ∀ j : Nat, j < 5 → 0 ≤ (up2 (up2 mi' 50 s1 (mi 50 s1 + n1)) 48 g (mi 48 g - n1)) 50 j ∧ 0 ≤ (up2 (up2 mi' 50 s1 (mi 50 s1 + n1)) 48 g (mi 48 g - n1)) 48 j := by
                  intro j hj
                  have q1 := hml j hj
                  rw [h250 j hj, h248 j hj]
                  unfold addA
                  refine ⟨?_, ?_⟩
                  · split <;> omega
                  · split <;> omega
                have hsum2 : ∀ j : Nat, j < 5 → (up2 (up2 mi' 50 s1 (mi 50 s1 + n1)) 48 g (mi 48 g - n1)) 50 j + sum5 ((up2 (up2 mi' 50 s1 (mi 50 s1 + n1)) 48 g (mi 48 g - n1)) 48) ≤ 900 := by
                  intro j hj
                  have q1 := hsum j hj
                  rw [h250 j hj, sum5_c h248, sum5_addA hg5]
                  unfold addA
                  split <;> omega
                generalize (up2 (up2 mi' 50 s1 (mi 50 s1 + n1)) 48 g (mi 48 g - n1)) = m2 at hfr2 h250 h248 hk2 hk12 hL2 hv2 hB2 hE2 hS2 hF2 hml2 hsum2 ⊢
                refine w_aload_n X dX0_fillFrom_145 rfl ?_
                refine w_aload_n X dX0_fillFrom_146 rfl ?_
                refine w_iload_n X dX0_fillFrom_147 rfl ?_
                refine w_iconst X dX0_fillFrom_148 ?_
                refine w_iadd X dX0_fillFrom_149 ?_
                refine s_callVi X _ (c_X0_fillFrom_1 (l := l) (G := G) (n0 := n0) hAN hA' hN' hL2 hk hv2 hB2 hS2 hF2 hml2 hsum2 (s1 := s1 + 1) (by rw [hk12]; omega)) gM_X0_141 gI_yX0_fillFrom gS_yX0_fillFrom gN_X0 gC_yX0_fillFrom (by decide) (σ_44 G n0 _ _) rfl dX0_fillFrom_150 hl_yX0_fillFrom ⟨Nat.le_of_ble_eq_true rfl, Nat.le_of_ble_eq_true rfl⟩ (Nat.le_of_ble_eq_true rfl) rfl (fun r9 mi9 mr9 h9 => ?_)
                obtain ⟨hG2, hcov, hr9, hk50, hk48⟩ := h9
                rw [hk12, hk2] at hG2 hcov
                have hCpE : ∀ v, Cp (mi 1 3) (mi k) 1 (s1 + 1) (m2 50) (m2 48) v → Cp (mi 1 3) (mi k) 1 (s1 + 1) (addA (mi 50) s1 n1) (addA (mi 48) g (-n1)) v := fun v q => Cp_c hvg 1 (s1 + 1) (by omega) h250 h248 q
                have hCp : ∀ v, Cp (mi 1 3) (mi k) 1 (s1 + 1) (addA (mi 50) s1 n1) (addA (mi 48) g (-n1)) v → Cp (mi 1 3) (mi k) 1 (s1 + 1) (m2 50) (m2 48) v := fun v q => Cp_c hvg 1 (s1 + 1) (by omega) (fun j hj => (h250 j hj).symm) (fun j hj => (h248 j hj).symm) q
                have hT5 : T5 (m2 50) = T5 (addA (mi 50) s1 n1) := T5_c h250
                have hG3 : Grw fX mi' mi9 mr' mr9 N (fun y : V5 × Int => y.2 = 1 ∧ Cp (mi 1 3) (mi k) 2 s1 (mi 50) (mi 48) y.1) := Grw_l hG.1 (Grw_w hG2 (fun _ q => q) (fun y q => ⟨q.1, n1, by omega, by rw [hgt]; omega, fun q2 => by rw [hgt]; have := hf2 q2; omega, by rw [hgt]; exact hCpE _ q.2⟩)) (fun a ha => hfr2 a (fun q => ha (Or.inl q)) (fun q => ha (Or.inr q))) (fun a ha => by rcases ha with ha | ha <;> omega)
                refine w_ist9_7 X dX0_fillFrom_153 ?_
                refine w_iinc9_8 X dX0_fillFrom_155 ?_
                refine w_goto X 107 dX0_fillFrom_158 (by decide) ?_
                have hw9 : r9 = 0 ∨ r9 = 1 := by rcases hr9 with q | q; exact Or.inr q; exact Or.inl q.1
                have hcn : ∀ y, y ∈ Ef mi' mr' N → y ∈ Ef mi9 mr9 N := hG3.2.2.2.1
                have hcc : mi' N 2 ≤ mi9 N 2 := hG3.2.2.2.2.2.2.2
                exact ih_loop _ hlt mi9 mr9 (n1 + 1) r9 hn2 hw9 (Grw_t hG hG3) (fun j hj hjs => by rw [hk50 j hj, h250 j hj]; exact if_neg hjs) (fun j hj hjg => by rw [hk48 j hj, h248 j hj]; exact if_neg hjg)
                  (fun n2 q1 q2 v hv2 => by
                    by_cases q : n2 < n1
                    · rcases hc n2 q1 q v hv2 with ⟨y, hy, hy2⟩ | q3
                      · exact Or.inl ⟨y, hcn y hy, hy2⟩
                      · right; omega
                    · have e : n2 = n1 := by omega
                      subst e
                      exact hcov v (hCp v hv2))
                  (fun q n2 q1 q2 v hv2 => by
                    rcases hr9 with q3 | ⟨-, q3⟩
                    · omega
                    · rcases q3 with ⟨y, hy, hy2⟩ | q4
                      · rw [hT5] at hy2
                        exact Or.inl ⟨y, hy, gv_t (gv_t (Cp_ge _ _ hv2) (gv_add (by omega))) hy2⟩
                      · exact Or.inr q4) rfl
        exact loop _ mi mr (mi 48 g) 1 (by omega) (Or.inr rfl) (Grw_r hBN hSN hFN) (fun j hj h9 => rfl) (fun j hj h9 => rfl) (fun n1 q1 q2 => absurd q1 (by omega)) (fun q => absurd q (by decide)) rfl
    ·
      refine w_iconst X dX0_fillFrom_24 ?_
      refine s_zret X hr dX0_fillFrom_25 (by omega) ?_
      rcases h2 with ⟨q, q2⟩ | ⟨q, -⟩
      · exact Fil_0 hBN hSN hFN (Or.inl q2)
      · exact absurd q (by assumption)
set_option maxRecDepth 20000 in
set_option maxHeartbeats 4000000 in
theorem c_X0_fillFrom_3 {l : Launch} {G : Gt} {n0 : Nat} {mi : Nat → Nat → Int} {mr : Nat → Nat → Nat} {A N k s1 : Nat} (hAN : AN A N) (hA : mr 44 4 = A) (hN : mr 44 5 = N) (hL : LW mi) (hk : isRu k) (hv : RV (mi 1 3) mi k) (hBN : BO mi mr N) (hSN : Srt (Ef mi mr N)) (hFN : FCo mi mr N) (hml : ∀ j : Nat, j < 5 → 0 ≤ mi 50 j ∧ 0 ≤ mi 48 j) (hsum : ∀ j : Nat, j < 5 → mi 50 j + sum5 (mi 48) ≤ 900) (hs : (s1 : Int) + 3 = mi 1 3) : Ci l yX0_fillFrom cX0_fillFrom 9 .boolean 7 G n0 [.ref (n0 + 44), .ref (n0 + k), .int (jI (s1 : Int))] mi mr (fun r9 mi9 mr9 => Fil mi mi9 mr mr9 N k 3 s1 r9) := by
  refine Ct_of (by decide +kernel) (by intro v hv; simp at hv; rcases hv with rfl | rfl | rfl <;> rfl) (Nat.le_of_ble_eq_true rfl) ?_
  intro p e s m args below meth c9 X hr hname
  show WW _ _ _ _ _ _ _ _ _ _ _ _ _ _ _ _ _ _ _ [some (.ref (n0 + 44)), some (.ref (n0 + k)), some (.int (jI (s1 : Int))), none, none, none, none, none, none] _
  have hBN2 := hBN.2.1
  have hne := hAN.ne
  have hL1 := hL.1
  have hvg : ∀ j : Nat, j < 5 → 0 ≤ gol (mi k) j ∧ gol (mi k) j < 5 := fun j hj => ⟨(hv.2.2.2.2.2.2.2 j hj).2.1, (hv.2.2.2.2.2.2.2 j hj).2.2.1⟩
  have hcb : CB mi 49 := CB_of (fun j hj => by have q1 := hml j hj; have q2 := hsum j hj; have q3 := (sum5_n (fun j hj => (hml j hj).2)).1; exact ⟨q1.1, by show mi 50 j ≤ 1000; omega⟩)
  have hkr := hk
  unfold isRu at hkr
  have hown : ∀ i2 : Nat, i2 < 101 → 49 ≠ mr (N + 1) i2 := fun i2 h2 => by have := hBN.2.2.1 i2 h2; omega
  refine w_aload_n X dX0_fillFrom_0 rfl ?_
  refine w_get X (by decide) (σ_44 G n0 _ _) rfl gW_X0 5 (by decide) gF_X0_37 rfl dX0_fillFrom_1 ?_
  rw [hN]
  refine s_callVi X _ (c_X1_areTooMany (l := l) (G := G) (n0 := n0) hAN.b (by have := hBN2; refine ⟨?_, ?_⟩ <;> omega)) gM_X0_77 gI_yX1_areTooMany gS_yX1_areTooMany gN_X1 gC_yX1_areTooMany (isBs_k hAN.b) (σ_bs G n0 _ _ hAN.b) rfl dX0_fillFrom_4 hl_yX1_areTooMany ⟨Nat.le_of_ble_eq_true rfl, Nat.le_of_ble_eq_true rfl⟩ (Nat.le_of_ble_eq_true rfl) rfl (fun r1 mi1 mr1 h1 => ?_)
  obtain ⟨rfl, rfl, h1⟩ := h1
  refine w_if_ne X 24 dX0_fillFrom_7 (by decide) (fun c7_1 => ?_) (fun c7_1 => ?_)
  ·
    refine w_iconst X dX0_fillFrom_24 ?_
    refine s_zret X hr dX0_fillFrom_25 (by omega) ?_
    rcases h1 with ⟨q, q2⟩ | ⟨q, -⟩
    · exact Fil_0 hBN hSN hFN (Or.inr q2)
    · exact absurd q (by assumption)
  ·
    refine w_aload_n X dX0_fillFrom_10 rfl ?_
    refine w_get X (by decide) (σ_44 G n0 _ _) rfl gW_X0 5 (by decide) gF_X0_37 rfl dX0_fillFrom_11 ?_
    rw [hN]
    refine w_aload_n X dX0_fillFrom_14 rfl ?_
    refine w_get X (by decide) (σ_44 G n0 _ _) rfl gW_X0 3 (by decide) gF_X0_27 rfl dX0_fillFrom_15 ?_
    refine s_callVi X _ (c_X1_cover (l := l) (G := G) (n0 := n0) hBN cr_49 hcb) gM_X0_48 gI_yX1_cover gS_yX1_cover gN_X1 gC_yX1_cover (isBs_k hAN.b) (σ_bs G n0 _ _ hAN.b) rfl dX0_fillFrom_18 hl_yX1_cover ⟨Nat.le_of_ble_eq_true rfl, Nat.le_of_ble_eq_true rfl⟩ (Nat.le_of_ble_eq_true rfl) rfl (fun r2 mi2 mr2 h2 => ?_)
    obtain ⟨rfl, rfl, h2⟩ := h2
    have h2 := cov_E h2
    refine w_if_eq X 26 dX0_fillFrom_21 (by decide) (fun c21_2 => ?_) (fun c21_2 => ?_)
    ·
      refine w_iload_n X dX0_fillFrom_26 rfl ?_
      refine w_aload_n X dX0_fillFrom_27 rfl ?_
      refine w_get X (by decide) (σ_44 G n0 _ _) rfl gW_X0 0 (by decide) gF_X0_44 rfl dX0_fillFrom_28 ?_
      refine w_getN X (by decide) (σ_1 G n0 _ _) rfl gW_X5 3 (by decide) gF_X0_117 rfl dX0_fillFrom_31 ?_
      refine w_icmp_lt X 51 dX0_fillFrom_34 (by decide) (fun h34_ => ?_) (fun h9 => absurd (by omega) h9)
      have hgb := hvg s1 (by omega)
      obtain ⟨g, hg⟩ := Int.eq_ofNat_of_zero_le hgb.1
      have hg5 : g < 5 := by omega
      have hgt : (gol (mi k) s1).toNat = g := by rw [hg]; exact Int.toNat_natCast g
      have hlg := hml g hg5
      have hms := hml s1 (by omega)
      have hsu := sum5_n (fun j hj => (hml j hj).2)
      have hsg := hsu.2 g hg5
      have hss := hsum s1 (by omega)
      refine w_aload_n X dX0_fillFrom_51 rfl ?_
      refine w_iload_n X dX0_fillFrom_52 rfl ?_
      refine s_callVi X _ (c_X6_goalOf (l := l) (G := G) (n0 := n0) hk hv (by first | assumption | (refine ⟨?_, ?_⟩ <;> omega))) gM_X0_159 gI_yX6_goalOf gS_yX6_goalOf gN_X6 gC_yX6_goalOf (isRu_k hk) (σ_ru G n0 _ _ hk) rfl dX0_fillFrom_53 hl_yX6_goalOf ⟨Nat.le_of_ble_eq_true rfl, Nat.le_of_ble_eq_true rfl⟩ (Nat.le_of_ble_eq_true rfl) rfl (fun r3 mi3 mr3 h3 => ?_)
      obtain ⟨rfl, rfl, h3, b9, q9⟩ := h3
      rw [if_pos ⟨by omega, by omega⟩, Int.toNat_natCast, hg] at h3
      subst h3
      refine w_ist9_3 X dX0_fillFrom_56 ?_
      refine w_aload_n X dX0_fillFrom_57 rfl ?_
      refine w_get X (by decide) (σ_44 G n0 _ _) rfl gW_X0 2 (by decide) gF_X0_23 rfl dX0_fillFrom_58 ?_
      refine w_iload_n X dX0_fillFrom_61 rfl ?_
      refine s_callVi X _ (c_X3_of (l := l) (G := G) (n0 := n0) cr_47 (by first | assumption | (refine ⟨?_, ?_⟩ <;> omega))) gM_X0_163 gI_yX3_of gS_yX3_of gN_X3 gC_yX3_of (isCr_k cr_47) (σ_cr G n0 _ _ cr_47) rfl dX0_fillFrom_62 hl_yX3_of ⟨Nat.le_of_ble_eq_true rfl, Nat.le_of_ble_eq_true rfl⟩ (Nat.le_of_ble_eq_true rfl) rfl (fun r4 mi4 mr4 h4 => ?_)
      obtain ⟨rfl, rfl, h4⟩ := h4
      rw [if_pos ⟨by omega, by omega⟩, Int.toNat_natCast] at h4
      subst h4
      refine w_ist9_4 X dX0_fillFrom_65 ?_
      refine w_aload_n X dX0_fillFrom_67 rfl ?_
      refine w_iload_n X dX0_fillFrom_68 rfl ?_
      refine w_aload_n X dX0_fillFrom_69 rfl ?_
      refine w_get X (by decide) (σ_44 G n0 _ _) rfl gW_X0 0 (by decide) gF_X0_44 rfl dX0_fillFrom_70 ?_
      refine w_getN X (by decide) (σ_1 G n0 _ _) rfl gW_X5 3 (by decide) gF_X0_117 rfl dX0_fillFrom_73 ?_
      refine s_callVi X _ (c_X6_isLastToGoal (l := l) (G := G) (n0 := n0) hk hv (by omega)) gM_X0_165 gI_yX6_isLastToGoal gS_yX6_isLastToGoal gN_X6 gC_yX6_isLastToGoal (isRu_k hk) (σ_ru G n0 _ _ hk) rfl dX0_fillFrom_76 hl_yX6_isLastToGoal ⟨Nat.le_of_ble_eq_true rfl, Nat.le_of_ble_eq_true rfl⟩ (Nat.le_of_ble_eq_true rfl) rfl (fun r5 mi5 mr5 h5 => ?_)
      obtain ⟨rfl, rfl, h5⟩ := h5
      have h5 : r5 = 1 ∧ lastG (mi 1 3) (mi k) s1 ∨ r5 = 0 ∧ ¬ lastG (mi 1 3) (mi k) s1 := by
        rcases h5 with ⟨q, q2⟩ | ⟨q, j, q1, q2, q3⟩
        · exact Or.inl ⟨q, q2⟩
        · exact Or.inr ⟨q, fun w => w j q1 q2 q3⟩
      refine w_if_eq X 87 dX0_fillFrom_79 (by decide) (fun c79_3 => ?_) (fun c79_3 => ?_)
      ·
        have hla : ¬ lastG (mi 1 3) (mi k) s1 := by rcases h5 with ⟨q, -⟩ | ⟨-, q⟩; omega; exact q
        have hf : ∀ n1 : Int, 0 ≤ n1 → (lastG (mi 1 3) (mi k) s1 → n1 = mi 48 g) → 0 ≤ n1 := fun n1 q _ => q
        have hf2 : lastG (mi 1 3) (mi k) s1 → 0 = mi 48 g := fun q => absurd q hla
        clear h5
        refine w_iconst X dX0_fillFrom_87 ?_
        refine w_ist9_5 X dX0_fillFrom_88 ?_
        refine w_aload_n X dX0_fillFrom_90 rfl ?_
        refine w_get X (by decide) (σ_44 G n0 _ _) rfl gW_X0 3 (by decide) gF_X0_27 rfl dX0_fillFrom_91 ?_
        refine w_iload_n X dX0_fillFrom_94 rfl ?_
        refine s_callVi X _ (c_X3_of (l := l) (G := G) (n0 := n0) cr_49 (by first | assumption | (refine ⟨?_, ?_⟩ <;> omega))) gM_X0_163 gI_yX3_of gS_yX3_of gN_X3 gC_yX3_of (isCr_k cr_49) (σ_cr G n0 _ _ cr_49) rfl dX0_fillFrom_95 hl_yX3_of ⟨Nat.le_of_ble_eq_true rfl, Nat.le_of_ble_eq_true rfl⟩ (Nat.le_of_ble_eq_true rfl) rfl (fun r6 mi6 mr6 h6 => ?_)
        obtain ⟨rfl, rfl, h6⟩ := h6
        rw [if_pos ⟨by omega, by omega⟩, Int.toNat_natCast] at h6
        subst h6
        refine w_ist9_6 X dX0_fillFrom_98 ?_
        refine w_iconst X dX0_fillFrom_100 ?_
        refine w_ist9_7 X dX0_fillFrom_101 ?_
        refine w_iload X dX0_fillFrom_103 rfl ?_
        refine w_ist9_8 X dX0_fillFrom_105 ?_
        have loop : ∀ (n : Nat) (mi' : Nat → Nat → Int) (mr' : Nat → Nat → Nat) (n1 w1 : Int), (0 ≤ n1 ∧ n1 ≤ mi 48 g + 1) → (w1 = 0 ∨ w1 = 1) → (Grw fX mi mi' mr mr' N (fun y : V5 × Int => y.2 = 1 ∧ Cp (mi 1 3) (mi k) 3 s1 (mi 50) (mi 48) y.1)) → (∀ j : Nat, j < 5 → j ≠ s1 → mi' 50 j = mi 50 j) → (∀ j : Nat, j < 5 → j ≠ g → mi' 48 j = mi 48 j) → (∀ n2 : Int, 0 ≤ n2 → n2 < n1 → ∀ v, Cp (mi 1 3) (mi k) 2 (s1 + 1) (addA (mi 50) s1 n2) (addA (mi 48) g (-n2)) v → (∃ y ∈ Ef mi' mr' N, gv v y.1) ∨ 100 < mi' N 2) → (w1 = 0 → ∀ n2 : Int, n1 ≤ n2 → n2 ≤ mi 48 g → ∀ v, Cp (mi 1 3) (mi k) 2 (s1 + 1) (addA (mi 50) s1 n2) (addA (mi 48) g (-n2)) v → (∃ y ∈ Ef mi' mr' N, gv v y.1) ∨ 100 < mi' N 2) → n = (mi 48 g + 1 - n1).toNat → WSi p l e s m args below meth c9 7 (fun r9 mi9 mr9 => Fil mi mi9 mr mr9 N k 3 s1 r9) G n0 9 mi' mr' 107 [some (.ref (n0 + 44)), some (.ref (n0 + k)), some (.int (jI (s1 : Int))), some (.int (jI (g : Int))), some (.int (jI (mi 48 g))), some (.int (jI (0))), some (.int (jI (mi 50 s1))), some (.int (jI w1)), some (.int (jI n1))] [] := by
          intro n
          induction n using Nat.strongRecOn with
          | ind n ih_loop =>
            intro mi' mr' n1 w1 hn hw hG hm1 hl1 hc hw0 hn
            have hm' : ∀ a, a < N ∨ N + 205 ≤ a → a ≠ 48 → a ≠ 50 → mi' a = mi a := fun a ha h48 h50 => hG.2.2.2.2.2.1 a ha (fun q => by rcases q with q | q; exact h48 q; exact h50 q)
            have hr' : ∀ a, a ≠ N + 1 → mr' a = mr a := hG.2.2.2.2.2.2.1
            have hA' : mr' 44 4 = A := by rw [hr' 44 (by omega)]; exact hA
            have hN' : mr' 44 5 = N := by rw [hr' 44 (by omega)]; exact hN
            refine w_iload X dX0_fillFrom_107 rfl ?_
            refine w_iload X dX0_fillFrom_109 rfl ?_
            refine w_icmp_gt X 161 dX0_fillFrom_111 (by decide) (fun c111_4 => ?_) (fun c111_4 => ?_)
            ·
              refine w_aload_n X dX0_fillFrom_161 rfl ?_
              refine w_get X (by decide) (σ_44 G n0 _ _) rfl gW_X0 3 (by decide) gF_X0_27 rfl dX0_fillFrom_162 ?_
              refine w_iload_n X dX0_fillFrom_165 rfl ?_
              refine w_iload X dX0_fillFrom_166 rfl ?_
              refine s_callVv X _ (c_X3_set (l := l) (G := G) (n0 := n0) cr_49 (by first | assumption | (refine ⟨?_, ?_⟩ <;> omega))) gM_X0_169 gI_yX3_set gS_yX3_set gN_X3 gC_yX3_set (isCr_k cr_49) (σ_cr G n0 _ _ cr_49) rfl dX0_fillFrom_168 hl_yX3_set ⟨Nat.le_of_ble_eq_true rfl, Nat.le_of_ble_eq_true rfl⟩ (Nat.le_of_ble_eq_true rfl) rfl (fun mi7 mr7 h7 => ?_)
              obtain ⟨e9, rfl⟩ := h7
              rw [if_pos ⟨by omega, by omega⟩, Int.toNat_natCast] at e9
              subst e9
              refine w_aload_n X dX0_fillFrom_171 rfl ?_
              refine w_get X (by decide) (σ_44 G n0 _ _) rfl gW_X0 2 (by decide) gF_X0_23 rfl dX0_fillFrom_172 ?_
              refine w_iload_n X dX0_fillFrom_175 rfl ?_
              refine w_iload X dX0_fillFrom_176 rfl ?_
              refine s_callVv X _ (c_X3_set (l := l) (G := G) (n0 := n0) cr_47 (by first | assumption | (refine ⟨?_, ?_⟩ <;> omega))) gM_X0_169 gI_yX3_set gS_yX3_set gN_X3 gC_yX3_set (isCr_k cr_47) (σ_cr G n0 _ _ cr_47) rfl dX0_fillFrom_178 hl_yX3_set ⟨Nat.le_of_ble_eq_true rfl, Nat.le_of_ble_eq_true rfl⟩ (Nat.le_of_ble_eq_true rfl) rfl (fun mi8 mr8 h8 => ?_)
              obtain ⟨e9, rfl⟩ := h8
              rw [if_pos ⟨by omega, by omega⟩, Int.toNat_natCast] at e9
              subst e9
              refine w_iconst X dX0_fillFrom_181 ?_
              refine s_zret X hr dX0_fillFrom_182 (by omega) ?_
              have h0 : ∀ a, ¬ fX a → (up2 (up2 mi' 50 s1 (mi 50 s1)) 48 g (mi 48 g)) a = mi' a := fun a ha => by rw [up2_k _ _ _ _ (fun q => ha (Or.inl q)), up2_k _ _ _ _ (fun q => ha (Or.inr q))]
              have hX : ∀ a, fX a → a < N := fun a ha => by rcases ha with ha | ha <;> omega
              have hE3 : Ef (up2 (up2 mi' 50 s1 (mi 50 s1)) 48 g (mi 48 g)) mr' N = Ef mi' mr' N := Ef_fr hG.1 (fun a ha ha2 => h0 a (fun q => by have := hX a q; omega)) rfl
              have hN3 : (up2 (up2 mi' 50 s1 (mi 50 s1)) 48 g (mi 48 g)) N = mi' N := h0 N (fun q => by have := hX N q; omega)
              refine ⟨Grw_e hG h0 hX, fun v hv2 => ?_, Or.inl rfl, fun j hj => ?_, fun j hj => ?_⟩
              · obtain ⟨n2, q1, q2, q3, q4⟩ := hv2
                rw [hgt] at q2 q3 q4
                rw [hE3, hN3]
                have q5 := hf n2 q1 q3
                by_cases q6 : n2 < n1
                · exact hc n2 q5 q6 v q4
                · first
                  | (exfalso; omega)
                  | exact hw0 (by omega) n2 (by omega) q2 v q4
              · rw [up2_k _ _ _ _ (by decide)]
                by_cases q : j = s1
                · subst q; rw [up2_s]
                · rw [up2_j _ _ _ _ q]; exact hm1 j hj q
              · by_cases q : j = g
                · subst q; rw [up2_s]
                · rw [up2_j _ _ _ _ q, up2_k _ _ _ _ (by decide)]; exact hl1 j hj q
            ·
              refine w_iload X dX0_fillFrom_114 rfl ?_
              refine w_if_eq X 161 dX0_fillFrom_116 (by decide) (fun c116_5 => ?_) (fun c116_5 => ?_)
              ·
                refine w_aload_n X dX0_fillFrom_161 rfl ?_
                refine w_get X (by decide) (σ_44 G n0 _ _) rfl gW_X0 3 (by decide) gF_X0_27 rfl dX0_fillFrom_162 ?_
                refine w_iload_n X dX0_fillFrom_165 rfl ?_
                refine w_iload X dX0_fillFrom_166 rfl ?_
                refine s_callVv X _ (c_X3_set (l := l) (G := G) (n0 := n0) cr_49 (by first | assumption | (refine ⟨?_, ?_⟩ <;> omega))) gM_X0_169 gI_yX3_set gS_yX3_set gN_X3 gC_yX3_set (isCr_k cr_49) (σ_cr G n0 _ _ cr_49) rfl dX0_fillFrom_168 hl_yX3_set ⟨Nat.le_of_ble_eq_true rfl, Nat.le_of_ble_eq_true rfl⟩ (Nat.le_of_ble_eq_true rfl) rfl (fun mi7 mr7 h7 => ?_)
                obtain ⟨e9, rfl⟩ := h7
                rw [if_pos ⟨by omega, by omega⟩, Int.toNat_natCast] at e9
                subst e9
                refine w_aload_n X dX0_fillFrom_171 rfl ?_
                refine w_get X (by decide) (σ_44 G n0 _ _) rfl gW_X0 2 (by decide) gF_X0_23 rfl dX0_fillFrom_172 ?_
                refine w_iload_n X dX0_fillFrom_175 rfl ?_
                refine w_iload X dX0_fillFrom_176 rfl ?_
                refine s_callVv X _ (c_X3_set (l := l) (G := G) (n0 := n0) cr_47 (by first | assumption | (refine ⟨?_, ?_⟩ <;> omega))) gM_X0_169 gI_yX3_set gS_yX3_set gN_X3 gC_yX3_set (isCr_k cr_47) (σ_cr G n0 _ _ cr_47) rfl dX0_fillFrom_178 hl_yX3_set ⟨Nat.le_of_ble_eq_true rfl, Nat.le_of_ble_eq_true rfl⟩ (Nat.le_of_ble_eq_true rfl) rfl (fun mi8 mr8 h8 => ?_)
                obtain ⟨e9, rfl⟩ := h8
                rw [if_pos ⟨by omega, by omega⟩, Int.toNat_natCast] at e9
                subst e9
                refine w_iconst X dX0_fillFrom_181 ?_
                refine s_zret X hr dX0_fillFrom_182 (by omega) ?_
                have h0 : ∀ a, ¬ fX a → (up2 (up2 mi' 50 s1 (mi 50 s1)) 48 g (mi 48 g)) a = mi' a := fun a ha => by rw [up2_k _ _ _ _ (fun q => ha (Or.inl q)), up2_k _ _ _ _ (fun q => ha (Or.inr q))]
                have hX : ∀ a, fX a → a < N := fun a ha => by rcases ha with ha | ha <;> omega
                have hE3 : Ef (up2 (up2 mi' 50 s1 (mi 50 s1)) 48 g (mi 48 g)) mr' N = Ef mi' mr' N := Ef_fr hG.1 (fun a ha ha2 => h0 a (fun q => by have := hX a q; omega)) rfl
                have hN3 : (up2 (up2 mi' 50 s1 (mi 50 s1)) 48 g (mi 48 g)) N = mi' N := h0 N (fun q => by have := hX N q; omega)
                refine ⟨Grw_e hG h0 hX, fun v hv2 => ?_, Or.inl rfl, fun j hj => ?_, fun j hj => ?_⟩
                · obtain ⟨n2, q1, q2, q3, q4⟩ := hv2
                  rw [hgt] at q2 q3 q4
                  rw [hE3, hN3]
                  have q5 := hf n2 q1 q3
                  by_cases q6 : n2 < n1
                  · exact hc n2 q5 q6 v q4
                  · first
                    | (exfalso; omega)
                    | exact hw0 (by omega) n2 (by omega) q2 v q4
                · rw [up2_k _ _ _ _ (by decide)]
                  by_cases q : j = s1
                  · subst q; rw [up2_s]
                  · rw [up2_j _ _ _ _ q]; exact hm1 j hj q
                · by_cases q : j = g
                  · subst q; rw [up2_s]
                  · rw [up2_j _ _ _ _ q, up2_k _ _ _ _ (by decide)]; exact hl1 j hj q
              ·
                refine w_aload_n X dX0_fillFrom_119 rfl ?_
                refine w_get X (by decide) (σ_44 G n0 _ _) rfl gW_X0 3 (by decide) gF_X0_27 rfl dX0_fillFrom_120 ?_
                refine w_iload_n X dX0_fillFrom_123 rfl ?_
                refine w_iload X dX0_fillFrom_124 rfl ?_
                refine w_iload X dX0_fillFrom_126 rfl ?_
                refine w_iadd X dX0_fillFrom_128 ?_
                refine s_callVv X _ (c_X3_set (l := l) (G := G) (n0 := n0) cr_49 (by first | assumption | (refine ⟨?_, ?_⟩ <;> omega))) gM_X0_169 gI_yX3_set gS_yX3_set gN_X3 gC_yX3_set (isCr_k cr_49) (σ_cr G n0 _ _ cr_49) rfl dX0_fillFrom_129 hl_yX3_set ⟨Nat.le_of_ble_eq_true rfl, Nat.le_of_ble_eq_true rfl⟩ (Nat.le_of_ble_eq_true rfl) rfl (fun mi7 mr7 h7 => ?_)
                obtain ⟨e9, rfl⟩ := h7
                rw [if_pos ⟨by omega, by omega⟩, Int.toNat_natCast] at e9
                subst e9
                refine w_aload_n X dX0_fillFrom_132 rfl ?_
                refine w_get X (by decide) (σ_44 G n0 _ _) rfl gW_X0 2 (by decide) gF_X0_23 rfl dX0_fillFrom_133 ?_
                refine w_iload_n X dX0_fillFrom_136 rfl ?_
                refine w_iload X dX0_fillFrom_137 rfl ?_
                refine w_iload X dX0_fillFrom_139 rfl ?_
                refine w_isub X dX0_fillFrom_141 ?_
                refine s_callVv X _ (c_X3_set (l := l) (G := G) (n0 := n0) cr_47 (by first | assumption | (refine ⟨?_, ?_⟩ <;> omega))) gM_X0_169 gI_yX3_set gS_yX3_set gN_X3 gC_yX3_set (isCr_k cr_47) (σ_cr G n0 _ _ cr_47) rfl dX0_fillFrom_142 hl_yX3_set ⟨Nat.le_of_ble_eq_true rfl, Nat.le_of_ble_eq_true rfl⟩ (Nat.le_of_ble_eq_true rfl) rfl (fun mi8 mr8 h8 => ?_)
                obtain ⟨e9, rfl⟩ := h8
                rw [if_pos ⟨by omega, by omega⟩, Int.toNat_natCast] at e9
                subst e9
                have hfr2 : ∀ a, a ≠ 48 → a ≠ 50 → (up2 (up2 mi' 50 s1 (mi 50 s1 + n1)) 48 g (mi 48 g - n1)) a = mi' a := fun a h48 h50 => by rw [up2_k _ _ _ _ h48, up2_k _ _ _ _ h50]
                have hlt : (mi 48 g + 1 - (n1 + 1)).toNat < n := by omega
                have hn2 : 0 ≤ n1 + 1 ∧ n1 + 1 ≤ mi 48 g + 1 := by omega
                have h250 : ∀ j : Nat, j < 5 → (up2 (up2 mi' 50 s1 (mi 50 s1 + n1)) 48 g (mi 48 g - n1)) 50 j = addA (mi 50) s1 n1 j := by
                  intro j hj
                  rw [up2_k _ _ _ _ (by decide)]
                  unfold addA
                  by_cases q : j = s1
                  · subst q; rw [up2_s, if_pos rfl]
                  · rw [up2_j _ _ _ _ q, if_neg q]; exact hm1 j hj q
                have h248 : ∀ j : Nat, j < 5 → (up2 (up2 mi' 50 s1 (mi 50 s1 + n1)) 48 g (mi 48 g - n1)) 48 j = addA (mi 48) g (-n1) j := by
                  intro j hj
                  unfold addA
                  by_cases q : j = g
                  · subst q; rw [up2_s, if_pos rfl]; omega
                  · rw [up2_j _ _ _ _ q, up2_k _ _ _ _ (by decide), if_neg q]; exact hl1 j hj q
                have hk2 : (up2 (up2 mi' 50 s1 (mi 50 s1 + n1)) 48 g (mi 48 g - n1)) k = mi k := by rw [hfr2 k (by omega) (by omega)]; exact hm' k (by omega) (by omega) (by omega)
                have hk12 : (up2 (up2 mi' 50 s1 (mi 50 s1 + n1)) 48 g (mi 48 g - n1)) 1 = mi 1 := by rw [hfr2 1 (by decide) (by decide)]; exact hm' 1 (by omega) (by decide) (by decide)
                have hL2 : LW (up2 (up2 mi' 50 s1 (mi 50 s1 + n1)) 48 g (mi 48 g - n1)) := LW_fr hL (fun a ha ha2 ha3 => by rw [hfr2 a (by omega) (by omega)]; exact hm' a (by omega) (by omega) (by omega))
                have hv2 : RV ((up2 (up2 mi' 50 s1 (mi 50 s1 + n1)) 48 g (mi 48 g - n1)) 1 3) (up2 (up2 mi' 50 s1 (mi 50 s1 + n1)) 48 g (mi 48 g - n1)) k := by rw [hk12]; exact RV_fr hv hk2 (by rw [hfr2 _ (by omega) (by omega)]; exact hm' _ (by omega) (by omega) (by omega))
                have hB2 : BO (up2 (up2 mi' 50 s1 (mi 50 s1 + n1)) 48 g (mi 48 g - n1)) mr' N := BO_fr hG.1 (fun a ha ha2 => hfr2 a (by omega) (by omega)) rfl
                have hE2 : Ef (up2 (up2 mi' 50 s1 (mi 50 s1 + n1)) 48 g (mi 48 g - n1)) mr' N = Ef mi' mr' N := Ef_fr hG.1 (fun a ha ha2 => hfr2 a (by omega) (by omega)) rfl
                have hS2 : Srt (Ef (up2 (up2 mi' 50 s1 (mi 50 s1 + n1)) 48 g (mi 48 g - n1)) mr' N) := by rw [hE2]; exact hG.2.1
                have hF2 : FCo (up2 (up2 mi' 50 s1 (mi 50 s1 + n1)) 48 g (mi 48 g - n1)) mr' N := FCo_fr hG.1 (fun a ha ha2 => hfr2 a (by omega) (by omega)) rfl hG.2.2.1
                have hml2 : ∀ j : Nat, j < 5 → 0 ≤ (up2 (up2 mi' 50 s1 (mi 50 s1 + n1)) 48 g (mi 48 g - n1)) 50 j ∧ 0 ≤ (up2 (up2 mi' 50 s1 (mi 50 s1 + n1)) 48 g (mi 48 g - n1)) 48 j := by
                  intro j hj
                  have q1 := hml j hj
                  rw [h250 j hj, h248 j hj]
                  unfold addA
                  refine ⟨?_, ?_⟩
                  · split <;> omega
                  · split <;> omega
                have hsum2 : ∀ j : Nat, j < 5 → (up2 (up2 mi' 50 s1 (mi 50 s1 + n1)) 48 g (mi 48 g - n1)) 50 j + sum5 ((up2 (up2 mi' 50 s1 (mi 50 s1 + n1)) 48 g (mi 48 g - n1)) 48) ≤ 900 := by
                  intro j hj
                  have q1 := hsum j hj
                  rw [h250 j hj, sum5_c h248, sum5_addA hg5]
                  unfold addA
                  split <;> omega
                generalize (up2 (up2 mi' 50 s1 (mi 50 s1 + n1)) 48 g (mi 48 g - n1)) = m2 at hfr2 h250 h248 hk2 hk12 hL2 hv2 hB2 hE2 hS2 hF2 hml2 hsum2 ⊢
                refine w_aload_n X dX0_fillFrom_145 rfl ?_
                refine w_aload_n X dX0_fillFrom_146 rfl ?_
                refine w_iload_n X dX0_fillFrom_147 rfl ?_
                refine w_iconst X dX0_fillFrom_148 ?_
                refine w_iadd X dX0_fillFrom_149 ?_
                refine s_callVi X _ (c_X0_fillFrom_2 (l := l) (G := G) (n0 := n0) hAN hA' hN' hL2 hk hv2 hB2 hS2 hF2 hml2 hsum2 (s1 := s1 + 1) (by rw [hk12]; omega)) gM_X0_141 gI_yX0_fillFrom gS_yX0_fillFrom gN_X0 gC_yX0_fillFrom (by decide) (σ_44 G n0 _ _) rfl dX0_fillFrom_150 hl_yX0_fillFrom ⟨Nat.le_of_ble_eq_true rfl, Nat.le_of_ble_eq_true rfl⟩ (Nat.le_of_ble_eq_true rfl) rfl (fun r9 mi9 mr9 h9 => ?_)
                obtain ⟨hG2, hcov, hr9, hk50, hk48⟩ := h9
                rw [hk12, hk2] at hG2 hcov
                have hCpE : ∀ v, Cp (mi 1 3) (mi k) 2 (s1 + 1) (m2 50) (m2 48) v → Cp (mi 1 3) (mi k) 2 (s1 + 1) (addA (mi 50) s1 n1) (addA (mi 48) g (-n1)) v := fun v q => Cp_c hvg 2 (s1 + 1) (by omega) h250 h248 q
                have hCp : ∀ v, Cp (mi 1 3) (mi k) 2 (s1 + 1) (addA (mi 50) s1 n1) (addA (mi 48) g (-n1)) v → Cp (mi 1 3) (mi k) 2 (s1 + 1) (m2 50) (m2 48) v := fun v q => Cp_c hvg 2 (s1 + 1) (by omega) (fun j hj => (h250 j hj).symm) (fun j hj => (h248 j hj).symm) q
                have hT5 : T5 (m2 50) = T5 (addA (mi 50) s1 n1) := T5_c h250
                have hG3 : Grw fX mi' mi9 mr' mr9 N (fun y : V5 × Int => y.2 = 1 ∧ Cp (mi 1 3) (mi k) 3 s1 (mi 50) (mi 48) y.1) := Grw_l hG.1 (Grw_w hG2 (fun _ q => q) (fun y q => ⟨q.1, n1, by omega, by rw [hgt]; omega, fun q2 => by rw [hgt]; have := hf2 q2; omega, by rw [hgt]; exact hCpE _ q.2⟩)) (fun a ha => hfr2 a (fun q => ha (Or.inl q)) (fun q => ha (Or.inr q))) (fun a ha => by rcases ha with ha | ha <;> omega)
                refine w_ist9_7 X dX0_fillFrom_153 ?_
                refine w_iinc9_8 X dX0_fillFrom_155 ?_
                refine w_goto X 107 dX0_fillFrom_158 (by decide) ?_
                have hw9 : r9 = 0 ∨ r9 = 1 := by rcases hr9 with q | q; exact Or.inr q; exact Or.inl q.1
                have hcn : ∀ y, y ∈ Ef mi' mr' N → y ∈ Ef mi9 mr9 N := hG3.2.2.2.1
                have hcc : mi' N 2 ≤ mi9 N 2 := hG3.2.2.2.2.2.2.2
                exact ih_loop _ hlt mi9 mr9 (n1 + 1) r9 hn2 hw9 (Grw_t hG hG3) (fun j hj hjs => by rw [hk50 j hj, h250 j hj]; exact if_neg hjs) (fun j hj hjg => by rw [hk48 j hj, h248 j hj]; exact if_neg hjg)
                  (fun n2 q1 q2 v hv2 => by
                    by_cases q : n2 < n1
                    · rcases hc n2 q1 q v hv2 with ⟨y, hy, hy2⟩ | q3
                      · exact Or.inl ⟨y, hcn y hy, hy2⟩
                      · right; omega
                    · have e : n2 = n1 := by omega
                      subst e
                      exact hcov v (hCp v hv2))
                  (fun q n2 q1 q2 v hv2 => by
                    rcases hr9 with q3 | ⟨-, q3⟩
                    · omega
                    · rcases q3 with ⟨y, hy, hy2⟩ | q4
                      · rw [hT5] at hy2
                        exact Or.inl ⟨y, hy, gv_t (gv_t (Cp_ge _ _ hv2) (gv_add (by omega))) hy2⟩
                      · exact Or.inr q4) rfl
        exact loop _ mi mr 0 1 (by omega) (Or.inr rfl) (Grw_r hBN hSN hFN) (fun j hj h9 => rfl) (fun j hj h9 => rfl) (fun n1 q1 q2 => absurd q1 (by omega)) (fun q => absurd q (by decide)) rfl
      ·
        have hla : lastG (mi 1 3) (mi k) s1 := by rcases h5 with ⟨-, q⟩ | ⟨q, -⟩; exact q; exact absurd q (by assumption)
        have hf : ∀ n1 : Int, 0 ≤ n1 → (lastG (mi 1 3) (mi k) s1 → n1 = mi 48 g) → mi 48 g ≤ n1 := fun n1 _ q => by have := q hla; omega
        have hf2 : lastG (mi 1 3) (mi k) s1 → mi 48 g = mi 48 g := fun _ => rfl
        clear h5
        refine w_iload X dX0_fillFrom_82 rfl ?_
        refine w_goto X 88 dX0_fillFrom_84 (by decide) ?_
        refine w_ist9_5 X dX0_fillFrom_88 ?_
        refine w_aload_n X dX0_fillFrom_90 rfl ?_
        refine w_get X (by decide) (σ_44 G n0 _ _) rfl gW_X0 3 (by decide) gF_X0_27 rfl dX0_fillFrom_91 ?_
        refine w_iload_n X dX0_fillFrom_94 rfl ?_
        refine s_callVi X _ (c_X3_of (l := l) (G := G) (n0 := n0) cr_49 (by first | assumption | (refine ⟨?_, ?_⟩ <;> omega))) gM_X0_163 gI_yX3_of gS_yX3_of gN_X3 gC_yX3_of (isCr_k cr_49) (σ_cr G n0 _ _ cr_49) rfl dX0_fillFrom_95 hl_yX3_of ⟨Nat.le_of_ble_eq_true rfl, Nat.le_of_ble_eq_true rfl⟩ (Nat.le_of_ble_eq_true rfl) rfl (fun r6 mi6 mr6 h6 => ?_)
        obtain ⟨rfl, rfl, h6⟩ := h6
        rw [if_pos ⟨by omega, by omega⟩, Int.toNat_natCast] at h6
        subst h6
        refine w_ist9_6 X dX0_fillFrom_98 ?_
        refine w_iconst X dX0_fillFrom_100 ?_
        refine w_ist9_7 X dX0_fillFrom_101 ?_
        refine w_iload X dX0_fillFrom_103 rfl ?_
        refine w_ist9_8 X dX0_fillFrom_105 ?_
        have loop : ∀ (n : Nat) (mi' : Nat → Nat → Int) (mr' : Nat → Nat → Nat) (n1 w1 : Int), ((mi 48 g) ≤ n1 ∧ n1 ≤ mi 48 g + 1) → (w1 = 0 ∨ w1 = 1) → (Grw fX mi mi' mr mr' N (fun y : V5 × Int => y.2 = 1 ∧ Cp (mi 1 3) (mi k) 3 s1 (mi 50) (mi 48) y.1)) → (∀ j : Nat, j < 5 → j ≠ s1 → mi' 50 j = mi 50 j) → (∀ j : Nat, j < 5 → j ≠ g → mi' 48 j = mi 48 j) → (∀ n2 : Int, (mi 48 g) ≤ n2 → n2 < n1 → ∀ v, Cp (mi 1 3) (mi k) 2 (s1 + 1) (addA (mi 50) s1 n2) (addA (mi 48) g (-n2)) v → (∃ y ∈ Ef mi' mr' N, gv v y.1) ∨ 100 < mi' N 2) → (w1 = 0 → ∀ n2 : Int, n1 ≤ n2 → n2 ≤ mi 48 g → ∀ v, Cp (mi 1 3) (mi k) 2 (s1 + 1) (addA (mi 50) s1 n2) (addA (mi 48) g (-n2)) v → (∃ y ∈ Ef mi' mr' N, gv v y.1) ∨ 100 < mi' N 2) → n = (mi 48 g + 1 - n1).toNat → WSi p l e s m args below meth c9 7 (fun r9 mi9 mr9 => Fil mi mi9 mr mr9 N k 3 s1 r9) G n0 9 mi' mr' 107 [some (.ref (n0 + 44)), some (.ref (n0 + k)), some (.int (jI (s1 : Int))), some (.int (jI (g : Int))), some (.int (jI (mi 48 g))), some (.int (jI ((mi 48 g)))), some (.int (jI (mi 50 s1))), some (.int (jI w1)), some (.int (jI n1))] [] := by
          intro n
          induction n using Nat.strongRecOn with
          | ind n ih_loop =>
            intro mi' mr' n1 w1 hn hw hG hm1 hl1 hc hw0 hn
            have hm' : ∀ a, a < N ∨ N + 205 ≤ a → a ≠ 48 → a ≠ 50 → mi' a = mi a := fun a ha h48 h50 => hG.2.2.2.2.2.1 a ha (fun q => by rcases q with q | q; exact h48 q; exact h50 q)
            have hr' : ∀ a, a ≠ N + 1 → mr' a = mr a := hG.2.2.2.2.2.2.1
            have hA' : mr' 44 4 = A := by rw [hr' 44 (by omega)]; exact hA
            have hN' : mr' 44 5 = N := by rw [hr' 44 (by omega)]; exact hN
            refine w_iload X dX0_fillFrom_107 rfl ?_
            refine w_iload X dX0_fillFrom_109 rfl ?_
            refine w_icmp_gt X 161 dX0_fillFrom_111 (by decide) (fun c111_6 => ?_) (fun c111_6 => ?_)
            ·
              refine w_aload_n X dX0_fillFrom_161 rfl ?_
              refine w_get X (by decide) (σ_44 G n0 _ _) rfl gW_X0 3 (by decide) gF_X0_27 rfl dX0_fillFrom_162 ?_
              refine w_iload_n X dX0_fillFrom_165 rfl ?_
              refine w_iload X dX0_fillFrom_166 rfl ?_
              refine s_callVv X _ (c_X3_set (l := l) (G := G) (n0 := n0) cr_49 (by first | assumption | (refine ⟨?_, ?_⟩ <;> omega))) gM_X0_169 gI_yX3_set gS_yX3_set gN_X3 gC_yX3_set (isCr_k cr_49) (σ_cr G n0 _ _ cr_49) rfl dX0_fillFrom_168 hl_yX3_set ⟨Nat.le_of_ble_eq_true rfl, Nat.le_of_ble_eq_true rfl⟩ (Nat.le_of_ble_eq_true rfl) rfl (fun mi7 mr7 h7 => ?_)
              obtain ⟨e9, rfl⟩ := h7
              rw [if_pos ⟨by omega, by omega⟩, Int.toNat_natCast] at e9
              subst e9
              refine w_aload_n X dX0_fillFrom_171 rfl ?_
              refine w_get X (by decide) (σ_44 G n0 _ _) rfl gW_X0 2 (by decide) gF_X0_23 rfl dX0_fillFrom_172 ?_
              refine w_iload_n X dX0_fillFrom_175 rfl ?_
              refine w_iload X dX0_fillFrom_176 rfl ?_
              refine s_callVv X _ (c_X3_set (l := l) (G := G) (n0 := n0) cr_47 (by first | assumption | (refine ⟨?_, ?_⟩ <;> omega))) gM_X0_169 gI_yX3_set gS_yX3_set gN_X3 gC_yX3_set (isCr_k cr_47) (σ_cr G n0 _ _ cr_47) rfl dX0_fillFrom_178 hl_yX3_set ⟨Nat.le_of_ble_eq_true rfl, Nat.le_of_ble_eq_true rfl⟩ (Nat.le_of_ble_eq_true rfl) rfl (fun mi8 mr8 h8 => ?_)
              obtain ⟨e9, rfl⟩ := h8
              rw [if_pos ⟨by omega, by omega⟩, Int.toNat_natCast] at e9
              subst e9
              refine w_iconst X dX0_fillFrom_181 ?_
              refine s_zret X hr dX0_fillFrom_182 (by omega) ?_
              have h0 : ∀ a, ¬ fX a → (up2 (up2 mi' 50 s1 (mi 50 s1)) 48 g (mi 48 g)) a = mi' a := fun a ha => by rw [up2_k _ _ _ _ (fun q => ha (Or.inl q)), up2_k _ _ _ _ (fun q => ha (Or.inr q))]
              have hX : ∀ a, fX a → a < N := fun a ha => by rcases ha with ha | ha <;> omega
              have hE3 : Ef (up2 (up2 mi' 50 s1 (mi 50 s1)) 48 g (mi 48 g)) mr' N = Ef mi' mr' N := Ef_fr hG.1 (fun a ha ha2 => h0 a (fun q => by have := hX a q; omega)) rfl
              have hN3 : (up2 (up2 mi' 50 s1 (mi 50 s1)) 48 g (mi 48 g)) N = mi' N := h0 N (fun q => by have := hX N q; omega)
              refine ⟨Grw_e hG h0 hX, fun v hv2 => ?_, Or.inl rfl, fun j hj => ?_, fun j hj => ?_⟩
              · obtain ⟨n2, q1, q2, q3, q4⟩ := hv2
                rw [hgt] at q2 q3 q4
                rw [hE3, hN3]
                have q5 := hf n2 q1 q3
                by_cases q6 : n2 < n1
                · exact hc n2 q5 q6 v q4
                · first
                  | (exfalso; omega)
                  | exact hw0 (by omega) n2 (by omega) q2 v q4
              · rw [up2_k _ _ _ _ (by decide)]
                by_cases q : j = s1
                · subst q; rw [up2_s]
                · rw [up2_j _ _ _ _ q]; exact hm1 j hj q
              · by_cases q : j = g
                · subst q; rw [up2_s]
                · rw [up2_j _ _ _ _ q, up2_k _ _ _ _ (by decide)]; exact hl1 j hj q
            ·
              refine w_iload X dX0_fillFrom_114 rfl ?_
              refine w_if_eq X 161 dX0_fillFrom_116 (by decide) (fun c116_7 => ?_) (fun c116_7 => ?_)
              ·
                refine w_aload_n X dX0_fillFrom_161 rfl ?_
                refine w_get X (by decide) (σ_44 G n0 _ _) rfl gW_X0 3 (by decide) gF_X0_27 rfl dX0_fillFrom_162 ?_
                refine w_iload_n X dX0_fillFrom_165 rfl ?_
                refine w_iload X dX0_fillFrom_166 rfl ?_
                refine s_callVv X _ (c_X3_set (l := l) (G := G) (n0 := n0) cr_49 (by first | assumption | (refine ⟨?_, ?_⟩ <;> omega))) gM_X0_169 gI_yX3_set gS_yX3_set gN_X3 gC_yX3_set (isCr_k cr_49) (σ_cr G n0 _ _ cr_49) rfl dX0_fillFrom_168 hl_yX3_set ⟨Nat.le_of_ble_eq_true rfl, Nat.le_of_ble_eq_true rfl⟩ (Nat.le_of_ble_eq_true rfl) rfl (fun mi7 mr7 h7 => ?_)
                obtain ⟨e9, rfl⟩ := h7
                rw [if_pos ⟨by omega, by omega⟩, Int.toNat_natCast] at e9
                subst e9
                refine w_aload_n X dX0_fillFrom_171 rfl ?_
                refine w_get X (by decide) (σ_44 G n0 _ _) rfl gW_X0 2 (by decide) gF_X0_23 rfl dX0_fillFrom_172 ?_
                refine w_iload_n X dX0_fillFrom_175 rfl ?_
                refine w_iload X dX0_fillFrom_176 rfl ?_
                refine s_callVv X _ (c_X3_set (l := l) (G := G) (n0 := n0) cr_47 (by first | assumption | (refine ⟨?_, ?_⟩ <;> omega))) gM_X0_169 gI_yX3_set gS_yX3_set gN_X3 gC_yX3_set (isCr_k cr_47) (σ_cr G n0 _ _ cr_47) rfl dX0_fillFrom_178 hl_yX3_set ⟨Nat.le_of_ble_eq_true rfl, Nat.le_of_ble_eq_true rfl⟩ (Nat.le_of_ble_eq_true rfl) rfl (fun mi8 mr8 h8 => ?_)
                obtain ⟨e9, rfl⟩ := h8
                rw [if_pos ⟨by omega, by omega⟩, Int.toNat_natCast] at e9
                subst e9
                refine w_iconst X dX0_fillFrom_181 ?_
                refine s_zret X hr dX0_fillFrom_182 (by omega) ?_
                have h0 : ∀ a, ¬ fX a → (up2 (up2 mi' 50 s1 (mi 50 s1)) 48 g (mi 48 g)) a = mi' a := fun a ha => by rw [up2_k _ _ _ _ (fun q => ha (Or.inl q)), up2_k _ _ _ _ (fun q => ha (Or.inr q))]
                have hX : ∀ a, fX a → a < N := fun a ha => by rcases ha with ha | ha <;> omega
                have hE3 : Ef (up2 (up2 mi' 50 s1 (mi 50 s1)) 48 g (mi 48 g)) mr' N = Ef mi' mr' N := Ef_fr hG.1 (fun a ha ha2 => h0 a (fun q => by have := hX a q; omega)) rfl
                have hN3 : (up2 (up2 mi' 50 s1 (mi 50 s1)) 48 g (mi 48 g)) N = mi' N := h0 N (fun q => by have := hX N q; omega)
                refine ⟨Grw_e hG h0 hX, fun v hv2 => ?_, Or.inl rfl, fun j hj => ?_, fun j hj => ?_⟩
                · obtain ⟨n2, q1, q2, q3, q4⟩ := hv2
                  rw [hgt] at q2 q3 q4
                  rw [hE3, hN3]
                  have q5 := hf n2 q1 q3
                  by_cases q6 : n2 < n1
                  · exact hc n2 q5 q6 v q4
                  · first
                    | (exfalso; omega)
                    | exact hw0 (by omega) n2 (by omega) q2 v q4
                · rw [up2_k _ _ _ _ (by decide)]
                  by_cases q : j = s1
                  · subst q; rw [up2_s]
                  · rw [up2_j _ _ _ _ q]; exact hm1 j hj q
                · by_cases q : j = g
                  · subst q; rw [up2_s]
                  · rw [up2_j _ _ _ _ q, up2_k _ _ _ _ (by decide)]; exact hl1 j hj q
              ·
                refine w_aload_n X dX0_fillFrom_119 rfl ?_
                refine w_get X (by decide) (σ_44 G n0 _ _) rfl gW_X0 3 (by decide) gF_X0_27 rfl dX0_fillFrom_120 ?_
                refine w_iload_n X dX0_fillFrom_123 rfl ?_
                refine w_iload X dX0_fillFrom_124 rfl ?_
                refine w_iload X dX0_fillFrom_126 rfl ?_
                refine w_iadd X dX0_fillFrom_128 ?_
                refine s_callVv X _ (c_X3_set (l := l) (G := G) (n0 := n0) cr_49 (by first | assumption | (refine ⟨?_, ?_⟩ <;> omega))) gM_X0_169 gI_yX3_set gS_yX3_set gN_X3 gC_yX3_set (isCr_k cr_49) (σ_cr G n0 _ _ cr_49) rfl dX0_fillFrom_129 hl_yX3_set ⟨Nat.le_of_ble_eq_true rfl, Nat.le_of_ble_eq_true rfl⟩ (Nat.le_of_ble_eq_true rfl) rfl (fun mi7 mr7 h7 => ?_)
                obtain ⟨e9, rfl⟩ := h7
                rw [if_pos ⟨by omega, by omega⟩, Int.toNat_natCast] at e9
                subst e9
                refine w_aload_n X dX0_fillFrom_132 rfl ?_
                refine w_get X (by decide) (σ_44 G n0 _ _) rfl gW_X0 2 (by decide) gF_X0_23 rfl dX0_fillFrom_133 ?_
                refine w_iload_n X dX0_fillFrom_136 rfl ?_
                refine w_iload X dX0_fillFrom_137 rfl ?_
                refine w_iload X dX0_fillFrom_139 rfl ?_
                refine w_isub X dX0_fillFrom_141 ?_
                refine s_callVv X _ (c_X3_set (l := l) (G := G) (n0 := n0) cr_47 (by first | assumption | (refine ⟨?_, ?_⟩ <;> omega))) gM_X0_169 gI_yX3_set gS_yX3_set gN_X3 gC_yX3_set (isCr_k cr_47) (σ_cr G n0 _ _ cr_47) rfl dX0_fillFrom_142 hl_yX3_set ⟨Nat.le_of_ble_eq_true rfl, Nat.le_of_ble_eq_true rfl⟩ (Nat.le_of_ble_eq_true rfl) rfl (fun mi8 mr8 h8 => ?_)
                obtain ⟨e9, rfl⟩ := h8
                rw [if_pos ⟨by omega, by omega⟩, Int.toNat_natCast] at e9
                subst e9
                have hfr2 : ∀ a, a ≠ 48 → a ≠ 50 → (up2 (up2 mi' 50 s1 (mi 50 s1 + n1)) 48 g (mi 48 g - n1)) a = mi' a := fun a h48 h50 => by rw [up2_k _ _ _ _ h48, up2_k _ _ _ _ h50]
                have hlt : (mi 48 g + 1 - (n1 + 1)).toNat < n := by omega
                have hn2 : (mi 48 g) ≤ n1 + 1 ∧ n1 + 1 ≤ mi 48 g + 1 := by omega
                have h250 : ∀ j : Nat, j < 5 → (up2 (up2 mi' 50 s1 (mi 50 s1 + n1)) 48 g (mi 48 g - n1)) 50 j = addA (mi 50) s1 n1 j := by
                  intro j hj
                  rw [up2_k _ _ _ _ (by decide)]
                  unfold addA
                  by_cases q : j = s1
                  · subst q; rw [up2_s, if_pos rfl]
                  · rw [up2_j _ _ _ _ q, if_neg q]; exact hm1 j hj q
                have h248 : ∀ j : Nat, j < 5 → (up2 (up2 mi' 50 s1 (mi 50 s1 + n1)) 48 g (mi 48 g - n1)) 48 j = addA (mi 48) g (-n1) j := by
                  intro j hj
                  unfold addA
                  by_cases q : j = g
                  · subst q; rw [up2_s, if_pos rfl]; omega
                  · rw [up2_j _ _ _ _ q, up2_k _ _ _ _ (by decide), if_neg q]; exact hl1 j hj q
                have hk2 : (up2 (up2 mi' 50 s1 (mi 50 s1 + n1)) 48 g (mi 48 g - n1)) k = mi k := by rw [hfr2 k (by omega) (by omega)]; exact hm' k (by omega) (by omega) (by omega)
                have hk12 : (up2 (up2 mi' 50 s1 (mi 50 s1 + n1)) 48 g (mi 48 g - n1)) 1 = mi 1 := by rw [hfr2 1 (by decide) (by decide)]; exact hm' 1 (by omega) (by decide) (by decide)
                have hL2 : LW (up2 (up2 mi' 50 s1 (mi 50 s1 + n1)) 48 g (mi 48 g - n1)) := LW_fr hL (fun a ha ha2 ha3 => by rw [hfr2 a (by omega) (by omega)]; exact hm' a (by omega) (by omega) (by omega))
                have hv2 : RV ((up2 (up2 mi' 50 s1 (mi 50 s1 + n1)) 48 g (mi 48 g - n1)) 1 3) (up2 (up2 mi' 50 s1 (mi 50 s1 + n1)) 48 g (mi 48 g - n1)) k := by rw [hk12]; exact RV_fr hv hk2 (by rw [hfr2 _ (by omega) (by omega)]; exact hm' _ (by omega) (by omega) (by omega))
                have hB2 : BO (up2 (up2 mi' 50 s1 (mi 50 s1 + n1)) 48 g (mi 48 g - n1)) mr' N := BO_fr hG.1 (fun a ha ha2 => hfr2 a (by omega) (by omega)) rfl
                have hE2 : Ef (up2 (up2 mi' 50 s1 (mi 50 s1 + n1)) 48 g (mi 48 g - n1)) mr' N = Ef mi' mr' N := Ef_fr hG.1 (fun a ha ha2 => hfr2 a (by omega) (by omega)) rfl
                have hS2 : Srt (Ef (up2 (up2 mi' 50 s1 (mi 50 s1 + n1)) 48 g (mi 48 g - n1)) mr' N) := by rw [hE2]; exact hG.2.1
                have hF2 : FCo (up2 (up2 mi' 50 s1 (mi 50 s1 + n1)) 48 g (mi 48 g - n1)) mr' N := FCo_fr hG.1 (fun a ha ha2 => hfr2 a (by omega) (by omega)) rfl hG.2.2.1
                have hml2 : ∀ j : Nat, j < 5 → 0 ≤ (up2 (up2 mi' 50 s1 (mi 50 s1 + n1)) 48 g (mi 48 g - n1)) 50 j ∧ 0 ≤ (up2 (up2 mi' 50 s1 (mi 50 s1 + n1)) 48 g (mi 48 g - n1)) 48 j := by
                  intro j hj
                  have q1 := hml j hj
                  rw [h250 j hj, h248 j hj]
                  unfold addA
                  refine ⟨?_, ?_⟩
                  · split <;> omega
                  · split <;> omega
                have hsum2 : ∀ j : Nat, j < 5 → (up2 (up2 mi' 50 s1 (mi 50 s1 + n1)) 48 g (mi 48 g - n1)) 50 j + sum5 ((up2 (up2 mi' 50 s1 (mi 50 s1 + n1)) 48 g (mi 48 g - n1)) 48) ≤ 900 := by
                  intro j hj
                  have q1 := hsum j hj
                  rw [h250 j hj, sum5_c h248, sum5_addA hg5]
                  unfold addA
                  split <;> omega
                generalize (up2 (up2 mi' 50 s1 (mi 50 s1 + n1)) 48 g (mi 48 g - n1)) = m2 at hfr2 h250 h248 hk2 hk12 hL2 hv2 hB2 hE2 hS2 hF2 hml2 hsum2 ⊢
                refine w_aload_n X dX0_fillFrom_145 rfl ?_
                refine w_aload_n X dX0_fillFrom_146 rfl ?_
                refine w_iload_n X dX0_fillFrom_147 rfl ?_
                refine w_iconst X dX0_fillFrom_148 ?_
                refine w_iadd X dX0_fillFrom_149 ?_
                refine s_callVi X _ (c_X0_fillFrom_2 (l := l) (G := G) (n0 := n0) hAN hA' hN' hL2 hk hv2 hB2 hS2 hF2 hml2 hsum2 (s1 := s1 + 1) (by rw [hk12]; omega)) gM_X0_141 gI_yX0_fillFrom gS_yX0_fillFrom gN_X0 gC_yX0_fillFrom (by decide) (σ_44 G n0 _ _) rfl dX0_fillFrom_150 hl_yX0_fillFrom ⟨Nat.le_of_ble_eq_true rfl, Nat.le_of_ble_eq_true rfl⟩ (Nat.le_of_ble_eq_true rfl) rfl (fun r9 mi9 mr9 h9 => ?_)
                obtain ⟨hG2, hcov, hr9, hk50, hk48⟩ := h9
                rw [hk12, hk2] at hG2 hcov
                have hCpE : ∀ v, Cp (mi 1 3) (mi k) 2 (s1 + 1) (m2 50) (m2 48) v → Cp (mi 1 3) (mi k) 2 (s1 + 1) (addA (mi 50) s1 n1) (addA (mi 48) g (-n1)) v := fun v q => Cp_c hvg 2 (s1 + 1) (by omega) h250 h248 q
                have hCp : ∀ v, Cp (mi 1 3) (mi k) 2 (s1 + 1) (addA (mi 50) s1 n1) (addA (mi 48) g (-n1)) v → Cp (mi 1 3) (mi k) 2 (s1 + 1) (m2 50) (m2 48) v := fun v q => Cp_c hvg 2 (s1 + 1) (by omega) (fun j hj => (h250 j hj).symm) (fun j hj => (h248 j hj).symm) q
                have hT5 : T5 (m2 50) = T5 (addA (mi 50) s1 n1) := T5_c h250
                have hG3 : Grw fX mi' mi9 mr' mr9 N (fun y : V5 × Int => y.2 = 1 ∧ Cp (mi 1 3) (mi k) 3 s1 (mi 50) (mi 48) y.1) := Grw_l hG.1 (Grw_w hG2 (fun _ q => q) (fun y q => ⟨q.1, n1, by omega, by rw [hgt]; omega, fun q2 => by rw [hgt]; have := hf2 q2; omega, by rw [hgt]; exact hCpE _ q.2⟩)) (fun a ha => hfr2 a (fun q => ha (Or.inl q)) (fun q => ha (Or.inr q))) (fun a ha => by rcases ha with ha | ha <;> omega)
                refine w_ist9_7 X dX0_fillFrom_153 ?_
                refine w_iinc9_8 X dX0_fillFrom_155 ?_
                refine w_goto X 107 dX0_fillFrom_158 (by decide) ?_
                have hw9 : r9 = 0 ∨ r9 = 1 := by rcases hr9 with q | q; exact Or.inr q; exact Or.inl q.1
                have hcn : ∀ y, y ∈ Ef mi' mr' N → y ∈ Ef mi9 mr9 N := hG3.2.2.2.1
                have hcc : mi' N 2 ≤ mi9 N 2 := hG3.2.2.2.2.2.2.2
                exact ih_loop _ hlt mi9 mr9 (n1 + 1) r9 hn2 hw9 (Grw_t hG hG3) (fun j hj hjs => by rw [hk50 j hj, h250 j hj]; exact if_neg hjs) (fun j hj hjg => by rw [hk48 j hj, h248 j hj]; exact if_neg hjg)
                  (fun n2 q1 q2 v hv2 => by
                    by_cases q : n2 < n1
                    · rcases hc n2 q1 q v hv2 with ⟨y, hy, hy2⟩ | q3
                      · exact Or.inl ⟨y, hcn y hy, hy2⟩
                      · right; omega
                    · have e : n2 = n1 := by omega
                      subst e
                      exact hcov v (hCp v hv2))
                  (fun q n2 q1 q2 v hv2 => by
                    rcases hr9 with q3 | ⟨-, q3⟩
                    · omega
                    · rcases q3 with ⟨y, hy, hy2⟩ | q4
                      · rw [hT5] at hy2
                        exact Or.inl ⟨y, hy, gv_t (gv_t (Cp_ge _ _ hv2) (gv_add (by omega))) hy2⟩
                      · exact Or.inr q4) rfl
        exact loop _ mi mr (mi 48 g) 1 (by omega) (Or.inr rfl) (Grw_r hBN hSN hFN) (fun j hj h9 => rfl) (fun j hj h9 => rfl) (fun n1 q1 q2 => absurd q1 (by omega)) (fun q => absurd q (by decide)) rfl
    ·
      refine w_iconst X dX0_fillFrom_24 ?_
      refine s_zret X hr dX0_fillFrom_25 (by omega) ?_
      rcases h2 with ⟨q, q2⟩ | ⟨q, -⟩
      · exact Fil_0 hBN hSN hFN (Or.inl q2)
      · exact absurd q (by assumption)
set_option maxRecDepth 20000 in
set_option maxHeartbeats 4000000 in
theorem c_X0_fillFrom_4 {l : Launch} {G : Gt} {n0 : Nat} {mi : Nat → Nat → Int} {mr : Nat → Nat → Nat} {A N k s1 : Nat} (hAN : AN A N) (hA : mr 44 4 = A) (hN : mr 44 5 = N) (hL : LW mi) (hk : isRu k) (hv : RV (mi 1 3) mi k) (hBN : BO mi mr N) (hSN : Srt (Ef mi mr N)) (hFN : FCo mi mr N) (hml : ∀ j : Nat, j < 5 → 0 ≤ mi 50 j ∧ 0 ≤ mi 48 j) (hsum : ∀ j : Nat, j < 5 → mi 50 j + sum5 (mi 48) ≤ 900) (hs : (s1 : Int) + 4 = mi 1 3) : Ci l yX0_fillFrom cX0_fillFrom 9 .boolean 8 G n0 [.ref (n0 + 44), .ref (n0 + k), .int (jI (s1 : Int))] mi mr (fun r9 mi9 mr9 => Fil mi mi9 mr mr9 N k 4 s1 r9) := by
  refine Ct_of (by decide +kernel) (by intro v hv; simp at hv; rcases hv with rfl | rfl | rfl <;> rfl) (Nat.le_of_ble_eq_true rfl) ?_
  intro p e s m args below meth c9 X hr hname
  show WW _ _ _ _ _ _ _ _ _ _ _ _ _ _ _ _ _ _ _ [some (.ref (n0 + 44)), some (.ref (n0 + k)), some (.int (jI (s1 : Int))), none, none, none, none, none, none] _
  have hBN2 := hBN.2.1
  have hne := hAN.ne
  have hL1 := hL.1
  have hvg : ∀ j : Nat, j < 5 → 0 ≤ gol (mi k) j ∧ gol (mi k) j < 5 := fun j hj => ⟨(hv.2.2.2.2.2.2.2 j hj).2.1, (hv.2.2.2.2.2.2.2 j hj).2.2.1⟩
  have hcb : CB mi 49 := CB_of (fun j hj => by have q1 := hml j hj; have q2 := hsum j hj; have q3 := (sum5_n (fun j hj => (hml j hj).2)).1; exact ⟨q1.1, by show mi 50 j ≤ 1000; omega⟩)
  have hkr := hk
  unfold isRu at hkr
  have hown : ∀ i2 : Nat, i2 < 101 → 49 ≠ mr (N + 1) i2 := fun i2 h2 => by have := hBN.2.2.1 i2 h2; omega
  refine w_aload_n X dX0_fillFrom_0 rfl ?_
  refine w_get X (by decide) (σ_44 G n0 _ _) rfl gW_X0 5 (by decide) gF_X0_37 rfl dX0_fillFrom_1 ?_
  rw [hN]
  refine s_callVi X _ (c_X1_areTooMany (l := l) (G := G) (n0 := n0) hAN.b (by have := hBN2; refine ⟨?_, ?_⟩ <;> omega)) gM_X0_77 gI_yX1_areTooMany gS_yX1_areTooMany gN_X1 gC_yX1_areTooMany (isBs_k hAN.b) (σ_bs G n0 _ _ hAN.b) rfl dX0_fillFrom_4 hl_yX1_areTooMany ⟨Nat.le_of_ble_eq_true rfl, Nat.le_of_ble_eq_true rfl⟩ (Nat.le_of_ble_eq_true rfl) rfl (fun r1 mi1 mr1 h1 => ?_)
  obtain ⟨rfl, rfl, h1⟩ := h1
  refine w_if_ne X 24 dX0_fillFrom_7 (by decide) (fun c7_1 => ?_) (fun c7_1 => ?_)
  ·
    refine w_iconst X dX0_fillFrom_24 ?_
    refine s_zret X hr dX0_fillFrom_25 (by omega) ?_
    rcases h1 with ⟨q, q2⟩ | ⟨q, -⟩
    · exact Fil_0 hBN hSN hFN (Or.inr q2)
    · exact absurd q (by assumption)
  ·
    refine w_aload_n X dX0_fillFrom_10 rfl ?_
    refine w_get X (by decide) (σ_44 G n0 _ _) rfl gW_X0 5 (by decide) gF_X0_37 rfl dX0_fillFrom_11 ?_
    rw [hN]
    refine w_aload_n X dX0_fillFrom_14 rfl ?_
    refine w_get X (by decide) (σ_44 G n0 _ _) rfl gW_X0 3 (by decide) gF_X0_27 rfl dX0_fillFrom_15 ?_
    refine s_callVi X _ (c_X1_cover (l := l) (G := G) (n0 := n0) hBN cr_49 hcb) gM_X0_48 gI_yX1_cover gS_yX1_cover gN_X1 gC_yX1_cover (isBs_k hAN.b) (σ_bs G n0 _ _ hAN.b) rfl dX0_fillFrom_18 hl_yX1_cover ⟨Nat.le_of_ble_eq_true rfl, Nat.le_of_ble_eq_true rfl⟩ (Nat.le_of_ble_eq_true rfl) rfl (fun r2 mi2 mr2 h2 => ?_)
    obtain ⟨rfl, rfl, h2⟩ := h2
    have h2 := cov_E h2
    refine w_if_eq X 26 dX0_fillFrom_21 (by decide) (fun c21_2 => ?_) (fun c21_2 => ?_)
    ·
      refine w_iload_n X dX0_fillFrom_26 rfl ?_
      refine w_aload_n X dX0_fillFrom_27 rfl ?_
      refine w_get X (by decide) (σ_44 G n0 _ _) rfl gW_X0 0 (by decide) gF_X0_44 rfl dX0_fillFrom_28 ?_
      refine w_getN X (by decide) (σ_1 G n0 _ _) rfl gW_X5 3 (by decide) gF_X0_117 rfl dX0_fillFrom_31 ?_
      refine w_icmp_lt X 51 dX0_fillFrom_34 (by decide) (fun h34_ => ?_) (fun h9 => absurd (by omega) h9)
      have hgb := hvg s1 (by omega)
      obtain ⟨g, hg⟩ := Int.eq_ofNat_of_zero_le hgb.1
      have hg5 : g < 5 := by omega
      have hgt : (gol (mi k) s1).toNat = g := by rw [hg]; exact Int.toNat_natCast g
      have hlg := hml g hg5
      have hms := hml s1 (by omega)
      have hsu := sum5_n (fun j hj => (hml j hj).2)
      have hsg := hsu.2 g hg5
      have hss := hsum s1 (by omega)
      refine w_aload_n X dX0_fillFrom_51 rfl ?_
      refine w_iload_n X dX0_fillFrom_52 rfl ?_
      refine s_callVi X _ (c_X6_goalOf (l := l) (G := G) (n0 := n0) hk hv (by first | assumption | (refine ⟨?_, ?_⟩ <;> omega))) gM_X0_159 gI_yX6_goalOf gS_yX6_goalOf gN_X6 gC_yX6_goalOf (isRu_k hk) (σ_ru G n0 _ _ hk) rfl dX0_fillFrom_53 hl_yX6_goalOf ⟨Nat.le_of_ble_eq_true rfl, Nat.le_of_ble_eq_true rfl⟩ (Nat.le_of_ble_eq_true rfl) rfl (fun r3 mi3 mr3 h3 => ?_)
      obtain ⟨rfl, rfl, h3, b9, q9⟩ := h3
      rw [if_pos ⟨by omega, by omega⟩, Int.toNat_natCast, hg] at h3
      subst h3
      refine w_ist9_3 X dX0_fillFrom_56 ?_
      refine w_aload_n X dX0_fillFrom_57 rfl ?_
      refine w_get X (by decide) (σ_44 G n0 _ _) rfl gW_X0 2 (by decide) gF_X0_23 rfl dX0_fillFrom_58 ?_
      refine w_iload_n X dX0_fillFrom_61 rfl ?_
      refine s_callVi X _ (c_X3_of (l := l) (G := G) (n0 := n0) cr_47 (by first | assumption | (refine ⟨?_, ?_⟩ <;> omega))) gM_X0_163 gI_yX3_of gS_yX3_of gN_X3 gC_yX3_of (isCr_k cr_47) (σ_cr G n0 _ _ cr_47) rfl dX0_fillFrom_62 hl_yX3_of ⟨Nat.le_of_ble_eq_true rfl, Nat.le_of_ble_eq_true rfl⟩ (Nat.le_of_ble_eq_true rfl) rfl (fun r4 mi4 mr4 h4 => ?_)
      obtain ⟨rfl, rfl, h4⟩ := h4
      rw [if_pos ⟨by omega, by omega⟩, Int.toNat_natCast] at h4
      subst h4
      refine w_ist9_4 X dX0_fillFrom_65 ?_
      refine w_aload_n X dX0_fillFrom_67 rfl ?_
      refine w_iload_n X dX0_fillFrom_68 rfl ?_
      refine w_aload_n X dX0_fillFrom_69 rfl ?_
      refine w_get X (by decide) (σ_44 G n0 _ _) rfl gW_X0 0 (by decide) gF_X0_44 rfl dX0_fillFrom_70 ?_
      refine w_getN X (by decide) (σ_1 G n0 _ _) rfl gW_X5 3 (by decide) gF_X0_117 rfl dX0_fillFrom_73 ?_
      refine s_callVi X _ (c_X6_isLastToGoal (l := l) (G := G) (n0 := n0) hk hv (by omega)) gM_X0_165 gI_yX6_isLastToGoal gS_yX6_isLastToGoal gN_X6 gC_yX6_isLastToGoal (isRu_k hk) (σ_ru G n0 _ _ hk) rfl dX0_fillFrom_76 hl_yX6_isLastToGoal ⟨Nat.le_of_ble_eq_true rfl, Nat.le_of_ble_eq_true rfl⟩ (Nat.le_of_ble_eq_true rfl) rfl (fun r5 mi5 mr5 h5 => ?_)
      obtain ⟨rfl, rfl, h5⟩ := h5
      have h5 : r5 = 1 ∧ lastG (mi 1 3) (mi k) s1 ∨ r5 = 0 ∧ ¬ lastG (mi 1 3) (mi k) s1 := by
        rcases h5 with ⟨q, q2⟩ | ⟨q, j, q1, q2, q3⟩
        · exact Or.inl ⟨q, q2⟩
        · exact Or.inr ⟨q, fun w => w j q1 q2 q3⟩
      refine w_if_eq X 87 dX0_fillFrom_79 (by decide) (fun c79_3 => ?_) (fun c79_3 => ?_)
      ·
        have hla : ¬ lastG (mi 1 3) (mi k) s1 := by rcases h5 with ⟨q, -⟩ | ⟨-, q⟩; omega; exact q
        have hf : ∀ n1 : Int, 0 ≤ n1 → (lastG (mi 1 3) (mi k) s1 → n1 = mi 48 g) → 0 ≤ n1 := fun n1 q _ => q
        have hf2 : lastG (mi 1 3) (mi k) s1 → 0 = mi 48 g := fun q => absurd q hla
        clear h5
        refine w_iconst X dX0_fillFrom_87 ?_
        refine w_ist9_5 X dX0_fillFrom_88 ?_
        refine w_aload_n X dX0_fillFrom_90 rfl ?_
        refine w_get X (by decide) (σ_44 G n0 _ _) rfl gW_X0 3 (by decide) gF_X0_27 rfl dX0_fillFrom_91 ?_
        refine w_iload_n X dX0_fillFrom_94 rfl ?_
        refine s_callVi X _ (c_X3_of (l := l) (G := G) (n0 := n0) cr_49 (by first | assumption | (refine ⟨?_, ?_⟩ <;> omega))) gM_X0_163 gI_yX3_of gS_yX3_of gN_X3 gC_yX3_of (isCr_k cr_49) (σ_cr G n0 _ _ cr_49) rfl dX0_fillFrom_95 hl_yX3_of ⟨Nat.le_of_ble_eq_true rfl, Nat.le_of_ble_eq_true rfl⟩ (Nat.le_of_ble_eq_true rfl) rfl (fun r6 mi6 mr6 h6 => ?_)
        obtain ⟨rfl, rfl, h6⟩ := h6
        rw [if_pos ⟨by omega, by omega⟩, Int.toNat_natCast] at h6
        subst h6
        refine w_ist9_6 X dX0_fillFrom_98 ?_
        refine w_iconst X dX0_fillFrom_100 ?_
        refine w_ist9_7 X dX0_fillFrom_101 ?_
        refine w_iload X dX0_fillFrom_103 rfl ?_
        refine w_ist9_8 X dX0_fillFrom_105 ?_
        have loop : ∀ (n : Nat) (mi' : Nat → Nat → Int) (mr' : Nat → Nat → Nat) (n1 w1 : Int), (0 ≤ n1 ∧ n1 ≤ mi 48 g + 1) → (w1 = 0 ∨ w1 = 1) → (Grw fX mi mi' mr mr' N (fun y : V5 × Int => y.2 = 1 ∧ Cp (mi 1 3) (mi k) 4 s1 (mi 50) (mi 48) y.1)) → (∀ j : Nat, j < 5 → j ≠ s1 → mi' 50 j = mi 50 j) → (∀ j : Nat, j < 5 → j ≠ g → mi' 48 j = mi 48 j) → (∀ n2 : Int, 0 ≤ n2 → n2 < n1 → ∀ v, Cp (mi 1 3) (mi k) 3 (s1 + 1) (addA (mi 50) s1 n2) (addA (mi 48) g (-n2)) v → (∃ y ∈ Ef mi' mr' N, gv v y.1) ∨ 100 < mi' N 2) → (w1 = 0 → ∀ n2 : Int, n1 ≤ n2 → n2 ≤ mi 48 g → ∀ v, Cp (mi 1 3) (mi k) 3 (s1 + 1) (addA (mi 50) s1 n2) (addA (mi 48) g (-n2)) v → (∃ y ∈ Ef mi' mr' N, gv v y.1) ∨ 100 < mi' N 2) → n = (mi 48 g + 1 - n1).toNat → WSi p l e s m args below meth c9 8 (fun r9 mi9 mr9 => Fil mi mi9 mr mr9 N k 4 s1 r9) G n0 9 mi' mr' 107 [some (.ref (n0 + 44)), some (.ref (n0 + k)), some (.int (jI (s1 : Int))), some (.int (jI (g : Int))), some (.int (jI (mi 48 g))), some (.int (jI (0))), some (.int (jI (mi 50 s1))), some (.int (jI w1)), some (.int (jI n1))] [] := by
          intro n
          induction n using Nat.strongRecOn with
          | ind n ih_loop =>
            intro mi' mr' n1 w1 hn hw hG hm1 hl1 hc hw0 hn
            have hm' : ∀ a, a < N ∨ N + 205 ≤ a → a ≠ 48 → a ≠ 50 → mi' a = mi a := fun a ha h48 h50 => hG.2.2.2.2.2.1 a ha (fun q => by rcases q with q | q; exact h48 q; exact h50 q)
            have hr' : ∀ a, a ≠ N + 1 → mr' a = mr a := hG.2.2.2.2.2.2.1
            have hA' : mr' 44 4 = A := by rw [hr' 44 (by omega)]; exact hA
            have hN' : mr' 44 5 = N := by rw [hr' 44 (by omega)]; exact hN
            refine w_iload X dX0_fillFrom_107 rfl ?_
            refine w_iload X dX0_fillFrom_109 rfl ?_
            refine w_icmp_gt X 161 dX0_fillFrom_111 (by decide) (fun c111_4 => ?_) (fun c111_4 => ?_)
            ·
              refine w_aload_n X dX0_fillFrom_161 rfl ?_
              refine w_get X (by decide) (σ_44 G n0 _ _) rfl gW_X0 3 (by decide) gF_X0_27 rfl dX0_fillFrom_162 ?_
              refine w_iload_n X dX0_fillFrom_165 rfl ?_
              refine w_iload X dX0_fillFrom_166 rfl ?_
              refine s_callVv X _ (c_X3_set (l := l) (G := G) (n0 := n0) cr_49 (by first | assumption | (refine ⟨?_, ?_⟩ <;> omega))) gM_X0_169 gI_yX3_set gS_yX3_set gN_X3 gC_yX3_set (isCr_k cr_49) (σ_cr G n0 _ _ cr_49) rfl dX0_fillFrom_168 hl_yX3_set ⟨Nat.le_of_ble_eq_true rfl, Nat.le_of_ble_eq_true rfl⟩ (Nat.le_of_ble_eq_true rfl) rfl (fun mi7 mr7 h7 => ?_)
              obtain ⟨e9, rfl⟩ := h7
              rw [if_pos ⟨by omega, by omega⟩, Int.toNat_natCast] at e9
              subst e9
              refine w_aload_n X dX0_fillFrom_171 rfl ?_
              refine w_get X (by decide) (σ_44 G n0 _ _) rfl gW_X0 2 (by decide) gF_X0_23 rfl dX0_fillFrom_172 ?_
              refine w_iload_n X dX0_fillFrom_175 rfl ?_
              refine w_iload X dX0_fillFrom_176 rfl ?_
              refine s_callVv X _ (c_X3_set (l := l) (G := G) (n0 := n0) cr_47 (by first | assumption | (refine ⟨?_, ?_⟩ <;> omega))) gM_X0_169 gI_yX3_set gS_yX3_set gN_X3 gC_yX3_set (isCr_k cr_47) (σ_cr G n0 _ _ cr_47) rfl dX0_fillFrom_178 hl_yX3_set ⟨Nat.le_of_ble_eq_true rfl, Nat.le_of_ble_eq_true rfl⟩ (Nat.le_of_ble_eq_true rfl) rfl (fun mi8 mr8 h8 => ?_)
              obtain ⟨e9, rfl⟩ := h8
              rw [if_pos ⟨by omega, by omega⟩, Int.toNat_natCast] at e9
              subst e9
              refine w_iconst X dX0_fillFrom_181 ?_
              refine s_zret X hr dX0_fillFrom_182 (by omega) ?_
              have h0 : ∀ a, ¬ fX a → (up2 (up2 mi' 50 s1 (mi 50 s1)) 48 g (mi 48 g)) a = mi' a := fun a ha => by rw [up2_k _ _ _ _ (fun q => ha (Or.inl q)), up2_k _ _ _ _ (fun q => ha (Or.inr q))]
              have hX : ∀ a, fX a → a < N := fun a ha => by rcases ha with ha | ha <;> omega
              have hE3 : Ef (up2 (up2 mi' 50 s1 (mi 50 s1)) 48 g (mi 48 g)) mr' N = Ef mi' mr' N := Ef_fr hG.1 (fun a ha ha2 => h0 a (fun q => by have := hX a q; omega)) rfl
              have hN3 : (up2 (up2 mi' 50 s1 (mi 50 s1)) 48 g (mi 48 g)) N = mi' N := h0 N (fun q => by have := hX N q; omega)
              refine ⟨Grw_e hG h0 hX, fun v hv2 => ?_, Or.inl rfl, fun j hj => ?_, fun j hj => ?_⟩
              · obtain ⟨n2, q1, q2, q3, q4⟩ := hv2
                rw [hgt] at q2 q3 q4
                rw [hE3, hN3]
                have q5 := hf n2 q1 q3
                by_cases q6 : n2 < n1
                · exact hc n2 q5 q6 v q4
                · first
                  | (exfalso; omega)
                  | exact hw0 (by omega) n2 (by omega) q2 v q4
              · rw [up2_k _ _ _ _ (by decide)]
                by_cases q : j = s1
                · subst q; rw [up2_s]
                · rw [up2_j _ _ _ _ q]; exact hm1 j hj q
              · by_cases q : j = g
                · subst q; rw [up2_s]
                · rw [up2_j _ _ _ _ q, up2_k _ _ _ _ (by decide)]; exact hl1 j hj q
            ·
              refine w_iload X dX0_fillFrom_114 rfl ?_
              refine w_if_eq X 161 dX0_fillFrom_116 (by decide) (fun c116_5 => ?_) (fun c116_5 => ?_)
              ·
                refine w_aload_n X dX0_fillFrom_161 rfl ?_
                refine w_get X (by decide) (σ_44 G n0 _ _) rfl gW_X0 3 (by decide) gF_X0_27 rfl dX0_fillFrom_162 ?_
                refine w_iload_n X dX0_fillFrom_165 rfl ?_
                refine w_iload X dX0_fillFrom_166 rfl ?_
                refine s_callVv X _ (c_X3_set (l := l) (G := G) (n0 := n0) cr_49 (by first | assumption | (refine ⟨?_, ?_⟩ <;> omega))) gM_X0_169 gI_yX3_set gS_yX3_set gN_X3 gC_yX3_set (isCr_k cr_49) (σ_cr G n0 _ _ cr_49) rfl dX0_fillFrom_168 hl_yX3_set ⟨Nat.le_of_ble_eq_true rfl, Nat.le_of_ble_eq_true rfl⟩ (Nat.le_of_ble_eq_true rfl) rfl (fun mi7 mr7 h7 => ?_)
                obtain ⟨e9, rfl⟩ := h7
                rw [if_pos ⟨by omega, by omega⟩, Int.toNat_natCast] at e9
                subst e9
                refine w_aload_n X dX0_fillFrom_171 rfl ?_
                refine w_get X (by decide) (σ_44 G n0 _ _) rfl gW_X0 2 (by decide) gF_X0_23 rfl dX0_fillFrom_172 ?_
                refine w_iload_n X dX0_fillFrom_175 rfl ?_
                refine w_iload X dX0_fillFrom_176 rfl ?_
                refine s_callVv X _ (c_X3_set (l := l) (G := G) (n0 := n0) cr_47 (by first | assumption | (refine ⟨?_, ?_⟩ <;> omega))) gM_X0_169 gI_yX3_set gS_yX3_set gN_X3 gC_yX3_set (isCr_k cr_47) (σ_cr G n0 _ _ cr_47) rfl dX0_fillFrom_178 hl_yX3_set ⟨Nat.le_of_ble_eq_true rfl, Nat.le_of_ble_eq_true rfl⟩ (Nat.le_of_ble_eq_true rfl) rfl (fun mi8 mr8 h8 => ?_)
                obtain ⟨e9, rfl⟩ := h8
                rw [if_pos ⟨by omega, by omega⟩, Int.toNat_natCast] at e9
                subst e9
                refine w_iconst X dX0_fillFrom_181 ?_
                refine s_zret X hr dX0_fillFrom_182 (by omega) ?_
                have h0 : ∀ a, ¬ fX a → (up2 (up2 mi' 50 s1 (mi 50 s1)) 48 g (mi 48 g)) a = mi' a := fun a ha => by rw [up2_k _ _ _ _ (fun q => ha (Or.inl q)), up2_k _ _ _ _ (fun q => ha (Or.inr q))]
                have hX : ∀ a, fX a → a < N := fun a ha => by rcases ha with ha | ha <;> omega
                have hE3 : Ef (up2 (up2 mi' 50 s1 (mi 50 s1)) 48 g (mi 48 g)) mr' N = Ef mi' mr' N := Ef_fr hG.1 (fun a ha ha2 => h0 a (fun q => by have := hX a q; omega)) rfl
                have hN3 : (up2 (up2 mi' 50 s1 (mi 50 s1)) 48 g (mi 48 g)) N = mi' N := h0 N (fun q => by have := hX N q; omega)
                refine ⟨Grw_e hG h0 hX, fun v hv2 => ?_, Or.inl rfl, fun j hj => ?_, fun j hj => ?_⟩
                · obtain ⟨n2, q1, q2, q3, q4⟩ := hv2
                  rw [hgt] at q2 q3 q4
                  rw [hE3, hN3]
                  have q5 := hf n2 q1 q3
                  by_cases q6 : n2 < n1
                  · exact hc n2 q5 q6 v q4
                  · first
                    | (exfalso; omega)
                    | exact hw0 (by omega) n2 (by omega) q2 v q4
                · rw [up2_k _ _ _ _ (by decide)]
                  by_cases q : j = s1
                  · subst q; rw [up2_s]
                  · rw [up2_j _ _ _ _ q]; exact hm1 j hj q
                · by_cases q : j = g
                  · subst q; rw [up2_s]
                  · rw [up2_j _ _ _ _ q, up2_k _ _ _ _ (by decide)]; exact hl1 j hj q
              ·
                refine w_aload_n X dX0_fillFrom_119 rfl ?_
                refine w_get X (by decide) (σ_44 G n0 _ _) rfl gW_X0 3 (by decide) gF_X0_27 rfl dX0_fillFrom_120 ?_
                refine w_iload_n X dX0_fillFrom_123 rfl ?_
                refine w_iload X dX0_fillFrom_124 rfl ?_
                refine w_iload X dX0_fillFrom_126 rfl ?_
                refine w_iadd X dX0_fillFrom_128 ?_
                refine s_callVv X _ (c_X3_set (l := l) (G := G) (n0 := n0) cr_49 (by first | assumption | (refine ⟨?_, ?_⟩ <;> omega))) gM_X0_169 gI_yX3_set gS_yX3_set gN_X3 gC_yX3_set (isCr_k cr_49) (σ_cr G n0 _ _ cr_49) rfl dX0_fillFrom_129 hl_yX3_set ⟨Nat.le_of_ble_eq_true rfl, Nat.le_of_ble_eq_true rfl⟩ (Nat.le_of_ble_eq_true rfl) rfl (fun mi7 mr7 h7 => ?_)
                obtain ⟨e9, rfl⟩ := h7
                rw [if_pos ⟨by omega, by omega⟩, Int.toNat_natCast] at e9
                subst e9
                refine w_aload_n X dX0_fillFrom_132 rfl ?_
                refine w_get X (by decide) (σ_44 G n0 _ _) rfl gW_X0 2 (by decide) gF_X0_23 rfl dX0_fillFrom_133 ?_
                refine w_iload_n X dX0_fillFrom_136 rfl ?_
                refine w_iload X dX0_fillFrom_137 rfl ?_
                refine w_iload X dX0_fillFrom_139 rfl ?_
                refine w_isub X dX0_fillFrom_141 ?_
                refine s_callVv X _ (c_X3_set (l := l) (G := G) (n0 := n0) cr_47 (by first | assumption | (refine ⟨?_, ?_⟩ <;> omega))) gM_X0_169 gI_yX3_set gS_yX3_set gN_X3 gC_yX3_set (isCr_k cr_47) (σ_cr G n0 _ _ cr_47) rfl dX0_fillFrom_142 hl_yX3_set ⟨Nat.le_of_ble_eq_true rfl, Nat.le_of_ble_eq_true rfl⟩ (Nat.le_of_ble_eq_true rfl) rfl (fun mi8 mr8 h8 => ?_)
                obtain ⟨e9, rfl⟩ := h8
                rw [if_pos ⟨by omega, by omega⟩, Int.toNat_natCast] at e9
                subst e9
                have hfr2 : ∀ a, a ≠ 48 → a ≠ 50 → (up2 (up2 mi' 50 s1 (mi 50 s1 + n1)) 48 g (mi 48 g - n1)) a = mi' a := fun a h48 h50 => by rw [up2_k _ _ _ _ h48, up2_k _ _ _ _ h50]
                have hlt : (mi 48 g + 1 - (n1 + 1)).toNat < n := by omega
                have hn2 : 0 ≤ n1 + 1 ∧ n1 + 1 ≤ mi 48 g + 1 := by omega
                have h250 : ∀ j : Nat, j < 5 → (up2 (up2 mi' 50 s1 (mi 50 s1 + n1)) 48 g (mi 48 g - n1)) 50 j = addA (mi 50) s1 n1 j := by
                  intro j hj
                  rw [up2_k _ _ _ _ (by decide)]
                  unfold addA
                  by_cases q : j = s1
                  · subst q; rw [up2_s, if_pos rfl]
                  · rw [up2_j _ _ _ _ q, if_neg q]; exact hm1 j hj q
                have h248 : ∀ j : Nat, j < 5 → (up2 (up2 mi' 50 s1 (mi 50 s1 + n1)) 48 g (mi 48 g - n1)) 48 j = addA (mi 48) g (-n1) j := by
                  intro j hj
                  unfold addA
                  by_cases q : j = g
                  · subst q; rw [up2_s, if_pos rfl]; omega
                  · rw [up2_j _ _ _ _ q, up2_k _ _ _ _ (by decide), if_neg q]; exact hl1 j hj q
                have hk2 : (up2 (up2 mi' 50 s1 (mi 50 s1 + n1)) 48 g (mi 48 g - n1)) k = mi k := by rw [hfr2 k (by omega) (by omega)]; exact hm' k (by omega) (by omega) (by omega)
                have hk12 : (up2 (up2 mi' 50 s1 (mi 50 s1 + n1)) 48 g (mi 48 g - n1)) 1 = mi 1 := by rw [hfr2 1 (by decide) (by decide)]; exact hm' 1 (by omega) (by decide) (by decide)
                have hL2 : LW (up2 (up2 mi' 50 s1 (mi 50 s1 + n1)) 48 g (mi 48 g - n1)) := LW_fr hL (fun a ha ha2 ha3 => by rw [hfr2 a (by omega) (by omega)]; exact hm' a (by omega) (by omega) (by omega))
                have hv2 : RV ((up2 (up2 mi' 50 s1 (mi 50 s1 + n1)) 48 g (mi 48 g - n1)) 1 3) (up2 (up2 mi' 50 s1 (mi 50 s1 + n1)) 48 g (mi 48 g - n1)) k := by rw [hk12]; exact RV_fr hv hk2 (by rw [hfr2 _ (by omega) (by omega)]; exact hm' _ (by omega) (by omega) (by omega))
                have hB2 : BO (up2 (up2 mi' 50 s1 (mi 50 s1 + n1)) 48 g (mi 48 g - n1)) mr' N := BO_fr hG.1 (fun a ha ha2 => hfr2 a (by omega) (by omega)) rfl
                have hE2 : Ef (up2 (up2 mi' 50 s1 (mi 50 s1 + n1)) 48 g (mi 48 g - n1)) mr' N = Ef mi' mr' N := Ef_fr hG.1 (fun a ha ha2 => hfr2 a (by omega) (by omega)) rfl
                have hS2 : Srt (Ef (up2 (up2 mi' 50 s1 (mi 50 s1 + n1)) 48 g (mi 48 g - n1)) mr' N) := by rw [hE2]; exact hG.2.1
                have hF2 : FCo (up2 (up2 mi' 50 s1 (mi 50 s1 + n1)) 48 g (mi 48 g - n1)) mr' N := FCo_fr hG.1 (fun a ha ha2 => hfr2 a (by omega) (by omega)) rfl hG.2.2.1
                have hml2 : ∀ j : Nat, j < 5 → 0 ≤ (up2 (up2 mi' 50 s1 (mi 50 s1 + n1)) 48 g (mi 48 g - n1)) 50 j ∧ 0 ≤ (up2 (up2 mi' 50 s1 (mi 50 s1 + n1)) 48 g (mi 48 g - n1)) 48 j := by
                  intro j hj
                  have q1 := hml j hj
                  rw [h250 j hj, h248 j hj]
                  unfold addA
                  refine ⟨?_, ?_⟩
                  · split <;> omega
                  · split <;> omega
                have hsum2 : ∀ j : Nat, j < 5 → (up2 (up2 mi' 50 s1 (mi 50 s1 + n1)) 48 g (mi 48 g - n1)) 50 j + sum5 ((up2 (up2 mi' 50 s1 (mi 50 s1 + n1)) 48 g (mi 48 g - n1)) 48) ≤ 900 := by
                  intro j hj
                  have q1 := hsum j hj
                  rw [h250 j hj, sum5_c h248, sum5_addA hg5]
                  unfold addA
                  split <;> omega
                generalize (up2 (up2 mi' 50 s1 (mi 50 s1 + n1)) 48 g (mi 48 g - n1)) = m2 at hfr2 h250 h248 hk2 hk12 hL2 hv2 hB2 hE2 hS2 hF2 hml2 hsum2 ⊢
                refine w_aload_n X dX0_fillFrom_145 rfl ?_
                refine w_aload_n X dX0_fillFrom_146 rfl ?_
                refine w_iload_n X dX0_fillFrom_147 rfl ?_
                refine w_iconst X dX0_fillFrom_148 ?_
                refine w_iadd X dX0_fillFrom_149 ?_
                refine s_callVi X _ (c_X0_fillFrom_3 (l := l) (G := G) (n0 := n0) hAN hA' hN' hL2 hk hv2 hB2 hS2 hF2 hml2 hsum2 (s1 := s1 + 1) (by rw [hk12]; omega)) gM_X0_141 gI_yX0_fillFrom gS_yX0_fillFrom gN_X0 gC_yX0_fillFrom (by decide) (σ_44 G n0 _ _) rfl dX0_fillFrom_150 hl_yX0_fillFrom ⟨Nat.le_of_ble_eq_true rfl, Nat.le_of_ble_eq_true rfl⟩ (Nat.le_of_ble_eq_true rfl) rfl (fun r9 mi9 mr9 h9 => ?_)
                obtain ⟨hG2, hcov, hr9, hk50, hk48⟩ := h9
                rw [hk12, hk2] at hG2 hcov
                have hCpE : ∀ v, Cp (mi 1 3) (mi k) 3 (s1 + 1) (m2 50) (m2 48) v → Cp (mi 1 3) (mi k) 3 (s1 + 1) (addA (mi 50) s1 n1) (addA (mi 48) g (-n1)) v := fun v q => Cp_c hvg 3 (s1 + 1) (by omega) h250 h248 q
                have hCp : ∀ v, Cp (mi 1 3) (mi k) 3 (s1 + 1) (addA (mi 50) s1 n1) (addA (mi 48) g (-n1)) v → Cp (mi 1 3) (mi k) 3 (s1 + 1) (m2 50) (m2 48) v := fun v q => Cp_c hvg 3 (s1 + 1) (by omega) (fun j hj => (h250 j hj).symm) (fun j hj => (h248 j hj).symm) q
                have hT5 : T5 (m2 50) = T5 (addA (mi 50) s1 n1) := T5_c h250
                have hG3 : Grw fX mi' mi9 mr' mr9 N (fun y : V5 × Int => y.2 = 1 ∧ Cp (mi 1 3) (mi k) 4 s1 (mi 50) (mi 48) y.1) := Grw_l hG.1 (Grw_w hG2 (fun _ q => q) (fun y q => ⟨q.1, n1, by omega, by rw [hgt]; omega, fun q2 => by rw [hgt]; have := hf2 q2; omega, by rw [hgt]; exact hCpE _ q.2⟩)) (fun a ha => hfr2 a (fun q => ha (Or.inl q)) (fun q => ha (Or.inr q))) (fun a ha => by rcases ha with ha | ha <;> omega)
                refine w_ist9_7 X dX0_fillFrom_153 ?_
                refine w_iinc9_8 X dX0_fillFrom_155 ?_
                refine w_goto X 107 dX0_fillFrom_158 (by decide) ?_
                have hw9 : r9 = 0 ∨ r9 = 1 := by rcases hr9 with q | q; exact Or.inr q; exact Or.inl q.1
                have hcn : ∀ y, y ∈ Ef mi' mr' N → y ∈ Ef mi9 mr9 N := hG3.2.2.2.1
                have hcc : mi' N 2 ≤ mi9 N 2 := hG3.2.2.2.2.2.2.2
                exact ih_loop _ hlt mi9 mr9 (n1 + 1) r9 hn2 hw9 (Grw_t hG hG3) (fun j hj hjs => by rw [hk50 j hj, h250 j hj]; exact if_neg hjs) (fun j hj hjg => by rw [hk48 j hj, h248 j hj]; exact if_neg hjg)
                  (fun n2 q1 q2 v hv2 => by
                    by_cases q : n2 < n1
                    · rcases hc n2 q1 q v hv2 with ⟨y, hy, hy2⟩ | q3
                      · exact Or.inl ⟨y, hcn y hy, hy2⟩
                      · right; omega
                    · have e : n2 = n1 := by omega
                      subst e
                      exact hcov v (hCp v hv2))
                  (fun q n2 q1 q2 v hv2 => by
                    rcases hr9 with q3 | ⟨-, q3⟩
                    · omega
                    · rcases q3 with ⟨y, hy, hy2⟩ | q4
                      · rw [hT5] at hy2
                        exact Or.inl ⟨y, hy, gv_t (gv_t (Cp_ge _ _ hv2) (gv_add (by omega))) hy2⟩
                      · exact Or.inr q4) rfl
        exact loop _ mi mr 0 1 (by omega) (Or.inr rfl) (Grw_r hBN hSN hFN) (fun j hj h9 => rfl) (fun j hj h9 => rfl) (fun n1 q1 q2 => absurd q1 (by omega)) (fun q => absurd q (by decide)) rfl
      ·
        have hla : lastG (mi 1 3) (mi k) s1 := by rcases h5 with ⟨-, q⟩ | ⟨q, -⟩; exact q; exact absurd q (by assumption)
        have hf : ∀ n1 : Int, 0 ≤ n1 → (lastG (mi 1 3) (mi k) s1 → n1 = mi 48 g) → mi 48 g ≤ n1 := fun n1 _ q => by have := q hla; omega
        have hf2 : lastG (mi 1 3) (mi k) s1 → mi 48 g = mi 48 g := fun _ => rfl
        clear h5
        refine w_iload X dX0_fillFrom_82 rfl ?_
        refine w_goto X 88 dX0_fillFrom_84 (by decide) ?_
        refine w_ist9_5 X dX0_fillFrom_88 ?_
        refine w_aload_n X dX0_fillFrom_90 rfl ?_
        refine w_get X (by decide) (σ_44 G n0 _ _) rfl gW_X0 3 (by decide) gF_X0_27 rfl dX0_fillFrom_91 ?_
        refine w_iload_n X dX0_fillFrom_94 rfl ?_
        refine s_callVi X _ (c_X3_of (l := l) (G := G) (n0 := n0) cr_49 (by first | assumption | (refine ⟨?_, ?_⟩ <;> omega))) gM_X0_163 gI_yX3_of gS_yX3_of gN_X3 gC_yX3_of (isCr_k cr_49) (σ_cr G n0 _ _ cr_49) rfl dX0_fillFrom_95 hl_yX3_of ⟨Nat.le_of_ble_eq_true rfl, Nat.le_of_ble_eq_true rfl⟩ (Nat.le_of_ble_eq_true rfl) rfl (fun r6 mi6 mr6 h6 => ?_)
        obtain ⟨rfl, rfl, h6⟩ := h6
        rw [if_pos ⟨by omega, by omega⟩, Int.toNat_natCast] at h6
        subst h6
        refine w_ist9_6 X dX0_fillFrom_98 ?_
        refine w_iconst X dX0_fillFrom_100 ?_
        refine w_ist9_7 X dX0_fillFrom_101 ?_
        refine w_iload X dX0_fillFrom_103 rfl ?_
        refine w_ist9_8 X dX0_fillFrom_105 ?_
        have loop : ∀ (n : Nat) (mi' : Nat → Nat → Int) (mr' : Nat → Nat → Nat) (n1 w1 : Int), ((mi 48 g) ≤ n1 ∧ n1 ≤ mi 48 g + 1) → (w1 = 0 ∨ w1 = 1) → (Grw fX mi mi' mr mr' N (fun y : V5 × Int => y.2 = 1 ∧ Cp (mi 1 3) (mi k) 4 s1 (mi 50) (mi 48) y.1)) → (∀ j : Nat, j < 5 → j ≠ s1 → mi' 50 j = mi 50 j) → (∀ j : Nat, j < 5 → j ≠ g → mi' 48 j = mi 48 j) → (∀ n2 : Int, (mi 48 g) ≤ n2 → n2 < n1 → ∀ v, Cp (mi 1 3) (mi k) 3 (s1 + 1) (addA (mi 50) s1 n2) (addA (mi 48) g (-n2)) v → (∃ y ∈ Ef mi' mr' N, gv v y.1) ∨ 100 < mi' N 2) → (w1 = 0 → ∀ n2 : Int, n1 ≤ n2 → n2 ≤ mi 48 g → ∀ v, Cp (mi 1 3) (mi k) 3 (s1 + 1) (addA (mi 50) s1 n2) (addA (mi 48) g (-n2)) v → (∃ y ∈ Ef mi' mr' N, gv v y.1) ∨ 100 < mi' N 2) → n = (mi 48 g + 1 - n1).toNat → WSi p l e s m args below meth c9 8 (fun r9 mi9 mr9 => Fil mi mi9 mr mr9 N k 4 s1 r9) G n0 9 mi' mr' 107 [some (.ref (n0 + 44)), some (.ref (n0 + k)), some (.int (jI (s1 : Int))), some (.int (jI (g : Int))), some (.int (jI (mi 48 g))), some (.int (jI ((mi 48 g)))), some (.int (jI (mi 50 s1))), some (.int (jI w1)), some (.int (jI n1))] [] := by
          intro n
          induction n using Nat.strongRecOn with
          | ind n ih_loop =>
            intro mi' mr' n1 w1 hn hw hG hm1 hl1 hc hw0 hn
            have hm' : ∀ a, a < N ∨ N + 205 ≤ a → a ≠ 48 → a ≠ 50 → mi' a = mi a := fun a ha h48 h50 => hG.2.2.2.2.2.1 a ha (fun q => by rcases q with q | q; exact h48 q; exact h50 q)
            have hr' : ∀ a, a ≠ N + 1 → mr' a = mr a := hG.2.2.2.2.2.2.1
            have hA' : mr' 44 4 = A := by rw [hr' 44 (by omega)]; exact hA
            have hN' : mr' 44 5 = N := by rw [hr' 44 (by omega)]; exact hN
            refine w_iload X dX0_fillFrom_107 rfl ?_
            refine w_iload X dX0_fillFrom_109 rfl ?_
            refine w_icmp_gt X 161 dX0_fillFrom_111 (by decide) (fun c111_6 => ?_) (fun c111_6 => ?_)
            ·
              refine w_aload_n X dX0_fillFrom_161 rfl ?_
              refine w_get X (by decide) (σ_44 G n0 _ _) rfl gW_X0 3 (by decide) gF_X0_27 rfl dX0_fillFrom_162 ?_
              refine w_iload_n X dX0_fillFrom_165 rfl ?_
              refine w_iload X dX0_fillFrom_166 rfl ?_
              refine s_callVv X _ (c_X3_set (l := l) (G := G) (n0 := n0) cr_49 (by first | assumption | (refine ⟨?_, ?_⟩ <;> omega))) gM_X0_169 gI_yX3_set gS_yX3_set gN_X3 gC_yX3_set (isCr_k cr_49) (σ_cr G n0 _ _ cr_49) rfl dX0_fillFrom_168 hl_yX3_set ⟨Nat.le_of_ble_eq_true rfl, Nat.le_of_ble_eq_true rfl⟩ (Nat.le_of_ble_eq_true rfl) rfl (fun mi7 mr7 h7 => ?_)
              obtain ⟨e9, rfl⟩ := h7
              rw [if_pos ⟨by omega, by omega⟩, Int.toNat_natCast] at e9
              subst e9
              refine w_aload_n X dX0_fillFrom_171 rfl ?_
              refine w_get X (by decide) (σ_44 G n0 _ _) rfl gW_X0 2 (by decide) gF_X0_23 rfl dX0_fillFrom_172 ?_
              refine w_iload_n X dX0_fillFrom_175 rfl ?_
              refine w_iload X dX0_fillFrom_176 rfl ?_
              refine s_callVv X _ (c_X3_set (l := l) (G := G) (n0 := n0) cr_47 (by first | assumption | (refine ⟨?_, ?_⟩ <;> omega))) gM_X0_169 gI_yX3_set gS_yX3_set gN_X3 gC_yX3_set (isCr_k cr_47) (σ_cr G n0 _ _ cr_47) rfl dX0_fillFrom_178 hl_yX3_set ⟨Nat.le_of_ble_eq_true rfl, Nat.le_of_ble_eq_true rfl⟩ (Nat.le_of_ble_eq_true rfl) rfl (fun mi8 mr8 h8 => ?_)
              obtain ⟨e9, rfl⟩ := h8
              rw [if_pos ⟨by omega, by omega⟩, Int.toNat_natCast] at e9
              subst e9
              refine w_iconst X dX0_fillFrom_181 ?_
              refine s_zret X hr dX0_fillFrom_182 (by omega) ?_
              have h0 : ∀ a, ¬ fX a → (up2 (up2 mi' 50 s1 (mi 50 s1)) 48 g (mi 48 g)) a = mi' a := fun a ha => by rw [up2_k _ _ _ _ (fun q => ha (Or.inl q)), up2_k _ _ _ _ (fun q => ha (Or.inr q))]
              have hX : ∀ a, fX a → a < N := fun a ha => by rcases ha with ha | ha <;> omega
              have hE3 : Ef (up2 (up2 mi' 50 s1 (mi 50 s1)) 48 g (mi 48 g)) mr' N = Ef mi' mr' N := Ef_fr hG.1 (fun a ha ha2 => h0 a (fun q => by have := hX a q; omega)) rfl
              have hN3 : (up2 (up2 mi' 50 s1 (mi 50 s1)) 48 g (mi 48 g)) N = mi' N := h0 N (fun q => by have := hX N q; omega)
              refine ⟨Grw_e hG h0 hX, fun v hv2 => ?_, Or.inl rfl, fun j hj => ?_, fun j hj => ?_⟩
              · obtain ⟨n2, q1, q2, q3, q4⟩ := hv2
                rw [hgt] at q2 q3 q4
                rw [hE3, hN3]
                have q5 := hf n2 q1 q3
                by_cases q6 : n2 < n1
                · exact hc n2 q5 q6 v q4
                · first
                  | (exfalso; omega)
                  | exact hw0 (by omega) n2 (by omega) q2 v q4
              · rw [up2_k _ _ _ _ (by decide)]
                by_cases q : j = s1
                · subst q; rw [up2_s]
                · rw [up2_j _ _ _ _ q]; exact hm1 j hj q
              · by_cases q : j = g
                · subst q; rw [up2_s]
                · rw [up2_j _ _ _ _ q, up2_k _ _ _ _ (by decide)]; exact hl1 j hj q
            ·
              refine w_iload X dX0_fillFrom_114 rfl ?_
              refine w_if_eq X 161 dX0_fillFrom_116 (by decide) (fun c116_7 => ?_) (fun c116_7 => ?_)
              ·
                refine w_aload_n X dX0_fillFrom_161 rfl ?_
                refine w_get X (by decide) (σ_44 G n0 _ _) rfl gW_X0 3 (by decide) gF_X0_27 rfl dX0_fillFrom_162 ?_
                refine w_iload_n X dX0_fillFrom_165 rfl ?_
                refine w_iload X dX0_fillFrom_166 rfl ?_
                refine s_callVv X _ (c_X3_set (l := l) (G := G) (n0 := n0) cr_49 (by first | assumption | (refine ⟨?_, ?_⟩ <;> omega))) gM_X0_169 gI_yX3_set gS_yX3_set gN_X3 gC_yX3_set (isCr_k cr_49) (σ_cr G n0 _ _ cr_49) rfl dX0_fillFrom_168 hl_yX3_set ⟨Nat.le_of_ble_eq_true rfl, Nat.le_of_ble_eq_true rfl⟩ (Nat.le_of_ble_eq_true rfl) rfl (fun mi7 mr7 h7 => ?_)
                obtain ⟨e9, rfl⟩ := h7
                rw [if_pos ⟨by omega, by omega⟩, Int.toNat_natCast] at e9
                subst e9
                refine w_aload_n X dX0_fillFrom_171 rfl ?_
                refine w_get X (by decide) (σ_44 G n0 _ _) rfl gW_X0 2 (by decide) gF_X0_23 rfl dX0_fillFrom_172 ?_
                refine w_iload_n X dX0_fillFrom_175 rfl ?_
                refine w_iload X dX0_fillFrom_176 rfl ?_
                refine s_callVv X _ (c_X3_set (l := l) (G := G) (n0 := n0) cr_47 (by first | assumption | (refine ⟨?_, ?_⟩ <;> omega))) gM_X0_169 gI_yX3_set gS_yX3_set gN_X3 gC_yX3_set (isCr_k cr_47) (σ_cr G n0 _ _ cr_47) rfl dX0_fillFrom_178 hl_yX3_set ⟨Nat.le_of_ble_eq_true rfl, Nat.le_of_ble_eq_true rfl⟩ (Nat.le_of_ble_eq_true rfl) rfl (fun mi8 mr8 h8 => ?_)
                obtain ⟨e9, rfl⟩ := h8
                rw [if_pos ⟨by omega, by omega⟩, Int.toNat_natCast] at e9
                subst e9
                refine w_iconst X dX0_fillFrom_181 ?_
                refine s_zret X hr dX0_fillFrom_182 (by omega) ?_
                have h0 : ∀ a, ¬ fX a → (up2 (up2 mi' 50 s1 (mi 50 s1)) 48 g (mi 48 g)) a = mi' a := fun a ha => by rw [up2_k _ _ _ _ (fun q => ha (Or.inl q)), up2_k _ _ _ _ (fun q => ha (Or.inr q))]
                have hX : ∀ a, fX a → a < N := fun a ha => by rcases ha with ha | ha <;> omega
                have hE3 : Ef (up2 (up2 mi' 50 s1 (mi 50 s1)) 48 g (mi 48 g)) mr' N = Ef mi' mr' N := Ef_fr hG.1 (fun a ha ha2 => h0 a (fun q => by have := hX a q; omega)) rfl
                have hN3 : (up2 (up2 mi' 50 s1 (mi 50 s1)) 48 g (mi 48 g)) N = mi' N := h0 N (fun q => by have := hX N q; omega)
                refine ⟨Grw_e hG h0 hX, fun v hv2 => ?_, Or.inl rfl, fun j hj => ?_, fun j hj => ?_⟩
                · obtain ⟨n2, q1, q2, q3, q4⟩ := hv2
                  rw [hgt] at q2 q3 q4
                  rw [hE3, hN3]
                  have q5 := hf n2 q1 q3
                  by_cases q6 : n2 < n1
                  · exact hc n2 q5 q6 v q4
                  · first
                    | (exfalso; omega)
                    | exact hw0 (by omega) n2 (by omega) q2 v q4
                · rw [up2_k _ _ _ _ (by decide)]
                  by_cases q : j = s1
                  · subst q; rw [up2_s]
                  · rw [up2_j _ _ _ _ q]; exact hm1 j hj q
                · by_cases q : j = g
                  · subst q; rw [up2_s]
                  · rw [up2_j _ _ _ _ q, up2_k _ _ _ _ (by decide)]; exact hl1 j hj q
              ·
                refine w_aload_n X dX0_fillFrom_119 rfl ?_
                refine w_get X (by decide) (σ_44 G n0 _ _) rfl gW_X0 3 (by decide) gF_X0_27 rfl dX0_fillFrom_120 ?_
                refine w_iload_n X dX0_fillFrom_123 rfl ?_
                refine w_iload X dX0_fillFrom_124 rfl ?_
                refine w_iload X dX0_fillFrom_126 rfl ?_
                refine w_iadd X dX0_fillFrom_128 ?_
                refine s_callVv X _ (c_X3_set (l := l) (G := G) (n0 := n0) cr_49 (by first | assumption | (refine ⟨?_, ?_⟩ <;> omega))) gM_X0_169 gI_yX3_set gS_yX3_set gN_X3 gC_yX3_set (isCr_k cr_49) (σ_cr G n0 _ _ cr_49) rfl dX0_fillFrom_129 hl_yX3_set ⟨Nat.le_of_ble_eq_true rfl, Nat.le_of_ble_eq_true rfl⟩ (Nat.le_of_ble_eq_true rfl) rfl (fun mi7 mr7 h7 => ?_)
                obtain ⟨e9, rfl⟩ := h7
                rw [if_pos ⟨by omega, by omega⟩, Int.toNat_natCast] at e9
                subst e9
                refine w_aload_n X dX0_fillFrom_132 rfl ?_
                refine w_get X (by decide) (σ_44 G n0 _ _) rfl gW_X0 2 (by decide) gF_X0_23 rfl dX0_fillFrom_133 ?_
                refine w_iload_n X dX0_fillFrom_136 rfl ?_
                refine w_iload X dX0_fillFrom_137 rfl ?_
                refine w_iload X dX0_fillFrom_139 rfl ?_
                refine w_isub X dX0_fillFrom_141 ?_
                refine s_callVv X _ (c_X3_set (l := l) (G := G) (n0 := n0) cr_47 (by first | assumption | (refine ⟨?_, ?_⟩ <;> omega))) gM_X0_169 gI_yX3_set gS_yX3_set gN_X3 gC_yX3_set (isCr_k cr_47) (σ_cr G n0 _ _ cr_47) rfl dX0_fillFrom_142 hl_yX3_set ⟨Nat.le_of_ble_eq_true rfl, Nat.le_of_ble_eq_true rfl⟩ (Nat.le_of_ble_eq_true rfl) rfl (fun mi8 mr8 h8 => ?_)
                obtain ⟨e9, rfl⟩ := h8
                rw [if_pos ⟨by omega, by omega⟩, Int.toNat_natCast] at e9
                subst e9
                have hfr2 : ∀ a, a ≠ 48 → a ≠ 50 → (up2 (up2 mi' 50 s1 (mi 50 s1 + n1)) 48 g (mi 48 g - n1)) a = mi' a := fun a h48 h50 => by rw [up2_k _ _ _ _ h48, up2_k _ _ _ _ h50]
                have hlt : (mi 48 g + 1 - (n1 + 1)).toNat < n := by omega
                have hn2 : (mi 48 g) ≤ n1 + 1 ∧ n1 + 1 ≤ mi 48 g + 1 := by omega
                have h250 : ∀ j : Nat, j < 5 → (up2 (up2 mi' 50 s1 (mi 50 s1 + n1)) 48 g (mi 48 g - n1)) 50 j = addA (mi 50) s1 n1 j := by
                  intro j hj
                  rw [up2_k _ _ _ _ (by decide)]
                  unfold addA
                  by_cases q : j = s1
                  · subst q; rw [up2_s, if_pos rfl]
                  · rw [up2_j _ _ _ _ q, if_neg q]; exact hm1 j hj q
                have h248 : ∀ j : Nat, j < 5 → (up2 (up2 mi' 50 s1 (mi 50 s1 + n1)) 48 g (mi 48 g - n1)) 48 j = addA (mi 48) g (-n1) j := by
                  intro j hj
                  unfold addA
                  by_cases q : j = g
                  · subst q; rw [up2_s, if_pos rfl]; omega
                  · rw [up2_j _ _ _ _ q, up2_k _ _ _ _ (by decide), if_neg q]; exact hl1 j hj q
                have hk2 : (up2 (up2 mi' 50 s1 (mi 50 s1 + n1)) 48 g (mi 48 g - n1)) k = mi k := by rw [hfr2 k (by omega) (by omega)]; exact hm' k (by omega) (by omega) (by omega)
                have hk12 : (up2 (up2 mi' 50 s1 (mi 50 s1 + n1)) 48 g (mi 48 g - n1)) 1 = mi 1 := by rw [hfr2 1 (by decide) (by decide)]; exact hm' 1 (by omega) (by decide) (by decide)
                have hL2 : LW (up2 (up2 mi' 50 s1 (mi 50 s1 + n1)) 48 g (mi 48 g - n1)) := LW_fr hL (fun a ha ha2 ha3 => by rw [hfr2 a (by omega) (by omega)]; exact hm' a (by omega) (by omega) (by omega))
                have hv2 : RV ((up2 (up2 mi' 50 s1 (mi 50 s1 + n1)) 48 g (mi 48 g - n1)) 1 3) (up2 (up2 mi' 50 s1 (mi 50 s1 + n1)) 48 g (mi 48 g - n1)) k := by rw [hk12]; exact RV_fr hv hk2 (by rw [hfr2 _ (by omega) (by omega)]; exact hm' _ (by omega) (by omega) (by omega))
                have hB2 : BO (up2 (up2 mi' 50 s1 (mi 50 s1 + n1)) 48 g (mi 48 g - n1)) mr' N := BO_fr hG.1 (fun a ha ha2 => hfr2 a (by omega) (by omega)) rfl
                have hE2 : Ef (up2 (up2 mi' 50 s1 (mi 50 s1 + n1)) 48 g (mi 48 g - n1)) mr' N = Ef mi' mr' N := Ef_fr hG.1 (fun a ha ha2 => hfr2 a (by omega) (by omega)) rfl
                have hS2 : Srt (Ef (up2 (up2 mi' 50 s1 (mi 50 s1 + n1)) 48 g (mi 48 g - n1)) mr' N) := by rw [hE2]; exact hG.2.1
                have hF2 : FCo (up2 (up2 mi' 50 s1 (mi 50 s1 + n1)) 48 g (mi 48 g - n1)) mr' N := FCo_fr hG.1 (fun a ha ha2 => hfr2 a (by omega) (by omega)) rfl hG.2.2.1
                have hml2 : ∀ j : Nat, j < 5 → 0 ≤ (up2 (up2 mi' 50 s1 (mi 50 s1 + n1)) 48 g (mi 48 g - n1)) 50 j ∧ 0 ≤ (up2 (up2 mi' 50 s1 (mi 50 s1 + n1)) 48 g (mi 48 g - n1)) 48 j := by
                  intro j hj
                  have q1 := hml j hj
                  rw [h250 j hj, h248 j hj]
                  unfold addA
                  refine ⟨?_, ?_⟩
                  · split <;> omega
                  · split <;> omega
                have hsum2 : ∀ j : Nat, j < 5 → (up2 (up2 mi' 50 s1 (mi 50 s1 + n1)) 48 g (mi 48 g - n1)) 50 j + sum5 ((up2 (up2 mi' 50 s1 (mi 50 s1 + n1)) 48 g (mi 48 g - n1)) 48) ≤ 900 := by
                  intro j hj
                  have q1 := hsum j hj
                  rw [h250 j hj, sum5_c h248, sum5_addA hg5]
                  unfold addA
                  split <;> omega
                generalize (up2 (up2 mi' 50 s1 (mi 50 s1 + n1)) 48 g (mi 48 g - n1)) = m2 at hfr2 h250 h248 hk2 hk12 hL2 hv2 hB2 hE2 hS2 hF2 hml2 hsum2 ⊢
                refine w_aload_n X dX0_fillFrom_145 rfl ?_
                refine w_aload_n X dX0_fillFrom_146 rfl ?_
                refine w_iload_n X dX0_fillFrom_147 rfl ?_
                refine w_iconst X dX0_fillFrom_148 ?_
                refine w_iadd X dX0_fillFrom_149 ?_
                refine s_callVi X _ (c_X0_fillFrom_3 (l := l) (G := G) (n0 := n0) hAN hA' hN' hL2 hk hv2 hB2 hS2 hF2 hml2 hsum2 (s1 := s1 + 1) (by rw [hk12]; omega)) gM_X0_141 gI_yX0_fillFrom gS_yX0_fillFrom gN_X0 gC_yX0_fillFrom (by decide) (σ_44 G n0 _ _) rfl dX0_fillFrom_150 hl_yX0_fillFrom ⟨Nat.le_of_ble_eq_true rfl, Nat.le_of_ble_eq_true rfl⟩ (Nat.le_of_ble_eq_true rfl) rfl (fun r9 mi9 mr9 h9 => ?_)
                obtain ⟨hG2, hcov, hr9, hk50, hk48⟩ := h9
                rw [hk12, hk2] at hG2 hcov
                have hCpE : ∀ v, Cp (mi 1 3) (mi k) 3 (s1 + 1) (m2 50) (m2 48) v → Cp (mi 1 3) (mi k) 3 (s1 + 1) (addA (mi 50) s1 n1) (addA (mi 48) g (-n1)) v := fun v q => Cp_c hvg 3 (s1 + 1) (by omega) h250 h248 q
                have hCp : ∀ v, Cp (mi 1 3) (mi k) 3 (s1 + 1) (addA (mi 50) s1 n1) (addA (mi 48) g (-n1)) v → Cp (mi 1 3) (mi k) 3 (s1 + 1) (m2 50) (m2 48) v := fun v q => Cp_c hvg 3 (s1 + 1) (by omega) (fun j hj => (h250 j hj).symm) (fun j hj => (h248 j hj).symm) q
                have hT5 : T5 (m2 50) = T5 (addA (mi 50) s1 n1) := T5_c h250
                have hG3 : Grw fX mi' mi9 mr' mr9 N (fun y : V5 × Int => y.2 = 1 ∧ Cp (mi 1 3) (mi k) 4 s1 (mi 50) (mi 48) y.1) := Grw_l hG.1 (Grw_w hG2 (fun _ q => q) (fun y q => ⟨q.1, n1, by omega, by rw [hgt]; omega, fun q2 => by rw [hgt]; have := hf2 q2; omega, by rw [hgt]; exact hCpE _ q.2⟩)) (fun a ha => hfr2 a (fun q => ha (Or.inl q)) (fun q => ha (Or.inr q))) (fun a ha => by rcases ha with ha | ha <;> omega)
                refine w_ist9_7 X dX0_fillFrom_153 ?_
                refine w_iinc9_8 X dX0_fillFrom_155 ?_
                refine w_goto X 107 dX0_fillFrom_158 (by decide) ?_
                have hw9 : r9 = 0 ∨ r9 = 1 := by rcases hr9 with q | q; exact Or.inr q; exact Or.inl q.1
                have hcn : ∀ y, y ∈ Ef mi' mr' N → y ∈ Ef mi9 mr9 N := hG3.2.2.2.1
                have hcc : mi' N 2 ≤ mi9 N 2 := hG3.2.2.2.2.2.2.2
                exact ih_loop _ hlt mi9 mr9 (n1 + 1) r9 hn2 hw9 (Grw_t hG hG3) (fun j hj hjs => by rw [hk50 j hj, h250 j hj]; exact if_neg hjs) (fun j hj hjg => by rw [hk48 j hj, h248 j hj]; exact if_neg hjg)
                  (fun n2 q1 q2 v hv2 => by
                    by_cases q : n2 < n1
                    · rcases hc n2 q1 q v hv2 with ⟨y, hy, hy2⟩ | q3
                      · exact Or.inl ⟨y, hcn y hy, hy2⟩
                      · right; omega
                    · have e : n2 = n1 := by omega
                      subst e
                      exact hcov v (hCp v hv2))
                  (fun q n2 q1 q2 v hv2 => by
                    rcases hr9 with q3 | ⟨-, q3⟩
                    · omega
                    · rcases q3 with ⟨y, hy, hy2⟩ | q4
                      · rw [hT5] at hy2
                        exact Or.inl ⟨y, hy, gv_t (gv_t (Cp_ge _ _ hv2) (gv_add (by omega))) hy2⟩
                      · exact Or.inr q4) rfl
        exact loop _ mi mr (mi 48 g) 1 (by omega) (Or.inr rfl) (Grw_r hBN hSN hFN) (fun j hj h9 => rfl) (fun j hj h9 => rfl) (fun n1 q1 q2 => absurd q1 (by omega)) (fun q => absurd q (by decide)) rfl
    ·
      refine w_iconst X dX0_fillFrom_24 ?_
      refine s_zret X hr dX0_fillFrom_25 (by omega) ?_
      rcases h2 with ⟨q, q2⟩ | ⟨q, -⟩
      · exact Fil_0 hBN hSN hFN (Or.inl q2)
      · exact absurd q (by assumption)
set_option maxRecDepth 20000 in
set_option maxHeartbeats 4000000 in
theorem c_X0_fillFrom_5 {l : Launch} {G : Gt} {n0 : Nat} {mi : Nat → Nat → Int} {mr : Nat → Nat → Nat} {A N k s1 : Nat} (hAN : AN A N) (hA : mr 44 4 = A) (hN : mr 44 5 = N) (hL : LW mi) (hk : isRu k) (hv : RV (mi 1 3) mi k) (hBN : BO mi mr N) (hSN : Srt (Ef mi mr N)) (hFN : FCo mi mr N) (hml : ∀ j : Nat, j < 5 → 0 ≤ mi 50 j ∧ 0 ≤ mi 48 j) (hsum : ∀ j : Nat, j < 5 → mi 50 j + sum5 (mi 48) ≤ 900) (hs : (s1 : Int) + 5 = mi 1 3) : Ci l yX0_fillFrom cX0_fillFrom 9 .boolean 9 G n0 [.ref (n0 + 44), .ref (n0 + k), .int (jI (s1 : Int))] mi mr (fun r9 mi9 mr9 => Fil mi mi9 mr mr9 N k 5 s1 r9) := by
  refine Ct_of (by decide +kernel) (by intro v hv; simp at hv; rcases hv with rfl | rfl | rfl <;> rfl) (Nat.le_of_ble_eq_true rfl) ?_
  intro p e s m args below meth c9 X hr hname
  show WW _ _ _ _ _ _ _ _ _ _ _ _ _ _ _ _ _ _ _ [some (.ref (n0 + 44)), some (.ref (n0 + k)), some (.int (jI (s1 : Int))), none, none, none, none, none, none] _
  have hBN2 := hBN.2.1
  have hne := hAN.ne
  have hL1 := hL.1
  have hvg : ∀ j : Nat, j < 5 → 0 ≤ gol (mi k) j ∧ gol (mi k) j < 5 := fun j hj => ⟨(hv.2.2.2.2.2.2.2 j hj).2.1, (hv.2.2.2.2.2.2.2 j hj).2.2.1⟩
  have hcb : CB mi 49 := CB_of (fun j hj => by have q1 := hml j hj; have q2 := hsum j hj; have q3 := (sum5_n (fun j hj => (hml j hj).2)).1; exact ⟨q1.1, by show mi 50 j ≤ 1000; omega⟩)
  have hkr := hk
  unfold isRu at hkr
  have hown : ∀ i2 : Nat, i2 < 101 → 49 ≠ mr (N + 1) i2 := fun i2 h2 => by have := hBN.2.2.1 i2 h2; omega
  refine w_aload_n X dX0_fillFrom_0 rfl ?_
  refine w_get X (by decide) (σ_44 G n0 _ _) rfl gW_X0 5 (by decide) gF_X0_37 rfl dX0_fillFrom_1 ?_
  rw [hN]
  refine s_callVi X _ (c_X1_areTooMany (l := l) (G := G) (n0 := n0) hAN.b (by have := hBN2; refine ⟨?_, ?_⟩ <;> omega)) gM_X0_77 gI_yX1_areTooMany gS_yX1_areTooMany gN_X1 gC_yX1_areTooMany (isBs_k hAN.b) (σ_bs G n0 _ _ hAN.b) rfl dX0_fillFrom_4 hl_yX1_areTooMany ⟨Nat.le_of_ble_eq_true rfl, Nat.le_of_ble_eq_true rfl⟩ (Nat.le_of_ble_eq_true rfl) rfl (fun r1 mi1 mr1 h1 => ?_)
  obtain ⟨rfl, rfl, h1⟩ := h1
  refine w_if_ne X 24 dX0_fillFrom_7 (by decide) (fun c7_1 => ?_) (fun c7_1 => ?_)
  ·
    refine w_iconst X dX0_fillFrom_24 ?_
    refine s_zret X hr dX0_fillFrom_25 (by omega) ?_
    rcases h1 with ⟨q, q2⟩ | ⟨q, -⟩
    · exact Fil_0 hBN hSN hFN (Or.inr q2)
    · exact absurd q (by assumption)
  ·
    refine w_aload_n X dX0_fillFrom_10 rfl ?_
    refine w_get X (by decide) (σ_44 G n0 _ _) rfl gW_X0 5 (by decide) gF_X0_37 rfl dX0_fillFrom_11 ?_
    rw [hN]
    refine w_aload_n X dX0_fillFrom_14 rfl ?_
    refine w_get X (by decide) (σ_44 G n0 _ _) rfl gW_X0 3 (by decide) gF_X0_27 rfl dX0_fillFrom_15 ?_
    refine s_callVi X _ (c_X1_cover (l := l) (G := G) (n0 := n0) hBN cr_49 hcb) gM_X0_48 gI_yX1_cover gS_yX1_cover gN_X1 gC_yX1_cover (isBs_k hAN.b) (σ_bs G n0 _ _ hAN.b) rfl dX0_fillFrom_18 hl_yX1_cover ⟨Nat.le_of_ble_eq_true rfl, Nat.le_of_ble_eq_true rfl⟩ (Nat.le_of_ble_eq_true rfl) rfl (fun r2 mi2 mr2 h2 => ?_)
    obtain ⟨rfl, rfl, h2⟩ := h2
    have h2 := cov_E h2
    refine w_if_eq X 26 dX0_fillFrom_21 (by decide) (fun c21_2 => ?_) (fun c21_2 => ?_)
    ·
      refine w_iload_n X dX0_fillFrom_26 rfl ?_
      refine w_aload_n X dX0_fillFrom_27 rfl ?_
      refine w_get X (by decide) (σ_44 G n0 _ _) rfl gW_X0 0 (by decide) gF_X0_44 rfl dX0_fillFrom_28 ?_
      refine w_getN X (by decide) (σ_1 G n0 _ _) rfl gW_X5 3 (by decide) gF_X0_117 rfl dX0_fillFrom_31 ?_
      refine w_icmp_lt X 51 dX0_fillFrom_34 (by decide) (fun h34_ => ?_) (fun h9 => absurd (by omega) h9)
      have hgb := hvg s1 (by omega)
      obtain ⟨g, hg⟩ := Int.eq_ofNat_of_zero_le hgb.1
      have hg5 : g < 5 := by omega
      have hgt : (gol (mi k) s1).toNat = g := by rw [hg]; exact Int.toNat_natCast g
      have hlg := hml g hg5
      have hms := hml s1 (by omega)
      have hsu := sum5_n (fun j hj => (hml j hj).2)
      have hsg := hsu.2 g hg5
      have hss := hsum s1 (by omega)
      refine w_aload_n X dX0_fillFrom_51 rfl ?_
      refine w_iload_n X dX0_fillFrom_52 rfl ?_
      refine s_callVi X _ (c_X6_goalOf (l := l) (G := G) (n0 := n0) hk hv (by first | assumption | (refine ⟨?_, ?_⟩ <;> omega))) gM_X0_159 gI_yX6_goalOf gS_yX6_goalOf gN_X6 gC_yX6_goalOf (isRu_k hk) (σ_ru G n0 _ _ hk) rfl dX0_fillFrom_53 hl_yX6_goalOf ⟨Nat.le_of_ble_eq_true rfl, Nat.le_of_ble_eq_true rfl⟩ (Nat.le_of_ble_eq_true rfl) rfl (fun r3 mi3 mr3 h3 => ?_)
      obtain ⟨rfl, rfl, h3, b9, q9⟩ := h3
      rw [if_pos ⟨by omega, by omega⟩, Int.toNat_natCast, hg] at h3
      subst h3
      refine w_ist9_3 X dX0_fillFrom_56 ?_
      refine w_aload_n X dX0_fillFrom_57 rfl ?_
      refine w_get X (by decide) (σ_44 G n0 _ _) rfl gW_X0 2 (by decide) gF_X0_23 rfl dX0_fillFrom_58 ?_
      refine w_iload_n X dX0_fillFrom_61 rfl ?_
      refine s_callVi X _ (c_X3_of (l := l) (G := G) (n0 := n0) cr_47 (by first | assumption | (refine ⟨?_, ?_⟩ <;> omega))) gM_X0_163 gI_yX3_of gS_yX3_of gN_X3 gC_yX3_of (isCr_k cr_47) (σ_cr G n0 _ _ cr_47) rfl dX0_fillFrom_62 hl_yX3_of ⟨Nat.le_of_ble_eq_true rfl, Nat.le_of_ble_eq_true rfl⟩ (Nat.le_of_ble_eq_true rfl) rfl (fun r4 mi4 mr4 h4 => ?_)
      obtain ⟨rfl, rfl, h4⟩ := h4
      rw [if_pos ⟨by omega, by omega⟩, Int.toNat_natCast] at h4
      subst h4
      refine w_ist9_4 X dX0_fillFrom_65 ?_
      refine w_aload_n X dX0_fillFrom_67 rfl ?_
      refine w_iload_n X dX0_fillFrom_68 rfl ?_
      refine w_aload_n X dX0_fillFrom_69 rfl ?_
      refine w_get X (by decide) (σ_44 G n0 _ _) rfl gW_X0 0 (by decide) gF_X0_44 rfl dX0_fillFrom_70 ?_
      refine w_getN X (by decide) (σ_1 G n0 _ _) rfl gW_X5 3 (by decide) gF_X0_117 rfl dX0_fillFrom_73 ?_
      refine s_callVi X _ (c_X6_isLastToGoal (l := l) (G := G) (n0 := n0) hk hv (by omega)) gM_X0_165 gI_yX6_isLastToGoal gS_yX6_isLastToGoal gN_X6 gC_yX6_isLastToGoal (isRu_k hk) (σ_ru G n0 _ _ hk) rfl dX0_fillFrom_76 hl_yX6_isLastToGoal ⟨Nat.le_of_ble_eq_true rfl, Nat.le_of_ble_eq_true rfl⟩ (Nat.le_of_ble_eq_true rfl) rfl (fun r5 mi5 mr5 h5 => ?_)
      obtain ⟨rfl, rfl, h5⟩ := h5
      have h5 : r5 = 1 ∧ lastG (mi 1 3) (mi k) s1 ∨ r5 = 0 ∧ ¬ lastG (mi 1 3) (mi k) s1 := by
        rcases h5 with ⟨q, q2⟩ | ⟨q, j, q1, q2, q3⟩
        · exact Or.inl ⟨q, q2⟩
        · exact Or.inr ⟨q, fun w => w j q1 q2 q3⟩
      refine w_if_eq X 87 dX0_fillFrom_79 (by decide) (fun c79_3 => ?_) (fun c79_3 => ?_)
      ·
        have hla : ¬ lastG (mi 1 3) (mi k) s1 := by rcases h5 with ⟨q, -⟩ | ⟨-, q⟩; omega; exact q
        have hf : ∀ n1 : Int, 0 ≤ n1 → (lastG (mi 1 3) (mi k) s1 → n1 = mi 48 g) → 0 ≤ n1 := fun n1 q _ => q
        have hf2 : lastG (mi 1 3) (mi k) s1 → 0 = mi 48 g := fun q => absurd q hla
        clear h5
        refine w_iconst X dX0_fillFrom_87 ?_
        refine w_ist9_5 X dX0_fillFrom_88 ?_
        refine w_aload_n X dX0_fillFrom_90 rfl ?_
        refine w_get X (by decide) (σ_44 G n0 _ _) rfl gW_X0 3 (by decide) gF_X0_27 rfl dX0_fillFrom_91 ?_
        refine w_iload_n X dX0_fillFrom_94 rfl ?_
        refine s_callVi X _ (c_X3_of (l := l) (G := G) (n0 := n0) cr_49 (by first | assumption | (refine ⟨?_, ?_⟩ <;> omega))) gM_X0_163 gI_yX3_of gS_yX3_of gN_X3 gC_yX3_of (isCr_k cr_49) (σ_cr G n0 _ _ cr_49) rfl dX0_fillFrom_95 hl_yX3_of ⟨Nat.le_of_ble_eq_true rfl, Nat.le_of_ble_eq_true rfl⟩ (Nat.le_of_ble_eq_true rfl) rfl (fun r6 mi6 mr6 h6 => ?_)
        obtain ⟨rfl, rfl, h6⟩ := h6
        rw [if_pos ⟨by omega, by omega⟩, Int.toNat_natCast] at h6
        subst h6
        refine w_ist9_6 X dX0_fillFrom_98 ?_
        refine w_iconst X dX0_fillFrom_100 ?_
        refine w_ist9_7 X dX0_fillFrom_101 ?_
        refine w_iload X dX0_fillFrom_103 rfl ?_
        refine w_ist9_8 X dX0_fillFrom_105 ?_
        have loop : ∀ (n : Nat) (mi' : Nat → Nat → Int) (mr' : Nat → Nat → Nat) (n1 w1 : Int), (0 ≤ n1 ∧ n1 ≤ mi 48 g + 1) → (w1 = 0 ∨ w1 = 1) → (Grw fX mi mi' mr mr' N (fun y : V5 × Int => y.2 = 1 ∧ Cp (mi 1 3) (mi k) 5 s1 (mi 50) (mi 48) y.1)) → (∀ j : Nat, j < 5 → j ≠ s1 → mi' 50 j = mi 50 j) → (∀ j : Nat, j < 5 → j ≠ g → mi' 48 j = mi 48 j) → (∀ n2 : Int, 0 ≤ n2 → n2 < n1 → ∀ v, Cp (mi 1 3) (mi k) 4 (s1 + 1) (addA (mi 50) s1 n2) (addA (mi 48) g (-n2)) v → (∃ y ∈ Ef mi' mr' N, gv v y.1) ∨ 100 < mi' N 2) → (w1 = 0 → ∀ n2 : Int, n1 ≤ n2 → n2 ≤ mi 48 g → ∀ v, Cp (mi 1 3) (mi k) 4 (s1 + 1) (addA (mi 50) s1 n2) (addA (mi 48) g (-n2)) v → (∃ y ∈ Ef mi' mr' N, gv v y.1) ∨ 100 < mi' N 2) → n = (mi 48 g + 1 - n1).toNat → WSi p l e s m args below meth c9 9 (fun r9 mi9 mr9 => Fil mi mi9 mr mr9 N k 5 s1 r9) G n0 9 mi' mr' 107 [some (.ref (n0 + 44)), some (.ref (n0 + k)), some (.int (jI (s1 : Int))), some (.int (jI (g : Int))), some (.int (jI (mi 48 g))), some (.int (jI (0))), some (.int (jI (mi 50 s1))), some (.int (jI w1)), some (.int (jI n1))] [] := by
          intro n
          induction n using Nat.strongRecOn with
          | ind n ih_loop =>
            intro mi' mr' n1 w1 hn hw hG hm1 hl1 hc hw0 hn
            have hm' : ∀ a, a < N ∨ N + 205 ≤ a → a ≠ 48 → a ≠ 50 → mi' a = mi a := fun a ha h48 h50 => hG.2.2.2.2.2.1 a ha (fun q => by rcases q with q | q; exact h48 q; exact h50 q)
            have hr' : ∀ a, a ≠ N + 1 → mr' a = mr a := hG.2.2.2.2.2.2.1
            have hA' : mr' 44 4 = A := by rw [hr' 44 (by omega)]; exact hA
            have hN' : mr' 44 5 = N := by rw [hr' 44 (by omega)]; exact hN
            refine w_iload X dX0_fillFrom_107 rfl ?_
            refine w_iload X dX0_fillFrom_109 rfl ?_
            refine w_icmp_gt X 161 dX0_fillFrom_111 (by decide) (fun c111_4 => ?_) (fun c111_4 => ?_)
            ·
              refine w_aload_n X dX0_fillFrom_161 rfl ?_
              refine w_get X (by decide) (σ_44 G n0 _ _) rfl gW_X0 3 (by decide) gF_X0_27 rfl dX0_fillFrom_162 ?_
              refine w_iload_n X dX0_fillFrom_165 rfl ?_
              refine w_iload X dX0_fillFrom_166 rfl ?_
              refine s_callVv X _ (c_X3_set (l := l) (G := G) (n0 := n0) cr_49 (by first | assumption | (refine ⟨?_, ?_⟩ <;> omega))) gM_X0_169 gI_yX3_set gS_yX3_set gN_X3 gC_yX3_set (isCr_k cr_49) (σ_cr G n0 _ _ cr_49) rfl dX0_fillFrom_168 hl_yX3_set ⟨Nat.le_of_ble_eq_true rfl, Nat.le_of_ble_eq_true rfl⟩ (Nat.le_of_ble_eq_true rfl) rfl (fun mi7 mr7 h7 => ?_)
              obtain ⟨e9, rfl⟩ := h7
              rw [if_pos ⟨by omega, by omega⟩, Int.toNat_natCast] at e9
              subst e9
              refine w_aload_n X dX0_fillFrom_171 rfl ?_
              refine w_get X (by decide) (σ_44 G n0 _ _) rfl gW_X0 2 (by decide) gF_X0_23 rfl dX0_fillFrom_172 ?_
              refine w_iload_n X dX0_fillFrom_175 rfl ?_
              refine w_iload X dX0_fillFrom_176 rfl ?_
              refine s_callVv X _ (c_X3_set (l := l) (G := G) (n0 := n0) cr_47 (by first | assumption | (refine ⟨?_, ?_⟩ <;> omega))) gM_X0_169 gI_yX3_set gS_yX3_set gN_X3 gC_yX3_set (isCr_k cr_47) (σ_cr G n0 _ _ cr_47) rfl dX0_fillFrom_178 hl_yX3_set ⟨Nat.le_of_ble_eq_true rfl, Nat.le_of_ble_eq_true rfl⟩ (Nat.le_of_ble_eq_true rfl) rfl (fun mi8 mr8 h8 => ?_)
              obtain ⟨e9, rfl⟩ := h8
              rw [if_pos ⟨by omega, by omega⟩, Int.toNat_natCast] at e9
              subst e9
              refine w_iconst X dX0_fillFrom_181 ?_
              refine s_zret X hr dX0_fillFrom_182 (by omega) ?_
              have h0 : ∀ a, ¬ fX a → (up2 (up2 mi' 50 s1 (mi 50 s1)) 48 g (mi 48 g)) a = mi' a := fun a ha => by rw [up2_k _ _ _ _ (fun q => ha (Or.inl q)), up2_k _ _ _ _ (fun q => ha (Or.inr q))]
              have hX : ∀ a, fX a → a < N := fun a ha => by rcases ha with ha | ha <;> omega
              have hE3 : Ef (up2 (up2 mi' 50 s1 (mi 50 s1)) 48 g (mi 48 g)) mr' N = Ef mi' mr' N := Ef_fr hG.1 (fun a ha ha2 => h0 a (fun q => by have := hX a q; omega)) rfl
              have hN3 : (up2 (up2 mi' 50 s1 (mi 50 s1)) 48 g (mi 48 g)) N = mi' N := h0 N (fun q => by have := hX N q; omega)
              refine ⟨Grw_e hG h0 hX, fun v hv2 => ?_, Or.inl rfl, fun j hj => ?_, fun j hj => ?_⟩
              · obtain ⟨n2, q1, q2, q3, q4⟩ := hv2
                rw [hgt] at q2 q3 q4
                rw [hE3, hN3]
                have q5 := hf n2 q1 q3
                by_cases q6 : n2 < n1
                · exact hc n2 q5 q6 v q4
                · first
                  | (exfalso; omega)
                  | exact hw0 (by omega) n2 (by omega) q2 v q4
              · rw [up2_k _ _ _ _ (by decide)]
                by_cases q : j = s1
                · subst q; rw [up2_s]
                · rw [up2_j _ _ _ _ q]; exact hm1 j hj q
              · by_cases q : j = g
                · subst q; rw [up2_s]
                · rw [up2_j _ _ _ _ q, up2_k _ _ _ _ (by decide)]; exact hl1 j hj q
            ·
              refine w_iload X dX0_fillFrom_114 rfl ?_
              refine w_if_eq X 161 dX0_fillFrom_116 (by decide) (fun c116_5 => ?_) (fun c116_5 => ?_)
              ·
                refine w_aload_n X dX0_fillFrom_161 rfl ?_
                refine w_get X (by decide) (σ_44 G n0 _ _) rfl gW_X0 3 (by decide) gF_X0_27 rfl dX0_fillFrom_162 ?_
                refine w_iload_n X dX0_fillFrom_165 rfl ?_
                refine w_iload X dX0_fillFrom_166 rfl ?_
                refine s_callVv X _ (c_X3_set (l := l) (G := G) (n0 := n0) cr_49 (by first | assumption | (refine ⟨?_, ?_⟩ <;> omega))) gM_X0_169 gI_yX3_set gS_yX3_set gN_X3 gC_yX3_set (isCr_k cr_49) (σ_cr G n0 _ _ cr_49) rfl dX0_fillFrom_168 hl_yX3_set ⟨Nat.le_of_ble_eq_true rfl, Nat.le_of_ble_eq_true rfl⟩ (Nat.le_of_ble_eq_true rfl) rfl (fun mi7 mr7 h7 => ?_)
                obtain ⟨e9, rfl⟩ := h7
                rw [if_pos ⟨by omega, by omega⟩, Int.toNat_natCast] at e9
                subst e9
                refine w_aload_n X dX0_fillFrom_171 rfl ?_
                refine w_get X (by decide) (σ_44 G n0 _ _) rfl gW_X0 2 (by decide) gF_X0_23 rfl dX0_fillFrom_172 ?_
                refine w_iload_n X dX0_fillFrom_175 rfl ?_
                refine w_iload X dX0_fillFrom_176 rfl ?_
                refine s_callVv X _ (c_X3_set (l := l) (G := G) (n0 := n0) cr_47 (by first | assumption | (refine ⟨?_, ?_⟩ <;> omega))) gM_X0_169 gI_yX3_set gS_yX3_set gN_X3 gC_yX3_set (isCr_k cr_47) (σ_cr G n0 _ _ cr_47) rfl dX0_fillFrom_178 hl_yX3_set ⟨Nat.le_of_ble_eq_true rfl, Nat.le_of_ble_eq_true rfl⟩ (Nat.le_of_ble_eq_true rfl) rfl (fun mi8 mr8 h8 => ?_)
                obtain ⟨e9, rfl⟩ := h8
                rw [if_pos ⟨by omega, by omega⟩, Int.toNat_natCast] at e9
                subst e9
                refine w_iconst X dX0_fillFrom_181 ?_
                refine s_zret X hr dX0_fillFrom_182 (by omega) ?_
                have h0 : ∀ a, ¬ fX a → (up2 (up2 mi' 50 s1 (mi 50 s1)) 48 g (mi 48 g)) a = mi' a := fun a ha => by rw [up2_k _ _ _ _ (fun q => ha (Or.inl q)), up2_k _ _ _ _ (fun q => ha (Or.inr q))]
                have hX : ∀ a, fX a → a < N := fun a ha => by rcases ha with ha | ha <;> omega
                have hE3 : Ef (up2 (up2 mi' 50 s1 (mi 50 s1)) 48 g (mi 48 g)) mr' N = Ef mi' mr' N := Ef_fr hG.1 (fun a ha ha2 => h0 a (fun q => by have := hX a q; omega)) rfl
                have hN3 : (up2 (up2 mi' 50 s1 (mi 50 s1)) 48 g (mi 48 g)) N = mi' N := h0 N (fun q => by have := hX N q; omega)
                refine ⟨Grw_e hG h0 hX, fun v hv2 => ?_, Or.inl rfl, fun j hj => ?_, fun j hj => ?_⟩
                · obtain ⟨n2, q1, q2, q3, q4⟩ := hv2
                  rw [hgt] at q2 q3 q4
                  rw [hE3, hN3]
                  have q5 := hf n2 q1 q3
                  by_cases q6 : n2 < n1
                  · exact hc n2 q5 q6 v q4
                  · first
                    | (exfalso; omega)
                    | exact hw0 (by omega) n2 (by omega) q2 v q4
                · rw [up2_k _ _ _ _ (by decide)]
                  by_cases q : j = s1
                  · subst q; rw [up2_s]
                  · rw [up2_j _ _ _ _ q]; exact hm1 j hj q
                · by_cases q : j = g
                  · subst q; rw [up2_s]
                  · rw [up2_j _ _ _ _ q, up2_k _ _ _ _ (by decide)]; exact hl1 j hj q
              ·
                refine w_aload_n X dX0_fillFrom_119 rfl ?_
                refine w_get X (by decide) (σ_44 G n0 _ _) rfl gW_X0 3 (by decide) gF_X0_27 rfl dX0_fillFrom_120 ?_
                refine w_iload_n X dX0_fillFrom_123 rfl ?_
                refine w_iload X dX0_fillFrom_124 rfl ?_
                refine w_iload X dX0_fillFrom_126 rfl ?_
                refine w_iadd X dX0_fillFrom_128 ?_
                refine s_callVv X _ (c_X3_set (l := l) (G := G) (n0 := n0) cr_49 (by first | assumption | (refine ⟨?_, ?_⟩ <;> omega))) gM_X0_169 gI_yX3_set gS_yX3_set gN_X3 gC_yX3_set (isCr_k cr_49) (σ_cr G n0 _ _ cr_49) rfl dX0_fillFrom_129 hl_yX3_set ⟨Nat.le_of_ble_eq_true rfl, Nat.le_of_ble_eq_true rfl⟩ (Nat.le_of_ble_eq_true rfl) rfl (fun mi7 mr7 h7 => ?_)
                obtain ⟨e9, rfl⟩ := h7
                rw [if_pos ⟨by omega, by omega⟩, Int.toNat_natCast] at e9
                subst e9
                refine w_aload_n X dX0_fillFrom_132 rfl ?_
                refine w_get X (by decide) (σ_44 G n0 _ _) rfl gW_X0 2 (by decide) gF_X0_23 rfl dX0_fillFrom_133 ?_
                refine w_iload_n X dX0_fillFrom_136 rfl ?_
                refine w_iload X dX0_fillFrom_137 rfl ?_
                refine w_iload X dX0_fillFrom_139 rfl ?_
                refine w_isub X dX0_fillFrom_141 ?_
                refine s_callVv X _ (c_X3_set (l := l) (G := G) (n0 := n0) cr_47 (by first | assumption | (refine ⟨?_, ?_⟩ <;> omega))) gM_X0_169 gI_yX3_set gS_yX3_set gN_X3 gC_yX3_set (isCr_k cr_47) (σ_cr G n0 _ _ cr_47) rfl dX0_fillFrom_142 hl_yX3_set ⟨Nat.le_of_ble_eq_true rfl, Nat.le_of_ble_eq_true rfl⟩ (Nat.le_of_ble_eq_true rfl) rfl (fun mi8 mr8 h8 => ?_)
                obtain ⟨e9, rfl⟩ := h8
                rw [if_pos ⟨by omega, by omega⟩, Int.toNat_natCast] at e9
                subst e9
                have hfr2 : ∀ a, a ≠ 48 → a ≠ 50 → (up2 (up2 mi' 50 s1 (mi 50 s1 + n1)) 48 g (mi 48 g - n1)) a = mi' a := fun a h48 h50 => by rw [up2_k _ _ _ _ h48, up2_k _ _ _ _ h50]
                have hlt : (mi 48 g + 1 - (n1 + 1)).toNat < n := by omega
                have hn2 : 0 ≤ n1 + 1 ∧ n1 + 1 ≤ mi 48 g + 1 := by omega
                have h250 : ∀ j : Nat, j < 5 → (up2 (up2 mi' 50 s1 (mi 50 s1 + n1)) 48 g (mi 48 g - n1)) 50 j = addA (mi 50) s1 n1 j := by
                  intro j hj
                  rw [up2_k _ _ _ _ (by decide)]
                  unfold addA
                  by_cases q : j = s1
                  · subst q; rw [up2_s, if_pos rfl]
                  · rw [up2_j _ _ _ _ q, if_neg q]; exact hm1 j hj q
                have h248 : ∀ j : Nat, j < 5 → (up2 (up2 mi' 50 s1 (mi 50 s1 + n1)) 48 g (mi 48 g - n1)) 48 j = addA (mi 48) g (-n1) j := by
                  intro j hj
                  unfold addA
                  by_cases q : j = g
                  · subst q; rw [up2_s, if_pos rfl]; omega
                  · rw [up2_j _ _ _ _ q, up2_k _ _ _ _ (by decide), if_neg q]; exact hl1 j hj q
                have hk2 : (up2 (up2 mi' 50 s1 (mi 50 s1 + n1)) 48 g (mi 48 g - n1)) k = mi k := by rw [hfr2 k (by omega) (by omega)]; exact hm' k (by omega) (by omega) (by omega)
                have hk12 : (up2 (up2 mi' 50 s1 (mi 50 s1 + n1)) 48 g (mi 48 g - n1)) 1 = mi 1 := by rw [hfr2 1 (by decide) (by decide)]; exact hm' 1 (by omega) (by decide) (by decide)
                have hL2 : LW (up2 (up2 mi' 50 s1 (mi 50 s1 + n1)) 48 g (mi 48 g - n1)) := LW_fr hL (fun a ha ha2 ha3 => by rw [hfr2 a (by omega) (by omega)]; exact hm' a (by omega) (by omega) (by omega))
                have hv2 : RV ((up2 (up2 mi' 50 s1 (mi 50 s1 + n1)) 48 g (mi 48 g - n1)) 1 3) (up2 (up2 mi' 50 s1 (mi 50 s1 + n1)) 48 g (mi 48 g - n1)) k := by rw [hk12]; exact RV_fr hv hk2 (by rw [hfr2 _ (by omega) (by omega)]; exact hm' _ (by omega) (by omega) (by omega))
                have hB2 : BO (up2 (up2 mi' 50 s1 (mi 50 s1 + n1)) 48 g (mi 48 g - n1)) mr' N := BO_fr hG.1 (fun a ha ha2 => hfr2 a (by omega) (by omega)) rfl
                have hE2 : Ef (up2 (up2 mi' 50 s1 (mi 50 s1 + n1)) 48 g (mi 48 g - n1)) mr' N = Ef mi' mr' N := Ef_fr hG.1 (fun a ha ha2 => hfr2 a (by omega) (by omega)) rfl
                have hS2 : Srt (Ef (up2 (up2 mi' 50 s1 (mi 50 s1 + n1)) 48 g (mi 48 g - n1)) mr' N) := by rw [hE2]; exact hG.2.1
                have hF2 : FCo (up2 (up2 mi' 50 s1 (mi 50 s1 + n1)) 48 g (mi 48 g - n1)) mr' N := FCo_fr hG.1 (fun a ha ha2 => hfr2 a (by omega) (by omega)) rfl hG.2.2.1
                have hml2 : ∀ j : Nat, j < 5 → 0 ≤ (up2 (up2 mi' 50 s1 (mi 50 s1 + n1)) 48 g (mi 48 g - n1)) 50 j ∧ 0 ≤ (up2 (up2 mi' 50 s1 (mi 50 s1 + n1)) 48 g (mi 48 g - n1)) 48 j := by
                  intro j hj
                  have q1 := hml j hj
                  rw [h250 j hj, h248 j hj]
                  unfold addA
                  refine ⟨?_, ?_⟩
                  · split <;> omega
                  · split <;> omega
                have hsum2 : ∀ j : Nat, j < 5 → (up2 (up2 mi' 50 s1 (mi 50 s1 + n1)) 48 g (mi 48 g - n1)) 50 j + sum5 ((up2 (up2 mi' 50 s1 (mi 50 s1 + n1)) 48 g (mi 48 g - n1)) 48) ≤ 900 := by
                  intro j hj
                  have q1 := hsum j hj
                  rw [h250 j hj, sum5_c h248, sum5_addA hg5]
                  unfold addA
                  split <;> omega
                generalize (up2 (up2 mi' 50 s1 (mi 50 s1 + n1)) 48 g (mi 48 g - n1)) = m2 at hfr2 h250 h248 hk2 hk12 hL2 hv2 hB2 hE2 hS2 hF2 hml2 hsum2 ⊢
                refine w_aload_n X dX0_fillFrom_145 rfl ?_
                refine w_aload_n X dX0_fillFrom_146 rfl ?_
                refine w_iload_n X dX0_fillFrom_147 rfl ?_
                refine w_iconst X dX0_fillFrom_148 ?_
                refine w_iadd X dX0_fillFrom_149 ?_
                refine s_callVi X _ (c_X0_fillFrom_4 (l := l) (G := G) (n0 := n0) hAN hA' hN' hL2 hk hv2 hB2 hS2 hF2 hml2 hsum2 (s1 := s1 + 1) (by rw [hk12]; omega)) gM_X0_141 gI_yX0_fillFrom gS_yX0_fillFrom gN_X0 gC_yX0_fillFrom (by decide) (σ_44 G n0 _ _) rfl dX0_fillFrom_150 hl_yX0_fillFrom ⟨Nat.le_of_ble_eq_true rfl, Nat.le_of_ble_eq_true rfl⟩ (Nat.le_of_ble_eq_true rfl) rfl (fun r9 mi9 mr9 h9 => ?_)
                obtain ⟨hG2, hcov, hr9, hk50, hk48⟩ := h9
                rw [hk12, hk2] at hG2 hcov
                have hCpE : ∀ v, Cp (mi 1 3) (mi k) 4 (s1 + 1) (m2 50) (m2 48) v → Cp (mi 1 3) (mi k) 4 (s1 + 1) (addA (mi 50) s1 n1) (addA (mi 48) g (-n1)) v := fun v q => Cp_c hvg 4 (s1 + 1) (by omega) h250 h248 q
                have hCp : ∀ v, Cp (mi 1 3) (mi k) 4 (s1 + 1) (addA (mi 50) s1 n1) (addA (mi 48) g (-n1)) v → Cp (mi 1 3) (mi k) 4 (s1 + 1) (m2 50) (m2 48) v := fun v q => Cp_c hvg 4 (s1 + 1) (by omega) (fun j hj => (h250 j hj).symm) (fun j hj => (h248 j hj).symm) q
                have hT5 : T5 (m2 50) = T5 (addA (mi 50) s1 n1) := T5_c h250
                have hG3 : Grw fX mi' mi9 mr' mr9 N (fun y : V5 × Int => y.2 = 1 ∧ Cp (mi 1 3) (mi k) 5 s1 (mi 50) (mi 48) y.1) := Grw_l hG.1 (Grw_w hG2 (fun _ q => q) (fun y q => ⟨q.1, n1, by omega, by rw [hgt]; omega, fun q2 => by rw [hgt]; have := hf2 q2; omega, by rw [hgt]; exact hCpE _ q.2⟩)) (fun a ha => hfr2 a (fun q => ha (Or.inl q)) (fun q => ha (Or.inr q))) (fun a ha => by rcases ha with ha | ha <;> omega)
                refine w_ist9_7 X dX0_fillFrom_153 ?_
                refine w_iinc9_8 X dX0_fillFrom_155 ?_
                refine w_goto X 107 dX0_fillFrom_158 (by decide) ?_
                have hw9 : r9 = 0 ∨ r9 = 1 := by rcases hr9 with q | q; exact Or.inr q; exact Or.inl q.1
                have hcn : ∀ y, y ∈ Ef mi' mr' N → y ∈ Ef mi9 mr9 N := hG3.2.2.2.1
                have hcc : mi' N 2 ≤ mi9 N 2 := hG3.2.2.2.2.2.2.2
                exact ih_loop _ hlt mi9 mr9 (n1 + 1) r9 hn2 hw9 (Grw_t hG hG3) (fun j hj hjs => by rw [hk50 j hj, h250 j hj]; exact if_neg hjs) (fun j hj hjg => by rw [hk48 j hj, h248 j hj]; exact if_neg hjg)
                  (fun n2 q1 q2 v hv2 => by
                    by_cases q : n2 < n1
                    · rcases hc n2 q1 q v hv2 with ⟨y, hy, hy2⟩ | q3
                      · exact Or.inl ⟨y, hcn y hy, hy2⟩
                      · right; omega
                    · have e : n2 = n1 := by omega
                      subst e
                      exact hcov v (hCp v hv2))
                  (fun q n2 q1 q2 v hv2 => by
                    rcases hr9 with q3 | ⟨-, q3⟩
                    · omega
                    · rcases q3 with ⟨y, hy, hy2⟩ | q4
                      · rw [hT5] at hy2
                        exact Or.inl ⟨y, hy, gv_t (gv_t (Cp_ge _ _ hv2) (gv_add (by omega))) hy2⟩
                      · exact Or.inr q4) rfl
        exact loop _ mi mr 0 1 (by omega) (Or.inr rfl) (Grw_r hBN hSN hFN) (fun j hj h9 => rfl) (fun j hj h9 => rfl) (fun n1 q1 q2 => absurd q1 (by omega)) (fun q => absurd q (by decide)) rfl
      ·
        have hla : lastG (mi 1 3) (mi k) s1 := by rcases h5 with ⟨-, q⟩ | ⟨q, -⟩; exact q; exact absurd q (by assumption)
        have hf : ∀ n1 : Int, 0 ≤ n1 → (lastG (mi 1 3) (mi k) s1 → n1 = mi 48 g) → mi 48 g ≤ n1 := fun n1 _ q => by have := q hla; omega
        have hf2 : lastG (mi 1 3) (mi k) s1 → mi 48 g = mi 48 g := fun _ => rfl
        clear h5
        refine w_iload X dX0_fillFrom_82 rfl ?_
        refine w_goto X 88 dX0_fillFrom_84 (by decide) ?_
        refine w_ist9_5 X dX0_fillFrom_88 ?_
        refine w_aload_n X dX0_fillFrom_90 rfl ?_
        refine w_get X (by decide) (σ_44 G n0 _ _) rfl gW_X0 3 (by decide) gF_X0_27 rfl dX0_fillFrom_91 ?_
        refine w_iload_n X dX0_fillFrom_94 rfl ?_
        refine s_callVi X _ (c_X3_of (l := l) (G := G) (n0 := n0) cr_49 (by first | assumption | (refine ⟨?_, ?_⟩ <;> omega))) gM_X0_163 gI_yX3_of gS_yX3_of gN_X3 gC_yX3_of (isCr_k cr_49) (σ_cr G n0 _ _ cr_49) rfl dX0_fillFrom_95 hl_yX3_of ⟨Nat.le_of_ble_eq_true rfl, Nat.le_of_ble_eq_true rfl⟩ (Nat.le_of_ble_eq_true rfl) rfl (fun r6 mi6 mr6 h6 => ?_)
        obtain ⟨rfl, rfl, h6⟩ := h6
        rw [if_pos ⟨by omega, by omega⟩, Int.toNat_natCast] at h6
        subst h6
        refine w_ist9_6 X dX0_fillFrom_98 ?_
        refine w_iconst X dX0_fillFrom_100 ?_
        refine w_ist9_7 X dX0_fillFrom_101 ?_
        refine w_iload X dX0_fillFrom_103 rfl ?_
        refine w_ist9_8 X dX0_fillFrom_105 ?_
        have loop : ∀ (n : Nat) (mi' : Nat → Nat → Int) (mr' : Nat → Nat → Nat) (n1 w1 : Int), ((mi 48 g) ≤ n1 ∧ n1 ≤ mi 48 g + 1) → (w1 = 0 ∨ w1 = 1) → (Grw fX mi mi' mr mr' N (fun y : V5 × Int => y.2 = 1 ∧ Cp (mi 1 3) (mi k) 5 s1 (mi 50) (mi 48) y.1)) → (∀ j : Nat, j < 5 → j ≠ s1 → mi' 50 j = mi 50 j) → (∀ j : Nat, j < 5 → j ≠ g → mi' 48 j = mi 48 j) → (∀ n2 : Int, (mi 48 g) ≤ n2 → n2 < n1 → ∀ v, Cp (mi 1 3) (mi k) 4 (s1 + 1) (addA (mi 50) s1 n2) (addA (mi 48) g (-n2)) v → (∃ y ∈ Ef mi' mr' N, gv v y.1) ∨ 100 < mi' N 2) → (w1 = 0 → ∀ n2 : Int, n1 ≤ n2 → n2 ≤ mi 48 g → ∀ v, Cp (mi 1 3) (mi k) 4 (s1 + 1) (addA (mi 50) s1 n2) (addA (mi 48) g (-n2)) v → (∃ y ∈ Ef mi' mr' N, gv v y.1) ∨ 100 < mi' N 2) → n = (mi 48 g + 1 - n1).toNat → WSi p l e s m args below meth c9 9 (fun r9 mi9 mr9 => Fil mi mi9 mr mr9 N k 5 s1 r9) G n0 9 mi' mr' 107 [some (.ref (n0 + 44)), some (.ref (n0 + k)), some (.int (jI (s1 : Int))), some (.int (jI (g : Int))), some (.int (jI (mi 48 g))), some (.int (jI ((mi 48 g)))), some (.int (jI (mi 50 s1))), some (.int (jI w1)), some (.int (jI n1))] [] := by
          intro n
          induction n using Nat.strongRecOn with
          | ind n ih_loop =>
            intro mi' mr' n1 w1 hn hw hG hm1 hl1 hc hw0 hn
            have hm' : ∀ a, a < N ∨ N + 205 ≤ a → a ≠ 48 → a ≠ 50 → mi' a = mi a := fun a ha h48 h50 => hG.2.2.2.2.2.1 a ha (fun q => by rcases q with q | q; exact h48 q; exact h50 q)
            have hr' : ∀ a, a ≠ N + 1 → mr' a = mr a := hG.2.2.2.2.2.2.1
            have hA' : mr' 44 4 = A := by rw [hr' 44 (by omega)]; exact hA
            have hN' : mr' 44 5 = N := by rw [hr' 44 (by omega)]; exact hN
            refine w_iload X dX0_fillFrom_107 rfl ?_
            refine w_iload X dX0_fillFrom_109 rfl ?_
            refine w_icmp_gt X 161 dX0_fillFrom_111 (by decide) (fun c111_6 => ?_) (fun c111_6 => ?_)
            ·
              refine w_aload_n X dX0_fillFrom_161 rfl ?_
              refine w_get X (by decide) (σ_44 G n0 _ _) rfl gW_X0 3 (by decide) gF_X0_27 rfl dX0_fillFrom_162 ?_
              refine w_iload_n X dX0_fillFrom_165 rfl ?_
              refine w_iload X dX0_fillFrom_166 rfl ?_
              refine s_callVv X _ (c_X3_set (l := l) (G := G) (n0 := n0) cr_49 (by first | assumption | (refine ⟨?_, ?_⟩ <;> omega))) gM_X0_169 gI_yX3_set gS_yX3_set gN_X3 gC_yX3_set (isCr_k cr_49) (σ_cr G n0 _ _ cr_49) rfl dX0_fillFrom_168 hl_yX3_set ⟨Nat.le_of_ble_eq_true rfl, Nat.le_of_ble_eq_true rfl⟩ (Nat.le_of_ble_eq_true rfl) rfl (fun mi7 mr7 h7 => ?_)
              obtain ⟨e9, rfl⟩ := h7
              rw [if_pos ⟨by omega, by omega⟩, Int.toNat_natCast] at e9
              subst e9
              refine w_aload_n X dX0_fillFrom_171 rfl ?_
              refine w_get X (by decide) (σ_44 G n0 _ _) rfl gW_X0 2 (by decide) gF_X0_23 rfl dX0_fillFrom_172 ?_
              refine w_iload_n X dX0_fillFrom_175 rfl ?_
              refine w_iload X dX0_fillFrom_176 rfl ?_
              refine s_callVv X _ (c_X3_set (l := l) (G := G) (n0 := n0) cr_47 (by first | assumption | (refine ⟨?_, ?_⟩ <;> omega))) gM_X0_169 gI_yX3_set gS_yX3_set gN_X3 gC_yX3_set (isCr_k cr_47) (σ_cr G n0 _ _ cr_47) rfl dX0_fillFrom_178 hl_yX3_set ⟨Nat.le_of_ble_eq_true rfl, Nat.le_of_ble_eq_true rfl⟩ (Nat.le_of_ble_eq_true rfl) rfl (fun mi8 mr8 h8 => ?_)
              obtain ⟨e9, rfl⟩ := h8
              rw [if_pos ⟨by omega, by omega⟩, Int.toNat_natCast] at e9
              subst e9
              refine w_iconst X dX0_fillFrom_181 ?_
              refine s_zret X hr dX0_fillFrom_182 (by omega) ?_
              have h0 : ∀ a, ¬ fX a → (up2 (up2 mi' 50 s1 (mi 50 s1)) 48 g (mi 48 g)) a = mi' a := fun a ha => by rw [up2_k _ _ _ _ (fun q => ha (Or.inl q)), up2_k _ _ _ _ (fun q => ha (Or.inr q))]
              have hX : ∀ a, fX a → a < N := fun a ha => by rcases ha with ha | ha <;> omega
              have hE3 : Ef (up2 (up2 mi' 50 s1 (mi 50 s1)) 48 g (mi 48 g)) mr' N = Ef mi' mr' N := Ef_fr hG.1 (fun a ha ha2 => h0 a (fun q => by have := hX a q; omega)) rfl
              have hN3 : (up2 (up2 mi' 50 s1 (mi 50 s1)) 48 g (mi 48 g)) N = mi' N := h0 N (fun q => by have := hX N q; omega)
              refine ⟨Grw_e hG h0 hX, fun v hv2 => ?_, Or.inl rfl, fun j hj => ?_, fun j hj => ?_⟩
              · obtain ⟨n2, q1, q2, q3, q4⟩ := hv2
                rw [hgt] at q2 q3 q4
                rw [hE3, hN3]
                have q5 := hf n2 q1 q3
                by_cases q6 : n2 < n1
                · exact hc n2 q5 q6 v q4
                · first
                  | (exfalso; omega)
                  | exact hw0 (by omega) n2 (by omega) q2 v q4
              · rw [up2_k _ _ _ _ (by decide)]
                by_cases q : j = s1
                · subst q; rw [up2_s]
                · rw [up2_j _ _ _ _ q]; exact hm1 j hj q
              · by_cases q : j = g
                · subst q; rw [up2_s]
                · rw [up2_j _ _ _ _ q, up2_k _ _ _ _ (by decide)]; exact hl1 j hj q
            ·
              refine w_iload X dX0_fillFrom_114 rfl ?_
              refine w_if_eq X 161 dX0_fillFrom_116 (by decide) (fun c116_7 => ?_) (fun c116_7 => ?_)
              ·
                refine w_aload_n X dX0_fillFrom_161 rfl ?_
                refine w_get X (by decide) (σ_44 G n0 _ _) rfl gW_X0 3 (by decide) gF_X0_27 rfl dX0_fillFrom_162 ?_
                refine w_iload_n X dX0_fillFrom_165 rfl ?_
                refine w_iload X dX0_fillFrom_166 rfl ?_
                refine s_callVv X _ (c_X3_set (l := l) (G := G) (n0 := n0) cr_49 (by first | assumption | (refine ⟨?_, ?_⟩ <;> omega))) gM_X0_169 gI_yX3_set gS_yX3_set gN_X3 gC_yX3_set (isCr_k cr_49) (σ_cr G n0 _ _ cr_49) rfl dX0_fillFrom_168 hl_yX3_set ⟨Nat.le_of_ble_eq_true rfl, Nat.le_of_ble_eq_true rfl⟩ (Nat.le_of_ble_eq_true rfl) rfl (fun mi7 mr7 h7 => ?_)
                obtain ⟨e9, rfl⟩ := h7
                rw [if_pos ⟨by omega, by omega⟩, Int.toNat_natCast] at e9
                subst e9
                refine w_aload_n X dX0_fillFrom_171 rfl ?_
                refine w_get X (by decide) (σ_44 G n0 _ _) rfl gW_X0 2 (by decide) gF_X0_23 rfl dX0_fillFrom_172 ?_
                refine w_iload_n X dX0_fillFrom_175 rfl ?_
                refine w_iload X dX0_fillFrom_176 rfl ?_
                refine s_callVv X _ (c_X3_set (l := l) (G := G) (n0 := n0) cr_47 (by first | assumption | (refine ⟨?_, ?_⟩ <;> omega))) gM_X0_169 gI_yX3_set gS_yX3_set gN_X3 gC_yX3_set (isCr_k cr_47) (σ_cr G n0 _ _ cr_47) rfl dX0_fillFrom_178 hl_yX3_set ⟨Nat.le_of_ble_eq_true rfl, Nat.le_of_ble_eq_true rfl⟩ (Nat.le_of_ble_eq_true rfl) rfl (fun mi8 mr8 h8 => ?_)
                obtain ⟨e9, rfl⟩ := h8
                rw [if_pos ⟨by omega, by omega⟩, Int.toNat_natCast] at e9
                subst e9
                refine w_iconst X dX0_fillFrom_181 ?_
                refine s_zret X hr dX0_fillFrom_182 (by omega) ?_
                have h0 : ∀ a, ¬ fX a → (up2 (up2 mi' 50 s1 (mi 50 s1)) 48 g (mi 48 g)) a = mi' a := fun a ha => by rw [up2_k _ _ _ _ (fun q => ha (Or.inl q)), up2_k _ _ _ _ (fun q => ha (Or.inr q))]
                have hX : ∀ a, fX a → a < N := fun a ha => by rcases ha with ha | ha <;> omega
                have hE3 : Ef (up2 (up2 mi' 50 s1 (mi 50 s1)) 48 g (mi 48 g)) mr' N = Ef mi' mr' N := Ef_fr hG.1 (fun a ha ha2 => h0 a (fun q => by have := hX a q; omega)) rfl
                have hN3 : (up2 (up2 mi' 50 s1 (mi 50 s1)) 48 g (mi 48 g)) N = mi' N := h0 N (fun q => by have := hX N q; omega)
                refine ⟨Grw_e hG h0 hX, fun v hv2 => ?_, Or.inl rfl, fun j hj => ?_, fun j hj => ?_⟩
                · obtain ⟨n2, q1, q2, q3, q4⟩ := hv2
                  rw [hgt] at q2 q3 q4
                  rw [hE3, hN3]
                  have q5 := hf n2 q1 q3
                  by_cases q6 : n2 < n1
                  · exact hc n2 q5 q6 v q4
                  · first
                    | (exfalso; omega)
                    | exact hw0 (by omega) n2 (by omega) q2 v q4
                · rw [up2_k _ _ _ _ (by decide)]
                  by_cases q : j = s1
                  · subst q; rw [up2_s]
                  · rw [up2_j _ _ _ _ q]; exact hm1 j hj q
                · by_cases q : j = g
                  · subst q; rw [up2_s]
                  · rw [up2_j _ _ _ _ q, up2_k _ _ _ _ (by decide)]; exact hl1 j hj q
              ·
                refine w_aload_n X dX0_fillFrom_119 rfl ?_
                refine w_get X (by decide) (σ_44 G n0 _ _) rfl gW_X0 3 (by decide) gF_X0_27 rfl dX0_fillFrom_120 ?_
                refine w_iload_n X dX0_fillFrom_123 rfl ?_
                refine w_iload X dX0_fillFrom_124 rfl ?_
                refine w_iload X dX0_fillFrom_126 rfl ?_
                refine w_iadd X dX0_fillFrom_128 ?_
                refine s_callVv X _ (c_X3_set (l := l) (G := G) (n0 := n0) cr_49 (by first | assumption | (refine ⟨?_, ?_⟩ <;> omega))) gM_X0_169 gI_yX3_set gS_yX3_set gN_X3 gC_yX3_set (isCr_k cr_49) (σ_cr G n0 _ _ cr_49) rfl dX0_fillFrom_129 hl_yX3_set ⟨Nat.le_of_ble_eq_true rfl, Nat.le_of_ble_eq_true rfl⟩ (Nat.le_of_ble_eq_true rfl) rfl (fun mi7 mr7 h7 => ?_)
                obtain ⟨e9, rfl⟩ := h7
                rw [if_pos ⟨by omega, by omega⟩, Int.toNat_natCast] at e9
                subst e9
                refine w_aload_n X dX0_fillFrom_132 rfl ?_
                refine w_get X (by decide) (σ_44 G n0 _ _) rfl gW_X0 2 (by decide) gF_X0_23 rfl dX0_fillFrom_133 ?_
                refine w_iload_n X dX0_fillFrom_136 rfl ?_
                refine w_iload X dX0_fillFrom_137 rfl ?_
                refine w_iload X dX0_fillFrom_139 rfl ?_
                refine w_isub X dX0_fillFrom_141 ?_
                refine s_callVv X _ (c_X3_set (l := l) (G := G) (n0 := n0) cr_47 (by first | assumption | (refine ⟨?_, ?_⟩ <;> omega))) gM_X0_169 gI_yX3_set gS_yX3_set gN_X3 gC_yX3_set (isCr_k cr_47) (σ_cr G n0 _ _ cr_47) rfl dX0_fillFrom_142 hl_yX3_set ⟨Nat.le_of_ble_eq_true rfl, Nat.le_of_ble_eq_true rfl⟩ (Nat.le_of_ble_eq_true rfl) rfl (fun mi8 mr8 h8 => ?_)
                obtain ⟨e9, rfl⟩ := h8
                rw [if_pos ⟨by omega, by omega⟩, Int.toNat_natCast] at e9
                subst e9
                have hfr2 : ∀ a, a ≠ 48 → a ≠ 50 → (up2 (up2 mi' 50 s1 (mi 50 s1 + n1)) 48 g (mi 48 g - n1)) a = mi' a := fun a h48 h50 => by rw [up2_k _ _ _ _ h48, up2_k _ _ _ _ h50]
                have hlt : (mi 48 g + 1 - (n1 + 1)).toNat < n := by omega
                have hn2 : (mi 48 g) ≤ n1 + 1 ∧ n1 + 1 ≤ mi 48 g + 1 := by omega
                have h250 : ∀ j : Nat, j < 5 → (up2 (up2 mi' 50 s1 (mi 50 s1 + n1)) 48 g (mi 48 g - n1)) 50 j = addA (mi 50) s1 n1 j := by
                  intro j hj
                  rw [up2_k _ _ _ _ (by decide)]
                  unfold addA
                  by_cases q : j = s1
                  · subst q; rw [up2_s, if_pos rfl]
                  · rw [up2_j _ _ _ _ q, if_neg q]; exact hm1 j hj q
                have h248 : ∀ j : Nat, j < 5 → (up2 (up2 mi' 50 s1 (mi 50 s1 + n1)) 48 g (mi 48 g - n1)) 48 j = addA (mi 48) g (-n1) j := by
                  intro j hj
                  unfold addA
                  by_cases q : j = g
                  · subst q; rw [up2_s, if_pos rfl]; omega
                  · rw [up2_j _ _ _ _ q, up2_k _ _ _ _ (by decide), if_neg q]; exact hl1 j hj q
                have hk2 : (up2 (up2 mi' 50 s1 (mi 50 s1 + n1)) 48 g (mi 48 g - n1)) k = mi k := by rw [hfr2 k (by omega) (by omega)]; exact hm' k (by omega) (by omega) (by omega)
                have hk12 : (up2 (up2 mi' 50 s1 (mi 50 s1 + n1)) 48 g (mi 48 g - n1)) 1 = mi 1 := by rw [hfr2 1 (by decide) (by decide)]; exact hm' 1 (by omega) (by decide) (by decide)
                have hL2 : LW (up2 (up2 mi' 50 s1 (mi 50 s1 + n1)) 48 g (mi 48 g - n1)) := LW_fr hL (fun a ha ha2 ha3 => by rw [hfr2 a (by omega) (by omega)]; exact hm' a (by omega) (by omega) (by omega))
                have hv2 : RV ((up2 (up2 mi' 50 s1 (mi 50 s1 + n1)) 48 g (mi 48 g - n1)) 1 3) (up2 (up2 mi' 50 s1 (mi 50 s1 + n1)) 48 g (mi 48 g - n1)) k := by rw [hk12]; exact RV_fr hv hk2 (by rw [hfr2 _ (by omega) (by omega)]; exact hm' _ (by omega) (by omega) (by omega))
                have hB2 : BO (up2 (up2 mi' 50 s1 (mi 50 s1 + n1)) 48 g (mi 48 g - n1)) mr' N := BO_fr hG.1 (fun a ha ha2 => hfr2 a (by omega) (by omega)) rfl
                have hE2 : Ef (up2 (up2 mi' 50 s1 (mi 50 s1 + n1)) 48 g (mi 48 g - n1)) mr' N = Ef mi' mr' N := Ef_fr hG.1 (fun a ha ha2 => hfr2 a (by omega) (by omega)) rfl
                have hS2 : Srt (Ef (up2 (up2 mi' 50 s1 (mi 50 s1 + n1)) 48 g (mi 48 g - n1)) mr' N) := by rw [hE2]; exact hG.2.1
                have hF2 : FCo (up2 (up2 mi' 50 s1 (mi 50 s1 + n1)) 48 g (mi 48 g - n1)) mr' N := FCo_fr hG.1 (fun a ha ha2 => hfr2 a (by omega) (by omega)) rfl hG.2.2.1
                have hml2 : ∀ j : Nat, j < 5 → 0 ≤ (up2 (up2 mi' 50 s1 (mi 50 s1 + n1)) 48 g (mi 48 g - n1)) 50 j ∧ 0 ≤ (up2 (up2 mi' 50 s1 (mi 50 s1 + n1)) 48 g (mi 48 g - n1)) 48 j := by
                  intro j hj
                  have q1 := hml j hj
                  rw [h250 j hj, h248 j hj]
                  unfold addA
                  refine ⟨?_, ?_⟩
                  · split <;> omega
                  · split <;> omega
                have hsum2 : ∀ j : Nat, j < 5 → (up2 (up2 mi' 50 s1 (mi 50 s1 + n1)) 48 g (mi 48 g - n1)) 50 j + sum5 ((up2 (up2 mi' 50 s1 (mi 50 s1 + n1)) 48 g (mi 48 g - n1)) 48) ≤ 900 := by
                  intro j hj
                  have q1 := hsum j hj
                  rw [h250 j hj, sum5_c h248, sum5_addA hg5]
                  unfold addA
                  split <;> omega
                generalize (up2 (up2 mi' 50 s1 (mi 50 s1 + n1)) 48 g (mi 48 g - n1)) = m2 at hfr2 h250 h248 hk2 hk12 hL2 hv2 hB2 hE2 hS2 hF2 hml2 hsum2 ⊢
                refine w_aload_n X dX0_fillFrom_145 rfl ?_
                refine w_aload_n X dX0_fillFrom_146 rfl ?_
                refine w_iload_n X dX0_fillFrom_147 rfl ?_
                refine w_iconst X dX0_fillFrom_148 ?_
                refine w_iadd X dX0_fillFrom_149 ?_
                refine s_callVi X _ (c_X0_fillFrom_4 (l := l) (G := G) (n0 := n0) hAN hA' hN' hL2 hk hv2 hB2 hS2 hF2 hml2 hsum2 (s1 := s1 + 1) (by rw [hk12]; omega)) gM_X0_141 gI_yX0_fillFrom gS_yX0_fillFrom gN_X0 gC_yX0_fillFrom (by decide) (σ_44 G n0 _ _) rfl dX0_fillFrom_150 hl_yX0_fillFrom ⟨Nat.le_of_ble_eq_true rfl, Nat.le_of_ble_eq_true rfl⟩ (Nat.le_of_ble_eq_true rfl) rfl (fun r9 mi9 mr9 h9 => ?_)
                obtain ⟨hG2, hcov, hr9, hk50, hk48⟩ := h9
                rw [hk12, hk2] at hG2 hcov
                have hCpE : ∀ v, Cp (mi 1 3) (mi k) 4 (s1 + 1) (m2 50) (m2 48) v → Cp (mi 1 3) (mi k) 4 (s1 + 1) (addA (mi 50) s1 n1) (addA (mi 48) g (-n1)) v := fun v q => Cp_c hvg 4 (s1 + 1) (by omega) h250 h248 q
                have hCp : ∀ v, Cp (mi 1 3) (mi k) 4 (s1 + 1) (addA (mi 50) s1 n1) (addA (mi 48) g (-n1)) v → Cp (mi 1 3) (mi k) 4 (s1 + 1) (m2 50) (m2 48) v := fun v q => Cp_c hvg 4 (s1 + 1) (by omega) (fun j hj => (h250 j hj).symm) (fun j hj => (h248 j hj).symm) q
                have hT5 : T5 (m2 50) = T5 (addA (mi 50) s1 n1) := T5_c h250
                have hG3 : Grw fX mi' mi9 mr' mr9 N (fun y : V5 × Int => y.2 = 1 ∧ Cp (mi 1 3) (mi k) 5 s1 (mi 50) (mi 48) y.1) := Grw_l hG.1 (Grw_w hG2 (fun _ q => q) (fun y q => ⟨q.1, n1, by omega, by rw [hgt]; omega, fun q2 => by rw [hgt]; have := hf2 q2; omega, by rw [hgt]; exact hCpE _ q.2⟩)) (fun a ha => hfr2 a (fun q => ha (Or.inl q)) (fun q => ha (Or.inr q))) (fun a ha => by rcases ha with ha | ha <;> omega)
                refine w_ist9_7 X dX0_fillFrom_153 ?_
                refine w_iinc9_8 X dX0_fillFrom_155 ?_
                refine w_goto X 107 dX0_fillFrom_158 (by decide) ?_
                have hw9 : r9 = 0 ∨ r9 = 1 := by rcases hr9 with q | q; exact Or.inr q; exact Or.inl q.1
                have hcn : ∀ y, y ∈ Ef mi' mr' N → y ∈ Ef mi9 mr9 N := hG3.2.2.2.1
                have hcc : mi' N 2 ≤ mi9 N 2 := hG3.2.2.2.2.2.2.2
                exact ih_loop _ hlt mi9 mr9 (n1 + 1) r9 hn2 hw9 (Grw_t hG hG3) (fun j hj hjs => by rw [hk50 j hj, h250 j hj]; exact if_neg hjs) (fun j hj hjg => by rw [hk48 j hj, h248 j hj]; exact if_neg hjg)
                  (fun n2 q1 q2 v hv2 => by
                    by_cases q : n2 < n1
                    · rcases hc n2 q1 q v hv2 with ⟨y, hy, hy2⟩ | q3
                      · exact Or.inl ⟨y, hcn y hy, hy2⟩
                      · right; omega
                    · have e : n2 = n1 := by omega
                      subst e
                      exact hcov v (hCp v hv2))
                  (fun q n2 q1 q2 v hv2 => by
                    rcases hr9 with q3 | ⟨-, q3⟩
                    · omega
                    · rcases q3 with ⟨y, hy, hy2⟩ | q4
                      · rw [hT5] at hy2
                        exact Or.inl ⟨y, hy, gv_t (gv_t (Cp_ge _ _ hv2) (gv_add (by omega))) hy2⟩
                      · exact Or.inr q4) rfl
        exact loop _ mi mr (mi 48 g) 1 (by omega) (Or.inr rfl) (Grw_r hBN hSN hFN) (fun j hj h9 => rfl) (fun j hj h9 => rfl) (fun n1 q1 q2 => absurd q1 (by omega)) (fun q => absurd q (by decide)) rfl
    ·
      refine w_iconst X dX0_fillFrom_24 ?_
      refine s_zret X hr dX0_fillFrom_25 (by omega) ?_
      rcases h2 with ⟨q, q2⟩ | ⟨q, -⟩
      · exact Fil_0 hBN hSN hFN (Or.inl q2)
      · exact absurd q (by assumption)
