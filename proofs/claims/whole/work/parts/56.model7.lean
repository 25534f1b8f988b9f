/-! the model's search: its small methods -/
def RB (mi : Nat → Nat → Int) (b : Nat) : Prop := b ≤ 99 ∧ ∀ j : Nat, j < 5 → 0 ≤ mi 483 (5 * b + j) ∧ mi 483 (5 * b + j) ≤ 1000
def Ub (mi : Nat → Nat → Int) (b j : Nat) : Int := mi 483 (5 * b + j)
theorem lk0_le {ρ u : Nat → Int} {x : Nat} (h : 0 ≤ u x) : 0 ≤ lk0 ρ u x ∧ lk0 ρ u x ≤ u x := by
  have cc : 0 ≤ cm ρ x := by unfold cm; split <;> split <;> omega
  unfold lk0
  split <;> omega
theorem Ub_lk {mi : Nat → Nat → Int} {b : Nat} (h : RB mi b) {ρ : Nat → Int} {x : Nat} (hx : x < 5) : 0 ≤ lk0 ρ (Ub mi b) x ∧ lk0 ρ (Ub mi b) x ≤ 1000 := by
  have a := h.2 x hx
  have b := lk0_le (ρ := ρ) (u := Ub mi b) (x := x) a.1
  unfold Ub at *
  omega
theorem tl_a {ρ f : Nat → Int} {x : Int} (n : Nat) : tl ρ f (n + 1) 0 x = tl ρ f n 0 x + (if gol ρ n = x then f n else 0) := by
  have h := tl_snoc (ρ := ρ) (f := f) (x := x) n 0
  rw [Nat.zero_add] at h
  exact h
theorem RS_lf {sc : Int} {ρ w r : Nat → Int} (hs : 1 ≤ sc ∧ sc ≤ 5) (hr : RS sc ρ w r) {i : Nat} (hi : (i : Int) < sc) : r i ≤ lf ρ w r i ∧ lf ρ w r i ≤ w (gol ρ i).toNat := by
  have e := tl_at (ρ := ρ) (f := r) (x := gol ρ i) (n := sc.toNat) (i := i) (by omega)
  have e1 := hr.2.2 i hi
  have e2 := tl_n (ρ := ρ) (f := r) (x := gol ρ i) (sc.toNat - i - 1) (i + 1) (fun a _ a2 => hr.1 a (by omega))
  have e4 := tl_n (ρ := ρ) (f := r) (x := gol ρ i) i 0 (fun a _ a2 => hr.1 a (by omega))
  have e3 := hr.1 i (by omega)
  rw [if_pos rfl] at e
  unfold lf
  omega
def NE (m : Nat → Nat → Int) (g : Nat → Int) : Prop := ∃ i : Nat, (i : Int) < m 473 18 ∧ ∀ j : Nat, j < 5 → m 484 (5 * i + j) ≤ g j
def NEb (m : Nat → Nat → Int) (g : Nat → Int) (n : Nat) : Prop := AU (fun i => ¬ ∀ j : Nat, j < 5 → m 484 (5 * i + j) ≤ g j) n
def TKP (m m9 : Nat → Nat → Int) : Prop := ((100 < m 473 18 ∨ NE m (m 485)) ∧ m = m9) ∨ (m 473 18 ≤ 100 ∧ ¬ NE m (m 485) ∧ (∀ a, a ≠ 473 → a ≠ 484 → m9 a = m a) ∧ (∀ j : Nat, j ≠ 18 → m9 473 j = m 473 j) ∧ m9 473 18 = m 473 18 + 1 ∧ ∀ j : Nat, m9 484 j = if 5 * (m 473 18).toNat ≤ j ∧ j < 5 * (m 473 18).toNat + 5 then m 485 (j - 5 * (m 473 18).toNat) else m 484 j)
def Plc (ρ u : Nat → Int) (j : Nat) : Int := (if (j : Int) = ρ 7 ∧ lk0 ρ u j = 0 then 1 else lk0 ρ u j) + lv ρ j
def CntP (sc : Int) (ρ w r r' : Nat → Int) (z : Int) : Prop := (z = 1 ∧ ∃ i : Nat, Cnx sc ρ w r r' i) ∨ (z = 0 ∧ Ctp sc ρ w r)
theorem CntP_b {sc : Int} {ρ w r r' : Nat → Int} {z : Int} (h : CntP sc ρ w r r' z) : z = 0 ∨ z = 1 := by rcases h with ⟨q, -⟩ | ⟨q, -⟩ <;> omega
theorem dX8_wanted_0 : decode cX8_wanted 0 = .ok (.aload_n 0, 1) := by decide +kernel
theorem dX8_wanted_1 : decode cX8_wanted 1 = .ok (.getfield 44, 3) := by decide +kernel
theorem dX8_wanted_4 : decode cX8_wanted 4 = .ok (.iconst 5, 1) := by decide +kernel
theorem dX8_wanted_5 : decode cX8_wanted 5 = .ok (.iload_n 1, 1) := by decide +kernel
theorem dX8_wanted_6 : decode cX8_wanted 6 = .ok (.imul, 1) := by decide +kernel
theorem dX8_wanted_7 : decode cX8_wanted 7 = .ok (.iload_n 3, 1) := by decide +kernel
theorem dX8_wanted_8 : decode cX8_wanted 8 = .ok (.iadd, 1) := by decide +kernel
theorem dX8_wanted_9 : decode cX8_wanted 9 = .ok (.iaload, 1) := by decide +kernel
theorem dX8_wanted_10 : decode cX8_wanted 10 = .ok (.aload_n 0, 1) := by decide +kernel
theorem dX8_wanted_11 : decode cX8_wanted 11 = .ok (.getfield 23, 3) := by decide +kernel
theorem dX8_wanted_14 : decode cX8_wanted 14 = .ok (.iload_n 2, 1) := by decide +kernel
theorem dX8_wanted_15 : decode cX8_wanted 15 = .ok (.iaload, 1) := by decide +kernel
theorem dX8_wanted_16 : decode cX8_wanted 16 = .ok (.iload_n 3, 1) := by decide +kernel
theorem dX8_wanted_17 : decode cX8_wanted 17 = .ok (.if_icmp .ne 7, 3) := by decide +kernel
theorem dX8_wanted_20 : decode cX8_wanted 20 = .ok (.iconst 1, 1) := by decide +kernel
theorem dX8_wanted_21 : decode cX8_wanted 21 = .ok (.goto 4, 3) := by decide +kernel
theorem dX8_wanted_24 : decode cX8_wanted 24 = .ok (.iconst 0, 1) := by decide +kernel
theorem dX8_wanted_25 : decode cX8_wanted 25 = .ok (.isub, 1) := by decide +kernel
theorem dX8_wanted_26 : decode cX8_wanted 26 = .ok (.aload_n 0, 1) := by decide +kernel
theorem dX8_wanted_27 : decode cX8_wanted 27 = .ok (.getfield 16, 3) := by decide +kernel
theorem dX8_wanted_30 : decode cX8_wanted 30 = .ok (.iload_n 2, 1) := by decide +kernel
theorem dX8_wanted_31 : decode cX8_wanted 31 = .ok (.iaload, 1) := by decide +kernel
theorem dX8_wanted_32 : decode cX8_wanted 32 = .ok (.iconst 1, 1) := by decide +kernel
theorem dX8_wanted_33 : decode cX8_wanted 33 = .ok (.if_icmp .ne 17, 3) := by decide +kernel
theorem dX8_wanted_36 : decode cX8_wanted 36 = .ok (.aload_n 0, 1) := by decide +kernel
theorem dX8_wanted_37 : decode cX8_wanted 37 = .ok (.getfield 29, 3) := by decide +kernel
theorem dX8_wanted_40 : decode cX8_wanted 40 = .ok (.iload_n 2, 1) := by decide +kernel
theorem dX8_wanted_41 : decode cX8_wanted 41 = .ok (.iaload, 1) := by decide +kernel
theorem dX8_wanted_42 : decode cX8_wanted 42 = .ok (.iload_n 3, 1) := by decide +kernel
theorem dX8_wanted_43 : decode cX8_wanted 43 = .ok (.if_icmp .ne 7, 3) := by decide +kernel
theorem dX8_wanted_46 : decode cX8_wanted 46 = .ok (.iconst 1, 1) := by decide +kernel
theorem dX8_wanted_47 : decode cX8_wanted 47 = .ok (.goto 4, 3) := by decide +kernel
theorem dX8_wanted_50 : decode cX8_wanted 50 = .ok (.iconst 0, 1) := by decide +kernel
theorem dX8_wanted_51 : decode cX8_wanted 51 = .ok (.isub, 1) := by decide +kernel
theorem dX8_wanted_52 : decode cX8_wanted 52 = .ok (.istore 4, 2) := by decide +kernel
theorem dX8_wanted_54 : decode cX8_wanted 54 = .ok (.iload 4, 2) := by decide +kernel
theorem dX8_wanted_56 : decode cX8_wanted 56 = .ok (.ifCond .le 8, 3) := by decide +kernel
theorem dX8_wanted_59 : decode cX8_wanted 59 = .ok (.iload 4, 2) := by decide +kernel
theorem dX8_wanted_61 : decode cX8_wanted 61 = .ok (.goto 4, 3) := by decide +kernel
theorem dX8_wanted_64 : decode cX8_wanted 64 = .ok (.iconst 0, 1) := by decide +kernel
theorem dX8_wanted_65 : decode cX8_wanted 65 = .ok (.ireturn, 1) := by decide +kernel
theorem hl_yX8_wanted : (yX8_wanted.cls ≠ "java/lang/invoke/MethodHandle" ∧ yX8_wanted.cls ≠ "java/lang/invoke/VarHandle") ∧ (parseMethodDescriptor yX8_wanted.desc).map (fun d => d.parameters.length) = some 3 := by decide +kernel
set_option maxRecDepth 20000 in
set_option maxHeartbeats 4000000 in
theorem c_X8_wanted {l : Launch} {G : Gt} {n0 : Nat} {mi : Nat → Nat → Int} {mr : Nat → Nat → Nat} {L : Lws} (hA : AB L) (hM : ML L mi) {k : Nat} (hk : (k : Int) < L.2.1) {b x : Nat} (hx : x < 5) (hb : RB mi b) : Ci l yX8_wanted cX8_wanted 5 .int 1 G n0 [.ref (n0 + 473), .int (jI (b : Int)), .int (jI (k : Int)), .int (jI (x : Int))] mi mr (fun r9 mi9 mr9 => mi = mi9 ∧ mr = mr9 ∧ r9 = lk0 (L.2.2.2.1 k) (Ub mi b) x) := by
  refine Ct_of (by decide +kernel) (by intro v hv; simp at hv; rcases hv with rfl | rfl | rfl | rfl <;> rfl) (Nat.le_of_ble_eq_true rfl) ?_
  intro p e s m args below meth c9 X hr hname
  show WW _ _ _ _ _ _ _ _ _ _ _ _ _ _ _ _ _ _ _ [some (.ref (n0 + 473)), some (.int (jI (b : Int))), some (.int (jI (k : Int))), some (.int (jI (x : Int))), none] _
  have hrc := hA.2.1
  have hsc := hA.1.1
  have hM1 := hM.1
  obtain ⟨r1, r2, r3, r4, r6, r7, rs, rg9⟩ := id (hA.1.2.1 k hk)
  obtain ⟨e1, e2, e3, e4, e5, e6, e7⟩ := ML_rule hM hk
  have hbx := hb.2 x hx
  have hb99 := hb.1
  refine w_aload_n X dX8_wanted_0 rfl ?_
  refine w_get X (by decide) (σ_473 G n0 _ _) rfl gW_X8 17 (by decide) gF_X8_44 rfl dX8_wanted_1 ?_
  refine w_iconst X dX8_wanted_4 ?_
  refine w_iload_n X dX8_wanted_5 rfl ?_
  refine w_imul X dX8_wanted_6 ?_
  refine w_iload_n X dX8_wanted_7 rfl ?_
  refine w_iadd X dX8_wanted_8 ?_
  refine s_iald X ((5 * b + x)) (by decide) (fun _ => σ_m505 G n0 _ _ (by decide)) dX8_wanted_9 ?_
  refine w_aload_n X dX8_wanted_10 rfl ?_
  refine w_get X (by decide) (σ_473 G n0 _ _) rfl gW_X8 6 (by decide) gF_X8_23 rfl dX8_wanted_11 ?_
  refine w_iload_n X dX8_wanted_14 rfl ?_
  refine s_iald X (k) (by decide) (fun _ => σ_m12 G n0 _ _ (by decide)) dX8_wanted_15 ?_
  rw [e3]
  refine w_iload_n X dX8_wanted_16 rfl ?_
  refine w_icmp_ne X 24 dX8_wanted_17 (by decide) (fun c17_1 => ?_) (fun c17_1 => ?_)
  ·
    refine w_iconst X dX8_wanted_24 ?_
    refine w_isub X dX8_wanted_25 ?_
    refine w_aload_n X dX8_wanted_26 rfl ?_
    refine w_get X (by decide) (σ_473 G n0 _ _) rfl gW_X8 4 (by decide) gF_X8_16 rfl dX8_wanted_27 ?_
    refine w_iload_n X dX8_wanted_30 rfl ?_
    refine s_iald X (k) (by decide) (fun _ => σ_m12 G n0 _ _ (by decide)) dX8_wanted_31 ?_
    rw [e1]
    refine w_iconst X dX8_wanted_32 ?_
    refine w_icmp_ne X 50 dX8_wanted_33 (by decide) (fun c33_2 => ?_) (fun c33_2 => ?_)
    ·
      refine w_iconst X dX8_wanted_50 ?_
      refine w_isub X dX8_wanted_51 ?_
      refine w_ist5_4 X dX8_wanted_52 ?_
      refine w_iload X dX8_wanted_54 rfl ?_
      refine w_if_le X 64 dX8_wanted_56 (by decide) (fun c56_3 => ?_) (fun c56_3 => ?_)
      ·
        refine w_iconst X dX8_wanted_64 ?_
        refine s_iret X hr dX8_wanted_65 ?_
        refine ⟨rfl, rfl, ?_⟩
        have hcm : cm (L.2.2.2.1 k) x = (if (x : Int) = L.2.2.2.1 k 3 then 1 else 0) + (if (x : Int) = L.2.2.2.1 k 5 then 1 else 0) := rfl
        show _ = (if mi 483 (5 * b + x) - cm (L.2.2.2.1 k) x ≤ 0 then 0 else mi 483 (5 * b + x) - cm (L.2.2.2.1 k) x)
        split at hcm <;> split at hcm <;> split <;> omega
      ·
        refine w_iload X dX8_wanted_59 rfl ?_
        refine w_goto X 65 dX8_wanted_61 (by decide) ?_
        refine s_iret X hr dX8_wanted_65 ?_
        refine ⟨rfl, rfl, ?_⟩
        have hcm : cm (L.2.2.2.1 k) x = (if (x : Int) = L.2.2.2.1 k 3 then 1 else 0) + (if (x : Int) = L.2.2.2.1 k 5 then 1 else 0) := rfl
        show _ = (if mi 483 (5 * b + x) - cm (L.2.2.2.1 k) x ≤ 0 then 0 else mi 483 (5 * b + x) - cm (L.2.2.2.1 k) x)
        split at hcm <;> split at hcm <;> split <;> omega
    ·
      refine w_aload_n X dX8_wanted_36 rfl ?_
      refine w_get X (by decide) (σ_473 G n0 _ _) rfl gW_X8 8 (by decide) gF_X8_29 rfl dX8_wanted_37 ?_
      refine w_iload_n X dX8_wanted_40 rfl ?_
      refine s_iald X (k) (by decide) (fun _ => σ_m12 G n0 _ _ (by decide)) dX8_wanted_41 ?_
      rw [e5]
      refine w_iload_n X dX8_wanted_42 rfl ?_
      refine w_icmp_ne X 50 dX8_wanted_43 (by decide) (fun c43_4 => ?_) (fun c43_4 => ?_)
      ·
        refine w_iconst X dX8_wanted_50 ?_
        refine w_isub X dX8_wanted_51 ?_
        refine w_ist5_4 X dX8_wanted_52 ?_
        refine w_iload X dX8_wanted_54 rfl ?_
        refine w_if_le X 64 dX8_wanted_56 (by decide) (fun c56_5 => ?_) (fun c56_5 => ?_)
        ·
          refine w_iconst X dX8_wanted_64 ?_
          refine s_iret X hr dX8_wanted_65 ?_
          refine ⟨rfl, rfl, ?_⟩
          have hcm : cm (L.2.2.2.1 k) x = (if (x : Int) = L.2.2.2.1 k 3 then 1 else 0) + (if (x : Int) = L.2.2.2.1 k 5 then 1 else 0) := rfl
          show _ = (if mi 483 (5 * b + x) - cm (L.2.2.2.1 k) x ≤ 0 then 0 else mi 483 (5 * b + x) - cm (L.2.2.2.1 k) x)
          split at hcm <;> split at hcm <;> split <;> omega
        ·
          refine w_iload X dX8_wanted_59 rfl ?_
          refine w_goto X 65 dX8_wanted_61 (by decide) ?_
          refine s_iret X hr dX8_wanted_65 ?_
          refine ⟨rfl, rfl, ?_⟩
          have hcm : cm (L.2.2.2.1 k) x = (if (x : Int) = L.2.2.2.1 k 3 then 1 else 0) + (if (x : Int) = L.2.2.2.1 k 5 then 1 else 0) := rfl
          show _ = (if mi 483 (5 * b + x) - cm (L.2.2.2.1 k) x ≤ 0 then 0 else mi 483 (5 * b + x) - cm (L.2.2.2.1 k) x)
          split at hcm <;> split at hcm <;> split <;> omega
      ·
        refine w_iconst X dX8_wanted_46 ?_
        refine w_goto X 51 dX8_wanted_47 (by decide) ?_
        refine w_isub X dX8_wanted_51 ?_
        refine w_ist5_4 X dX8_wanted_52 ?_
        refine w_iload X dX8_wanted_54 rfl ?_
        refine w_if_le X 64 dX8_wanted_56 (by decide) (fun c56_6 => ?_) (fun c56_6 => ?_)
        ·
          refine w_iconst X dX8_wanted_64 ?_
          refine s_iret X hr dX8_wanted_65 ?_
          refine ⟨rfl, rfl, ?_⟩
          have hcm : cm (L.2.2.2.1 k) x = (if (x : Int) = L.2.2.2.1 k 3 then 1 else 0) + (if (x : Int) = L.2.2.2.1 k 5 then 1 else 0) := rfl
          show _ = (if mi 483 (5 * b + x) - cm (L.2.2.2.1 k) x ≤ 0 then 0 else mi 483 (5 * b + x) - cm (L.2.2.2.1 k) x)
          split at hcm <;> split at hcm <;> split <;> omega
        ·
          refine w_iload X dX8_wanted_59 rfl ?_
          refine w_goto X 65 dX8_wanted_61 (by decide) ?_
          refine s_iret X hr dX8_wanted_65 ?_
          refine ⟨rfl, rfl, ?_⟩
          have hcm : cm (L.2.2.2.1 k) x = (if (x : Int) = L.2.2.2.1 k 3 then 1 else 0) + (if (x : Int) = L.2.2.2.1 k 5 then 1 else 0) := rfl
          show _ = (if mi 483 (5 * b + x) - cm (L.2.2.2.1 k) x ≤ 0 then 0 else mi 483 (5 * b + x) - cm (L.2.2.2.1 k) x)
          split at hcm <;> split at hcm <;> split <;> omega
  ·
    refine w_iconst X dX8_wanted_20 ?_
    refine w_goto X 25 dX8_wanted_21 (by decide) ?_
    refine w_isub X dX8_wanted_25 ?_
    refine w_aload_n X dX8_wanted_26 rfl ?_
    refine w_get X (by decide) (σ_473 G n0 _ _) rfl gW_X8 4 (by decide) gF_X8_16 rfl dX8_wanted_27 ?_
    refine w_iload_n X dX8_wanted_30 rfl ?_
    refine s_iald X (k) (by decide) (fun _ => σ_m12 G n0 _ _ (by decide)) dX8_wanted_31 ?_
    rw [e1]
    refine w_iconst X dX8_wanted_32 ?_
    refine w_icmp_ne X 50 dX8_wanted_33 (by decide) (fun c33_7 => ?_) (fun c33_7 => ?_)
    ·
      refine w_iconst X dX8_wanted_50 ?_
      refine w_isub X dX8_wanted_51 ?_
      refine w_ist5_4 X dX8_wanted_52 ?_
      refine w_iload X dX8_wanted_54 rfl ?_
      refine w_if_le X 64 dX8_wanted_56 (by decide) (fun c56_8 => ?_) (fun c56_8 => ?_)
      ·
        refine w_iconst X dX8_wanted_64 ?_
        refine s_iret X hr dX8_wanted_65 ?_
        refine ⟨rfl, rfl, ?_⟩
        have hcm : cm (L.2.2.2.1 k) x = (if (x : Int) = L.2.2.2.1 k 3 then 1 else 0) + (if (x : Int) = L.2.2.2.1 k 5 then 1 else 0) := rfl
        show _ = (if mi 483 (5 * b + x) - cm (L.2.2.2.1 k) x ≤ 0 then 0 else mi 483 (5 * b + x) - cm (L.2.2.2.1 k) x)
        split at hcm <;> split at hcm <;> split <;> omega
      ·
        refine w_iload X dX8_wanted_59 rfl ?_
        refine w_goto X 65 dX8_wanted_61 (by decide) ?_
        refine s_iret X hr dX8_wanted_65 ?_
        refine ⟨rfl, rfl, ?_⟩
        have hcm : cm (L.2.2.2.1 k) x = (if (x : Int) = L.2.2.2.1 k 3 then 1 else 0) + (if (x : Int) = L.2.2.2.1 k 5 then 1 else 0) := rfl
        show _ = (if mi 483 (5 * b + x) - cm (L.2.2.2.1 k) x ≤ 0 then 0 else mi 483 (5 * b + x) - cm (L.2.2.2.1 k) x)
        split at hcm <;> split at hcm <;> split <;> omega
    ·
      refine w_aload_n X dX8_wanted_36 rfl ?_
      refine w_get X (by decide) (σ_473 G n0 _ _) rfl gW_X8 8 (by decide) gF_X8_29 rfl dX8_wanted_37 ?_
      refine w_iload_n X dX8_wanted_40 rfl ?_
      refine s_iald X (k) (by decide) (fun _ => σ_m12 G n0 _ _ (by decide)) dX8_wanted_41 ?_
      rw [e5]
      refine w_iload_n X dX8_wanted_42 rfl ?_
      refine w_icmp_ne X 50 dX8_wanted_43 (by decide) (fun c43_9 => ?_) (fun c43_9 => ?_)
      ·
        refine w_iconst X dX8_wanted_50 ?_
        refine w_isub X dX8_wanted_51 ?_
        refine w_ist5_4 X dX8_wanted_52 ?_
        refine w_iload X dX8_wanted_54 rfl ?_
        refine w_if_le X 64 dX8_wanted_56 (by decide) (fun c56_10 => ?_) (fun c56_10 => ?_)
        ·
          refine w_iconst X dX8_wanted_64 ?_
          refine s_iret X hr dX8_wanted_65 ?_
          refine ⟨rfl, rfl, ?_⟩
          have hcm : cm (L.2.2.2.1 k) x = (if (x : Int) = L.2.2.2.1 k 3 then 1 else 0) + (if (x : Int) = L.2.2.2.1 k 5 then 1 else 0) := rfl
          show _ = (if mi 483 (5 * b + x) - cm (L.2.2.2.1 k) x ≤ 0 then 0 else mi 483 (5 * b + x) - cm (L.2.2.2.1 k) x)
          split at hcm <;> split at hcm <;> split <;> omega
        ·
          refine w_iload X dX8_wanted_59 rfl ?_
          refine w_goto X 65 dX8_wanted_61 (by decide) ?_
          refine s_iret X hr dX8_wanted_65 ?_
          refine ⟨rfl, rfl, ?_⟩
          have hcm : cm (L.2.2.2.1 k) x = (if (x : Int) = L.2.2.2.1 k 3 then 1 else 0) + (if (x : Int) = L.2.2.2.1 k 5 then 1 else 0) := rfl
          show _ = (if mi 483 (5 * b + x) - cm (L.2.2.2.1 k) x ≤ 0 then 0 else mi 483 (5 * b + x) - cm (L.2.2.2.1 k) x)
          split at hcm <;> split at hcm <;> split <;> omega
      ·
        refine w_iconst X dX8_wanted_46 ?_
        refine w_goto X 51 dX8_wanted_47 (by decide) ?_
        refine w_isub X dX8_wanted_51 ?_
        refine w_ist5_4 X dX8_wanted_52 ?_
        refine w_iload X dX8_wanted_54 rfl ?_
        refine w_if_le X 64 dX8_wanted_56 (by decide) (fun c56_11 => ?_) (fun c56_11 => ?_)
        ·
          refine w_iconst X dX8_wanted_64 ?_
          refine s_iret X hr dX8_wanted_65 ?_
          refine ⟨rfl, rfl, ?_⟩
          have hcm : cm (L.2.2.2.1 k) x = (if (x : Int) = L.2.2.2.1 k 3 then 1 else 0) + (if (x : Int) = L.2.2.2.1 k 5 then 1 else 0) := rfl
          show _ = (if mi 483 (5 * b + x) - cm (L.2.2.2.1 k) x ≤ 0 then 0 else mi 483 (5 * b + x) - cm (L.2.2.2.1 k) x)
          split at hcm <;> split at hcm <;> split <;> omega
        ·
          refine w_iload X dX8_wanted_59 rfl ?_
          refine w_goto X 65 dX8_wanted_61 (by decide) ?_
          refine s_iret X hr dX8_wanted_65 ?_
          refine ⟨rfl, rfl, ?_⟩
          have hcm : cm (L.2.2.2.1 k) x = (if (x : Int) = L.2.2.2.1 k 3 then 1 else 0) + (if (x : Int) = L.2.2.2.1 k 5 then 1 else 0) := rfl
          show _ = (if mi 483 (5 * b + x) - cm (L.2.2.2.1 k) x ≤ 0 then 0 else mi 483 (5 * b + x) - cm (L.2.2.2.1 k) x)
          split at hcm <;> split at hcm <;> split <;> omega
theorem dX8_isLast_0 : decode cX8_isLast 0 = .ok (.iconst 1, 1) := by decide +kernel
theorem dX8_isLast_1 : decode cX8_isLast 1 = .ok (.istore_n 3, 1) := by decide +kernel
theorem dX8_isLast_2 : decode cX8_isLast 2 = .ok (.iload_n 2, 1) := by decide +kernel
theorem dX8_isLast_3 : decode cX8_isLast 3 = .ok (.iconst 1, 1) := by decide +kernel
theorem dX8_isLast_4 : decode cX8_isLast 4 = .ok (.iadd, 1) := by decide +kernel
theorem dX8_isLast_5 : decode cX8_isLast 5 = .ok (.istore 4, 2) := by decide +kernel
theorem dX8_isLast_7 : decode cX8_isLast 7 = .ok (.iload 4, 2) := by decide +kernel
theorem dX8_isLast_9 : decode cX8_isLast 9 = .ok (.aload_n 0, 1) := by decide +kernel
theorem dX8_isLast_10 : decode cX8_isLast 10 = .ok (.getfield 7, 3) := by decide +kernel
theorem dX8_isLast_13 : decode cX8_isLast 13 = .ok (.if_icmp .ge 35, 3) := by decide +kernel
theorem dX8_isLast_16 : decode cX8_isLast 16 = .ok (.iload_n 3, 1) := by decide +kernel
theorem dX8_isLast_17 : decode cX8_isLast 17 = .ok (.ifCond .eq 23, 3) := by decide +kernel
theorem dX8_isLast_20 : decode cX8_isLast 20 = .ok (.aload_n 0, 1) := by decide +kernel
theorem dX8_isLast_21 : decode cX8_isLast 21 = .ok (.iload_n 1, 1) := by decide +kernel
theorem dX8_isLast_22 : decode cX8_isLast 22 = .ok (.iload 4, 2) := by decide +kernel
theorem dX8_isLast_24 : decode cX8_isLast 24 = .ok (.invokevirtual 110, 3) := by decide +kernel
theorem dX8_isLast_27 : decode cX8_isLast 27 = .ok (.aload_n 0, 1) := by decide +kernel
theorem dX8_isLast_28 : decode cX8_isLast 28 = .ok (.iload_n 1, 1) := by decide +kernel
theorem dX8_isLast_29 : decode cX8_isLast 29 = .ok (.iload_n 2, 1) := by decide +kernel
theorem dX8_isLast_30 : decode cX8_isLast 30 = .ok (.invokevirtual 110, 3) := by decide +kernel
theorem dX8_isLast_33 : decode cX8_isLast 33 = .ok (.if_icmp .eq 7, 3) := by decide +kernel
theorem dX8_isLast_36 : decode cX8_isLast 36 = .ok (.iconst 1, 1) := by decide +kernel
theorem dX8_isLast_37 : decode cX8_isLast 37 = .ok (.goto 4, 3) := by decide +kernel
theorem dX8_isLast_40 : decode cX8_isLast 40 = .ok (.iconst 0, 1) := by decide +kernel
theorem dX8_isLast_41 : decode cX8_isLast 41 = .ok (.istore_n 3, 1) := by decide +kernel
theorem dX8_isLast_42 : decode cX8_isLast 42 = .ok (.iinc 4 1, 3) := by decide +kernel
theorem dX8_isLast_45 : decode cX8_isLast 45 = .ok (.goto (-38), 3) := by decide +kernel
theorem dX8_isLast_48 : decode cX8_isLast 48 = .ok (.iload_n 3, 1) := by decide +kernel
theorem dX8_isLast_49 : decode cX8_isLast 49 = .ok (.ireturn, 1) := by decide +kernel
theorem hl_yX8_isLast : (yX8_isLast.cls ≠ "java/lang/invoke/MethodHandle" ∧ yX8_isLast.cls ≠ "java/lang/invoke/VarHandle") ∧ (parseMethodDescriptor yX8_isLast.desc).map (fun d => d.parameters.length) = some 2 := by decide +kernel
set_option maxRecDepth 20000 in
set_option maxHeartbeats 4000000 in
theorem c_X8_isLast {l : Launch} {G : Gt} {n0 : Nat} {mi : Nat → Nat → Int} {mr : Nat → Nat → Nat} {L : Lws} (hA : AB L) (hM : ML L mi) {k : Nat} (hk : (k : Int) < L.2.1) (h2 : L.2.2.2.1 k 1 = 2) {x : Nat} (hx : (x : Int) < L.1) : Ci l yX8_isLast cX8_isLast 5 .boolean 2 G n0 [.ref (n0 + 473), .int (jI (k : Int)), .int (jI (x : Int))] mi mr (fun r9 mi9 mr9 => mi = mi9 ∧ mr = mr9 ∧ flg r9 (lastG L.1 (L.2.2.2.1 k) x)) := by
  refine Ct_of (by decide +kernel) (by intro v hv; simp at hv; rcases hv with rfl | rfl | rfl <;> rfl) (Nat.le_of_ble_eq_true rfl) ?_
  intro p e s m args below meth c9 X hr hname
  show WW _ _ _ _ _ _ _ _ _ _ _ _ _ _ _ _ _ _ _ [some (.ref (n0 + 473)), some (.int (jI (k : Int))), some (.int (jI (x : Int))), none, none] _
  have hrc := hA.2.1
  have hsc := hA.1.1
  have hM1 := hM.1
  obtain ⟨r1, r2, r3, r4, r6, r7, rs, rg9⟩ := id (hA.1.2.1 k hk)
  obtain ⟨e1, e2, e3, e4, e5, e6, e7⟩ := ML_rule hM hk
  have hgd : (0 ≤ mi 479 k ∧ mi 479 k < 100000) ∧ ∀ j : Nat, mi 479 k / 10 ^ j % 10 = gol (L.2.2.2.1 k) j := by have q := gol_d hA hM hk h2; exact ⟨⟨q.1, q.2.1⟩, q.2.2⟩
  refine w_iconst X dX8_isLast_0 ?_
  refine w_ist5_3 X dX8_isLast_1 ?_
  refine w_iload_n X dX8_isLast_2 rfl ?_
  refine w_iconst X dX8_isLast_3 ?_
  refine w_iadd X dX8_isLast_4 ?_
  refine w_ist5_4 X dX8_isLast_5 ?_
  have loop : ∀ (n : Nat) (i : Nat) (w1 : Int), (x < i ∧ (i : Int) ≤ L.1) → (FLg w1 (fun j => x < j → gol (L.2.2.2.1 k) j ≠ gol (L.2.2.2.1 k) x) i) → n = 5 - i → WSi p l e s m args below meth c9 2 (fun r9 mi9 mr9 => mi = mi9 ∧ mr = mr9 ∧ flg r9 (lastG L.1 (L.2.2.2.1 k) x)) G n0 5 mi mr 7 [some (.ref (n0 + 473)), some (.int (jI (k : Int))), some (.int (jI (x : Int))), some (.int (jI w1)), some (.int (jI (i : Int)))] [] := by
    intro n
    induction n using Nat.strongRecOn with
    | ind n ih_loop =>
      intro i w1 hi hf hn
      have hw1 := FL_b hf
      refine w_iload X dX8_isLast_7 rfl ?_
      refine w_aload_n X dX8_isLast_9 rfl ?_
      refine w_get X (by decide) (σ_473 G n0 _ _) rfl gW_X8 1 (by decide) gF_X8_7 rfl dX8_isLast_10 ?_
      refine w_icmp_ge X 48 dX8_isLast_13 (by decide) (fun c13_1 => ?_) (fun c13_1 => ?_)
      ·
        refine w_iload_n X dX8_isLast_48 rfl ?_
        refine s_zret X hr dX8_isLast_49 (by omega) ?_
        refine ⟨rfl, rfl, flg_i hf ⟨fun w j h1 h2 => w j (by omega) h1, fun w j h1 h2 => w j h2 (by omega)⟩⟩
      ·
        refine w_iload_n X dX8_isLast_16 rfl ?_
        refine w_if_eq X 40 dX8_isLast_17 (by decide) (fun c17_2 => ?_) (fun c17_2 => ?_)
        ·
          refine w_iconst X dX8_isLast_40 ?_
          refine w_ist5_3 X dX8_isLast_41 ?_
          refine w_iinc5_4 X dX8_isLast_42 ?_
          refine w_goto X 7 dX8_isLast_45 (by decide) ?_
          exact ih_loop _ (by omega) (i + 1) 0 (by omega) (by first | exact FL_k hf (by omega) | exact FL_f (fun w => by have := w (by omega); omega)) rfl
        ·
          refine w_aload_n X dX8_isLast_20 rfl ?_
          refine w_iload_n X dX8_isLast_21 rfl ?_
          refine w_iload X dX8_isLast_22 rfl ?_
          refine s_callVi X _ (c_X8_mapped (l := l) (G := G) (n0 := n0) (by omega) (by omega) hgd.1) gM_X8_110 gI_yX8_mapped gS_yX8_mapped gN_X8 gC_yX8_mapped (by decide) (σ_473 G n0 _ _) rfl dX8_isLast_24 hl_yX8_mapped ⟨Nat.le_of_ble_eq_true rfl, Nat.le_of_ble_eq_true rfl⟩ (Nat.le_of_ble_eq_true rfl) rfl (fun r1 mi1 mr1 h1 => ?_)
          obtain ⟨rfl, rfl, h1⟩ := h1
          rw [hgd.2] at h1
          have hgi := rg9 i (by omega)
          have hgx := rg9 x (by omega)
          refine w_aload_n X dX8_isLast_27 rfl ?_
          refine w_iload_n X dX8_isLast_28 rfl ?_
          refine w_iload_n X dX8_isLast_29 rfl ?_
          refine s_callVi X _ (c_X8_mapped (l := l) (G := G) (n0 := n0) (by omega) (by omega) hgd.1) gM_X8_110 gI_yX8_mapped gS_yX8_mapped gN_X8 gC_yX8_mapped (by decide) (σ_473 G n0 _ _) rfl dX8_isLast_30 hl_yX8_mapped ⟨Nat.le_of_ble_eq_true rfl, Nat.le_of_ble_eq_true rfl⟩ (Nat.le_of_ble_eq_true rfl) rfl (fun r2 mi2 mr2 h2 => ?_)
          obtain ⟨rfl, rfl, h2⟩ := h2
          rw [hgd.2] at h2
          refine w_icmp_eq X 40 dX8_isLast_33 (by decide) (fun c33_3 => ?_) (fun c33_3 => ?_)
          ·
            refine w_iconst X dX8_isLast_40 ?_
            refine w_ist5_3 X dX8_isLast_41 ?_
            refine w_iinc5_4 X dX8_isLast_42 ?_
            refine w_goto X 7 dX8_isLast_45 (by decide) ?_
            exact ih_loop _ (by omega) (i + 1) 0 (by omega) (by first | exact FL_k hf (by omega) | exact FL_f (fun w => by have := w (by omega); omega)) rfl
          ·
            refine w_iconst X dX8_isLast_36 ?_
            refine w_goto X 41 dX8_isLast_37 (by decide) ?_
            refine w_ist5_3 X dX8_isLast_41 ?_
            refine w_iinc5_4 X dX8_isLast_42 ?_
            refine w_goto X 7 dX8_isLast_45 (by decide) ?_
            exact ih_loop _ (by omega) (i + 1) 1 (by omega) (FL_t hf (by omega) (fun _ => by omega)) rfl
  exact loop _ (x + 1) 1 (by omega) (flg_t (fun j hj hj2 => absurd hj2 (by omega))) rfl
theorem dX8_left_0 : decode cX8_left 0 = .ok (.aload_n 0, 1) := by decide +kernel
theorem dX8_left_1 : decode cX8_left 1 = .ok (.iload_n 1, 1) := by decide +kernel
theorem dX8_left_2 : decode cX8_left 2 = .ok (.iload_n 2, 1) := by decide +kernel
theorem dX8_left_3 : decode cX8_left 3 = .ok (.aload_n 0, 1) := by decide +kernel
theorem dX8_left_4 : decode cX8_left 4 = .ok (.iload_n 2, 1) := by decide +kernel
theorem dX8_left_5 : decode cX8_left 5 = .ok (.iload_n 3, 1) := by decide +kernel
theorem dX8_left_6 : decode cX8_left 6 = .ok (.invokevirtual 110, 3) := by decide +kernel
theorem dX8_left_9 : decode cX8_left 9 = .ok (.invokevirtual 148, 3) := by decide +kernel
theorem dX8_left_12 : decode cX8_left 12 = .ok (.istore 4, 2) := by decide +kernel
theorem dX8_left_14 : decode cX8_left 14 = .ok (.iconst 0, 1) := by decide +kernel
theorem dX8_left_15 : decode cX8_left 15 = .ok (.istore 5, 2) := by decide +kernel
theorem dX8_left_17 : decode cX8_left 17 = .ok (.iload 5, 2) := by decide +kernel
theorem dX8_left_19 : decode cX8_left 19 = .ok (.iload_n 3, 1) := by decide +kernel
theorem dX8_left_20 : decode cX8_left 20 = .ok (.if_icmp .ge 41, 3) := by decide +kernel
theorem dX8_left_23 : decode cX8_left 23 = .ok (.iload 4, 2) := by decide +kernel
theorem dX8_left_25 : decode cX8_left 25 = .ok (.aload_n 0, 1) := by decide +kernel
theorem dX8_left_26 : decode cX8_left 26 = .ok (.iload_n 2, 1) := by decide +kernel
theorem dX8_left_27 : decode cX8_left 27 = .ok (.iload 5, 2) := by decide +kernel
theorem dX8_left_29 : decode cX8_left 29 = .ok (.invokevirtual 110, 3) := by decide +kernel
theorem dX8_left_32 : decode cX8_left 32 = .ok (.aload_n 0, 1) := by decide +kernel
theorem dX8_left_33 : decode cX8_left 33 = .ok (.iload_n 2, 1) := by decide +kernel
theorem dX8_left_34 : decode cX8_left 34 = .ok (.iload_n 3, 1) := by decide +kernel
theorem dX8_left_35 : decode cX8_left 35 = .ok (.invokevirtual 110, 3) := by decide +kernel
theorem dX8_left_38 : decode cX8_left 38 = .ok (.if_icmp .ne 13, 3) := by decide +kernel
theorem dX8_left_41 : decode cX8_left 41 = .ok (.aload_n 0, 1) := by decide +kernel
theorem dX8_left_42 : decode cX8_left 42 = .ok (.getfield 53, 3) := by decide +kernel
theorem dX8_left_45 : decode cX8_left 45 = .ok (.iload 5, 2) := by decide +kernel
theorem dX8_left_47 : decode cX8_left 47 = .ok (.iaload, 1) := by decide +kernel
theorem dX8_left_48 : decode cX8_left 48 = .ok (.goto 4, 3) := by decide +kernel
theorem dX8_left_51 : decode cX8_left 51 = .ok (.iconst 0, 1) := by decide +kernel
theorem dX8_left_52 : decode cX8_left 52 = .ok (.isub, 1) := by decide +kernel
theorem dX8_left_53 : decode cX8_left 53 = .ok (.istore 4, 2) := by decide +kernel
theorem dX8_left_55 : decode cX8_left 55 = .ok (.iinc 5 1, 3) := by decide +kernel
theorem dX8_left_58 : decode cX8_left 58 = .ok (.goto (-41), 3) := by decide +kernel
theorem dX8_left_61 : decode cX8_left 61 = .ok (.iload 4, 2) := by decide +kernel
theorem dX8_left_63 : decode cX8_left 63 = .ok (.ireturn, 1) := by decide +kernel
theorem hl_yX8_left : (yX8_left.cls ≠ "java/lang/invoke/MethodHandle" ∧ yX8_left.cls ≠ "java/lang/invoke/VarHandle") ∧ (parseMethodDescriptor yX8_left.desc).map (fun d => d.parameters.length) = some 3 := by decide +kernel
set_option maxRecDepth 20000 in
set_option maxHeartbeats 4000000 in
theorem c_X8_left {l : Launch} {G : Gt} {n0 : Nat} {mi : Nat → Nat → Int} {mr : Nat → Nat → Nat} {L : Lws} (hA : AB L) (hM : ML L mi) {k : Nat} (hk : (k : Int) < L.2.1) (h2_ : L.2.2.2.1 k 1 = 2) {b x : Nat} (hx : (x : Int) < L.1) (hb : RB mi b) : Ci l yX8_left cX8_left 6 .int 2 G n0 [.ref (n0 + 473), .int (jI (b : Int)), .int (jI (k : Int)), .int (jI (x : Int))] mi mr (fun r9 mi9 mr9 => mi = mi9 ∧ mr = mr9 ∧ r9 = lf (L.2.2.2.1 k) (lk0 (L.2.2.2.1 k) (Ub mi b)) (mi 486) x) := by
  refine Ct_of (by decide +kernel) (by intro v hv; simp at hv; rcases hv with rfl | rfl | rfl | rfl <;> rfl) (Nat.le_of_ble_eq_true rfl) ?_
  intro p e s m args below meth c9 X hr hname
  show WW _ _ _ _ _ _ _ _ _ _ _ _ _ _ _ _ _ _ _ [some (.ref (n0 + 473)), some (.int (jI (b : Int))), some (.int (jI (k : Int))), some (.int (jI (x : Int))), none, none] _
  have hrc := hA.2.1
  have hsc := hA.1.1
  have hM1 := hM.1
  obtain ⟨r1, r2, r3, r4, r6, r7, rs, rg9⟩ := id (hA.1.2.1 k hk)
  obtain ⟨e1, e2, e3, e4, e5, e6, e7⟩ := ML_rule hM hk
  have hgd : (0 ≤ mi 479 k ∧ mi 479 k < 100000) ∧ ∀ j : Nat, mi 479 k / 10 ^ j % 10 = gol (L.2.2.2.1 k) j := by have q := gol_d hA hM hk h2_; exact ⟨⟨q.1, q.2.1⟩, q.2.2⟩
  refine w_aload_n X dX8_left_0 rfl ?_
  refine w_iload_n X dX8_left_1 rfl ?_
  refine w_iload_n X dX8_left_2 rfl ?_
  refine w_aload_n X dX8_left_3 rfl ?_
  refine w_iload_n X dX8_left_4 rfl ?_
  refine w_iload_n X dX8_left_5 rfl ?_
  refine s_callVi X _ (c_X8_mapped (l := l) (G := G) (n0 := n0) (by omega) (by omega) hgd.1) gM_X8_110 gI_yX8_mapped gS_yX8_mapped gN_X8 gC_yX8_mapped (by decide) (σ_473 G n0 _ _) rfl dX8_left_6 hl_yX8_mapped ⟨Nat.le_of_ble_eq_true rfl, Nat.le_of_ble_eq_true rfl⟩ (Nat.le_of_ble_eq_true rfl) rfl (fun r1 mi1 mr1 h1 => ?_)
  obtain ⟨rfl, rfl, h1⟩ := h1
  rw [hgd.2] at h1
  have hgx := rg9 x (by omega)
  obtain ⟨g, hg⟩ := Int.eq_ofNat_of_zero_le hgx.1
  rw [h1, hg]
  refine s_callVi X _ (c_X8_wanted (l := l) (G := G) (n0 := n0) hA hM hk (x := g) (by omega) hb) gM_X8_148 gI_yX8_wanted gS_yX8_wanted gN_X8 gC_yX8_wanted (by decide) (σ_473 G n0 _ _) rfl dX8_left_9 hl_yX8_wanted ⟨Nat.le_of_ble_eq_true rfl, Nat.le_of_ble_eq_true rfl⟩ (Nat.le_of_ble_eq_true rfl) rfl (fun r2 mi2 mr2 h2 => ?_)
  obtain ⟨rfl, rfl, h2⟩ := h2
  refine w_ist6_4 X dX8_left_12 ?_
  refine w_iconst X dX8_left_14 ?_
  refine w_ist6_5 X dX8_left_15 ?_
  have loop : ∀ (n : Nat) (i : Nat) (t : Int), (i ≤ x) → (t = lk0 (L.2.2.2.1 k) (Ub mi b) g - tl (L.2.2.2.1 k) (mi 486) i 0 (gol (L.2.2.2.1 k) x)) → n = 5 - i → WSi p l e s m args below meth c9 2 (fun r9 mi9 mr9 => mi = mi9 ∧ mr = mr9 ∧ r9 = lf (L.2.2.2.1 k) (lk0 (L.2.2.2.1 k) (Ub mi b)) (mi 486) x) G n0 6 mi mr 17 [some (.ref (n0 + 473)), some (.int (jI (b : Int))), some (.int (jI (k : Int))), some (.int (jI (x : Int))), some (.int (jI t)), some (.int (jI (i : Int)))] [] := by
    intro n
    induction n using Nat.strongRecOn with
    | ind n ih_loop =>
      intro i t hi ht hn
      refine w_iload X dX8_left_17 rfl ?_
      refine w_iload_n X dX8_left_19 rfl ?_
      refine w_icmp_ge X 61 dX8_left_20 (by decide) (fun c20_1 => ?_) (fun c20_1 => ?_)
      ·
        refine w_iload X dX8_left_61 rfl ?_
        refine s_iret X hr dX8_left_63 ?_
        refine ⟨rfl, rfl, ?_⟩
        rw [ht, show i = x by omega]
        unfold lf
        rw [hg, Int.toNat_natCast]
      ·
        refine w_iload X dX8_left_23 rfl ?_
        refine w_aload_n X dX8_left_25 rfl ?_
        refine w_iload_n X dX8_left_26 rfl ?_
        refine w_iload X dX8_left_27 rfl ?_
        refine s_callVi X _ (c_X8_mapped (l := l) (G := G) (n0 := n0) (by omega) (by omega) hgd.1) gM_X8_110 gI_yX8_mapped gS_yX8_mapped gN_X8 gC_yX8_mapped (by decide) (σ_473 G n0 _ _) rfl dX8_left_29 hl_yX8_mapped ⟨Nat.le_of_ble_eq_true rfl, Nat.le_of_ble_eq_true rfl⟩ (Nat.le_of_ble_eq_true rfl) rfl (fun r3 mi3 mr3 h3 => ?_)
        obtain ⟨rfl, rfl, h3⟩ := h3
        rw [hgd.2] at h3
        have hgi := rg9 i (by omega)
        refine w_aload_n X dX8_left_32 rfl ?_
        refine w_iload_n X dX8_left_33 rfl ?_
        refine w_iload_n X dX8_left_34 rfl ?_
        refine s_callVi X _ (c_X8_mapped (l := l) (G := G) (n0 := n0) (by omega) (by omega) hgd.1) gM_X8_110 gI_yX8_mapped gS_yX8_mapped gN_X8 gC_yX8_mapped (by decide) (σ_473 G n0 _ _) rfl dX8_left_35 hl_yX8_mapped ⟨Nat.le_of_ble_eq_true rfl, Nat.le_of_ble_eq_true rfl⟩ (Nat.le_of_ble_eq_true rfl) rfl (fun r4 mi4 mr4 h4 => ?_)
        obtain ⟨rfl, rfl, h4⟩ := h4
        rw [hgd.2] at h4
        refine w_icmp_ne X 51 dX8_left_38 (by decide) (fun c38_2 => ?_) (fun c38_2 => ?_)
        ·
          refine w_iconst X dX8_left_51 ?_
          refine w_isub X dX8_left_52 ?_
          refine w_ist6_4 X dX8_left_53 ?_
          refine w_iinc6_5 X dX8_left_55 ?_
          refine w_goto X 17 dX8_left_58 (by decide) ?_
          exact ih_loop _ (by omega) (i + 1) _ (by omega) (by rw [tl_a, ht]; rw [if_neg (by omega)]; omega) rfl
        ·
          refine w_aload_n X dX8_left_41 rfl ?_
          refine w_get X (by decide) (σ_473 G n0 _ _) rfl gW_X8 21 (by decide) gF_X8_53 rfl dX8_left_42 ?_
          refine w_iload X dX8_left_45 rfl ?_
          refine s_iald X (i) (by decide) (fun _ => σ_m5 G n0 _ _ (by decide)) dX8_left_47 ?_
          refine w_goto X 52 dX8_left_48 (by decide) ?_
          refine w_isub X dX8_left_52 ?_
          refine w_ist6_4 X dX8_left_53 ?_
          refine w_iinc6_5 X dX8_left_55 ?_
          refine w_goto X 17 dX8_left_58 (by decide) ?_
          exact ih_loop _ (by omega) (i + 1) _ (by omega) (by rw [tl_a, ht]; rw [if_pos (by omega)]; omega) rfl
  exact loop _ 0 _ (by omega) (by rw [h2]; show _ = _ - 0; rw [Int.sub_zero]) rfl
theorem dX8_counted_0 : decode cX8_counted 0 = .ok (.aload_n 0, 1) := by decide +kernel
theorem dX8_counted_1 : decode cX8_counted 1 = .ok (.getfield 7, 3) := by decide +kernel
theorem dX8_counted_4 : decode cX8_counted 4 = .ok (.iconst 1, 1) := by decide +kernel
theorem dX8_counted_5 : decode cX8_counted 5 = .ok (.isub, 1) := by decide +kernel
theorem dX8_counted_6 : decode cX8_counted 6 = .ok (.istore_n 3, 1) := by decide +kernel
theorem dX8_counted_7 : decode cX8_counted 7 = .ok (.iload_n 3, 1) := by decide +kernel
theorem dX8_counted_8 : decode cX8_counted 8 = .ok (.ifCond .lt 54, 3) := by decide +kernel
theorem dX8_counted_11 : decode cX8_counted 11 = .ok (.aload_n 0, 1) := by decide +kernel
theorem dX8_counted_12 : decode cX8_counted 12 = .ok (.iload_n 2, 1) := by decide +kernel
theorem dX8_counted_13 : decode cX8_counted 13 = .ok (.iload_n 3, 1) := by decide +kernel
theorem dX8_counted_14 : decode cX8_counted 14 = .ok (.invokevirtual 155, 3) := by decide +kernel
theorem dX8_counted_17 : decode cX8_counted 17 = .ok (.ifCond .ne 39, 3) := by decide +kernel
theorem dX8_counted_20 : decode cX8_counted 20 = .ok (.aload_n 0, 1) := by decide +kernel
theorem dX8_counted_21 : decode cX8_counted 21 = .ok (.iload_n 1, 1) := by decide +kernel
theorem dX8_counted_22 : decode cX8_counted 22 = .ok (.iload_n 2, 1) := by decide +kernel
theorem dX8_counted_23 : decode cX8_counted 23 = .ok (.iload_n 3, 1) := by decide +kernel
theorem dX8_counted_24 : decode cX8_counted 24 = .ok (.invokevirtual 159, 3) := by decide +kernel
theorem dX8_counted_27 : decode cX8_counted 27 = .ok (.aload_n 0, 1) := by decide +kernel
theorem dX8_counted_28 : decode cX8_counted 28 = .ok (.getfield 53, 3) := by decide +kernel
theorem dX8_counted_31 : decode cX8_counted 31 = .ok (.iload_n 3, 1) := by decide +kernel
theorem dX8_counted_32 : decode cX8_counted 32 = .ok (.iaload, 1) := by decide +kernel
theorem dX8_counted_33 : decode cX8_counted 33 = .ok (.isub, 1) := by decide +kernel
theorem dX8_counted_34 : decode cX8_counted 34 = .ok (.ifCond .le 15, 3) := by decide +kernel
theorem dX8_counted_37 : decode cX8_counted 37 = .ok (.aload_n 0, 1) := by decide +kernel
theorem dX8_counted_38 : decode cX8_counted 38 = .ok (.getfield 53, 3) := by decide +kernel
theorem dX8_counted_41 : decode cX8_counted 41 = .ok (.iload_n 3, 1) := by decide +kernel
theorem dX8_counted_42 : decode cX8_counted 42 = .ok (.dup2, 1) := by decide +kernel
theorem dX8_counted_43 : decode cX8_counted 43 = .ok (.iaload, 1) := by decide +kernel
theorem dX8_counted_44 : decode cX8_counted 44 = .ok (.iconst 1, 1) := by decide +kernel
theorem dX8_counted_45 : decode cX8_counted 45 = .ok (.iadd, 1) := by decide +kernel
theorem dX8_counted_46 : decode cX8_counted 46 = .ok (.iastore, 1) := by decide +kernel
theorem dX8_counted_47 : decode cX8_counted 47 = .ok (.iconst 1, 1) := by decide +kernel
theorem dX8_counted_48 : decode cX8_counted 48 = .ok (.ireturn, 1) := by decide +kernel
theorem dX8_counted_49 : decode cX8_counted 49 = .ok (.aload_n 0, 1) := by decide +kernel
theorem dX8_counted_50 : decode cX8_counted 50 = .ok (.getfield 53, 3) := by decide +kernel
theorem dX8_counted_53 : decode cX8_counted 53 = .ok (.iload_n 3, 1) := by decide +kernel
theorem dX8_counted_54 : decode cX8_counted 54 = .ok (.iconst 0, 1) := by decide +kernel
theorem dX8_counted_55 : decode cX8_counted 55 = .ok (.iastore, 1) := by decide +kernel
theorem dX8_counted_56 : decode cX8_counted 56 = .ok (.iinc 3 (-1), 3) := by decide +kernel
theorem dX8_counted_59 : decode cX8_counted 59 = .ok (.goto (-52), 3) := by decide +kernel
theorem dX8_counted_62 : decode cX8_counted 62 = .ok (.iconst 0, 1) := by decide +kernel
theorem dX8_counted_63 : decode cX8_counted 63 = .ok (.ireturn, 1) := by decide +kernel
theorem hl_yX8_counted : (yX8_counted.cls ≠ "java/lang/invoke/MethodHandle" ∧ yX8_counted.cls ≠ "java/lang/invoke/VarHandle") ∧ (parseMethodDescriptor yX8_counted.desc).map (fun d => d.parameters.length) = some 2 := by decide +kernel
set_option maxRecDepth 20000 in
set_option maxHeartbeats 4000000 in
theorem c_X8_counted {l : Launch} {G : Gt} {n0 : Nat} {mi : Nat → Nat → Int} {mr : Nat → Nat → Nat} {L : Lws} (hA : AB L) (hM : ML L mi) {k : Nat} (hk : (k : Int) < L.2.1) (h2 : L.2.2.2.1 k 1 = 2) {b : Nat} (hb : RB mi b) (hR : RS L.1 (L.2.2.2.1 k) (lk0 (L.2.2.2.1 k) (Ub mi b)) (mi 486)) : Ci l yX8_counted cX8_counted 4 .boolean 3 G n0 [.ref (n0 + 473), .int (jI (b : Int)), .int (jI (k : Int))] mi mr (fun r9 mi9 mr9 => CntP L.1 (L.2.2.2.1 k) (lk0 (L.2.2.2.1 k) (Ub mi b)) (mi 486) (mi9 486) r9 ∧ (∀ a, a ≠ 486 → mi9 a = mi a) ∧ mr = mr9) := by
  refine Ct_of (by decide +kernel) (by intro v hv; simp at hv; rcases hv with rfl | rfl | rfl <;> rfl) (Nat.le_of_ble_eq_true rfl) ?_
  intro p e s m args below meth c9 X hr hname
  show WW _ _ _ _ _ _ _ _ _ _ _ _ _ _ _ _ _ _ _ [some (.ref (n0 + 473)), some (.int (jI (b : Int))), some (.int (jI (k : Int))), none] _
  have hrc := hA.2.1
  have hsc := hA.1.1
  have hM1 := hM.1
  obtain ⟨r1, r2, r3, r4, r6, r7, rs, rg9⟩ := id (hA.1.2.1 k hk)
  obtain ⟨e1, e2, e3, e4, e5, e6, e7⟩ := ML_rule hM hk
  refine w_aload_n X dX8_counted_0 rfl ?_
  refine w_get X (by decide) (σ_473 G n0 _ _) rfl gW_X8 1 (by decide) gF_X8_7 rfl dX8_counted_1 ?_
  refine w_iconst X dX8_counted_4 ?_
  refine w_isub X dX8_counted_5 ?_
  refine w_ist4_3 X dX8_counted_6 ?_
  have loop : ∀ (n : Nat) (m1 : Nat → Nat → Int) (y : Nat), ((y : Int) ≤ L.1) → (∀ a, a ≠ 486 → m1 a = mi a) → (∀ j : Nat, j < 5 → m1 486 j = if y ≤ j then 0 else mi 486 j) → (∀ j : Nat, y ≤ j → (j : Int) < L.1 → ¬ lastG L.1 (L.2.2.2.1 k) j → lf (L.2.2.2.1 k) (lk0 (L.2.2.2.1 k) (Ub mi b)) (mi 486) j ≤ mi 486 j) → n = y → WSi p l e s m args below meth c9 3 (fun r9 mi9 mr9 => CntP L.1 (L.2.2.2.1 k) (lk0 (L.2.2.2.1 k) (Ub mi b)) (mi 486) (mi9 486) r9 ∧ (∀ a, a ≠ 486 → mi9 a = mi a) ∧ mr = mr9) G n0 4 m1 mr 7 [some (.ref (n0 + 473)), some (.int (jI (b : Int))), some (.int (jI (k : Int))), some (.int (jI ((y : Int) + -1)))] [] := by
    intro n
    induction n using Nat.strongRecOn with
    | ind n ih_loop =>
      intro m1 y hy hm hF hc hn
      refine w_iload_n X dX8_counted_7 rfl ?_
      refine w_if_lt X 62 dX8_counted_8 (by decide) (fun c8_1 => ?_) (fun c8_1 => ?_)
      ·
        refine w_iconst X dX8_counted_62 ?_
        refine s_zret X hr dX8_counted_63 (by omega) ?_
        exact ⟨Or.inr ⟨rfl, fun j a1 a2 => hc j (by omega) a1 a2⟩, hm, rfl⟩
      ·
        obtain ⟨i, rfl⟩ : ∃ i : Nat, y = i + 1 := ⟨y - 1, by omega⟩
        rw [show ((i + 1 : Nat) : Int) + -1 = (i : Int) by omega]
        have hMm : ML L m1 := ML_fr hM (by rw [hm 473 (by decide)]) (by rw [hm 473 (by decide)]) (by rw [hm 473 (by decide)]) (fun a h1 h2 => hm a (by omega))
        have hbm : RB m1 b := ⟨hb.1, fun j hj => by rw [hm 483 (by decide)]; exact hb.2 j hj⟩
        have hUm : Ub m1 b = Ub mi b := by funext j; unfold Ub; rw [hm 483 (by decide)]
        have hls := RS_lf hsc hR (i := i) (by omega)
        have hlk := Ub_lk hb (ρ := (L.2.2.2.1 k)) (x := (gol (L.2.2.2.1 k) i).toNat) (by have := rg9 i (by omega); omega)
        have hr0 := hR.1 i (by omega)
        have hmi : m1 486 i = mi 486 i := by rw [hF i (by omega), if_neg (by omega)]
        have hlf : lf (L.2.2.2.1 k) (lk0 (L.2.2.2.1 k) (Ub mi b)) (m1 486) i = lf (L.2.2.2.1 k) (lk0 (L.2.2.2.1 k) (Ub mi b)) (mi 486) i := by unfold lf; rw [tl_c i 0 (fun a _ a2 => by rw [hF a (by omega), if_neg (by omega)])]
        refine w_aload_n X dX8_counted_11 rfl ?_
        refine w_iload_n X dX8_counted_12 rfl ?_
        refine w_iload_n X dX8_counted_13 rfl ?_
        refine s_callVi X _ (c_X8_isLast (l := l) (G := G) (n0 := n0) hA hMm hk h2 (x := i) (by omega)) gM_X8_155 gI_yX8_isLast gS_yX8_isLast gN_X8 gC_yX8_isLast (by decide) (σ_473 G n0 _ _) rfl dX8_counted_14 hl_yX8_isLast ⟨Nat.le_of_ble_eq_true rfl, Nat.le_of_ble_eq_true rfl⟩ (Nat.le_of_ble_eq_true rfl) rfl (fun r1 mi1 mr1 h1 => ?_)
        obtain ⟨rfl, rfl, h1⟩ := h1
        have bl1 := flg_b h1
        refine w_if_ne X 56 dX8_counted_17 (by decide) (fun c17_2 => ?_) (fun c17_2 => ?_)
        ·
          refine w_iinc4_3 X dX8_counted_56 ?_
          refine w_goto X 7 dX8_counted_59 (by decide) ?_
          exact ih_loop _ (by omega) m1 i (by omega) hm (fun j hj => by
            rw [hF j hj]
            by_cases q : j = i
            · subst q; rw [if_neg (by omega), if_pos (by omega)]; exact hR.2.1 j hj (Or.inr (flg_1 h1 (by omega)))
            · by_cases q2 : i ≤ j
              · rw [if_pos (by omega), if_pos q2]
              · rw [if_neg (by omega), if_neg q2]) (fun j a1 a2 a3 => by
            by_cases q : j = i
            · subst q; exact absurd (flg_1 h1 (by omega)) a3
            · exact hc j (by omega) a2 a3) rfl
        ·
          refine w_aload_n X dX8_counted_20 rfl ?_
          refine w_iload_n X dX8_counted_21 rfl ?_
          refine w_iload_n X dX8_counted_22 rfl ?_
          refine w_iload_n X dX8_counted_23 rfl ?_
          refine s_callVi X _ (c_X8_left (l := l) (G := G) (n0 := n0) hA hMm hk h2 (x := i) (by omega) hbm) gM_X8_159 gI_yX8_left gS_yX8_left gN_X8 gC_yX8_left (by decide) (σ_473 G n0 _ _) rfl dX8_counted_24 hl_yX8_left ⟨Nat.le_of_ble_eq_true rfl, Nat.le_of_ble_eq_true rfl⟩ (Nat.le_of_ble_eq_true rfl) rfl (fun r2 mi2 mr2 h2 => ?_)
          obtain ⟨rfl, rfl, h2⟩ := h2
          rw [hUm, hlf] at h2
          rw [h2]
          refine w_aload_n X dX8_counted_27 rfl ?_
          refine w_get X (by decide) (σ_473 G n0 _ _) rfl gW_X8 21 (by decide) gF_X8_53 rfl dX8_counted_28 ?_
          refine w_iload_n X dX8_counted_31 rfl ?_
          refine s_iald X (i) (by decide) (fun _ => σ_m5 G n0 _ _ (by decide)) dX8_counted_32 ?_
          rw [hmi]
          refine w_isub X dX8_counted_33 ?_
          refine w_if_le X 49 dX8_counted_34 (by decide) (fun c34_3 => ?_) (fun c34_3 => ?_)
          ·
            refine w_aload_n X dX8_counted_49 rfl ?_
            refine w_get X (by decide) (σ_473 G n0 _ _) rfl gW_X8 21 (by decide) gF_X8_53 rfl dX8_counted_50 ?_
            refine w_iload_n X dX8_counted_53 rfl ?_
            refine w_iconst X dX8_counted_54 ?_
            refine s_iast X (i) (by decide) (fun _ => σ_m5 G n0 _ _ (by decide)) dX8_counted_55 ?_
            refine w_iinc4_3 X dX8_counted_56 ?_
            refine w_goto X 7 dX8_counted_59 (by decide) ?_
            exact ih_loop _ (by omega) _ i (by omega) (fun a ha => (up2_k _ _ _ _ ha).trans (hm a ha)) (fun j hj => by
              by_cases q : j = i
              · rw [q, up2_s, if_pos (Nat.le_refl _)]
              · rw [up2_j _ _ _ _ q, hF j hj]
                by_cases q2 : i ≤ j
                · rw [if_pos (by omega), if_pos q2]
                · rw [if_neg (by omega), if_neg q2]) (fun j a1 a2 a3 => by
              by_cases q : j = i
              · subst q; omega
              · exact hc j (by omega) a2 a3) rfl
          ·
            refine w_aload_n X dX8_counted_37 rfl ?_
            refine w_get X (by decide) (σ_473 G n0 _ _) rfl gW_X8 21 (by decide) gF_X8_53 rfl dX8_counted_38 ?_
            refine w_iload_n X dX8_counted_41 rfl ?_
            refine w_dup2 X dX8_counted_42 rfl rfl ?_
            refine s_iald X (i) (by decide) (fun _ => σ_m5 G n0 _ _ (by decide)) dX8_counted_43 ?_
            refine w_iconst X dX8_counted_44 ?_
            refine w_iadd X dX8_counted_45 ?_
            refine s_iast X (i) (by decide) (fun _ => σ_m5 G n0 _ _ (by decide)) dX8_counted_46 ?_
            refine w_iconst X dX8_counted_47 ?_
            refine s_zret X hr dX8_counted_48 (by omega) ?_
            refine ⟨Or.inl ⟨rfl, i, by omega, fun w => flg_0 h1 (by omega) w, by omega, fun j a1 a2 a3 => hc j (by omega) a2 a3, fun j hj => ?_⟩, fun a ha => (up2_k _ _ _ _ ha).trans (hm a ha), rfl⟩
            by_cases q : j = i
            · rw [if_pos q, q, up2_s, hmi]
            · rw [if_neg q, up2_j _ _ _ _ q, hF j hj]
              by_cases q2 : i < j
              · rw [if_pos (by omega), if_pos q2]
              · rw [if_neg (by omega), if_neg q2]
  rw [show mi 473 1 - 1 = (L.1.toNat : Int) + -1 by omega]
  exact loop _ mi L.1.toNat (by omega) (fun a _ => rfl) (fun j hj => by
    by_cases q : L.1.toNat ≤ j
    · rw [if_pos q]; exact hR.2.1 j hj (Or.inl (by omega))
    · rw [if_neg q]) (fun j h1 h2 => by omega) rfl
