theorem sh_l : ∀ n, n < 32 → ((nI n &&& 31).toBitVec.smod 32).toNat = n := by decide +kernel
section More
variable {p : Program} {l : Launch} {e : Env} {R : Room} {s : State} {m : MethodId} {args : Array Value} {below : List Frame} {meth : Method} {c : Code} {Q : State → Prop} {G : Gt} {n0 nL N : Nat} {f : Nat → va_E} {cells slots pc : Nat} {L : List (Option Value)} {st : List Value} {cc : ByteArray} {own : String}
theorem w_ishr (X : Cx G n0 p s m args meth c cc own nL) {a b : Int} (hd : decode cc pc = .ok (.ishr, 1)) (kk : WW p l e R s m args below meth c Q G n0 nL N f cells slots (pc + 1) L (.int (jI (a / 2 ^ b.toNat)) :: st)) (ha : 0 ≤ a ∧ a < 2147483648 := by omega) (hb : 0 ≤ b ∧ b < 31 := by omega) : WW p l e R s m args below meth c Q G n0 nL N f cells slots pc L (.int (jI b) :: .int (jI a) :: st) := fun H locs ls h1 h2 h3 => by
  obtain ⟨n, rfl⟩ := Int.eq_ofNat_of_zero_le ha.1
  obtain ⟨k, rfl⟩ := Int.eq_ofNat_of_zero_le hb.1
  have e : jI (n : Int) >>> (jI (k : Int) &&& 31) = jI ((n : Int) / 2 ^ (k : Int).toNat) := by
    rw [← nI_jI, ← nI_jI, pk_shrN (by omega) _ k (sh_l k (by omega)), nI_jI]
    simp
  refine lv_ishr X.1 X.2.1 hd ?_
  rw [e]; exact kk H locs ls h1 h2 h3
theorem w_iand1 (X : Cx G n0 p s m args meth c cc own nL) {a : Int} (hd : decode cc pc = .ok (.iand, 1)) (kk : WW p l e R s m args below meth c Q G n0 nL N f cells slots (pc + 1) L (.int (jI (a % 2)) :: st)) (ha : 0 ≤ a ∧ a < 2147483648 := by omega) : WW p l e R s m args below meth c Q G n0 nL N f cells slots pc L (.int (jI 1) :: .int (jI a) :: st) := fun H locs ls h1 h2 h3 => by
  obtain ⟨n, rfl⟩ := Int.eq_ofNat_of_zero_le ha.1
  have e : jI (n : Int) &&& jI 1 = jI ((n : Int) % 2) := by
    rw [← nI_jI, pk_andN (by omega) 1 (by decide), nI_jI]
    simp
  refine lv_iand X.1 X.2.1 hd ?_
  rw [e]; exact kk H locs ls h1 h2 h3
theorem w_ishl (X : Cx G n0 p s m args meth c cc own nL) {b : Int} (hd : decode cc pc = .ok (.ishl, 1)) (kk : WW p l e R s m args below meth c Q G n0 nL N f cells slots (pc + 1) L (.int (jI (2 ^ b.toNat)) :: st)) (hb : 1 ≤ b ∧ b ≤ 5 := by omega) : WW p l e R s m args below meth c Q G n0 nL N f cells slots pc L (.int (jI b) :: .int (jI 1) :: st) := fun H locs ls h1 h2 h3 => by
  have e : jI 1 <<< (jI b &&& 31) = jI (2 ^ b.toNat) := by
    rcases (show b = 1 ∨ b = 2 ∨ b = 3 ∨ b = 4 ∨ b = 5 by omega) with rfl | rfl | rfl | rfl | rfl <;> decide
  refine lv_ishl X.1 X.2.1 hd ?_
  rw [e]; exact kk H locs ls h1 h2 h3
end More
/-- the laws' places are in order -/
def LW (mi : Nat → Nat → Int) : Prop := (1 ≤ mi 1 3 ∧ mi 1 3 ≤ 5) ∧ (1 ≤ mi 1 4 ∧ mi 1 4 < 32) ∧ (0 ≤ mi 1 5 ∧ mi 1 5 ≤ 12) ∧ (0 ≤ mi 1 6 ∧ mi 1 6 ≤ 6) ∧ (∀ i : Nat, (i : Int) < mi 1 5 → RV (mi 1 3) mi (6 + 2 * i)) ∧ ∀ b : Nat, (b : Int) < mi 1 6 → CB mi (30 + 2 * b)
theorem LW_fr {mi mi' : Nat → Nat → Int} (h : LW mi) (h1 : ∀ a, a < 42 → a ≠ 4 → a ≠ 5 → mi' a = mi a) : LW mi' := by
  obtain ⟨g1, g2, g3, g4, g5, g6⟩ := h
  have e1 := h1 1 (by decide) (by decide) (by decide)
  unfold LW
  rw [e1]
  refine ⟨g1, g2, g3, g4, fun i hi => RV_fr (g5 i hi) (h1 _ (by omega) (by omega) (by omega)) (h1 _ (by omega) (by omega) (by omega)), fun b hb => CB_fr (g6 b hb) (h1 _ (by omega) (by omega) (by omega))⟩
def p10 (s : Int) : Int := if s = 1 then 10 else if s = 2 then 100 else if s = 3 then 1000 else if s = 4 then 10000 else 100000
def mapok (sc z : Int) : Prop := 0 ≤ z ∧ z < p10 sc ∧ ∀ j : Nat, (j : Int) < sc → z / 10 ^ j % 10 < sc
def btz (s : Int) (i : Nat) : Int := s / 2 ^ i % 2
def inst (s : Int) (v : Nat → Int) (sc : Int) : Prop := ∀ j : Nat, (j : Int) < sc → v j ≤ 0 ∨ btz s j = 1
noncomputable def cnt (P : Nat → Prop) : Nat → Int
  | 0 => 0
  | n + 1 => cnt P n + @ite _ (P n) (Classical.propDecidable _) 1 0
theorem cnt_t {P : Nat → Prop} {n : Nat} (h : P n) : cnt P (n + 1) = cnt P n + 1 := by
  show cnt P n + @ite _ (P n) (Classical.propDecidable _) 1 0 = _
  rw [if_pos h]
theorem cnt_f {P : Nat → Prop} {n : Nat} (h : ¬ P n) : cnt P (n + 1) = cnt P n := by
  show cnt P n + @ite _ (P n) (Classical.propDecidable _) 1 0 = _
  rw [if_neg h, Int.add_zero]
theorem cnt_b (P : Nat → Prop) : ∀ n : Nat, 0 ≤ cnt P n ∧ cnt P n ≤ n
  | 0 => ⟨Int.le_refl _, Int.le_refl _⟩
  | n + 1 => by
    have h := cnt_b P n
    by_cases q : P n
    · rw [cnt_t q]; omega
    · rw [cnt_f q]; omega
theorem cnt_c {P Q : Nat → Prop} : ∀ {n : Nat}, (∀ j, j < n → (P j ↔ Q j)) → cnt P n = cnt Q n
  | 0, _ => rfl
  | n + 1, h => by
    have h1 := cnt_c (n := n) (fun j hj => h j (by omega))
    by_cases q : P n
    · rw [cnt_t q, cnt_t ((h n (by omega)).mp q), h1]
    · rw [cnt_f q, cnt_f (fun w => q ((h n (by omega)).mpr w)), h1]
theorem dX2_of_0 : decode cX2_of 0 = .ok (.iload_n 1, 1) := by decide +kernel
theorem dX2_of_1 : decode cX2_of 1 = .ok (.bipush 12, 2) := by decide +kernel
theorem dX2_of_3 : decode cX2_of 3 = .ok (.imul, 1) := by decide +kernel
theorem dX2_of_4 : decode cX2_of 4 = .ok (.iload_n 2, 1) := by decide +kernel
theorem dX2_of_5 : decode cX2_of 5 = .ok (.iadd, 1) := by decide +kernel
theorem dX2_of_6 : decode cX2_of 6 = .ok (.istore_n 3, 1) := by decide +kernel
theorem dX2_of_7 : decode cX2_of 7 = .ok (.iload_n 3, 1) := by decide +kernel
theorem dX2_of_8 : decode cX2_of 8 = .ok (.ifCond .lt 21, 3) := by decide +kernel
theorem dX2_of_11 : decode cX2_of 11 = .ok (.iload_n 3, 1) := by decide +kernel
theorem dX2_of_12 : decode cX2_of 12 = .ok (.aload_n 0, 1) := by decide +kernel
theorem dX2_of_13 : decode cX2_of 13 = .ok (.getfield 9, 3) := by decide +kernel
theorem dX2_of_16 : decode cX2_of 16 = .ok (.arraylength, 1) := by decide +kernel
theorem dX2_of_17 : decode cX2_of 17 = .ok (.if_icmp .ge 12, 3) := by decide +kernel
theorem dX2_of_20 : decode cX2_of 20 = .ok (.aload_n 0, 1) := by decide +kernel
theorem dX2_of_21 : decode cX2_of 21 = .ok (.getfield 9, 3) := by decide +kernel
theorem dX2_of_24 : decode cX2_of 24 = .ok (.iload_n 3, 1) := by decide +kernel
theorem dX2_of_25 : decode cX2_of 25 = .ok (.iaload, 1) := by decide +kernel
theorem dX2_of_26 : decode cX2_of 26 = .ok (.goto 5, 3) := by decide +kernel
theorem dX2_of_29 : decode cX2_of 29 = .ok (.bipush (-9), 2) := by decide +kernel
theorem dX2_of_31 : decode cX2_of 31 = .ok (.ireturn, 1) := by decide +kernel
theorem dX2_set_0 : decode cX2_set 0 = .ok (.iload_n 1, 1) := by decide +kernel
theorem dX2_set_1 : decode cX2_set 1 = .ok (.bipush 12, 2) := by decide +kernel
theorem dX2_set_3 : decode cX2_set 3 = .ok (.imul, 1) := by decide +kernel
theorem dX2_set_4 : decode cX2_set 4 = .ok (.iload_n 2, 1) := by decide +kernel
theorem dX2_set_5 : decode cX2_set 5 = .ok (.iadd, 1) := by decide +kernel
theorem dX2_set_6 : decode cX2_set 6 = .ok (.istore 4, 2) := by decide +kernel
theorem dX2_set_8 : decode cX2_set 8 = .ok (.iload 4, 2) := by decide +kernel
theorem dX2_set_10 : decode cX2_set 10 = .ok (.ifCond .lt 21, 3) := by decide +kernel
theorem dX2_set_13 : decode cX2_set 13 = .ok (.iload 4, 2) := by decide +kernel
theorem dX2_set_15 : decode cX2_set 15 = .ok (.aload_n 0, 1) := by decide +kernel
theorem dX2_set_16 : decode cX2_set 16 = .ok (.getfield 9, 3) := by decide +kernel
theorem dX2_set_19 : decode cX2_set 19 = .ok (.arraylength, 1) := by decide +kernel
theorem dX2_set_20 : decode cX2_set 20 = .ok (.if_icmp .ge 11, 3) := by decide +kernel
theorem dX2_set_23 : decode cX2_set 23 = .ok (.aload_n 0, 1) := by decide +kernel
theorem dX2_set_24 : decode cX2_set 24 = .ok (.getfield 9, 3) := by decide +kernel
theorem dX2_set_27 : decode cX2_set 27 = .ok (.iload 4, 2) := by decide +kernel
theorem dX2_set_29 : decode cX2_set 29 = .ok (.iload_n 3, 1) := by decide +kernel
theorem dX2_set_30 : decode cX2_set 30 = .ok (.iastore, 1) := by decide +kernel
theorem dX2_set_31 : decode cX2_set 31 = .ok (.return_, 1) := by decide +kernel
theorem hl_yX2_of : (yX2_of.cls ≠ "java/lang/invoke/MethodHandle" ∧ yX2_of.cls ≠ "java/lang/invoke/VarHandle") ∧ (parseMethodDescriptor yX2_of.desc).map (fun d => d.parameters.length) = some 2 := by decide +kernel
theorem hl_yX2_set : (yX2_set.cls ≠ "java/lang/invoke/MethodHandle" ∧ yX2_set.cls ≠ "java/lang/invoke/VarHandle") ∧ (parseMethodDescriptor yX2_set.desc).map (fun d => d.parameters.length) = some 3 := by decide +kernel
set_option maxRecDepth 20000 in
set_option maxHeartbeats 4000000 in
theorem c_X2_of_s {l : Launch} {G : Gt} {n0 : Nat} {mi : Nat → Nat → Int} {mr : Nat → Nat → Nat} {a b : Int} (hz : rg (a * 12 + b)) : Ci l yX2_of cX2_of 4 .int 1 G n0 [.ref (n0 + 45), .int (jI a), .int (jI b)] mi mr (fun r9 mi9 mr9 => mi = mi9 ∧ mr = mr9 ∧ r9 = if 0 ≤ a * 12 + b ∧ a * 12 + b < 1200 then mi 46 (a * 12 + b).toNat else -9) := by
  refine Ct_of (by decide +kernel) (by intro v hv; simp at hv; rcases hv with rfl | rfl | rfl <;> rfl) (Nat.le_of_ble_eq_true rfl) ?_
  intro p e s m args below meth c9 X hr hname
  show WW _ _ _ _ _ _ _ _ _ _ _ _ _ _ _ _ _ _ _ [some (.ref (n0 + 45)), some (.int (jI a)), some (.int (jI b)), none] _
  refine w_iload_n X dX2_of_0 rfl ?_
  refine w_bipush X dX2_of_1 rfl ?_
  refine w_imul X dX2_of_3 ?_
  refine w_iload_n X dX2_of_4 rfl ?_
  refine w_iadd X dX2_of_5 ?_
  refine w_ist4_3 X dX2_of_6 ?_
  refine w_iload_n X dX2_of_7 rfl ?_
  refine w_if_lt X 29 dX2_of_8 (by decide) (fun c8_1 => ?_) (fun c8_1 => ?_)
  ·
    refine w_bipush X dX2_of_29 rfl ?_
    refine s_iret X hr dX2_of_31 ?_
    first | exact ⟨rfl, rfl, by rw [if_pos ⟨by omega, by omega⟩]⟩ | exact ⟨rfl, rfl, by rw [if_neg (by omega)]⟩
  ·
    refine w_iload_n X dX2_of_11 rfl ?_
    refine w_aload_n X dX2_of_12 rfl ?_
    refine w_get X (by decide) (σ_45 G n0 _ _) rfl gW_X2 0 (by decide) gF_X2_9 rfl dX2_of_13 ?_
    refine w_alen X (t := 0) (by decide) (σ_46 G n0 _ _) rfl dX2_of_16 ?_
    refine s_alen (b := 1200) rfl ?_
    refine w_icmp_ge X 29 dX2_of_17 (by decide) (fun c17_2 => ?_) (fun c17_2 => ?_)
    ·
      refine w_bipush X dX2_of_29 rfl ?_
      refine s_iret X hr dX2_of_31 ?_
      first | exact ⟨rfl, rfl, by rw [if_pos ⟨by omega, by omega⟩]⟩ | exact ⟨rfl, rfl, by rw [if_neg (by omega)]⟩
    ·
      refine w_aload_n X dX2_of_20 rfl ?_
      refine w_get X (by decide) (σ_45 G n0 _ _) rfl gW_X2 0 (by decide) gF_X2_9 rfl dX2_of_21 ?_
      refine w_iload_n X dX2_of_24 rfl ?_
      refine s_iald X _ (by decide) (fun _ => σ_46 G n0 _ _) dX2_of_25 ?_ (hj := rfl)
      refine w_goto X 31 dX2_of_26 (by decide) ?_
      refine s_iret X hr dX2_of_31 ?_
      first | exact ⟨rfl, rfl, by rw [if_pos ⟨by omega, by omega⟩]⟩ | exact ⟨rfl, rfl, by rw [if_neg (by omega)]⟩
set_option maxRecDepth 20000 in
set_option maxHeartbeats 4000000 in
theorem c_X2_set_s {l : Launch} {G : Gt} {n0 : Nat} {mi : Nat → Nat → Int} {mr : Nat → Nat → Nat} {a b z : Int} (hz : rg (a * 12 + b)) : Cv l yX2_set cX2_set 5 1 G n0 [.ref (n0 + 45), .int (jI a), .int (jI b), .int (jI z)] mi mr (fun mi9 mr9 => (if 0 ≤ a * 12 + b ∧ a * 12 + b < 1200 then up2 mi 46 (a * 12 + b).toNat z else mi) = mi9 ∧ mr = mr9) := by
  refine Ct_of (by decide +kernel) (by intro v hv; simp at hv; rcases hv with rfl | rfl | rfl | rfl <;> rfl) (Nat.le_of_ble_eq_true rfl) ?_
  intro p e s m args below meth c9 X hr hname
  show WW _ _ _ _ _ _ _ _ _ _ _ _ _ _ _ _ _ _ _ [some (.ref (n0 + 45)), some (.int (jI a)), some (.int (jI b)), some (.int (jI z)), none] _
  refine w_iload_n X dX2_set_0 rfl ?_
  refine w_bipush X dX2_set_1 rfl ?_
  refine w_imul X dX2_set_3 ?_
  refine w_iload_n X dX2_set_4 rfl ?_
  refine w_iadd X dX2_set_5 ?_
  refine w_ist5_4 X dX2_set_6 ?_
  refine w_iload X dX2_set_8 rfl ?_
  refine w_if_lt X 31 dX2_set_10 (by decide) (fun c10_1 => ?_) (fun c10_1 => ?_)
  ·
    refine s_vret X hr dX2_set_31 ?_
    first | exact ⟨by rw [if_pos ⟨by omega, by omega⟩], rfl⟩ | exact ⟨by rw [if_neg (by omega)], rfl⟩
  ·
    refine w_iload X dX2_set_13 rfl ?_
    refine w_aload_n X dX2_set_15 rfl ?_
    refine w_get X (by decide) (σ_45 G n0 _ _) rfl gW_X2 0 (by decide) gF_X2_9 rfl dX2_set_16 ?_
    refine w_alen X (t := 0) (by decide) (σ_46 G n0 _ _) rfl dX2_set_19 ?_
    refine s_alen (b := 1200) rfl ?_
    refine w_icmp_ge X 31 dX2_set_20 (by decide) (fun c20_2 => ?_) (fun c20_2 => ?_)
    ·
      refine s_vret X hr dX2_set_31 ?_
      first | exact ⟨by rw [if_pos ⟨by omega, by omega⟩], rfl⟩ | exact ⟨by rw [if_neg (by omega)], rfl⟩
    ·
      refine w_aload_n X dX2_set_23 rfl ?_
      refine w_get X (by decide) (σ_45 G n0 _ _) rfl gW_X2 0 (by decide) gF_X2_9 rfl dX2_set_24 ?_
      refine w_iload X dX2_set_27 rfl ?_
      refine w_iload_n X dX2_set_29 rfl ?_
      refine s_iast X _ (by decide) (fun _ => σ_46 G n0 _ _) dX2_set_30 ?_ (hj := rfl)
      refine s_vret X hr dX2_set_31 ?_
      first | exact ⟨by rw [if_pos ⟨by omega, by omega⟩], rfl⟩ | exact ⟨by rw [if_neg (by omega)], rfl⟩
set_option maxRecDepth 20000 in
set_option maxHeartbeats 4000000 in
theorem c_X2_of_g {l : Launch} {G : Gt} {n0 : Nat} {mi : Nat → Nat → Int} {mr : Nat → Nat → Nat} {a b : Int} (hz : rg (a * 12 + b)) : Ci l yX2_of cX2_of 4 .int 1 G n0 [.ref (n0 + 469), .int (jI a), .int (jI b)] mi mr (fun r9 mi9 mr9 => mi = mi9 ∧ mr = mr9 ∧ r9 = if 0 ≤ a * 12 + b ∧ a * 12 + b < 5940 then mi 470 (a * 12 + b).toNat else -9) := by
  refine Ct_of (by decide +kernel) (by intro v hv; simp at hv; rcases hv with rfl | rfl | rfl <;> rfl) (Nat.le_of_ble_eq_true rfl) ?_
  intro p e s m args below meth c9 X hr hname
  show WW _ _ _ _ _ _ _ _ _ _ _ _ _ _ _ _ _ _ _ [some (.ref (n0 + 469)), some (.int (jI a)), some (.int (jI b)), none] _
  refine w_iload_n X dX2_of_0 rfl ?_
  refine w_bipush X dX2_of_1 rfl ?_
  refine w_imul X dX2_of_3 ?_
  refine w_iload_n X dX2_of_4 rfl ?_
  refine w_iadd X dX2_of_5 ?_
  refine w_ist4_3 X dX2_of_6 ?_
  refine w_iload_n X dX2_of_7 rfl ?_
  refine w_if_lt X 29 dX2_of_8 (by decide) (fun c8_1 => ?_) (fun c8_1 => ?_)
  ·
    refine w_bipush X dX2_of_29 rfl ?_
    refine s_iret X hr dX2_of_31 ?_
    first | exact ⟨rfl, rfl, by rw [if_pos ⟨by omega, by omega⟩]⟩ | exact ⟨rfl, rfl, by rw [if_neg (by omega)]⟩
  ·
    refine w_iload_n X dX2_of_11 rfl ?_
    refine w_aload_n X dX2_of_12 rfl ?_
    refine w_get X (by decide) (σ_469 G n0 _ _) rfl gW_X2 0 (by decide) gF_X2_9 rfl dX2_of_13 ?_
    refine w_alen X (t := 0) (by decide) (σ_470 G n0 _ _) rfl dX2_of_16 ?_
    refine s_alen (b := 5940) rfl ?_
    refine w_icmp_ge X 29 dX2_of_17 (by decide) (fun c17_2 => ?_) (fun c17_2 => ?_)
    ·
      refine w_bipush X dX2_of_29 rfl ?_
      refine s_iret X hr dX2_of_31 ?_
      first | exact ⟨rfl, rfl, by rw [if_pos ⟨by omega, by omega⟩]⟩ | exact ⟨rfl, rfl, by rw [if_neg (by omega)]⟩
    ·
      refine w_aload_n X dX2_of_20 rfl ?_
      refine w_get X (by decide) (σ_469 G n0 _ _) rfl gW_X2 0 (by decide) gF_X2_9 rfl dX2_of_21 ?_
      refine w_iload_n X dX2_of_24 rfl ?_
      refine s_iald X _ (by decide) (fun _ => σ_470 G n0 _ _) dX2_of_25 ?_ (hj := rfl)
      refine w_goto X 31 dX2_of_26 (by decide) ?_
      refine s_iret X hr dX2_of_31 ?_
      first | exact ⟨rfl, rfl, by rw [if_pos ⟨by omega, by omega⟩]⟩ | exact ⟨rfl, rfl, by rw [if_neg (by omega)]⟩
set_option maxRecDepth 20000 in
set_option maxHeartbeats 4000000 in
theorem c_X2_set_g {l : Launch} {G : Gt} {n0 : Nat} {mi : Nat → Nat → Int} {mr : Nat → Nat → Nat} {a b z : Int} (hz : rg (a * 12 + b)) : Cv l yX2_set cX2_set 5 1 G n0 [.ref (n0 + 469), .int (jI a), .int (jI b), .int (jI z)] mi mr (fun mi9 mr9 => (if 0 ≤ a * 12 + b ∧ a * 12 + b < 5940 then up2 mi 470 (a * 12 + b).toNat z else mi) = mi9 ∧ mr = mr9) := by
  refine Ct_of (by decide +kernel) (by intro v hv; simp at hv; rcases hv with rfl | rfl | rfl | rfl <;> rfl) (Nat.le_of_ble_eq_true rfl) ?_
  intro p e s m args below meth c9 X hr hname
  show WW _ _ _ _ _ _ _ _ _ _ _ _ _ _ _ _ _ _ _ [some (.ref (n0 + 469)), some (.int (jI a)), some (.int (jI b)), some (.int (jI z)), none] _
  refine w_iload_n X dX2_set_0 rfl ?_
  refine w_bipush X dX2_set_1 rfl ?_
  refine w_imul X dX2_set_3 ?_
  refine w_iload_n X dX2_set_4 rfl ?_
  refine w_iadd X dX2_set_5 ?_
  refine w_ist5_4 X dX2_set_6 ?_
  refine w_iload X dX2_set_8 rfl ?_
  refine w_if_lt X 31 dX2_set_10 (by decide) (fun c10_1 => ?_) (fun c10_1 => ?_)
  ·
    refine s_vret X hr dX2_set_31 ?_
    first | exact ⟨by rw [if_pos ⟨by omega, by omega⟩], rfl⟩ | exact ⟨by rw [if_neg (by omega)], rfl⟩
  ·
    refine w_iload X dX2_set_13 rfl ?_
    refine w_aload_n X dX2_set_15 rfl ?_
    refine w_get X (by decide) (σ_469 G n0 _ _) rfl gW_X2 0 (by decide) gF_X2_9 rfl dX2_set_16 ?_
    refine w_alen X (t := 0) (by decide) (σ_470 G n0 _ _) rfl dX2_set_19 ?_
    refine s_alen (b := 5940) rfl ?_
    refine w_icmp_ge X 31 dX2_set_20 (by decide) (fun c20_2 => ?_) (fun c20_2 => ?_)
    ·
      refine s_vret X hr dX2_set_31 ?_
      first | exact ⟨by rw [if_pos ⟨by omega, by omega⟩], rfl⟩ | exact ⟨by rw [if_neg (by omega)], rfl⟩
    ·
      refine w_aload_n X dX2_set_23 rfl ?_
      refine w_get X (by decide) (σ_469 G n0 _ _) rfl gW_X2 0 (by decide) gF_X2_9 rfl dX2_set_24 ?_
      refine w_iload X dX2_set_27 rfl ?_
      refine w_iload_n X dX2_set_29 rfl ?_
      refine s_iast X _ (by decide) (fun _ => σ_470 G n0 _ _) dX2_set_30 ?_ (hj := rfl)
      refine s_vret X hr dX2_set_31 ?_
      first | exact ⟨by rw [if_pos ⟨by omega, by omega⟩], rfl⟩ | exact ⟨by rw [if_neg (by omega)], rfl⟩
theorem dX5_begin_0 : decode cX5_begin 0 = .ok (.aload_n 0, 1) := by decide +kernel
theorem dX5_begin_1 : decode cX5_begin 1 = .ok (.iload_n 1, 1) := by decide +kernel
theorem dX5_begin_2 : decode cX5_begin 2 = .ok (.putfield 28, 3) := by decide +kernel
theorem dX5_begin_5 : decode cX5_begin 5 = .ok (.aload_n 0, 1) := by decide +kernel
theorem dX5_begin_6 : decode cX5_begin 6 = .ok (.iconst 1, 1) := by decide +kernel
theorem dX5_begin_7 : decode cX5_begin 7 = .ok (.putfield 32, 3) := by decide +kernel
theorem dX5_begin_10 : decode cX5_begin 10 = .ok (.aload_n 0, 1) := by decide +kernel
theorem dX5_begin_11 : decode cX5_begin 11 = .ok (.iconst 0, 1) := by decide +kernel
theorem dX5_begin_12 : decode cX5_begin 12 = .ok (.putfield 35, 3) := by decide +kernel
theorem dX5_begin_15 : decode cX5_begin 15 = .ok (.aload_n 0, 1) := by decide +kernel
theorem dX5_begin_16 : decode cX5_begin 16 = .ok (.iconst 0, 1) := by decide +kernel
theorem dX5_begin_17 : decode cX5_begin 17 = .ok (.putfield 38, 3) := by decide +kernel
theorem dX5_begin_20 : decode cX5_begin 20 = .ok (.return_, 1) := by decide +kernel
theorem dX5_isState_0 : decode cX5_isState 0 = .ok (.iload_n 1, 1) := by decide +kernel
theorem dX5_isState_1 : decode cX5_isState 1 = .ok (.ifCond .lt 15, 3) := by decide +kernel
theorem dX5_isState_4 : decode cX5_isState 4 = .ok (.iload_n 1, 1) := by decide +kernel
theorem dX5_isState_5 : decode cX5_isState 5 = .ok (.aload_n 0, 1) := by decide +kernel
theorem dX5_isState_6 : decode cX5_isState 6 = .ok (.getfield 28, 3) := by decide +kernel
theorem dX5_isState_9 : decode cX5_isState 9 = .ok (.if_icmp .ge 7, 3) := by decide +kernel
theorem dX5_isState_12 : decode cX5_isState 12 = .ok (.iconst 1, 1) := by decide +kernel
theorem dX5_isState_13 : decode cX5_isState 13 = .ok (.goto 4, 3) := by decide +kernel
theorem dX5_isState_16 : decode cX5_isState 16 = .ok (.iconst 0, 1) := by decide +kernel
theorem dX5_isState_17 : decode cX5_isState 17 = .ok (.ireturn, 1) := by decide +kernel
theorem dX5_isRule_0 : decode cX5_isRule 0 = .ok (.iload_n 1, 1) := by decide +kernel
theorem dX5_isRule_1 : decode cX5_isRule 1 = .ok (.ifCond .lt 24, 3) := by decide +kernel
theorem dX5_isRule_4 : decode cX5_isRule 4 = .ok (.iload_n 1, 1) := by decide +kernel
theorem dX5_isRule_5 : decode cX5_isRule 5 = .ok (.aload_n 0, 1) := by decide +kernel
theorem dX5_isRule_6 : decode cX5_isRule 6 = .ok (.getfield 35, 3) := by decide +kernel
theorem dX5_isRule_9 : decode cX5_isRule 9 = .ok (.if_icmp .ge 16, 3) := by decide +kernel
theorem dX5_isRule_12 : decode cX5_isRule 12 = .ok (.iload_n 1, 1) := by decide +kernel
theorem dX5_isRule_13 : decode cX5_isRule 13 = .ok (.aload_n 0, 1) := by decide +kernel
theorem dX5_isRule_14 : decode cX5_isRule 14 = .ok (.getfield 11, 3) := by decide +kernel
theorem dX5_isRule_17 : decode cX5_isRule 17 = .ok (.arraylength, 1) := by decide +kernel
theorem dX5_isRule_18 : decode cX5_isRule 18 = .ok (.if_icmp .ge 7, 3) := by decide +kernel
theorem dX5_isRule_21 : decode cX5_isRule 21 = .ok (.iconst 1, 1) := by decide +kernel
theorem dX5_isRule_22 : decode cX5_isRule 22 = .ok (.goto 4, 3) := by decide +kernel
theorem dX5_isRule_25 : decode cX5_isRule 25 = .ok (.iconst 0, 1) := by decide +kernel
theorem dX5_isRule_26 : decode cX5_isRule 26 = .ok (.ireturn, 1) := by decide +kernel
theorem dX5_hasFewDigits_0 : decode cX5_hasFewDigits 0 = .ok (.iload_n 1, 1) := by decide +kernel
theorem dX5_hasFewDigits_1 : decode cX5_hasFewDigits 1 = .ok (.istore_n 2, 1) := by decide +kernel
theorem dX5_hasFewDigits_2 : decode cX5_hasFewDigits 2 = .ok (.iconst 0, 1) := by decide +kernel
theorem dX5_hasFewDigits_3 : decode cX5_hasFewDigits 3 = .ok (.istore_n 3, 1) := by decide +kernel
theorem dX5_hasFewDigits_4 : decode cX5_hasFewDigits 4 = .ok (.iload_n 3, 1) := by decide +kernel
theorem dX5_hasFewDigits_5 : decode cX5_hasFewDigits 5 = .ok (.aload_n 0, 1) := by decide +kernel
theorem dX5_hasFewDigits_6 : decode cX5_hasFewDigits 6 = .ok (.getfield 28, 3) := by decide +kernel
theorem dX5_hasFewDigits_9 : decode cX5_hasFewDigits 9 = .ok (.if_icmp .ge 14, 3) := by decide +kernel
theorem dX5_hasFewDigits_12 : decode cX5_hasFewDigits 12 = .ok (.iload_n 2, 1) := by decide +kernel
theorem dX5_hasFewDigits_13 : decode cX5_hasFewDigits 13 = .ok (.bipush 10, 2) := by decide +kernel
theorem dX5_hasFewDigits_15 : decode cX5_hasFewDigits 15 = .ok (.idiv, 1) := by decide +kernel
theorem dX5_hasFewDigits_16 : decode cX5_hasFewDigits 16 = .ok (.istore_n 2, 1) := by decide +kernel
theorem dX5_hasFewDigits_17 : decode cX5_hasFewDigits 17 = .ok (.iinc 3 1, 3) := by decide +kernel
theorem dX5_hasFewDigits_20 : decode cX5_hasFewDigits 20 = .ok (.goto (-16), 3) := by decide +kernel
theorem dX5_hasFewDigits_23 : decode cX5_hasFewDigits 23 = .ok (.iload_n 2, 1) := by decide +kernel
theorem dX5_hasFewDigits_24 : decode cX5_hasFewDigits 24 = .ok (.ifCond .ne 7, 3) := by decide +kernel
theorem dX5_hasFewDigits_27 : decode cX5_hasFewDigits 27 = .ok (.iconst 1, 1) := by decide +kernel
theorem dX5_hasFewDigits_28 : decode cX5_hasFewDigits 28 = .ok (.goto 4, 3) := by decide +kernel
theorem dX5_hasFewDigits_31 : decode cX5_hasFewDigits 31 = .ok (.iconst 0, 1) := by decide +kernel
theorem dX5_hasFewDigits_32 : decode cX5_hasFewDigits 32 = .ok (.ireturn, 1) := by decide +kernel
theorem dX5_isMap_0 : decode cX5_isMap 0 = .ok (.iload_n 1, 1) := by decide +kernel
theorem dX5_isMap_1 : decode cX5_isMap 1 = .ok (.ifCond .lt 11, 3) := by decide +kernel
theorem dX5_isMap_4 : decode cX5_isMap 4 = .ok (.aload_n 0, 1) := by decide +kernel
theorem dX5_isMap_5 : decode cX5_isMap 5 = .ok (.iload_n 1, 1) := by decide +kernel
theorem dX5_isMap_6 : decode cX5_isMap 6 = .ok (.invokevirtual 42, 3) := by decide +kernel
theorem dX5_isMap_9 : decode cX5_isMap 9 = .ok (.ifCond .ne 5, 3) := by decide +kernel
theorem dX5_isMap_12 : decode cX5_isMap 12 = .ok (.iconst 0, 1) := by decide +kernel
theorem dX5_isMap_13 : decode cX5_isMap 13 = .ok (.ireturn, 1) := by decide +kernel
theorem dX5_isMap_14 : decode cX5_isMap 14 = .ok (.iload_n 1, 1) := by decide +kernel
theorem dX5_isMap_15 : decode cX5_isMap 15 = .ok (.istore_n 2, 1) := by decide +kernel
theorem dX5_isMap_16 : decode cX5_isMap 16 = .ok (.iconst 0, 1) := by decide +kernel
theorem dX5_isMap_17 : decode cX5_isMap 17 = .ok (.istore_n 3, 1) := by decide +kernel
theorem dX5_isMap_18 : decode cX5_isMap 18 = .ok (.iload_n 3, 1) := by decide +kernel
theorem dX5_isMap_19 : decode cX5_isMap 19 = .ok (.aload_n 0, 1) := by decide +kernel
theorem dX5_isMap_20 : decode cX5_isMap 20 = .ok (.getfield 28, 3) := by decide +kernel
theorem dX5_isMap_23 : decode cX5_isMap 23 = .ok (.if_icmp .ge 27, 3) := by decide +kernel
theorem dX5_isMap_26 : decode cX5_isMap 26 = .ok (.aload_n 0, 1) := by decide +kernel
theorem dX5_isMap_27 : decode cX5_isMap 27 = .ok (.iload_n 2, 1) := by decide +kernel
theorem dX5_isMap_28 : decode cX5_isMap 28 = .ok (.bipush 10, 2) := by decide +kernel
theorem dX5_isMap_30 : decode cX5_isMap 30 = .ok (.irem, 1) := by decide +kernel
theorem dX5_isMap_31 : decode cX5_isMap 31 = .ok (.invokevirtual 46, 3) := by decide +kernel
theorem dX5_isMap_34 : decode cX5_isMap 34 = .ok (.ifCond .ne 5, 3) := by decide +kernel
theorem dX5_isMap_37 : decode cX5_isMap 37 = .ok (.iconst 0, 1) := by decide +kernel
theorem dX5_isMap_38 : decode cX5_isMap 38 = .ok (.ireturn, 1) := by decide +kernel
theorem dX5_isMap_39 : decode cX5_isMap 39 = .ok (.iload_n 2, 1) := by decide +kernel
theorem dX5_isMap_40 : decode cX5_isMap 40 = .ok (.bipush 10, 2) := by decide +kernel
theorem dX5_isMap_42 : decode cX5_isMap 42 = .ok (.idiv, 1) := by decide +kernel
theorem dX5_isMap_43 : decode cX5_isMap 43 = .ok (.istore_n 2, 1) := by decide +kernel
theorem dX5_isMap_44 : decode cX5_isMap 44 = .ok (.iinc 3 1, 3) := by decide +kernel
theorem dX5_isMap_47 : decode cX5_isMap 47 = .ok (.goto (-29), 3) := by decide +kernel
theorem dX5_isMap_50 : decode cX5_isMap 50 = .ok (.iconst 1, 1) := by decide +kernel
theorem dX5_isMap_51 : decode cX5_isMap 51 = .ok (.ireturn, 1) := by decide +kernel
theorem dX5_addBad_0 : decode cX5_addBad 0 = .ok (.aload_n 0, 1) := by decide +kernel
theorem dX5_addBad_1 : decode cX5_addBad 1 = .ok (.getfield 38, 3) := by decide +kernel
theorem dX5_addBad_4 : decode cX5_addBad 4 = .ok (.aload_n 0, 1) := by decide +kernel
theorem dX5_addBad_5 : decode cX5_addBad 5 = .ok (.getfield 19, 3) := by decide +kernel
theorem dX5_addBad_8 : decode cX5_addBad 8 = .ok (.arraylength, 1) := by decide +kernel
theorem dX5_addBad_9 : decode cX5_addBad 9 = .ok (.if_icmp .ge 26, 3) := by decide +kernel
theorem dX5_addBad_12 : decode cX5_addBad 12 = .ok (.aload_n 0, 1) := by decide +kernel
theorem dX5_addBad_13 : decode cX5_addBad 13 = .ok (.getfield 19, 3) := by decide +kernel
theorem dX5_addBad_16 : decode cX5_addBad 16 = .ok (.aload_n 0, 1) := by decide +kernel
theorem dX5_addBad_17 : decode cX5_addBad 17 = .ok (.getfield 38, 3) := by decide +kernel
theorem dX5_addBad_20 : decode cX5_addBad 20 = .ok (.aaload, 1) := by decide +kernel
theorem dX5_addBad_21 : decode cX5_addBad 21 = .ok (.iload_n 1, 1) := by decide +kernel
theorem dX5_addBad_22 : decode cX5_addBad 22 = .ok (.invokevirtual 49, 3) := by decide +kernel
theorem dX5_addBad_25 : decode cX5_addBad 25 = .ok (.aload_n 0, 1) := by decide +kernel
theorem dX5_addBad_26 : decode cX5_addBad 26 = .ok (.dup, 1) := by decide +kernel
theorem dX5_addBad_27 : decode cX5_addBad 27 = .ok (.getfield 38, 3) := by decide +kernel
theorem dX5_addBad_30 : decode cX5_addBad 30 = .ok (.iconst 1, 1) := by decide +kernel
theorem dX5_addBad_31 : decode cX5_addBad 31 = .ok (.iadd, 1) := by decide +kernel
theorem dX5_addBad_32 : decode cX5_addBad 32 = .ok (.putfield 38, 3) := by decide +kernel
theorem dX5_addBad_35 : decode cX5_addBad 35 = .ok (.return_, 1) := by decide +kernel
theorem dX5_isBadCrowd_0 : decode cX5_isBadCrowd 0 = .ok (.iconst 0, 1) := by decide +kernel
theorem dX5_isBadCrowd_1 : decode cX5_isBadCrowd 1 = .ok (.istore_n 2, 1) := by decide +kernel
theorem dX5_isBadCrowd_2 : decode cX5_isBadCrowd 2 = .ok (.iload_n 2, 1) := by decide +kernel
theorem dX5_isBadCrowd_3 : decode cX5_isBadCrowd 3 = .ok (.aload_n 0, 1) := by decide +kernel
theorem dX5_isBadCrowd_4 : decode cX5_isBadCrowd 4 = .ok (.getfield 38, 3) := by decide +kernel
theorem dX5_isBadCrowd_7 : decode cX5_isBadCrowd 7 = .ok (.if_icmp .ge 24, 3) := by decide +kernel
theorem dX5_isBadCrowd_10 : decode cX5_isBadCrowd 10 = .ok (.aload_n 1, 1) := by decide +kernel
theorem dX5_isBadCrowd_11 : decode cX5_isBadCrowd 11 = .ok (.aload_n 0, 1) := by decide +kernel
theorem dX5_isBadCrowd_12 : decode cX5_isBadCrowd 12 = .ok (.getfield 19, 3) := by decide +kernel
theorem dX5_isBadCrowd_15 : decode cX5_isBadCrowd 15 = .ok (.iload_n 2, 1) := by decide +kernel
theorem dX5_isBadCrowd_16 : decode cX5_isBadCrowd 16 = .ok (.aaload, 1) := by decide +kernel
theorem dX5_isBadCrowd_17 : decode cX5_isBadCrowd 17 = .ok (.invokevirtual 53, 3) := by decide +kernel
theorem dX5_isBadCrowd_20 : decode cX5_isBadCrowd 20 = .ok (.ifCond .eq 5, 3) := by decide +kernel
theorem dX5_isBadCrowd_23 : decode cX5_isBadCrowd 23 = .ok (.iconst 1, 1) := by decide +kernel
theorem dX5_isBadCrowd_24 : decode cX5_isBadCrowd 24 = .ok (.ireturn, 1) := by decide +kernel
theorem dX5_isBadCrowd_25 : decode cX5_isBadCrowd 25 = .ok (.iinc 2 1, 3) := by decide +kernel
theorem dX5_isBadCrowd_28 : decode cX5_isBadCrowd 28 = .ok (.goto (-26), 3) := by decide +kernel
theorem dX5_isBadCrowd_31 : decode cX5_isBadCrowd 31 = .ok (.iconst 0, 1) := by decide +kernel
theorem dX5_isBadCrowd_32 : decode cX5_isBadCrowd 32 = .ok (.ireturn, 1) := by decide +kernel
theorem dX5_isInStart_0 : decode cX5_isInStart 0 = .ok (.iconst 0, 1) := by decide +kernel
theorem dX5_isInStart_1 : decode cX5_isInStart 1 = .ok (.istore_n 2, 1) := by decide +kernel
theorem dX5_isInStart_2 : decode cX5_isInStart 2 = .ok (.iload_n 2, 1) := by decide +kernel
theorem dX5_isInStart_3 : decode cX5_isInStart 3 = .ok (.aload_n 0, 1) := by decide +kernel
theorem dX5_isInStart_4 : decode cX5_isInStart 4 = .ok (.getfield 28, 3) := by decide +kernel
theorem dX5_isInStart_7 : decode cX5_isInStart 7 = .ok (.if_icmp .ge 30, 3) := by decide +kernel
theorem dX5_isInStart_10 : decode cX5_isInStart 10 = .ok (.aload_n 1, 1) := by decide +kernel
theorem dX5_isInStart_11 : decode cX5_isInStart 11 = .ok (.iload_n 2, 1) := by decide +kernel
theorem dX5_isInStart_12 : decode cX5_isInStart 12 = .ok (.invokevirtual 57, 3) := by decide +kernel
theorem dX5_isInStart_15 : decode cX5_isInStart 15 = .ok (.ifCond .le 16, 3) := by decide +kernel
theorem dX5_isInStart_18 : decode cX5_isInStart 18 = .ok (.aload_n 0, 1) := by decide +kernel
theorem dX5_isInStart_19 : decode cX5_isInStart 19 = .ok (.getfield 32, 3) := by decide +kernel
theorem dX5_isInStart_22 : decode cX5_isInStart 22 = .ok (.iload_n 2, 1) := by decide +kernel
theorem dX5_isInStart_23 : decode cX5_isInStart 23 = .ok (.ishr, 1) := by decide +kernel
theorem dX5_isInStart_24 : decode cX5_isInStart 24 = .ok (.iconst 1, 1) := by decide +kernel
theorem dX5_isInStart_25 : decode cX5_isInStart 25 = .ok (.iand, 1) := by decide +kernel
theorem dX5_isInStart_26 : decode cX5_isInStart 26 = .ok (.ifCond .ne 5, 3) := by decide +kernel
theorem dX5_isInStart_29 : decode cX5_isInStart 29 = .ok (.iconst 0, 1) := by decide +kernel
theorem dX5_isInStart_30 : decode cX5_isInStart 30 = .ok (.ireturn, 1) := by decide +kernel
theorem dX5_isInStart_31 : decode cX5_isInStart 31 = .ok (.iinc 2 1, 3) := by decide +kernel
theorem dX5_isInStart_34 : decode cX5_isInStart 34 = .ok (.goto (-32), 3) := by decide +kernel
theorem dX5_isInStart_37 : decode cX5_isInStart 37 = .ok (.iconst 1, 1) := by decide +kernel
theorem dX5_isInStart_38 : decode cX5_isInStart 38 = .ok (.ireturn, 1) := by decide +kernel
theorem dX5_countFitting_0 : decode cX5_countFitting 0 = .ok (.iconst 0, 1) := by decide +kernel
theorem dX5_countFitting_1 : decode cX5_countFitting 1 = .ok (.istore_n 2, 1) := by decide +kernel
theorem dX5_countFitting_2 : decode cX5_countFitting 2 = .ok (.iconst 0, 1) := by decide +kernel
theorem dX5_countFitting_3 : decode cX5_countFitting 3 = .ok (.istore_n 3, 1) := by decide +kernel
theorem dX5_countFitting_4 : decode cX5_countFitting 4 = .ok (.iload_n 3, 1) := by decide +kernel
theorem dX5_countFitting_5 : decode cX5_countFitting 5 = .ok (.aload_n 0, 1) := by decide +kernel
theorem dX5_countFitting_6 : decode cX5_countFitting 6 = .ok (.getfield 35, 3) := by decide +kernel
theorem dX5_countFitting_9 : decode cX5_countFitting 9 = .ok (.if_icmp .ge 25, 3) := by decide +kernel
theorem dX5_countFitting_12 : decode cX5_countFitting 12 = .ok (.aload_n 0, 1) := by decide +kernel
theorem dX5_countFitting_13 : decode cX5_countFitting 13 = .ok (.getfield 11, 3) := by decide +kernel
theorem dX5_countFitting_16 : decode cX5_countFitting 16 = .ok (.iload_n 3, 1) := by decide +kernel
theorem dX5_countFitting_17 : decode cX5_countFitting 17 = .ok (.aaload, 1) := by decide +kernel
theorem dX5_countFitting_18 : decode cX5_countFitting 18 = .ok (.aload_n 1, 1) := by decide +kernel
theorem dX5_countFitting_19 : decode cX5_countFitting 19 = .ok (.invokevirtual 61, 3) := by decide +kernel
theorem dX5_countFitting_22 : decode cX5_countFitting 22 = .ok (.ifCond .eq 6, 3) := by decide +kernel
theorem dX5_countFitting_25 : decode cX5_countFitting 25 = .ok (.iinc 2 1, 3) := by decide +kernel
theorem dX5_countFitting_28 : decode cX5_countFitting 28 = .ok (.iinc 3 1, 3) := by decide +kernel
theorem dX5_countFitting_31 : decode cX5_countFitting 31 = .ok (.goto (-27), 3) := by decide +kernel
theorem dX5_countFitting_34 : decode cX5_countFitting 34 = .ok (.iload_n 2, 1) := by decide +kernel
theorem dX5_countFitting_35 : decode cX5_countFitting 35 = .ok (.ireturn, 1) := by decide +kernel
theorem hl_yX5_begin : (yX5_begin.cls ≠ "java/lang/invoke/MethodHandle" ∧ yX5_begin.cls ≠ "java/lang/invoke/VarHandle") ∧ (parseMethodDescriptor yX5_begin.desc).map (fun d => d.parameters.length) = some 1 := by decide +kernel
theorem hl_yX5_isState : (yX5_isState.cls ≠ "java/lang/invoke/MethodHandle" ∧ yX5_isState.cls ≠ "java/lang/invoke/VarHandle") ∧ (parseMethodDescriptor yX5_isState.desc).map (fun d => d.parameters.length) = some 1 := by decide +kernel
theorem hl_yX5_isRule : (yX5_isRule.cls ≠ "java/lang/invoke/MethodHandle" ∧ yX5_isRule.cls ≠ "java/lang/invoke/VarHandle") ∧ (parseMethodDescriptor yX5_isRule.desc).map (fun d => d.parameters.length) = some 1 := by decide +kernel
theorem hl_yX5_hasFewDigits : (yX5_hasFewDigits.cls ≠ "java/lang/invoke/MethodHandle" ∧ yX5_hasFewDigits.cls ≠ "java/lang/invoke/VarHandle") ∧ (parseMethodDescriptor yX5_hasFewDigits.desc).map (fun d => d.parameters.length) = some 1 := by decide +kernel
theorem hl_yX5_isMap : (yX5_isMap.cls ≠ "java/lang/invoke/MethodHandle" ∧ yX5_isMap.cls ≠ "java/lang/invoke/VarHandle") ∧ (parseMethodDescriptor yX5_isMap.desc).map (fun d => d.parameters.length) = some 1 := by decide +kernel
theorem hl_yX5_addBad : (yX5_addBad.cls ≠ "java/lang/invoke/MethodHandle" ∧ yX5_addBad.cls ≠ "java/lang/invoke/VarHandle") ∧ (parseMethodDescriptor yX5_addBad.desc).map (fun d => d.parameters.length) = some 1 := by decide +kernel
theorem hl_yX5_isBadCrowd : (yX5_isBadCrowd.cls ≠ "java/lang/invoke/MethodHandle" ∧ yX5_isBadCrowd.cls ≠ "java/lang/invoke/VarHandle") ∧ (parseMethodDescriptor yX5_isBadCrowd.desc).map (fun d => d.parameters.length) = some 1 := by decide +kernel
theorem hl_yX5_isInStart : (yX5_isInStart.cls ≠ "java/lang/invoke/MethodHandle" ∧ yX5_isInStart.cls ≠ "java/lang/invoke/VarHandle") ∧ (parseMethodDescriptor yX5_isInStart.desc).map (fun d => d.parameters.length) = some 1 := by decide +kernel
theorem hl_yX5_countFitting : (yX5_countFitting.cls ≠ "java/lang/invoke/MethodHandle" ∧ yX5_countFitting.cls ≠ "java/lang/invoke/VarHandle") ∧ (parseMethodDescriptor yX5_countFitting.desc).map (fun d => d.parameters.length) = some 1 := by decide +kernel
set_option maxRecDepth 20000 in
set_option maxHeartbeats 4000000 in
theorem c_X5_begin {l : Launch} {G : Gt} {n0 : Nat} {mi : Nat → Nat → Int} {mr : Nat → Nat → Nat} {z : Int} : Cv l yX5_begin cX5_begin 2 1 G n0 [.ref (n0 + 1), .int (jI z)] mi mr (fun mi9 mr9 => up2 (up2 (up2 (up2 mi 1 3 z) 1 4 1) 1 5 0) 1 6 0 = mi9 ∧ mr = mr9) := by
  refine Ct_of (by decide +kernel) (by intro v hv; simp at hv; rcases hv with rfl | rfl <;> rfl) (Nat.le_of_ble_eq_true rfl) ?_
  intro p e s m args below meth c9 X hr hname
  show WW _ _ _ _ _ _ _ _ _ _ _ _ _ _ _ _ _ _ _ [some (.ref (n0 + 1)), some (.int (jI z))] _
  refine w_aload_n X dX5_begin_0 rfl ?_
  refine w_iload_n X dX5_begin_1 rfl ?_
  refine w_put X (by decide) (σ_1 G n0 _ _) rfl gW_X5 tyX5 tyX5_ok nmX5 3 (by decide) gF_X5_28 rfl rfl rfl (Nat.le_of_ble_eq_true rfl) dX5_begin_2 (WW.eqf (sp_1_3 _) ?_)
  refine w_aload_n X dX5_begin_5 rfl ?_
  refine w_iconst X dX5_begin_6 ?_
  refine w_put X (by decide) (σ_1 G n0 _ _) rfl gW_X5 tyX5 tyX5_ok nmX5 4 (by decide) gF_X5_32 rfl rfl rfl (Nat.le_of_ble_eq_true rfl) dX5_begin_7 (WW.eqf (sp_1_4 _) ?_)
  refine w_aload_n X dX5_begin_10 rfl ?_
  refine w_iconst X dX5_begin_11 ?_
  refine w_put X (by decide) (σ_1 G n0 _ _) rfl gW_X5 tyX5 tyX5_ok nmX5 5 (by decide) gF_X5_35 rfl rfl rfl (Nat.le_of_ble_eq_true rfl) dX5_begin_12 (WW.eqf (sp_1_5 _) ?_)
  refine w_aload_n X dX5_begin_15 rfl ?_
  refine w_iconst X dX5_begin_16 ?_
  refine w_put X (by decide) (σ_1 G n0 _ _) rfl gW_X5 tyX5 tyX5_ok nmX5 6 (by decide) gF_X5_38 rfl rfl rfl (Nat.le_of_ble_eq_true rfl) dX5_begin_17 (WW.eqf (sp_1_6 _) ?_)
  refine s_vret X hr dX5_begin_20 ?_
  exact ⟨rfl, rfl⟩
set_option maxRecDepth 20000 in
set_option maxHeartbeats 4000000 in
theorem c_X5_isState {l : Launch} {G : Gt} {n0 : Nat} {mi : Nat → Nat → Int} {mr : Nat → Nat → Nat} (hsc : 1 ≤ mi 1 3 ∧ mi 1 3 ≤ 5) {z : Int} (hz : rg z) : Ci l yX5_isState cX5_isState 2 .boolean 1 G n0 [.ref (n0 + 1), .int (jI z)] mi mr (fun r9 mi9 mr9 => mi = mi9 ∧ mr = mr9 ∧ (r9 = 1 ∧ 0 ≤ z ∧ z < mi 1 3 ∨ r9 = 0 ∧ ¬ (0 ≤ z ∧ z < mi 1 3))) := by
  refine Ct_of (by decide +kernel) (by intro v hv; simp at hv; rcases hv with rfl | rfl <;> rfl) (Nat.le_of_ble_eq_true rfl) ?_
  intro p e s m args below meth c9 X hr hname
  show WW _ _ _ _ _ _ _ _ _ _ _ _ _ _ _ _ _ _ _ [some (.ref (n0 + 1)), some (.int (jI z))] _
  refine w_iload_n X dX5_isState_0 rfl ?_
  refine w_if_lt X 16 dX5_isState_1 (by decide) (fun c1_1 => ?_) (fun c1_1 => ?_)
  ·
    refine w_iconst X dX5_isState_16 ?_
    refine s_zret X hr dX5_isState_17 (by omega) ?_
    exact ⟨rfl, rfl, by omega⟩
  ·
    refine w_iload_n X dX5_isState_4 rfl ?_
    refine w_aload_n X dX5_isState_5 rfl ?_
    refine w_get X (by decide) (σ_1 G n0 _ _) rfl gW_X5 3 (by decide) gF_X5_28 rfl dX5_isState_6 ?_
    refine w_icmp_ge X 16 dX5_isState_9 (by decide) (fun c9_2 => ?_) (fun c9_2 => ?_)
    ·
      refine w_iconst X dX5_isState_16 ?_
      refine s_zret X hr dX5_isState_17 (by omega) ?_
      exact ⟨rfl, rfl, by omega⟩
    ·
      refine w_iconst X dX5_isState_12 ?_
      refine w_goto X 17 dX5_isState_13 (by decide) ?_
      refine s_zret X hr dX5_isState_17 (by omega) ?_
      exact ⟨rfl, rfl, by omega⟩
set_option maxRecDepth 20000 in
set_option maxHeartbeats 4000000 in
theorem c_X5_isRule {l : Launch} {G : Gt} {n0 : Nat} {mi : Nat → Nat → Int} {mr : Nat → Nat → Nat} (hrc : 0 ≤ mi 1 5 ∧ mi 1 5 ≤ 12) {z : Int} (hz : rg z) : Ci l yX5_isRule cX5_isRule 2 .boolean 1 G n0 [.ref (n0 + 1), .int (jI z)] mi mr (fun r9 mi9 mr9 => mi = mi9 ∧ mr = mr9 ∧ (r9 = 1 ∧ 0 ≤ z ∧ z < mi 1 5 ∨ r9 = 0 ∧ ¬ (0 ≤ z ∧ z < mi 1 5))) := by
  refine Ct_of (by decide +kernel) (by intro v hv; simp at hv; rcases hv with rfl | rfl <;> rfl) (Nat.le_of_ble_eq_true rfl) ?_
  intro p e s m args below meth c9 X hr hname
  show WW _ _ _ _ _ _ _ _ _ _ _ _ _ _ _ _ _ _ _ [some (.ref (n0 + 1)), some (.int (jI z))] _
  refine w_iload_n X dX5_isRule_0 rfl ?_
  refine w_if_lt X 25 dX5_isRule_1 (by decide) (fun c1_1 => ?_) (fun c1_1 => ?_)
  ·
    refine w_iconst X dX5_isRule_25 ?_
    refine s_zret X hr dX5_isRule_26 (by omega) ?_
    exact ⟨rfl, rfl, by omega⟩
  ·
    refine w_iload_n X dX5_isRule_4 rfl ?_
    refine w_aload_n X dX5_isRule_5 rfl ?_
    refine w_get X (by decide) (σ_1 G n0 _ _) rfl gW_X5 5 (by decide) gF_X5_35 rfl dX5_isRule_6 ?_
    refine w_icmp_ge X 25 dX5_isRule_9 (by decide) (fun c9_2 => ?_) (fun c9_2 => ?_)
    ·
      refine w_iconst X dX5_isRule_25 ?_
      refine s_zret X hr dX5_isRule_26 (by omega) ?_
      exact ⟨rfl, rfl, by omega⟩
    ·
      refine w_iload_n X dX5_isRule_12 rfl ?_
      refine w_aload_n X dX5_isRule_13 rfl ?_
      refine w_get X (by decide) (σ_1 G n0 _ _) rfl gW_X5 0 (by decide) gF_X5_11 rfl dX5_isRule_14 ?_
      refine w_alen X (t := 3) (by decide) (σ_2 G n0 _ _) rfl dX5_isRule_17 ?_
      refine s_alen (b := 12) rfl ?_
      refine w_icmp_ge X 25 dX5_isRule_18 (by decide) (fun c18_3 => ?_) (fun c18_3 => ?_)
      ·
        refine w_iconst X dX5_isRule_25 ?_
        refine s_zret X hr dX5_isRule_26 (by omega) ?_
        exact ⟨rfl, rfl, by omega⟩
      ·
        refine w_iconst X dX5_isRule_21 ?_
        refine w_goto X 26 dX5_isRule_22 (by decide) ?_
        refine s_zret X hr dX5_isRule_26 (by omega) ?_
        exact ⟨rfl, rfl, by omega⟩
set_option maxRecDepth 20000 in
set_option maxHeartbeats 4000000 in
theorem c_X5_hasFewDigits {l : Launch} {G : Gt} {n0 : Nat} {mi : Nat → Nat → Int} {mr : Nat → Nat → Nat} (hsc : 1 ≤ mi 1 3 ∧ mi 1 3 ≤ 5) {z : Int} (hz : 0 ≤ z ∧ z < 2147483648) : Ci l yX5_hasFewDigits cX5_hasFewDigits 4 .boolean 1 G n0 [.ref (n0 + 1), .int (jI z)] mi mr (fun r9 mi9 mr9 => mi = mi9 ∧ mr = mr9 ∧ (r9 = 1 ∧ z < p10 (mi 1 3) ∨ r9 = 0 ∧ ¬ z < p10 (mi 1 3))) := by
  refine Ct_of (by decide +kernel) (by intro v hv; simp at hv; rcases hv with rfl | rfl <;> rfl) (Nat.le_of_ble_eq_true rfl) ?_
  intro p e s m args below meth c9 X hr hname
  show WW _ _ _ _ _ _ _ _ _ _ _ _ _ _ _ _ _ _ _ [some (.ref (n0 + 1)), some (.int (jI z)), none, none] _
  refine w_iload_n X dX5_hasFewDigits_0 rfl ?_
  refine w_ist4_2 X dX5_hasFewDigits_1 ?_
  refine w_iconst X dX5_hasFewDigits_2 ?_
  refine w_ist4_3 X dX5_hasFewDigits_3 ?_
  refine w_iload_n X dX5_hasFewDigits_4 rfl ?_
  refine w_aload_n X dX5_hasFewDigits_5 rfl ?_
  refine w_get X (by decide) (σ_1 G n0 _ _) rfl gW_X5 3 (by decide) gF_X5_28 rfl dX5_hasFewDigits_6 ?_
  refine w_icmp_ge X 23 dX5_hasFewDigits_9 (by decide) (fun h9 => absurd h9 (by omega)) (fun h9_ => ?_)
  refine w_iload_n X dX5_hasFewDigits_12 rfl ?_
  refine w_bipush X dX5_hasFewDigits_13 rfl ?_
  refine w_idiv X dX5_hasFewDigits_15 ?_
  refine w_ist4_2 X dX5_hasFewDigits_16 ?_
  refine w_iinc4_3 X dX5_hasFewDigits_17 ?_
  refine w_goto X 4 dX5_hasFewDigits_20 (by decide) ?_
  refine w_iload_n X dX5_hasFewDigits_4 rfl ?_
  refine w_aload_n X dX5_hasFewDigits_5 rfl ?_
  refine w_get X (by decide) (σ_1 G n0 _ _) rfl gW_X5 3 (by decide) gF_X5_28 rfl dX5_hasFewDigits_6 ?_
  refine w_icmp_ge X 23 dX5_hasFewDigits_9 (by decide) (fun c9_1 => ?_) (fun c9_1 => ?_)
  ·
    refine w_iload_n X dX5_hasFewDigits_23 rfl ?_
    refine w_if_ne X 31 dX5_hasFewDigits_24 (by decide) (fun c24_2 => ?_) (fun c24_2 => ?_)
    ·
      refine w_iconst X dX5_hasFewDigits_31 ?_
      refine s_zret X hr dX5_hasFewDigits_32 (by omega) ?_
      refine ⟨rfl, rfl, ?_⟩
      unfold p10
      split
      · omega
      · split
        · omega
        · split
          · omega
          · split <;> omega
    ·
      refine w_iconst X dX5_hasFewDigits_27 ?_
      refine w_goto X 32 dX5_hasFewDigits_28 (by decide) ?_
      refine s_zret X hr dX5_hasFewDigits_32 (by omega) ?_
      refine ⟨rfl, rfl, ?_⟩
      unfold p10
      split
      · omega
      · split
        · omega
        · split
          · omega
          · split <;> omega
  ·
    refine w_iload_n X dX5_hasFewDigits_12 rfl ?_
    refine w_bipush X dX5_hasFewDigits_13 rfl ?_
    refine w_idiv X dX5_hasFewDigits_15 ?_
    refine w_ist4_2 X dX5_hasFewDigits_16 ?_
    refine w_iinc4_3 X dX5_hasFewDigits_17 ?_
    refine w_goto X 4 dX5_hasFewDigits_20 (by decide) ?_
    refine w_iload_n X dX5_hasFewDigits_4 rfl ?_
    refine w_aload_n X dX5_hasFewDigits_5 rfl ?_
    refine w_get X (by decide) (σ_1 G n0 _ _) rfl gW_X5 3 (by decide) gF_X5_28 rfl dX5_hasFewDigits_6 ?_
    refine w_icmp_ge X 23 dX5_hasFewDigits_9 (by decide) (fun c9_3 => ?_) (fun c9_3 => ?_)
    ·
      refine w_iload_n X dX5_hasFewDigits_23 rfl ?_
      refine w_if_ne X 31 dX5_hasFewDigits_24 (by decide) (fun c24_4 => ?_) (fun c24_4 => ?_)
      ·
        refine w_iconst X dX5_hasFewDigits_31 ?_
        refine s_zret X hr dX5_hasFewDigits_32 (by omega) ?_
        refine ⟨rfl, rfl, ?_⟩
        unfold p10
        split
        · omega
        · split
          · omega
          · split
            · omega
            · split <;> omega
      ·
        refine w_iconst X dX5_hasFewDigits_27 ?_
        refine w_goto X 32 dX5_hasFewDigits_28 (by decide) ?_
        refine s_zret X hr dX5_hasFewDigits_32 (by omega) ?_
        refine ⟨rfl, rfl, ?_⟩
        unfold p10
        split
        · omega
        · split
          · omega
          · split
            · omega
            · split <;> omega
    ·
      refine w_iload_n X dX5_hasFewDigits_12 rfl ?_
      refine w_bipush X dX5_hasFewDigits_13 rfl ?_
      refine w_idiv X dX5_hasFewDigits_15 ?_
      refine w_ist4_2 X dX5_hasFewDigits_16 ?_
      refine w_iinc4_3 X dX5_hasFewDigits_17 ?_
      refine w_goto X 4 dX5_hasFewDigits_20 (by decide) ?_
      refine w_iload_n X dX5_hasFewDigits_4 rfl ?_
      refine w_aload_n X dX5_hasFewDigits_5 rfl ?_
      refine w_get X (by decide) (σ_1 G n0 _ _) rfl gW_X5 3 (by decide) gF_X5_28 rfl dX5_hasFewDigits_6 ?_
      refine w_icmp_ge X 23 dX5_hasFewDigits_9 (by decide) (fun c9_5 => ?_) (fun c9_5 => ?_)
      ·
        refine w_iload_n X dX5_hasFewDigits_23 rfl ?_
        refine w_if_ne X 31 dX5_hasFewDigits_24 (by decide) (fun c24_6 => ?_) (fun c24_6 => ?_)
        ·
          refine w_iconst X dX5_hasFewDigits_31 ?_
          refine s_zret X hr dX5_hasFewDigits_32 (by omega) ?_
          refine ⟨rfl, rfl, ?_⟩
          unfold p10
          split
          · omega
          · split
            · omega
            · split
              · omega
              · split <;> omega
        ·
          refine w_iconst X dX5_hasFewDigits_27 ?_
          refine w_goto X 32 dX5_hasFewDigits_28 (by decide) ?_
          refine s_zret X hr dX5_hasFewDigits_32 (by omega) ?_
          refine ⟨rfl, rfl, ?_⟩
          unfold p10
          split
          · omega
          · split
            · omega
            · split
              · omega
              · split <;> omega
      ·
        refine w_iload_n X dX5_hasFewDigits_12 rfl ?_
        refine w_bipush X dX5_hasFewDigits_13 rfl ?_
        refine w_idiv X dX5_hasFewDigits_15 ?_
        refine w_ist4_2 X dX5_hasFewDigits_16 ?_
        refine w_iinc4_3 X dX5_hasFewDigits_17 ?_
        refine w_goto X 4 dX5_hasFewDigits_20 (by decide) ?_
        refine w_iload_n X dX5_hasFewDigits_4 rfl ?_
        refine w_aload_n X dX5_hasFewDigits_5 rfl ?_
        refine w_get X (by decide) (σ_1 G n0 _ _) rfl gW_X5 3 (by decide) gF_X5_28 rfl dX5_hasFewDigits_6 ?_
        refine w_icmp_ge X 23 dX5_hasFewDigits_9 (by decide) (fun c9_7 => ?_) (fun c9_7 => ?_)
        ·
          refine w_iload_n X dX5_hasFewDigits_23 rfl ?_
          refine w_if_ne X 31 dX5_hasFewDigits_24 (by decide) (fun c24_8 => ?_) (fun c24_8 => ?_)
          ·
            refine w_iconst X dX5_hasFewDigits_31 ?_
            refine s_zret X hr dX5_hasFewDigits_32 (by omega) ?_
            refine ⟨rfl, rfl, ?_⟩
            unfold p10
            split
            · omega
            · split
              · omega
              · split
                · omega
                · split <;> omega
          ·
            refine w_iconst X dX5_hasFewDigits_27 ?_
            refine w_goto X 32 dX5_hasFewDigits_28 (by decide) ?_
            refine s_zret X hr dX5_hasFewDigits_32 (by omega) ?_
            refine ⟨rfl, rfl, ?_⟩
            unfold p10
            split
            · omega
            · split
              · omega
              · split
                · omega
                · split <;> omega
        ·
          refine w_iload_n X dX5_hasFewDigits_12 rfl ?_
          refine w_bipush X dX5_hasFewDigits_13 rfl ?_
          refine w_idiv X dX5_hasFewDigits_15 ?_
          refine w_ist4_2 X dX5_hasFewDigits_16 ?_
          refine w_iinc4_3 X dX5_hasFewDigits_17 ?_
          refine w_goto X 4 dX5_hasFewDigits_20 (by decide) ?_
          refine w_iload_n X dX5_hasFewDigits_4 rfl ?_
          refine w_aload_n X dX5_hasFewDigits_5 rfl ?_
          refine w_get X (by decide) (σ_1 G n0 _ _) rfl gW_X5 3 (by decide) gF_X5_28 rfl dX5_hasFewDigits_6 ?_
          refine w_icmp_ge X 23 dX5_hasFewDigits_9 (by decide) (fun h9_ => ?_) (fun h9 => absurd (by omega) h9)
          refine w_iload_n X dX5_hasFewDigits_23 rfl ?_
          refine w_if_ne X 31 dX5_hasFewDigits_24 (by decide) (fun c24_9 => ?_) (fun c24_9 => ?_)
          ·
            refine w_iconst X dX5_hasFewDigits_31 ?_
            refine s_zret X hr dX5_hasFewDigits_32 (by omega) ?_
            refine ⟨rfl, rfl, ?_⟩
            unfold p10
            split
            · omega
            · split
              · omega
              · split
                · omega
                · split <;> omega
          ·
            refine w_iconst X dX5_hasFewDigits_27 ?_
            refine w_goto X 32 dX5_hasFewDigits_28 (by decide) ?_
            refine s_zret X hr dX5_hasFewDigits_32 (by omega) ?_
            refine ⟨rfl, rfl, ?_⟩
            unfold p10
            split
            · omega
            · split
              · omega
              · split
                · omega
                · split <;> omega
set_option maxRecDepth 20000 in
set_option maxHeartbeats 4000000 in
theorem c_X5_isMap {l : Launch} {G : Gt} {n0 : Nat} {mi : Nat → Nat → Int} {mr : Nat → Nat → Nat} (hsc : 1 ≤ mi 1 3 ∧ mi 1 3 ≤ 5) {z : Int} (hz : rg z) : Ci l yX5_isMap cX5_isMap 4 .boolean 2 G n0 [.ref (n0 + 1), .int (jI z)] mi mr (fun r9 mi9 mr9 => mi = mi9 ∧ mr = mr9 ∧ (r9 = 1 ∧ mapok (mi 1 3) z ∨ r9 = 0 ∧ ¬ mapok (mi 1 3) z)) := by
  refine Ct_of (by decide +kernel) (by intro v hv; simp at hv; rcases hv with rfl | rfl <;> rfl) (Nat.le_of_ble_eq_true rfl) ?_
  intro p e s m args below meth c9 X hr hname
  show WW _ _ _ _ _ _ _ _ _ _ _ _ _ _ _ _ _ _ _ [some (.ref (n0 + 1)), some (.int (jI z)), none, none] _
  refine w_iload_n X dX5_isMap_0 rfl ?_
  refine w_if_lt X 12 dX5_isMap_1 (by decide) (fun c1_1 => ?_) (fun c1_1 => ?_)
  ·
    refine w_iconst X dX5_isMap_12 ?_
    refine s_zret X hr dX5_isMap_13 (by omega) ?_
    exact ⟨rfl, rfl, Or.inr ⟨rfl, fun w => by have q1 := w.1; have q2 := w.2.1; omega⟩⟩
  ·
    refine w_aload_n X dX5_isMap_4 rfl ?_
    refine w_iload_n X dX5_isMap_5 rfl ?_
    refine s_callVi X _ (c_X5_hasFewDigits (l := l) (G := G) (n0 := n0) hsc (by omega)) gM_X5_42 gI_yX5_hasFewDigits gS_yX5_hasFewDigits gN_X5 gC_yX5_hasFewDigits (by decide) (σ_1 G n0 _ _) rfl dX5_isMap_6 hl_yX5_hasFewDigits ⟨Nat.le_of_ble_eq_true rfl, Nat.le_of_ble_eq_true rfl⟩ (Nat.le_of_ble_eq_true rfl) rfl (fun r1 mi1 mr1 h1 => ?_)
    obtain ⟨rfl, rfl, h1⟩ := h1
    refine w_if_ne X 14 dX5_isMap_9 (by decide) (fun c9_2 => ?_) (fun c9_2 => ?_)
    ·
      refine w_iload_n X dX5_isMap_14 rfl ?_
      refine w_ist4_2 X dX5_isMap_15 ?_
      refine w_iconst X dX5_isMap_16 ?_
      refine w_ist4_3 X dX5_isMap_17 ?_
      have loop : ∀ (n : Nat) (i : Nat) (x2 : Int) (x3 : Option Value), ((i : Int) ≤ mi 1 3) → (x2 = z / 10 ^ i ∧ 0 ≤ x2 ∧ x2 < 2147483648) → (∀ j : Nat, j < i → z / 10 ^ j % 10 < mi 1 3) → n = 5 - i → WSi p l e s m args below meth c9 2 (fun r9 mi9 mr9 => mi = mi9 ∧ mr = mr9 ∧ (r9 = 1 ∧ mapok (mi 1 3) z ∨ r9 = 0 ∧ ¬ mapok (mi 1 3) z)) G n0 4 mi mr 18 [some (.ref (n0 + 1)), some (.int (jI z)), some (.int (jI x2)), some (.int (jI (i : Int)))] [] := by
        intro n
        induction n using Nat.strongRecOn with
        | ind n ih_loop =>
          intro i x2 x3 hi hx hinv hn
          refine w_iload_n X dX5_isMap_18 rfl ?_
          refine w_aload_n X dX5_isMap_19 rfl ?_
          refine w_get X (by decide) (σ_1 G n0 _ _) rfl gW_X5 3 (by decide) gF_X5_28 rfl dX5_isMap_20 ?_
          refine w_icmp_ge X 50 dX5_isMap_23 (by decide) (fun c23_3 => ?_) (fun c23_3 => ?_)
          ·
            refine w_iconst X dX5_isMap_50 ?_
            refine s_zret X hr dX5_isMap_51 (by omega) ?_
            exact ⟨rfl, rfl, Or.inl ⟨rfl, by omega, by omega, fun j hj => hinv j (by omega)⟩⟩
          ·
            refine w_aload_n X dX5_isMap_26 rfl ?_
            refine w_iload_n X dX5_isMap_27 rfl ?_
            refine w_bipush X dX5_isMap_28 rfl ?_
            refine w_irem X dX5_isMap_30 ?_
            refine s_callVi X _ (c_X5_isState (l := l) (G := G) (n0 := n0) hsc (by first | assumption | (refine ⟨?_, ?_⟩ <;> omega))) gM_X5_46 gI_yX5_isState gS_yX5_isState gN_X5 gC_yX5_isState (by decide) (σ_1 G n0 _ _) rfl dX5_isMap_31 hl_yX5_isState ⟨Nat.le_of_ble_eq_true rfl, Nat.le_of_ble_eq_true rfl⟩ (Nat.le_of_ble_eq_true rfl) rfl (fun r2 mi2 mr2 h2 => ?_)
            obtain ⟨rfl, rfl, h2⟩ := h2
            refine w_if_ne X 39 dX5_isMap_34 (by decide) (fun c34_4 => ?_) (fun c34_4 => ?_)
            ·
              refine w_iload_n X dX5_isMap_39 rfl ?_
              refine w_bipush X dX5_isMap_40 rfl ?_
              refine w_idiv X dX5_isMap_42 ?_
              refine w_ist4_2 X dX5_isMap_43 ?_
              refine w_iinc4_3 X dX5_isMap_44 ?_
              refine w_goto X 18 dX5_isMap_47 (by decide) ?_
              have e8 : z / 10 ^ (i + 1) = x2 / 10 := by rw [Int.pow_succ, ← Int.ediv_ediv_of_nonneg (Int.le_of_lt (Int.pow_pos (by decide))), ← hx.1]
              exact ih_loop _ (by omega) (i + 1) _ none (by omega) ⟨e8.symm, by omega, by omega⟩ (fun j hj => by rcases (show j < i ∨ j = i by omega) with q | q; exact hinv j q; subst q; rw [← hx.1]; omega) rfl
            ·
              refine w_iconst X dX5_isMap_37 ?_
              refine s_zret X hr dX5_isMap_38 (by omega) ?_
              refine ⟨rfl, rfl, Or.inr ⟨rfl, fun w => ?_⟩⟩
              have q := w.2.2 i (by omega)
              rw [← hx.1] at q
              omega
      exact loop _ 0 _ none (by omega) ⟨by simp, by omega, by omega⟩ (fun j hj => absurd hj (by omega)) rfl
    ·
      refine w_iconst X dX5_isMap_12 ?_
      refine s_zret X hr dX5_isMap_13 (by omega) ?_
      exact ⟨rfl, rfl, Or.inr ⟨rfl, fun w => by have q1 := w.1; have q2 := w.2.1; omega⟩⟩
set_option maxRecDepth 20000 in
set_option maxHeartbeats 4000000 in
theorem c_X5_addBad {l : Launch} {G : Gt} {n0 : Nat} {mi : Nat → Nat → Int} {mr : Nat → Nat → Nat} (hbc : 0 ≤ mi 1 6 ∧ mi 1 6 < 6) {z : Int} (hz : 0 ≤ z ∧ z < 2147483648) : Cv l yX5_addBad cX5_addBad 2 2 G n0 [.ref (n0 + 1), .int (jI z)] mi mr (fun mi9 mr9 => up2 (row5 mi (30 + 2 * (mi 1 6).toNat + 1) (fun j => z / 10 ^ j % 10)) 1 6 (mi 1 6 + 1) = mi9 ∧ mr = mr9) := by
  refine Ct_of (by decide +kernel) (by intro v hv; simp at hv; rcases hv with rfl | rfl <;> rfl) (Nat.le_of_ble_eq_true rfl) ?_
  intro p e s m args below meth c9 X hr hname
  show WW _ _ _ _ _ _ _ _ _ _ _ _ _ _ _ _ _ _ _ [some (.ref (n0 + 1)), some (.int (jI z))] _
  refine w_aload_n X dX5_addBad_0 rfl ?_
  refine w_get X (by decide) (σ_1 G n0 _ _) rfl gW_X5 6 (by decide) gF_X5_38 rfl dX5_addBad_1 ?_
  refine w_aload_n X dX5_addBad_4 rfl ?_
  refine w_get X (by decide) (σ_1 G n0 _ _) rfl gW_X5 1 (by decide) gF_X5_19 rfl dX5_addBad_5 ?_
  refine w_alen X (t := 2) (by decide) (σ_3 G n0 _ _) rfl dX5_addBad_8 ?_
  refine s_alen (b := 6) rfl ?_
  refine w_icmp_ge X 35 dX5_addBad_9 (by decide) (fun h9 => absurd h9 (by omega)) (fun h9_ => ?_)
  refine w_aload_n X dX5_addBad_12 rfl ?_
  refine w_get X (by decide) (σ_1 G n0 _ _) rfl gW_X5 1 (by decide) gF_X5_19 rfl dX5_addBad_13 ?_
  refine w_aload_n X dX5_addBad_16 rfl ?_
  refine w_get X (by decide) (σ_1 G n0 _ _) rfl gW_X5 6 (by decide) gF_X5_38 rfl dX5_addBad_17 ?_
  refine s_aald X (t := 2) _ (by decide) (σ_3 G n0 _ _) rfl dX5_addBad_20 ?_ (hj := rfl)
  refine w_iload_n X dX5_addBad_21 rfl ?_
  refine s_callVv X _ (c_X3_read (l := l) (G := G) (n0 := n0) (cr_3 (by omega)) (by omega)) gM_X5_49 gI_yX3_read gS_yX3_read gN_X3 gC_yX3_read (isCr_k (cr_3 (by omega))) (σ_cr G n0 _ _ (cr_3 (by omega))) rfl dX5_addBad_22 hl_yX3_read ⟨Nat.le_of_ble_eq_true rfl, Nat.le_of_ble_eq_true rfl⟩ (Nat.le_of_ble_eq_true rfl) rfl (fun mi1 mr1 h1 => ?_)
  obtain ⟨rfl, rfl⟩ := h1
  have e6 : row5 mi (30 + 2 * (mi 1 6).toNat + 1) (fun j => z / 10 ^ j % 10) 1 6 = mi 1 6 := by rw [row5_k (by omega)]
  refine w_aload_n X dX5_addBad_25 rfl ?_
  refine w_dup X dX5_addBad_26 rfl ?_
  refine w_get X (by decide) (σ_1 G n0 _ _) rfl gW_X5 6 (by decide) gF_X5_38 rfl dX5_addBad_27 ?_
  rw [e6]
  refine w_iconst X dX5_addBad_30 ?_
  refine w_iadd X dX5_addBad_31 ?_
  refine w_put X (by decide) (σ_1 G n0 _ _) rfl gW_X5 tyX5 tyX5_ok nmX5 6 (by decide) gF_X5_38 rfl rfl rfl (Nat.le_of_ble_eq_true rfl) dX5_addBad_32 (WW.eqf (sp_1_6 _) ?_)
  refine s_vret X hr dX5_addBad_35 ?_
  exact ⟨rfl, rfl⟩
set_option maxRecDepth 20000 in
set_option maxHeartbeats 4000000 in
theorem c_X5_isBadCrowd {l : Launch} {G : Gt} {n0 : Nat} {mi : Nat → Nat → Int} {mr : Nat → Nat → Nat} (hL : LW mi) {c : Nat} (hc : isCr c) (hb : CB mi c) : Ci l yX5_isBadCrowd cX5_isBadCrowd 3 .boolean 3 G n0 [.ref (n0 + 1), .ref (n0 + c)] mi mr (fun r9 mi9 mr9 => mi = mi9 ∧ mr = mr9 ∧ (r9 = 1 ∧ (∃ b : Nat, (b : Int) < mi 1 6 ∧ ge5 (mi (c + 1)) (mi (30 + 2 * b + 1))) ∨ r9 = 0 ∧ ∀ b : Nat, (b : Int) < mi 1 6 → ¬ ge5 (mi (c + 1)) (mi (30 + 2 * b + 1)))) := by
  refine Ct_of (by decide +kernel) (by intro v hv; simp at hv; rcases hv with rfl | rfl <;> rfl) (Nat.le_of_ble_eq_true rfl) ?_
  intro p e s m args below meth c9 X hr hname
  show WW _ _ _ _ _ _ _ _ _ _ _ _ _ _ _ _ _ _ _ [some (.ref (n0 + 1)), some (.ref (n0 + c)), none] _
  have hL4 := hL.2.2.2.1
  refine w_iconst X dX5_isBadCrowd_0 ?_
  refine w_ist3_2 X dX5_isBadCrowd_1 ?_
  have loop : ∀ (n : Nat) (i : Nat) (x3 : Option Value), ((i : Int) ≤ mi 1 6) → (∀ j : Nat, j < i → ¬ ge5 (mi (c + 1)) (mi (30 + 2 * j + 1))) → n = 6 - i → WSi p l e s m args below meth c9 3 (fun r9 mi9 mr9 => mi = mi9 ∧ mr = mr9 ∧ (r9 = 1 ∧ (∃ b : Nat, (b : Int) < mi 1 6 ∧ ge5 (mi (c + 1)) (mi (30 + 2 * b + 1))) ∨ r9 = 0 ∧ ∀ b : Nat, (b : Int) < mi 1 6 → ¬ ge5 (mi (c + 1)) (mi (30 + 2 * b + 1)))) G n0 3 mi mr 2 [some (.ref (n0 + 1)), some (.ref (n0 + c)), some (.int (jI (i : Int)))] [] := by
    intro n
    induction n using Nat.strongRecOn with
    | ind n ih_loop =>
      intro i x3 hi hinv hn
      refine w_iload_n X dX5_isBadCrowd_2 rfl ?_
      refine w_aload_n X dX5_isBadCrowd_3 rfl ?_
      refine w_get X (by decide) (σ_1 G n0 _ _) rfl gW_X5 6 (by decide) gF_X5_38 rfl dX5_isBadCrowd_4 ?_
      refine w_icmp_ge X 31 dX5_isBadCrowd_7 (by decide) (fun c7_1 => ?_) (fun c7_1 => ?_)
      ·
        refine w_iconst X dX5_isBadCrowd_31 ?_
        refine s_zret X hr dX5_isBadCrowd_32 (by omega) ?_
        exact ⟨rfl, rfl, Or.inr ⟨rfl, fun j hj => hinv j (by omega)⟩⟩
      ·
        refine w_aload_n X dX5_isBadCrowd_10 rfl ?_
        refine w_aload_n X dX5_isBadCrowd_11 rfl ?_
        refine w_get X (by decide) (σ_1 G n0 _ _) rfl gW_X5 1 (by decide) gF_X5_19 rfl dX5_isBadCrowd_12 ?_
        refine w_iload_n X dX5_isBadCrowd_15 rfl ?_
        refine s_aald X (t := 2) (i) (by decide) (σ_3 G n0 _ _) rfl dX5_isBadCrowd_16 ?_
        refine s_callVi X _ (c_X3_isAtLeast (l := l) (G := G) (n0 := n0) hc (cr_3 (by omega)) hb (hL.2.2.2.2.2 i (by omega))) gM_X5_53 gI_yX3_isAtLeast gS_yX3_isAtLeast gN_X3 gC_yX3_isAtLeast (isCr_k hc) (σ_cr G n0 _ _ hc) rfl dX5_isBadCrowd_17 hl_yX3_isAtLeast ⟨Nat.le_of_ble_eq_true rfl, Nat.le_of_ble_eq_true rfl⟩ (Nat.le_of_ble_eq_true rfl) rfl (fun r1 mi1 mr1 h1 => ?_)
        obtain ⟨rfl, rfl, h1⟩ := h1
        refine w_if_eq X 25 dX5_isBadCrowd_20 (by decide) (fun c20_2 => ?_) (fun c20_2 => ?_)
        ·
          refine w_iinc3_2 X dX5_isBadCrowd_25 ?_
          refine w_goto X 2 dX5_isBadCrowd_28 (by decide) ?_
          exact ih_loop _ (by omega) (i + 1) none (by omega) (fun j hj => by rcases (show j < i ∨ j = i by omega) with q | q; exact hinv j q; subst q; rcases h1 with q1 | q1; omega; exact q1.2) rfl
        ·
          refine w_iconst X dX5_isBadCrowd_23 ?_
          refine s_zret X hr dX5_isBadCrowd_24 (by omega) ?_
          rcases h1 with q1 | q1
          · exact ⟨rfl, rfl, Or.inl ⟨rfl, i, by omega, q1.2⟩⟩
          · omega
  exact loop _ 0 none (by omega) (fun j hj => absurd hj (by omega)) rfl
set_option maxRecDepth 20000 in
set_option maxHeartbeats 4000000 in
theorem c_X5_isInStart {l : Launch} {G : Gt} {n0 : Nat} {mi : Nat → Nat → Int} {mr : Nat → Nat → Nat} (hL : LW mi) {c : Nat} (hc : isCr c) (hb : CB mi c) : Ci l yX5_isInStart cX5_isInStart 3 .boolean 2 G n0 [.ref (n0 + 1), .ref (n0 + c)] mi mr (fun r9 mi9 mr9 => mi = mi9 ∧ mr = mr9 ∧ (r9 = 1 ∧ inst (mi 1 4) (mi (c + 1)) (mi 1 3) ∨ r9 = 0 ∧ ¬ inst (mi 1 4) (mi (c + 1)) (mi 1 3))) := by
  refine Ct_of (by decide +kernel) (by intro v hv; simp at hv; rcases hv with rfl | rfl <;> rfl) (Nat.le_of_ble_eq_true rfl) ?_
  intro p e s m args below meth c9 X hr hname
  show WW _ _ _ _ _ _ _ _ _ _ _ _ _ _ _ _ _ _ _ [some (.ref (n0 + 1)), some (.ref (n0 + c)), none] _
  have hL1 := hL.1
  have hL2 := hL.2.1
  have hcb := CB_at hb
  refine w_iconst X dX5_isInStart_0 ?_
  refine w_ist3_2 X dX5_isInStart_1 ?_
  have loop : ∀ (n : Nat) (i : Nat) (x3 : Option Value), ((i : Int) ≤ mi 1 3) → (∀ j : Nat, j < i → mi (c + 1) j ≤ 0 ∨ btz (mi 1 4) j = 1) → n = 5 - i → WSi p l e s m args below meth c9 2 (fun r9 mi9 mr9 => mi = mi9 ∧ mr = mr9 ∧ (r9 = 1 ∧ inst (mi 1 4) (mi (c + 1)) (mi 1 3) ∨ r9 = 0 ∧ ¬ inst (mi 1 4) (mi (c + 1)) (mi 1 3))) G n0 3 mi mr 2 [some (.ref (n0 + 1)), some (.ref (n0 + c)), some (.int (jI (i : Int)))] [] := by
    intro n
    induction n using Nat.strongRecOn with
    | ind n ih_loop =>
      intro i x3 hi hinv hn
      refine w_iload_n X dX5_isInStart_2 rfl ?_
      refine w_aload_n X dX5_isInStart_3 rfl ?_
      refine w_get X (by decide) (σ_1 G n0 _ _) rfl gW_X5 3 (by decide) gF_X5_28 rfl dX5_isInStart_4 ?_
      refine w_icmp_ge X 37 dX5_isInStart_7 (by decide) (fun c7_1 => ?_) (fun c7_1 => ?_)
      ·
        refine w_iconst X dX5_isInStart_37 ?_
        refine s_zret X hr dX5_isInStart_38 (by omega) ?_
        exact ⟨rfl, rfl, Or.inl ⟨rfl, fun j hj => hinv j (by omega)⟩⟩
      ·
        refine w_aload_n X dX5_isInStart_10 rfl ?_
        refine w_iload_n X dX5_isInStart_11 rfl ?_
        refine s_callVi X _ (c_X3_of (l := l) (G := G) (n0 := n0) hc (by first | assumption | (refine ⟨?_, ?_⟩ <;> omega))) gM_X5_57 gI_yX3_of gS_yX3_of gN_X3 gC_yX3_of (isCr_k hc) (σ_cr G n0 _ _ hc) rfl dX5_isInStart_12 hl_yX3_of ⟨Nat.le_of_ble_eq_true rfl, Nat.le_of_ble_eq_true rfl⟩ (Nat.le_of_ble_eq_true rfl) rfl (fun r1 mi1 mr1 h1 => ?_)
        obtain ⟨rfl, rfl, h1⟩ := h1
        rw [if_pos ⟨by omega, by omega⟩, Int.toNat_natCast] at h1
        have q7 := hcb i (by omega)
        refine w_if_le X 31 dX5_isInStart_15 (by decide) (fun c15_2 => ?_) (fun c15_2 => ?_)
        ·
          refine w_iinc3_2 X dX5_isInStart_31 ?_
          refine w_goto X 2 dX5_isInStart_34 (by decide) ?_
          have q8 : mi (c + 1) i ≤ 0 ∨ btz (mi 1 4) i = 1 := by
            first
            | (left; omega)
            | (right; unfold btz; rw [Int.toNat_natCast] at *; omega)
          exact ih_loop _ (by omega) (i + 1) none (by omega) (fun j hj => by rcases (show j < i ∨ j = i by omega) with q | q; exact hinv j q; subst q; exact q8) rfl
        ·
          refine w_aload_n X dX5_isInStart_18 rfl ?_
          refine w_get X (by decide) (σ_1 G n0 _ _) rfl gW_X5 4 (by decide) gF_X5_32 rfl dX5_isInStart_19 ?_
          refine w_iload_n X dX5_isInStart_22 rfl ?_
          have hd0 := Int.ediv_nonneg (show 0 ≤ mi 1 4 by omega) (show (0:Int) ≤ 2 ^ (i : Int).toNat from Int.le_of_lt (Int.pow_pos (by decide)))
          have hd1 := Int.ediv_le_self (2 ^ (i : Int).toNat) (show 0 ≤ mi 1 4 by omega)
          refine w_ishr X dX5_isInStart_23 ?_
          refine w_iconst X dX5_isInStart_24 ?_
          refine w_iand1 X dX5_isInStart_25 ?_
          refine w_if_ne X 31 dX5_isInStart_26 (by decide) (fun c26_3 => ?_) (fun c26_3 => ?_)
          ·
            refine w_iinc3_2 X dX5_isInStart_31 ?_
            refine w_goto X 2 dX5_isInStart_34 (by decide) ?_
            have q8 : mi (c + 1) i ≤ 0 ∨ btz (mi 1 4) i = 1 := by
              first
              | (left; omega)
              | (right; unfold btz; rw [Int.toNat_natCast] at *; omega)
            exact ih_loop _ (by omega) (i + 1) none (by omega) (fun j hj => by rcases (show j < i ∨ j = i by omega) with q | q; exact hinv j q; subst q; exact q8) rfl
          ·
            refine w_iconst X dX5_isInStart_29 ?_
            refine s_zret X hr dX5_isInStart_30 (by omega) ?_
            refine ⟨rfl, rfl, Or.inr ⟨rfl, fun w => ?_⟩⟩
            have q := w i (by omega)
            unfold btz at q
            rw [Int.toNat_natCast] at *
            omega
  exact loop _ 0 none (by omega) (fun j hj => absurd hj (by omega)) rfl
set_option maxRecDepth 20000 in
set_option maxHeartbeats 4000000 in
theorem c_X5_countFitting {l : Launch} {G : Gt} {n0 : Nat} {mi : Nat → Nat → Int} {mr : Nat → Nat → Nat} (hL : LW mi) {c : Nat} (hc : isCr c) (hb : CB mi c) : Ci l yX5_countFitting cX5_countFitting 4 .int 3 G n0 [.ref (n0 + 1), .ref (n0 + c)] mi mr (fun r9 mi9 mr9 => mi = mi9 ∧ mr = mr9 ∧ r9 = cnt (fun j => fit (mi (6 + 2 * j)) (mi (c + 1))) (mi 1 5).toNat) := by
  refine Ct_of (by decide +kernel) (by intro v hv; simp at hv; rcases hv with rfl | rfl <;> rfl) (Nat.le_of_ble_eq_true rfl) ?_
  intro p e s m args below meth c9 X hr hname
  show WW _ _ _ _ _ _ _ _ _ _ _ _ _ _ _ _ _ _ _ [some (.ref (n0 + 1)), some (.ref (n0 + c)), none, none] _
  have hL3 := hL.2.2.1
  refine w_iconst X dX5_countFitting_0 ?_
  refine w_ist4_2 X dX5_countFitting_1 ?_
  refine w_iconst X dX5_countFitting_2 ?_
  refine w_ist4_3 X dX5_countFitting_3 ?_
  have loop : ∀ (n : Nat) (i : Nat) (t : Int) (x3 : Option Value), ((i : Int) ≤ mi 1 5) → (t = cnt (fun j => fit (mi (6 + 2 * j)) (mi (c + 1))) i) → n = 12 - i → WSi p l e s m args below meth c9 3 (fun r9 mi9 mr9 => mi = mi9 ∧ mr = mr9 ∧ r9 = cnt (fun j => fit (mi (6 + 2 * j)) (mi (c + 1))) (mi 1 5).toNat) G n0 4 mi mr 4 [some (.ref (n0 + 1)), some (.ref (n0 + c)), some (.int (jI t)), some (.int (jI (i : Int)))] [] := by
    intro n
    induction n using Nat.strongRecOn with
    | ind n ih_loop =>
      intro i t x3 hi ht hn
      refine w_iload_n X dX5_countFitting_4 rfl ?_
      refine w_aload_n X dX5_countFitting_5 rfl ?_
      refine w_get X (by decide) (σ_1 G n0 _ _) rfl gW_X5 5 (by decide) gF_X5_35 rfl dX5_countFitting_6 ?_
      refine w_icmp_ge X 34 dX5_countFitting_9 (by decide) (fun c9_1 => ?_) (fun c9_1 => ?_)
      ·
        refine w_iload_n X dX5_countFitting_34 rfl ?_
        refine s_iret X hr dX5_countFitting_35 ?_
        exact ⟨rfl, rfl, by rw [ht, show (mi 1 5).toNat = i by omega]⟩
      ·
        refine w_aload_n X dX5_countFitting_12 rfl ?_
        refine w_get X (by decide) (σ_1 G n0 _ _) rfl gW_X5 0 (by decide) gF_X5_11 rfl dX5_countFitting_13 ?_
        refine w_iload_n X dX5_countFitting_16 rfl ?_
        refine s_aald X (t := 3) (i) (by decide) (σ_2 G n0 _ _) rfl dX5_countFitting_17 ?_
        refine w_aload_n X dX5_countFitting_18 rfl ?_
        refine s_callVi X _ (c_X6_fits (l := l) (G := G) (n0 := n0) (ru_2 (by omega)) (hL.2.2.2.2.1 i (by omega)) hc hb) gM_X5_61 gI_yX6_fits gS_yX6_fits gN_X6 gC_yX6_fits (isRu_k (ru_2 (by omega))) (σ_ru G n0 _ _ (ru_2 (by omega))) rfl dX5_countFitting_19 hl_yX6_fits ⟨Nat.le_of_ble_eq_true rfl, Nat.le_of_ble_eq_true rfl⟩ (Nat.le_of_ble_eq_true rfl) rfl (fun r1 mi1 mr1 h1 => ?_)
        obtain ⟨rfl, rfl, h1⟩ := h1
        refine w_if_eq X 28 dX5_countFitting_22 (by decide) (fun c22_2 => ?_) (fun c22_2 => ?_)
        ·
          refine w_iinc4_3 X dX5_countFitting_28 ?_
          refine w_goto X 4 dX5_countFitting_31 (by decide) ?_
          rcases h1 with ⟨q1, q2⟩ | ⟨q1, q2⟩
          · first | omega | exact ih_loop _ (by omega) (i + 1) _ none (by omega) (by rw [cnt_t q2, ht]) rfl
          · first | omega | exact ih_loop _ (by omega) (i + 1) _ none (by omega) (by rw [cnt_f q2, ht]) rfl
        ·
          refine w_iinc4_2 X dX5_countFitting_25 ?_
          refine w_iinc4_3 X dX5_countFitting_28 ?_
          refine w_goto X 4 dX5_countFitting_31 (by decide) ?_
          rcases h1 with ⟨q1, q2⟩ | ⟨q1, q2⟩
          · first | omega | exact ih_loop _ (by omega) (i + 1) _ none (by omega) (by rw [cnt_t q2, ht]) rfl
          · first | omega | exact ih_loop _ (by omega) (i + 1) _ none (by omega) (by rw [cnt_f q2, ht]) rfl
  exact loop _ 0 0 none (by omega) rfl rfl
