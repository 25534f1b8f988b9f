/-! longs -/
def jL (z : Int) : Int64 := Int64.ofInt z
theorem jL_to {z : Int} (h : rg z) : (jL z).toInt = z := by
  unfold jL
  rw [Int64.toInt_ofInt, show Int64.size = 18446744073709551616 from rfl]
  have h1 := h.1; have h2 := h.2
  exact Int.bmod_eq_of_le_mul_two (by omega) (by omega)
theorem jL_i {z : Int} (h : rg z) : (jI z).toInt64 = jL z := Int64.toInt_inj.mp (by rw [Int32.toInt_toInt64, jI_to h, jL_to h])
theorem jL_lt {a b : Int} (ha : rg a) (hb : rg b) : jL a < jL b ↔ a < b := by rw [Int64.lt_iff_toInt_lt, jL_to ha, jL_to hb]
theorem jL_eq {a b : Int} (ha : rg a) (hb : rg b) : jL a = jL b ↔ a = b := by
  constructor
  · intro h
    have h2 := congrArg Int64.toInt h
    rwa [jL_to ha, jL_to hb] at h2
  · intro h; rw [h]
def cmp3 (a b : Int) : Int := if b < a then 1 else if a = b then 0 else -1
section
variable {p : Program} {l : Launch} {e : Env} {R : Room} {s : State} {m : MethodId} {args : Array Value} {below : List Frame} {meth : Method} {c : Code} {H : Heap} {locs : List Loc} {cells slots : Nat} {Q : State → Prop} {cc : ByteArray} {pc : Nat} {ls : Array Slot} {rest : List Value}
theorem x_lcmp (hexec : p.tables.exec = Jvm.exec) (hb : c.code = cc) {a b : Int} (ha : rg a) (hb2 : rg b) (hdg : decode cc pc = .ok (.lcmp, 1)) (k : W p l e R s m args below meth c H locs cells slots Q (F0 m (pc + 1) ls (.int (jI (cmp3 a b)) :: rest))) : W p l e R s m args below meth c H locs cells slots Q (F0 m pc ls (.long (jL b) :: .long (jL a) :: rest)) := by
  intro T hT X
  obtain ⟨t, a1, b1⟩ := k T hT X
  refine ⟨t, ?_, b1⟩
  unfold cmp3 at a1
  have q1 := jL_lt hb2 ha
  have q2 := jL_eq ha hb2
  generalize jL a = x at *
  generalize jL b = y at *
  by_cases h1 : y < x
  · rw [if_pos (q1.mp h1)] at a1
    jvm_step X.here [X.here.top, hexec, hb, hdg, h1]
    exact a1
  · rw [if_neg (fun w => h1 (q1.mpr w))] at a1
    by_cases h2 : x = y
    · rw [if_pos (q2.mp h2)] at a1
      subst h2
      jvm_step X.here [X.here.top, hexec, hb, hdg, h1]
      exact a1
    · rw [if_neg (fun w => h2 (q2.mpr w))] at a1
      jvm_step X.here [X.here.top, hexec, hb, hdg, h1, h2]
      exact a1
end
section
variable {p : Program} {l : Launch} {e : Env} {R : Room} {s : State} {m : MethodId} {args : Array Value} {below : List Frame} {meth : Method} {c : Code} {Q : State → Prop} {G : Gt} {n0 nL N : Nat} {f : Nat → va_E} {cells slots pc : Nat} {L : List (Option Value)} {st : List Value} {own : String} {cc : ByteArray}
theorem w_lconst (X : Cx G n0 p s m args meth c cc own nL) {n : Fin 2} (hd : decode cc pc = .ok (.lconst n, 1)) (z : Int) (hz : Int64.ofNat (n : Nat) = jL z) (k : WW p l e R s m args below meth c Q G n0 nL N f cells slots (pc + 1) L (.long (jL z) :: st)) : WW p l e R s m args below meth c Q G n0 nL N f cells slots pc L st := fun H locs ls h1 h2 h3 => lv_lconst X.1 X.2.1 hd hz (k H locs ls h1 h2 h3)
theorem w_i2l (X : Cx G n0 p s m args meth c cc own nL) {z : Int} (hd : decode cc pc = .ok (.i2l, 1)) (k : WW p l e R s m args below meth c Q G n0 nL N f cells slots (pc + 1) L (.long (jL z) :: st)) (hz : rg z := by first | assumption | (refine ⟨?_, ?_⟩ <;> omega) | (unfold rg; omega)) : WW p l e R s m args below meth c Q G n0 nL N f cells slots pc L (.int (jI z) :: st) := fun H locs ls h1 h2 h3 => lv_i2l X.1 X.2.1 hd (jL_i hz) (k H locs ls h1 h2 h3)
theorem w_ldc2 (X : Cx G n0 p s m args meth c cc own nL) {index : Nat} {v : Int64} {z : Int} (hw : Cond.constantLong own index v ∈ lw_w) (hv : v = jL z) (hd : decode cc pc = .ok (.ldc2_w index, 3)) (k : WW p l e R s m args below meth c Q G n0 nL N f cells slots (pc + 3) L (.long (jL z) :: st)) : WW p l e R s m args below meth c Q G n0 nL N f cells slots pc L st := fun H locs ls h1 h2 h3 => lv_ldc2 X.1 X.2.1 X.2.2.2.1 (X.2.2.2.2.1 _ hw) hd (hv ▸ k H locs ls h1 h2 h3)
end
theorem Ct_ofL {l : Launch} {G : Gt} {n0 nL N : Nat} {f : Nat → va_E} {y : MethodName} {b : ByteArray} {ret : Option FieldType} {lv mc ms : Nat} {av : List Value} {post : Option Value → Nat → (Nat → va_E) → Prop} (hy : plainName y.cls = true)
    (body : ∀ (p : Program) (e : Env) (s : State) (m : MethodId) (args : Array Value) (below : List Frame) (meth : Method) (c : Code) (H : Heap) (ls : Array Slot), Cx G n0 p s m args meth c b y.cls nL → meth.sig.returnType = ret → Wd G n0 N f H → va_S (fun q => n0 ≤ q) s.heap H [] → ls = ((lg_sl av ++ List.replicate (nL - (lg_sl av).length) Slot.unset).toArray) → W p l e { frames := lv, cells := mc, slots := ms, locals := 40 * lv } s m args below meth c H [] 0 0 (MQ below (Qx G n0 post) args s mc ms (fun q => n0 ≤ q)) (F0 m 0 ls [])) : Ct l y b nL ret lv mc ms G n0 av N f post := by
  refine Met.ofW (cc := b) (maxL := nL) (ret := ret) hy rfl ?_
  intro p e s m args below meth c s₁ B hml hv
  obtain ⟨rfl, hW, hK⟩ := hv
  have hts := atoms_spec (ws := Cond.code y b nL ret :: lw_good) B.pre
  have hX : Cx G n0 p s m av.toArray meth c b y.cls nL := ⟨B.exec, B.bytes, hml, findClass_of_methodNamed B.named, KK.tbl hK (fun w hw => hts w (List.mem_cons_of_mem _ hw)), hK, B.notSynchronized, by have := hW.1; omega⟩
  have k := body p e s m av.toArray below meth c s.heap _ hX B.returns hW va_S.rf rfl
  rw [lg_entry_eq]
  exact k
theorem dX8_in_0 : decode cX8_in 0 = .ok (.lload_n 0, 1) := by decide +kernel
theorem dX8_in_1 : decode cX8_in 1 = .ok (.lload_n 2, 1) := by decide +kernel
theorem dX8_in_2 : decode cX8_in 2 = .ok (.lcmp, 1) := by decide +kernel
theorem dX8_in_3 : decode cX8_in 3 = .ok (.ifCond .lt 14, 3) := by decide +kernel
theorem dX8_in_6 : decode cX8_in 6 = .ok (.lload_n 0, 1) := by decide +kernel
theorem dX8_in_7 : decode cX8_in 7 = .ok (.lload 4, 2) := by decide +kernel
theorem dX8_in_9 : decode cX8_in 9 = .ok (.lcmp, 1) := by decide +kernel
theorem dX8_in_10 : decode cX8_in 10 = .ok (.ifCond .gt 7, 3) := by decide +kernel
theorem dX8_in_13 : decode cX8_in 13 = .ok (.iconst 1, 1) := by decide +kernel
theorem dX8_in_14 : decode cX8_in 14 = .ok (.goto 4, 3) := by decide +kernel
theorem dX8_in_17 : decode cX8_in 17 = .ok (.iconst 0, 1) := by decide +kernel
theorem dX8_in_18 : decode cX8_in 18 = .ok (.ireturn, 1) := by decide +kernel
theorem hl_yX8_in : (yX8_in.cls ≠ "java/lang/invoke/MethodHandle" ∧ yX8_in.cls ≠ "java/lang/invoke/VarHandle") ∧ (parseMethodDescriptor yX8_in.desc).map (fun d => d.parameters.length) = some 3 := by decide +kernel
theorem c_X8_in {l : Launch} {G : Gt} {n0 : Nat} {mi : Nat → Nat → Int} {mr : Nat → Nat → Nat} {z lo hi : Int} (hz : rg z) (hlo : rg lo) (hhi : rg hi) : Ci l yX8_in cX8_in 6 .boolean 1 G n0 [.long (jL z), .long (jL lo), .long (jL hi)] mi mr (fun r9 mi9 mr9 => mi = mi9 ∧ mr = mr9 ∧ (r9 = 1 ∧ lo ≤ z ∧ z ≤ hi ∨ r9 = 0 ∧ ¬ (lo ≤ z ∧ z ≤ hi))) := by
  refine Ct_ofL (by decide +kernel) ?_
  intro p e s m args below meth c H ls X hr h1 h2 hls
  have e0 : ls[0]? = some (.val (.long (jL z))) := by rw [hls]; rfl
  have e2 : ls[2]? = some (.val (.long (jL lo))) := by rw [hls]; rfl
  have e4 : ls[4]? = some (.val (.long (jL hi))) := by rw [hls]; rfl
  have h3 : hasL ls 6 [none, none, none, none, none, none] := by
    have := lv_entry (n := 6) [.long (jL z), .long (jL lo), .long (jL hi)] (Nat.le_refl 6)
    rw [hls]
    refine ⟨rfl, this.1, this.2.1, fun i v hi => ?_⟩
    rcases (show i = 0 ∨ i = 1 ∨ i = 2 ∨ i = 3 ∨ i = 4 ∨ i = 5 ∨ 6 ≤ i by omega) with rfl | rfl | rfl | rfl | rfl | rfl | q
    all_goals first | simp at hi | (rw [List.getElem?_eq_none (by simpa using q)] at hi; cases hi)
  have g1 : ∀ a b : Int, (cmp3 a b < 0 ↔ a < b) ∧ (0 < cmp3 a b ↔ b < a) ∧ rg (cmp3 a b) := fun a b => by
    unfold cmp3 rg
    split
    · omega
    · split <;> omega
  refine lv_lload_n X.1 X.2.1 dX8_in_0 rfl e0 ?_
  refine lv_lload_n X.1 X.2.1 dX8_in_1 rfl e2 ?_
  refine x_lcmp X.1 X.2.1 hz hlo dX8_in_2 ?_
  have hend : ∀ (v : Int), (v = 1 ∧ lo ≤ z ∧ z ≤ hi ∨ v = 0 ∧ ¬ (lo ≤ z ∧ z ≤ hi)) → WSi p l e s m args below meth c 1 (fun r9 mi9 mr9 => mi = mi9 ∧ mr = mr9 ∧ (r9 = 1 ∧ lo ≤ z ∧ z ≤ hi ∨ r9 = 0 ∧ ¬ (lo ≤ z ∧ z ≤ hi))) G n0 6 mi mr 18 [none, none, none, none, none, none] [.int (jI v)] := fun v hv => s_zret X hr dX8_in_18 (by omega) ⟨rfl, rfl, hv⟩
  refine lv_if_lt X.1 X.2.1 dX8_in_3 (show ((3 : Nat) : Int) + 14 = ((17 : Nat) : Int) by decide) (fun q1 => ?_) (fun q1 => ?_)
  · have := (g1 z lo).1.mp ((jI_lt (g1 z lo).2.2 rg0).mp q1)
    exact w_iconst X dX8_in_17 (hend 0 (by omega)) H [] ls h1 h2 h3
  · have q2 : ¬ z < lo := fun w => q1 ((jI_lt (g1 z lo).2.2 rg0).mpr ((g1 z lo).1.mpr w))
    refine lv_lload_n X.1 X.2.1 dX8_in_6 rfl e0 ?_
    refine lv_lload X.1 X.2.1 dX8_in_7 e4 ?_
    refine x_lcmp X.1 X.2.1 hz hhi dX8_in_9 ?_
    refine lv_if_gt X.1 X.2.1 dX8_in_10 (show ((10 : Nat) : Int) + 7 = ((17 : Nat) : Int) by decide) (fun q1 => ?_) (fun q1 => ?_)
    · have := (g1 z hi).2.1.mp ((jI_lt rg0 (g1 z hi).2.2).mp q1)
      exact w_iconst X dX8_in_17 (hend 0 (by omega)) H [] ls h1 h2 h3
    · have q3 : ¬ hi < z := fun w => q1 ((jI_lt rg0 (g1 z hi).2.2).mpr ((g1 z hi).2.1.mpr w))
      exact w_iconst X dX8_in_13 (w_goto X 18 dX8_in_14 (by decide) (hend 1 (by omega))) H [] ls h1 h2 h3
