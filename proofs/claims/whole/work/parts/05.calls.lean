section Calls
variable {p : Program} {l : Launch} {e : Env} {R : Room} {s : State} {m : MethodId} {args : Array Value} {below : List Frame} {meth : Method} {c : Code} {Q : State → Prop} {G : Gt} {n0 nL N : Nat} {f : Nat → va_E} {cells slots pc : Nat} {L : List (Option Value)} {st : List Value} {cc : ByteArray} {own : String}
theorem w_new (X : Cx G n0 p s m args meth c cc own nL) {C : String} {T : u_T} {Nf ci index : Nat} (hcl : Cond.classLink own index C ∈ lw_w) (hinst : Cond.instantiable C Nf ∈ lw_w) (hini : Cond.initialized C ∈ lw_w) (hin : ∀ w ∈ u_ws C T Nf, w ∈ lw_w) (ty : Nat → FieldType) (hty : ∀ k, k < Nf → parseFieldDescriptor (T k).2.2.1 = some (ty k)) (hc : vwCl[ci]? = some (C, T, Nf)) (fs : List Value) (hfs : ∀ j, j < Nf → defaultValue (ty j) = vp_V fs j) (hcells : cells + 1 ≤ R.cells) (hslots : slots + Nf ≤ R.slots) (hd : decode cc pc = .ok (.new index, 3)) (kk : WW p l e R s m args below meth c Q G n0 nL (N + 1) (va_up f N (.inr (ci, fs))) (cells + 1) (slots + Nf) (pc + 3) L (.ref (n0 + N) :: st)) : WW p l e R s m args below meth c Q G n0 nL N f cells slots pc L st := fun H locs ls h1 h2 h3 => by
  have hts := X.2.2.2.2.1
  have hKn := X.2.2.2.2.2.1.1.1 ci _ hc
  refine W.newcK X.1 X.2.1 X.2.2.2.1 (hts _ hcl) (hts _ hinst) (hts _ hini) rfl hd hcells hslots hKn.2.1 h1.1 fun H1 kC hkC e1 z1 o1 => ?_
  refine kk H1 _ ls ⟨by omega, ?_⟩ ⟨by have := h2.1; have := h1.1; omega, fun x g1 g2 => (o1 x (by have := h2.1; have := h1.1; omega)).trans (h2.2.1 x g1 g2), h2.2.2⟩ h3
  rw [← wl_push]
  refine (h1.2.kept (fun k x hx => ?_)).app (fun k x hx => ?_)
  · obtain ⟨hk, rfl⟩ := wl_inv hx
    exact o1 _ (by show n0 + k < n0 + N; omega)
  · have hz : k < 1 := (List.getElem?_eq_some_iff.mp hx).1
    rw [show k = 0 by omega] at hx
    cases hx
    exact ⟨_, hc, (u_born ty hts hin hKn hkC e1 hty).to hfs⟩
theorem w_newi (X : Cx G n0 p s m args meth c cc own nL) {z : Int} {n : Nat} (hz : z = n) (hn : n ≤ 100000) (hcells : cells + 1 ≤ R.cells) (hslots : slots + n ≤ R.slots) (hd : decode cc pc = .ok (.newarray .int, 2)) (kk : WW p l e R s m args below meth c Q G n0 nL (N + 1) (va_up f N (.inl (G.2 0, n, .inl (fun _ => 0)))) (cells + 1) (slots + n) (pc + 2) L (.ref (n0 + N) :: st)) : WW p l e R s m args below meth c Q G n0 nL N f cells slots pc L (.int (jI z) :: st) := fun H locs ls h1 h2 h3 => by
  subst hz
  have hts := X.2.2.2.2.1
  have hra : va_RA s (G.2 0) .int := (X.2.2.2.2.2.1.1.2 0 _ rfl).2
  have h0 : ¬ jI (n : Int) < 0 := fun h => by
    have := (jI_lt (a := (n : Int)) (b := 0) ⟨by omega, by omega⟩ rg0).mp h
    omega
  refine va_newaK X.1 X.2.1 (atype := .int) (hts _ gA_38) rfl hd rfl h0 (N := n) (by rw [jI_cl (by omega) (by omega)]; exact Int.toNat_natCast n) (by show n * 4 ≤ _; omega) hcells hslots h1.1 fun H1 cA e1 z1 o1 hAr hNm => ?_
  have hcA : cA = G.2 0 := Option.some.inj (hNm.symm.trans hra)
  subst hcA
  refine kk H1 _ ls ⟨by omega, ?_⟩ ⟨by have := h2.1; have := h1.1; omega, fun x g1 g2 => (o1 x (by have := h2.1; have := h1.1; omega)).trans (h2.2.1 x g1 g2), h2.2.2⟩ h3
  rw [← wl_push]
  refine (h1.2.kept (fun k x hx => ?_)).app (fun k x hx => ?_)
  · obtain ⟨hk, rfl⟩ := wl_inv hx
    exact o1 _ (by show n0 + k < n0 + N; omega)
  · have hz : k < 1 := (List.getElem?_eq_some_iff.mp hx).1
    rw [show k = 0 by omega] at hx
    cases hx
    show H1[n0 + N]? = some (vp_cell _ _)
    rw [e1]; rfl
theorem w_newz (X : Cx G n0 p s m args meth c cc own nL) {z : Int} {n : Nat} (hz : z = n) (hn : n ≤ 100000) (hcells : cells + 1 ≤ R.cells) (hslots : slots + n ≤ R.slots) (hd : decode cc pc = .ok (.newarray .boolean, 2)) (kk : WW p l e R s m args below meth c Q G n0 nL (N + 1) (va_up f N (.inl (G.2 1, n, .inl (fun _ => 0)))) (cells + 1) (slots + n) (pc + 2) L (.ref (n0 + N) :: st)) : WW p l e R s m args below meth c Q G n0 nL N f cells slots pc L (.int (jI z) :: st) := fun H locs ls h1 h2 h3 => by
  subst hz
  have hts := X.2.2.2.2.1
  have hra : va_RA s (G.2 1) .boolean := (X.2.2.2.2.2.1.1.2 1 _ rfl).2
  have h0 : ¬ jI (n : Int) < 0 := fun h => by
    have := (jI_lt (a := (n : Int)) (b := 0) ⟨by omega, by omega⟩ rg0).mp h
    omega
  refine va_newaK X.1 X.2.1 (atype := .boolean) (hts _ gA_162) rfl hd rfl h0 (N := n) (by rw [jI_cl (by omega) (by omega)]; exact Int.toNat_natCast n) (by show n * 1 ≤ _; omega) hcells hslots h1.1 fun H1 cA e1 z1 o1 hAr hNm => ?_
  have hcA : cA = G.2 1 := Option.some.inj (hNm.symm.trans hra)
  subst hcA
  refine kk H1 _ ls ⟨by omega, ?_⟩ ⟨by have := h2.1; have := h1.1; omega, fun x g1 g2 => (o1 x (by have := h2.1; have := h1.1; omega)).trans (h2.2.1 x g1 g2), h2.2.2⟩ h3
  rw [← wl_push]
  refine (h1.2.kept (fun k x hx => ?_)).app (fun k x hx => ?_)
  · obtain ⟨hk, rfl⟩ := wl_inv hx
    exact o1 _ (by show n0 + k < n0 + N; omega)
  · have hz : k < 1 := (List.getElem?_eq_some_iff.mp hx).1
    rw [show k = 0 by omega] at hx
    cases hx
    show H1[n0 + N]? = some (vp_cell _ _)
    rw [e1]; rfl
theorem w_newq (X : Cx G n0 p s m args meth c cc own nL) {z : Int} {n t index : Nat} {C : String} (hz : z = n) (hn : n ≤ 100000) (hcl : Cond.classLink own index C ∈ lw_w) (hao : Cond.arrayOver (.object C) ∈ lw_w) (ht : (tyG G)[t]? = some (G.2 t, .object C)) (hcells : cells + 1 ≤ R.cells) (hslots : slots + n ≤ R.slots) (hd : decode cc pc = .ok (.anewarray index, 3)) (kk : WW p l e R s m args below meth c Q G n0 nL (N + 1) (va_up f N (.inl (G.2 t, n, .inr (.inr (.inr (.inr (fun _ => none))))))) (cells + 1) (slots + n) (pc + 3) L (.ref (n0 + N) :: st)) : WW p l e R s m args below meth c Q G n0 nL N f cells slots pc L (.int (jI z) :: st) := fun H locs ls h1 h2 h3 => by
  subst hz
  have hts := X.2.2.2.2.1
  obtain ⟨kA0, comp0, -, -, -, hra⟩ := (X.2.2.2.2.2.1.1.2 t _ ht).2
  have h0 : ¬ jI (n : Int) < 0 := fun h => by
    have := (jI_lt (a := (n : Int)) (b := 0) ⟨by omega, by omega⟩ rg0).mp h
    omega
  have hcl2 : (jI (n : Int)).toNatClampNeg = n := by rw [jI_cl (by omega) (by omega)]; exact Int.toNat_natCast n
  refine W.anew X.1 X.2.1 X.2.2.2.1 (hts _ hcl) (hts _ hao) rfl hd rfl h0 (by rw [hcl2]; omega) hcells (by rw [hcl2]; exact hslots) fun cA kA comp f1 f2 f3 f4 => ?_
  rw [hcl2, h1.1]
  have hcA : cA = G.2 t := Option.some.inj (f1.symm.trans hra)
  subst hcA
  generalize hH1 : H.push ({ cls := G.2 t, slots := Array.replicate n .null, vm := .none } : Cell) = H1
  have z1 : H1.size = H.size + 1 := by rw [← hH1, Array.size_push]
  have e1 : H1[H.size]? = some (arrV (G.2 t) n (fun _ => .null)) := by rw [← hH1, Array.getElem?_push_size, ← arrV_new]
  have o1 : ∀ q : Nat, q < H.size → H1[q]? = H[q]? := fun q hq => by rw [← hH1, Array.getElem?_push, if_neg (Nat.ne_of_lt hq)]
  rw [h1.1] at e1
  refine kk H1 _ ls ⟨by have := h1.1; omega, ?_⟩ ⟨by have := h2.1; have := h1.1; omega, fun x g1 g2 => (o1 x (by have := h2.1; have := h1.1; omega)).trans (h2.2.1 x g1 g2), h2.2.2⟩ h3
  rw [← wl_push]
  refine (h1.2.kept (fun k x hx => ?_)).app (fun k x hx => ?_)
  · obtain ⟨hk, rfl⟩ := wl_inv hx
    exact o1 _ (by show n0 + k < H.size; have := h1.1; omega)
  · have hz : k < 1 := (List.getElem?_eq_some_iff.mp hx).1
    rw [show k = 0 by omega] at hx
    cases hx
    show H1[n0 + N]? = some (vp_cell _ _)
    rw [e1]; rfl
theorem w_objInit (X : Cx G n0 p s m args meth c cc own nL) {index a : Nat} (hw : Cond.methodLink own index objectInit ∈ lw_w) (hd : decode cc pc = .ok (.invokespecial index, 3)) (hR : 1 ≤ R.frames ∧ 40 ≤ R.locals) (hst : (st.map fun v => v.category).sum ≤ 8) (kk : WW p l e R s m args below meth c Q G n0 nL N f cells slots (pc + 3) L st) : WW p l e R s m args below meth c Q G n0 nL N f cells slots pc L (.ref a :: st) := fun H locs ls h1 h2 h3 => by
  have hts : ∀ w ∈ lw_w, w.before args s = true := fun w hw => X.2.2.2.2.1 w hw
  refine W.objInit X.1 X.2.1 X.2.2.2.1 (hts _ hw) (hts _ gI_objectInit) (hts _ gC_objectInit) rfl (h3.2.1.trans X.2.2.1.symm) rfl hd hR.1 ?_ (kk H locs ls h1 h2 h3)
  show 2 * 0 + _ + 12 ≤ _
  omega

theorem w_iret_z (hlocks : meth.locks = false) : True := trivial
/-! contracts -/
def Qx (G : Gt) (n0 : Nat) (post : Option Value → Nat → (Nat → va_E) → Prop) : Array Value → State → Outcome → State → Prop := fun _ st oc t => (∃ (v : Option Value) (N : Nat) (f : Nat → va_E), oc = .returned v ∧ post v N f ∧ Wd G n0 N f t.heap) ∧ va_F (fun q => n0 ≤ q) st t
def Ct (l : Launch) (y : MethodName) (b : ByteArray) (nL : Nat) (ret : Option FieldType) (lv mc ms : Nat) (G : Gt) (n0 : Nat) (av : List Value) (N : Nat) (f : Nat → va_E) (post : Option Value → Nat → (Nat → va_E) → Prop) : Prop :=
  Met l y (.code y b nL ret :: lw_good) { frames := lv, cells := mc, slots := ms, locals := 40 * lv } (va_Pc av (fun U => Wd G n0 N f U.heap ∧ KK G U)) (Qx G n0 post) mc ms (fun q => n0 ≤ q)
theorem Ct_of {y : MethodName} {b : ByteArray} {ret : Option FieldType} {lv mc ms : Nat} {av : List Value} {post : Option Value → Nat → (Nat → va_E) → Prop} (hy : plainName y.cls = true) (hcat : ∀ v ∈ av, v.category = 1) (hlen : av.length ≤ nL)
    (body : ∀ (p : Program) (e : Env) (s : State) (m : MethodId) (args : Array Value) (below : List Frame) (meth : Method) (c : Code), Cx G n0 p s m args meth c b y.cls nL → meth.sig.returnType = ret → meth.name = y.name → WW p l e { frames := lv, cells := mc, slots := ms, locals := 40 * lv } s m args below meth c (MQ below (Qx G n0 post) args s mc ms (fun q => n0 ≤ q)) G n0 nL N f 0 0 0 (inL av nL) []) : Ct l y b nL ret lv mc ms G n0 av N f post := by
  refine Met.ofW (cc := b) (maxL := nL) (ret := ret) hy rfl ?_
  intro p e s m args below meth c s₁ B hml hv
  obtain ⟨rfl, hW, hK⟩ := hv
  have hts := atoms_spec (ws := Cond.code y b nL ret :: lw_good) B.pre
  have hX : Cx G n0 p s m av.toArray meth c b y.cls nL := ⟨B.exec, B.bytes, hml, findClass_of_methodNamed B.named, KK.tbl hK (fun w hw => hts w (List.mem_cons_of_mem _ hw)), hK, B.notSynchronized, by have := hW.1; omega⟩
  have k := body p e s m av.toArray below meth c hX B.returns (name_of_methodNamed B.named B.method).1 s.heap [] _ hW va_S.rf (hasL_entry hcat hlen (by rw [lg_sl1 av hcat]; exact hlen))
  rw [lg_entry_eq]
  exact k
section Ret
variable {post : Option Value → Nat → (Nat → va_E) → Prop}
theorem w_iret (X : Cx G n0 p s m args meth c cc own nL) {v : Int32} (hr : meth.sig.returnType = some .int) (hd : decode cc pc = .ok (.ireturn, 1)) (hp : post (some (.int v)) N f) : WW p l e R s m args below meth c (MQ below (Qx G n0 post) args s cells slots (fun q => n0 ≤ q)) G n0 nL N f cells slots pc L [.int v] := fun H locs ls h1 h2 h3 =>
  W.iret X.1 X.2.1 hr (fun t ht hW => ⟨⟨_, N, f, rfl, hp, by rw [ht]; exact h1⟩, h2.F ht⟩) h2.2.2 hd (hlocks := X.2.2.2.2.2.2.1)
theorem w_zret (X : Cx G n0 p s m args meth c cc own nL) {v : Int} (hr : meth.sig.returnType = some .boolean) (hv : v = 0 ∨ v = 1) (hd : decode cc pc = .ok (.ireturn, 1)) (hp : post (some (.int (jI v))) N f) : WW p l e R s m args below meth c (MQ below (Qx G n0 post) args s cells slots (fun q => n0 ≤ q)) G n0 nL N f cells slots pc L [.int (jI v)] := fun H locs ls h1 h2 h3 =>
  W.zret (ty := .boolean) X.1 X.2.1 hr (by rcases hv with rfl | rfl <;> rfl) (fun t ht hW => ⟨⟨_, N, f, rfl, hp, by rw [ht]; exact h1⟩, h2.F ht⟩) h2.2.2 hd (hlocks := X.2.2.2.2.2.2.1)
theorem w_vret (X : Cx G n0 p s m args meth c cc own nL) (hr : meth.sig.returnType = none) (hd : decode cc pc = .ok (.return_, 1)) (hp : post none N f) : WW p l e R s m args below meth c (MQ below (Qx G n0 post) args s cells slots (fun q => n0 ≤ q)) G n0 nL N f cells slots pc L [] := fun H locs ls h1 h2 h3 =>
  W.vret X.1 X.2.1 hr (fun t ht hW => ⟨⟨_, N, f, rfl, hp, by rw [ht]; exact h1⟩, h2.F ht⟩) h2.2.2 hd (hlocks := X.2.2.2.2.2.2.1)
theorem WW.widen {k n : Nat} (h1 : cells ≤ k) (h2 : slots ≤ n) (kk : WW p l e R s m args below meth c Q G n0 nL N f k n pc L st) : WW p l e R s m args below meth c Q G n0 nL N f cells slots pc L st := fun H locs ls g1 g2 g3 => W.widen h1 h2 (kk H locs ls g1 g2 g3)
/-- what a call brings, for any of them -/
theorem w_ran {mc ms : Nat} {a : Array Value} {rest st0 : List Value} {H : Heap} {locs : List Loc} {ls : Array Slot} (hr : va_Run p l e R s m args below meth c H locs cells slots mc ms (F0 m pc ls st0) rest (Qx G n0 post a) (fun q => n0 ≤ q)) (h2 : va_S (fun q => n0 ≤ q) s.heap H locs) (h3 : hasL ls nL L)
    (kk : ∀ (v : Option Value) (N' : Nat) (f' : Nat → va_E), post v N' f' → WW p l e R s m args below meth c Q G n0 nL N' f' (cells + mc) (slots + ms) (pc + 3) L (v.toList ++ rest)) : W p l e R s m args below meth c H locs cells slots Q (F0 m pc ls st0) := by
  intro T hT X
  obtain ⟨v, st₀, t, T', L', h0, X', hL, e1, e2, ⟨⟨v2, N', f', hv, hp, hb⟩, hz, hk⟩, stp⟩ := hr T hT X
  cases hv
  rw [h0] at hz hk
  obtain ⟨t2, a1, b1⟩ := kk v N' f' hp T'.heap (locs ++ L') ls (by rw [e1]; exact hb)
    ⟨Nat.le_trans h2.1 (by rw [e1]; exact hz), fun q h4 h5 => by rw [e1, hk q (Nat.lt_of_lt_of_le h4 h2.1) h5]; exact h2.2.1 q h4 h5, fun q hq => by
      rcases List.mem_append.mp hq with h | h
      · exact h2.2.2 q h
      · exact hL q h⟩ h3 T' rfl X'
  exact ⟨t2, stp t2 a1, b1⟩
theorem blind_c {av : List Value} : FrameBlind (va_Pc av (fun U => Wd G n0 N f U.heap ∧ KK G U)) := fun a U g mk q => ⟨q.1, q.2.1, KK.same q.2.2 rfl⟩
theorem w_callV (X : Cx G n0 p s m args meth c cc own nL) {y : MethodName} {b : ByteArray} {nL' lv mc ms k ci index : Nat} {ret : Option FieldType} {As rest : List Value} {fs : List Value} {T' : u_T} {n' : Nat} (hC : Ct l y b nL' ret lv mc ms G n0 (.ref (n0 + k) :: As) N f post) (hl : Cond.methodLink own index y ∈ lw_w) (hi : Cond.instanceMethod y ∈ lw_w) (hse : Cond.selects y.cls y y ∈ lw_w) (hini : Cond.initialized y.cls ∈ lw_w) (hco : Cond.code y b nL' ret ∈ lw_w) (hk : k < N) (he : f k = .inr (ci, fs)) (hc : vwCl[ci]? = some (y.cls, T', n')) (hd : decode cc pc = .ok (.invokevirtual index, 3)) (hlen : (y.cls ≠ "java/lang/invoke/MethodHandle" ∧ y.cls ≠ "java/lang/invoke/VarHandle") ∧ (parseMethodDescriptor y.desc).map (fun d => d.parameters.length) = some As.length) (hR : lv + 1 ≤ R.frames ∧ 8 + (nL' + 11) + 40 * lv ≤ R.locals) (hcs : cells + mc ≤ R.cells ∧ slots + ms ≤ R.slots) (hrest : (rest.map fun v => v.category).sum ≤ 8) (hst : st = As.reverse ++ .ref (n0 + k) :: rest)
    (kk : ∀ (v : Option Value) (N' : Nat) (f' : Nat → va_E), post v N' f' → WW p l e R s m args below meth c Q G n0 nL N' f' (cells + mc) (slots + ms) (pc + 3) L (v.toList ++ rest)) : WW p l e R s m args below meth c Q G n0 nL N f cells slots pc L st := fun H locs ls h1 h2 h3 => by
  have hts := X.2.2.2.2.1
  have hK := X.2.2.2.2.2.1
  refine w_ran (va_runV (Ts := lw_w) (own := own) (C := y.cls) (b := n0 + k) (As := As) (rest := rest) (n := As.length) ⟨X.1, X.2.1, X.2.2.1, X.2.2.2.1, hts⟩ hC ⟨callB_of As.length hts (goodIn_c hco) rfl rfl rfl (hts _ hini) (hts _ hl) ⟨hlen.1.1, hlen.1.2, hlen.2⟩ hR, hts _ hi, hts _ hse⟩ ⟨blind_c, va_recv hK.1 h1.2 (ci := ci) (q0 := k) hc (by rw [wl_at hk, he]), fun U hU hW => ⟨rfl, by rw [hU]; exact h1, hK.warm hW⟩⟩ rfl rfl h3.2.1 hst (lv_room hrest) hd hcs) h2 h3 kk
theorem w_callS (X : Cx G n0 p s m args meth c cc own nL) {y : MethodName} {b : ByteArray} {nL' lv mc ms index : Nat} {ret : Option FieldType} {As rest : List Value} (hC : Ct l y b nL' ret lv mc ms G n0 As N f post) (hl : Cond.methodLink own index y ∈ lw_w) (hi : Cond.static y ∈ lw_w) (hini : Cond.initialized y.cls ∈ lw_w) (hco : Cond.code y b nL' ret ∈ lw_w) (hd : decode cc pc = .ok (.invokestatic index, 3)) (hlen : (y.cls ≠ "java/lang/invoke/MethodHandle" ∧ y.cls ≠ "java/lang/invoke/VarHandle") ∧ (parseMethodDescriptor y.desc).map (fun d => d.parameters.length) = some As.length) (hR : lv + 1 ≤ R.frames ∧ 8 + (nL' + 11) + 40 * lv ≤ R.locals) (hcs : cells + mc ≤ R.cells ∧ slots + ms ≤ R.slots) (hrest : (rest.map fun v => v.category).sum ≤ 8) (hst : st = As.reverse ++ rest)
    (kk : ∀ (v : Option Value) (N' : Nat) (f' : Nat → va_E), post v N' f' → WW p l e R s m args below meth c Q G n0 nL N' f' (cells + mc) (slots + ms) (pc + 3) L (v.toList ++ rest)) : WW p l e R s m args below meth c Q G n0 nL N f cells slots pc L st := fun H locs ls h1 h2 h3 => by
  have hts := X.2.2.2.2.1
  have hK := X.2.2.2.2.2.1
  refine w_ran (va_runS (Ts := lw_w) (own := own) (As := As) (rest := rest) (n := As.length) ⟨X.1, X.2.1, X.2.2.1, X.2.2.2.1, hts⟩ hC ⟨callB_of As.length hts (goodIn_c hco) rfl rfl rfl (hts _ hini) (hts _ hl) ⟨hlen.1.1, hlen.1.2, hlen.2⟩ hR, hts _ hi⟩ ⟨blind_c, fun U hU hW => ⟨rfl, by rw [hU]; exact h1, hK.warm hW⟩⟩ rfl rfl h3.2.1 hst (lv_room hrest) hd hcs) h2 h3 kk
theorem w_callI (X : Cx G n0 p s m args meth c cc own nL) {y : MethodName} {b : ByteArray} {nL' lv mc ms a index : Nat} {As rest : List Value} (hC : Ct l y b nL' none lv mc ms G n0 (.ref a :: As) N f post) (hl : Cond.methodLink own index y ∈ lw_w) (hi : Cond.instanceMethod y ∈ lw_w) (hini : Cond.initialized y.cls ∈ lw_w) (hco : Cond.code y b nL' none ∈ lw_w) (hyn : y.name = "<init>") (hd : decode cc pc = .ok (.invokespecial index, 3)) (hlen : (y.cls ≠ "java/lang/invoke/MethodHandle" ∧ y.cls ≠ "java/lang/invoke/VarHandle") ∧ (parseMethodDescriptor y.desc).map (fun d => d.parameters.length) = some As.length) (hR : lv + 1 ≤ R.frames ∧ 8 + (nL' + 11) + 40 * lv ≤ R.locals) (hcs : cells + mc ≤ R.cells ∧ slots + ms ≤ R.slots) (hrest : (rest.map fun v => v.category).sum ≤ 8) (hst : st = As.reverse ++ .ref a :: rest)
    (kk : ∀ (v : Option Value) (N' : Nat) (f' : Nat → va_E), post v N' f' → WW p l e R s m args below meth c Q G n0 nL N' f' (cells + mc) (slots + ms) (pc + 3) L (v.toList ++ rest)) : WW p l e R s m args below meth c Q G n0 nL N f cells slots pc L st := fun H locs ls h1 h2 h3 => by
  have hts := X.2.2.2.2.1
  have hK := X.2.2.2.2.2.1
  refine w_ran (va_runI (Ts := lw_w) (own := own) (b := a) (As := As) (rest := rest) (n := As.length) ⟨X.1, X.2.1, X.2.2.1, X.2.2.2.1, hts⟩ hC ⟨callB_of As.length hts (goodIn_c hco) rfl rfl rfl (hts _ hini) (hts _ hl) ⟨hlen.1.1, hlen.1.2, hlen.2⟩ hR, hyn, hts _ hi⟩ ⟨blind_c, fun U hU hW => ⟨rfl, by rw [hU]; exact h1, hK.warm hW⟩⟩ rfl rfl h3.2.1 hst (lv_room hrest) hd hcs) h2 h3 kk
theorem w_callIN (X : Cx G n0 p s m args meth c cc own nL) {y : MethodName} {b : ByteArray} {host : String} {nL' lv mc ms a index : Nat} {As rest : List Value} (hC : Ct l y b nL' none lv mc ms G n0 (.ref a :: As) N f post) (hl : Cond.methodLinkNest own index y host ∈ lw_w) (hi : Cond.instanceMethod y ∈ lw_w) (hini : Cond.initialized y.cls ∈ lw_w) (hco : Cond.code y b nL' none ∈ lw_w) (hyn : y.name = "<init>") (hd : decode cc pc = .ok (.invokespecial index, 3)) (hlen : (y.cls ≠ "java/lang/invoke/MethodHandle" ∧ y.cls ≠ "java/lang/invoke/VarHandle") ∧ (parseMethodDescriptor y.desc).map (fun d => d.parameters.length) = some As.length) (hR : lv + 1 ≤ R.frames ∧ 8 + (nL' + 11) + 40 * lv ≤ R.locals) (hcs : cells + mc ≤ R.cells ∧ slots + ms ≤ R.slots) (hrest : (rest.map fun v => v.category).sum ≤ 8) (hst : st = As.reverse ++ .ref a :: rest)
    (kk : ∀ (v : Option Value) (N' : Nat) (f' : Nat → va_E), post v N' f' → WW p l e R s m args below meth c Q G n0 nL N' f' (cells + mc) (slots + ms) (pc + 3) L (v.toList ++ rest)) : WW p l e R s m args below meth c Q G n0 nL N f cells slots pc L st := fun H locs ls h1 h2 h3 => by
  have hts := X.2.2.2.2.1
  have hK := X.2.2.2.2.2.1
  refine w_ran (va_runIN (Ts := lw_w) (own := own) (b := a) (As := As) (rest := rest) (n := As.length) ⟨X.1, X.2.1, X.2.2.1, X.2.2.2.1, hts⟩ hC ⟨va_cnB As.length hts (goodIn_c hco) rfl rfl rfl (va_Nw.of rfl (hts _ hl)) (hts _ hini) ⟨hlen.1.1, hlen.1.2, hlen.2⟩ hR, hyn, hts _ hi⟩ ⟨blind_c, fun U hU hW => ⟨rfl, by rw [hU]; exact h1, hK.warm hW⟩⟩ rfl rfl h3.2.1 hst (lv_room hrest) hd hcs) h2 h3 kk
end Ret
end Calls
