/-! constructors: a world g is filled up to M cells; the object under way stands apart -/
theorem up_up {α : Type} (f : Nat → α) (k : Nat) (a b : α) : va_up (va_up f k a) k b = va_up f k b := by funext j; simp only [va_up]; split <;> rfl
theorem up_id {α : Type} {f : Nat → α} {k : Nat} {e : α} (h : f k = e) : va_up f k e = f := by
  funext j
  simp only [va_up]
  split
  · rename_i q; rw [q, h]
  · rfl
theorem up_cm {α : Type} (f : Nat → α) {k j : Nat} (a b : α) (h : k ≠ j) : va_up (va_up f k a) j b = va_up (va_up f j b) k a := by
  funext i
  simp only [va_up]
  by_cases h1 : i = j
  · rw [if_pos h1, if_neg (by omega), if_pos h1]
  · rw [if_neg h1, if_neg h1]
theorem up_ne {α : Type} {f : Nat → α} {k j : Nat} {a : α} (h : j ≠ k) : va_up f k a j = f j := va_up_ne f a h
def In (l : Launch) (y : MethodName) (b : ByteArray) (nL lv mc ms : Nat) (G : Gt) (n0 : Nat) (av : List Value) (N : Nat) (f : Nat → va_E) (M : Nat) (g : Nat → va_E) : Prop := Ct l y b nL none lv mc ms G n0 av N f (fun v N' f' => v = none ∧ N' = M ∧ f' = g)
section
variable {p : Program} {l : Launch} {e : Env} {R : Room} {s : State} {m : MethodId} {args : Array Value} {below : List Frame} {meth : Method} {c : Code} {Q : State → Prop} {G : Gt} {n0 nL N : Nat} {f g : Nat → va_E} {cells slots pc : Nat} {L : List (Option Value)} {st : List Value} {own : String} {cc : ByteArray}
theorem i_putF (X : Cx G n0 p s m args meth c cc own nL) (hinit : meth.name = "<init>") {k ci Nf index : Nat} {fs : List Value} {C : String} {T : u_T} (hk : k < N) (hc : vwCl[ci]? = some (C, T, Nf)) (hin : ∀ w ∈ u_ws C T Nf, w ∈ lw_w) (ty0 : Nat → FieldType) (hty : ∀ k, k < Nf → parseFieldDescriptor (T k).2.2.1 = some (ty0 k)) (hnm : ∀ a, a < Nf → ∀ b, b < Nf → a ≠ b → (T a).2.1 ≠ (T b).2.1) (j : Nat) (hj : j < Nf) (hw : Cond.fieldLink own index (T j).1 (T j).2.1 (T j).2.2.1 ∈ lw_w) (hfin : (T j).2.2.2 = true) (hdecl : (T j).1 = own) {v : Value} (hn : narrow (ty0 j) v = v) (hfit : fits (ty0 j) v = true) (hl : j < fs.length) (hd : decode cc pc = .ok (.putfield index, 3)) (kk : WW p l e R s m args below meth c Q G n0 nL N (va_up g k (.inr (ci, fs.set j v))) cells slots (pc + 3) L st) : WW p l e R s m args below meth c Q G n0 nL N (va_up g k (.inr (ci, fs))) cells slots pc L (v :: .ref (n0 + k) :: st) :=
  w_putF X hinit hk (va_up_self _ _ _) hc hin ty0 hty hnm j hj hw hfin hdecl hn hfit hl hd (WW.eqf (up_up _ _ _ _) kk)
theorem i_put (X : Cx G n0 p s m args meth c cc own nL) {k ci Nf index : Nat} {fs : List Value} {C : String} {T : u_T} (hk : k < N) (hc : vwCl[ci]? = some (C, T, Nf)) (hin : ∀ w ∈ u_ws C T Nf, w ∈ lw_w) (ty0 : Nat → FieldType) (hty : ∀ k, k < Nf → parseFieldDescriptor (T k).2.2.1 = some (ty0 k)) (hnm : ∀ a, a < Nf → ∀ b, b < Nf → a ≠ b → (T a).2.1 ≠ (T b).2.1) (j : Nat) (hj : j < Nf) (hw : Cond.fieldLink own index (T j).1 (T j).2.1 (T j).2.2.1 ∈ lw_w) (hfin : (T j).2.2.2 = false) {v : Value} (hn : narrow (ty0 j) v = v) (hfit : fits (ty0 j) v = true) (hl : j < fs.length) (hd : decode cc pc = .ok (.putfield index, 3)) (kk : WW p l e R s m args below meth c Q G n0 nL N (va_up g k (.inr (ci, fs.set j v))) cells slots (pc + 3) L st) : WW p l e R s m args below meth c Q G n0 nL N (va_up g k (.inr (ci, fs))) cells slots pc L (v :: .ref (n0 + k) :: st) :=
  w_put X hk (va_up_self _ _ _) hc hin ty0 hty hnm j hj hw hfin hn hfit hl hd (WW.eqf (up_up _ _ _ _) kk)
theorem i_putF' (X : Cx G n0 p s m args meth c cc own nL) (hinit : meth.name = "<init>") {k ci Nf index : Nat} {fs fs' : List Value} {C : String} {T : u_T} (hk : k < N) (hc : vwCl[ci]? = some (C, T, Nf)) (hin : ∀ w ∈ u_ws C T Nf, w ∈ lw_w) (ty0 : Nat → FieldType) (hty : ∀ k, k < Nf → parseFieldDescriptor (T k).2.2.1 = some (ty0 k)) (hnm : ∀ a, a < Nf → ∀ b, b < Nf → a ≠ b → (T a).2.1 ≠ (T b).2.1) (j : Nat) (hj : j < Nf) (hw : Cond.fieldLink own index (T j).1 (T j).2.1 (T j).2.2.1 ∈ lw_w) (hfin : (T j).2.2.2 = true) (hdecl : (T j).1 = own) {v : Value} (hn : narrow (ty0 j) v = v) (hfit : fits (ty0 j) v = true) (hl : j < fs.length) (hs : fs.set j v = fs') (hd : decode cc pc = .ok (.putfield index, 3)) (kk : WW p l e R s m args below meth c Q G n0 nL N (va_up g k (.inr (ci, fs'))) cells slots (pc + 3) L st) : WW p l e R s m args below meth c Q G n0 nL N (va_up g k (.inr (ci, fs))) cells slots pc L (v :: .ref (n0 + k) :: st) :=
  i_putF X hinit hk hc hin ty0 hty hnm j hj hw hfin hdecl hn hfit hl hd (hs ▸ kk)
theorem i_put' (X : Cx G n0 p s m args meth c cc own nL) {k ci Nf index : Nat} {fs fs' : List Value} {C : String} {T : u_T} (hk : k < N) (hc : vwCl[ci]? = some (C, T, Nf)) (hin : ∀ w ∈ u_ws C T Nf, w ∈ lw_w) (ty0 : Nat → FieldType) (hty : ∀ k, k < Nf → parseFieldDescriptor (T k).2.2.1 = some (ty0 k)) (hnm : ∀ a, a < Nf → ∀ b, b < Nf → a ≠ b → (T a).2.1 ≠ (T b).2.1) (j : Nat) (hj : j < Nf) (hw : Cond.fieldLink own index (T j).1 (T j).2.1 (T j).2.2.1 ∈ lw_w) (hfin : (T j).2.2.2 = false) {v : Value} (hn : narrow (ty0 j) v = v) (hfit : fits (ty0 j) v = true) (hl : j < fs.length) (hs : fs.set j v = fs') (hd : decode cc pc = .ok (.putfield index, 3)) (kk : WW p l e R s m args below meth c Q G n0 nL N (va_up g k (.inr (ci, fs'))) cells slots (pc + 3) L st) : WW p l e R s m args below meth c Q G n0 nL N (va_up g k (.inr (ci, fs))) cells slots pc L (v :: .ref (n0 + k) :: st) :=
  i_put X hk hc hin ty0 hty hnm j hj hw hfin hn hfit hl hd (hs ▸ kk)
theorem i_newi (X : Cx G n0 p s m args meth c cc own nL) {z : Int} {n : Nat} (h : f N = .inl (G.2 0, n, .inl (fun _ => 0))) (hz : z = n) (hn : n ≤ 100000) (hcells : cells + 1 ≤ R.cells) (hslots : slots + n ≤ R.slots) (hd : decode cc pc = .ok (.newarray .int, 2)) (kk : WW p l e R s m args below meth c Q G n0 nL (N + 1) f (cells + 1) (slots + n) (pc + 2) L (.ref (n0 + N) :: st)) : WW p l e R s m args below meth c Q G n0 nL N f cells slots pc L (.int (jI z) :: st) := w_newi X hz hn hcells hslots hd (WW.eqf (up_id h) kk)
theorem i_newz (X : Cx G n0 p s m args meth c cc own nL) {z : Int} {n : Nat} (h : f N = .inl (G.2 1, n, .inl (fun _ => 0))) (hz : z = n) (hn : n ≤ 100000) (hcells : cells + 1 ≤ R.cells) (hslots : slots + n ≤ R.slots) (hd : decode cc pc = .ok (.newarray .boolean, 2)) (kk : WW p l e R s m args below meth c Q G n0 nL (N + 1) f (cells + 1) (slots + n) (pc + 2) L (.ref (n0 + N) :: st)) : WW p l e R s m args below meth c Q G n0 nL N f cells slots pc L (.int (jI z) :: st) := w_newz X hz hn hcells hslots hd (WW.eqf (up_id h) kk)
theorem i_call (X : Cx G n0 p s m args meth c cc own nL) {y : MethodName} {b : ByteArray} {nL' lv mc ms a index M : Nat} {As rest : List Value} (hC : In l y b nL' lv mc ms G n0 (.ref a :: As) N f M g) (hl : Cond.methodLink own index y ∈ lw_w) (hi : Cond.instanceMethod y ∈ lw_w) (hini : Cond.initialized y.cls ∈ lw_w) (hco : Cond.code y b nL' none ∈ lw_w) (hyn : y.name = "<init>") (hd : decode cc pc = .ok (.invokespecial index, 3)) (hlen : (y.cls ≠ "java/lang/invoke/MethodHandle" ∧ y.cls ≠ "java/lang/invoke/VarHandle") ∧ (parseMethodDescriptor y.desc).map (fun d => d.parameters.length) = some As.length) (hR : lv + 1 ≤ R.frames ∧ 8 + (nL' + 11) + 40 * lv ≤ R.locals) (hcs : cells + mc ≤ R.cells ∧ slots + ms ≤ R.slots) (hrest : (rest.map fun v => v.category).sum ≤ 8) (hst : st = As.reverse ++ .ref a :: rest)
    (kk : WW p l e R s m args below meth c Q G n0 nL M g (cells + mc) (slots + ms) (pc + 3) L rest) : WW p l e R s m args below meth c Q G n0 nL N f cells slots pc L st := w_callI X hC hl hi hini hco hyn hd hlen hR hcs hrest hst (fun v N' f' h => by obtain ⟨rfl, rfl, rfl⟩ := h; exact kk)
theorem i_callN (X : Cx G n0 p s m args meth c cc own nL) {y : MethodName} {b : ByteArray} {host : String} {nL' lv mc ms a index M : Nat} {As rest : List Value} (hC : In l y b nL' lv mc ms G n0 (.ref a :: As) N f M g) (hl : Cond.methodLinkNest own index y host ∈ lw_w) (hi : Cond.instanceMethod y ∈ lw_w) (hini : Cond.initialized y.cls ∈ lw_w) (hco : Cond.code y b nL' none ∈ lw_w) (hyn : y.name = "<init>") (hd : decode cc pc = .ok (.invokespecial index, 3)) (hlen : (y.cls ≠ "java/lang/invoke/MethodHandle" ∧ y.cls ≠ "java/lang/invoke/VarHandle") ∧ (parseMethodDescriptor y.desc).map (fun d => d.parameters.length) = some As.length) (hR : lv + 1 ≤ R.frames ∧ 8 + (nL' + 11) + 40 * lv ≤ R.locals) (hcs : cells + mc ≤ R.cells ∧ slots + ms ≤ R.slots) (hrest : (rest.map fun v => v.category).sum ≤ 8) (hst : st = As.reverse ++ .ref a :: rest)
    (kk : WW p l e R s m args below meth c Q G n0 nL M g (cells + mc) (slots + ms) (pc + 3) L rest) : WW p l e R s m args below meth c Q G n0 nL N f cells slots pc L st := w_callIN X hC hl hi hini hco hyn hd hlen hR hcs hrest hst (fun v N' f' h => by obtain ⟨rfl, rfl, rfl⟩ := h; exact kk)
theorem WW.recell {k : Nat} {cA : ClassId} {x x' : vp_A} (he : f k = .inl (cA, x)) (hx : vp_cell cA x = vp_cell cA x') (kk : WW p l e R s m args below meth c Q G n0 nL N (va_up f k (.inl (cA, x'))) cells slots pc L st) : WW p l e R s m args below meth c Q G n0 nL N f cells slots pc L st := fun H locs ls h1 h2 h3 => kk H locs ls ⟨h1.1, fun i q hq => by
  obtain ⟨hi, rfl⟩ := wl_inv hq
  by_cases hik : i = k
  · subst hik
    have h4 := h1.2 i (n0 + i, f i) (wl_at hi)
    rw [he] at h4
    rw [va_up_self]
    show H[n0 + i]? = some (vp_cell cA x')
    rw [← hx]
    exact h4
  · rw [va_up_ne _ _ hik]
    exact h1.2 i (n0 + i, f i) (wl_at hi)⟩ h2 h3
end
def RI (n0 : Nat) (h : Nat → Nat) (i : Nat) : Nat → Option Nat := fun j => if j < i then some (n0 + h j) else none
theorem RI_0 (n0 : Nat) (h : Nat → Nat) : RI n0 h 0 = fun _ => none := by funext j; unfold RI; rw [if_neg (by omega)]
theorem RI_s (n0 : Nat) (h : Nat → Nat) (i : Nat) : va_up (RI n0 h i) i (some (n0 + h i)) = RI n0 h (i + 1) := by
  funext j
  unfold RI
  simp only [va_up]
  by_cases q : j = i
  · rw [if_pos q, if_pos (by omega), q]
  · rw [if_neg q]
    by_cases q2 : j < i
    · rw [if_pos q2, if_pos (by omega)]
    · rw [if_neg q2, if_neg (by omega)]
theorem RI_n (cA : ClassId) (n0 n : Nat) (h : Nat → Nat) : vp_cell cA (n, .inr (.inr (.inr (.inr (RI n0 h n))))) = vp_cell cA (n, .inr (.inr (.inr (.inr (fun j => some (n0 + h j)))))) := by
  rw [vp_cell_q, vp_cell_q]
  unfold arrV
  congr 1
  apply Array.ext
  · simp
  · intro i h1 h2
    simp only [Array.size_map, Array.size_range] at h1
    simp [RI, h1]
    try (intro q; omega)
theorem dX3_init_0 : decode cX3_init 0 = .ok (.aload_n 0, 1) := by decide +kernel
theorem dX3_init_1 : decode cX3_init 1 = .ok (.invokespecial 3, 3) := by decide +kernel
theorem dX3_init_4 : decode cX3_init 4 = .ok (.aload_n 0, 1) := by decide +kernel
theorem dX3_init_5 : decode cX3_init 5 = .ok (.iconst 5, 1) := by decide +kernel
theorem dX3_init_6 : decode cX3_init 6 = .ok (.newarray .int, 2) := by decide +kernel
theorem dX3_init_8 : decode cX3_init 8 = .ok (.putfield 9, 3) := by decide +kernel
theorem dX3_init_11 : decode cX3_init 11 = .ok (.return_, 1) := by decide +kernel
theorem dX6_init_0 : decode cX6_init 0 = .ok (.aload_n 0, 1) := by decide +kernel
theorem dX6_init_1 : decode cX6_init 1 = .ok (.invokespecial 3, 3) := by decide +kernel
theorem dX6_init_4 : decode cX6_init 4 = .ok (.aload_n 0, 1) := by decide +kernel
theorem dX6_init_5 : decode cX6_init 5 = .ok (.iconst 5, 1) := by decide +kernel
theorem dX6_init_6 : decode cX6_init 6 = .ok (.newarray .int, 2) := by decide +kernel
theorem dX6_init_8 : decode cX6_init 8 = .ok (.putfield 9, 3) := by decide +kernel
theorem dX6_init_11 : decode cX6_init 11 = .ok (.aload_n 0, 1) := by decide +kernel
theorem dX6_init_12 : decode cX6_init 12 = .ok (.iconst 0, 1) := by decide +kernel
theorem dX6_init_13 : decode cX6_init 13 = .ok (.putfield 15, 3) := by decide +kernel
theorem dX6_init_16 : decode cX6_init 16 = .ok (.aload_n 0, 1) := by decide +kernel
theorem dX6_init_17 : decode cX6_init 17 = .ok (.iconst 0, 1) := by decide +kernel
theorem dX6_init_18 : decode cX6_init 18 = .ok (.putfield 19, 3) := by decide +kernel
theorem dX6_init_21 : decode cX6_init 21 = .ok (.aload_n 0, 1) := by decide +kernel
theorem dX6_init_22 : decode cX6_init 22 = .ok (.iconst 0, 1) := by decide +kernel
theorem dX6_init_23 : decode cX6_init 23 = .ok (.putfield 22, 3) := by decide +kernel
theorem dX6_init_26 : decode cX6_init 26 = .ok (.aload_n 0, 1) := by decide +kernel
theorem dX6_init_27 : decode cX6_init 27 = .ok (.bipush (-9), 2) := by decide +kernel
theorem dX6_init_29 : decode cX6_init 29 = .ok (.putfield 25, 3) := by decide +kernel
theorem dX6_init_32 : decode cX6_init 32 = .ok (.aload_n 0, 1) := by decide +kernel
theorem dX6_init_33 : decode cX6_init 33 = .ok (.bipush (-9), 2) := by decide +kernel
theorem dX6_init_35 : decode cX6_init 35 = .ok (.putfield 28, 3) := by decide +kernel
theorem dX6_init_38 : decode cX6_init 38 = .ok (.aload_n 0, 1) := by decide +kernel
theorem dX6_init_39 : decode cX6_init 39 = .ok (.bipush (-9), 2) := by decide +kernel
theorem dX6_init_41 : decode cX6_init 41 = .ok (.putfield 31, 3) := by decide +kernel
theorem dX6_init_44 : decode cX6_init 44 = .ok (.aload_n 0, 1) := by decide +kernel
theorem dX6_init_45 : decode cX6_init 45 = .ok (.bipush (-9), 2) := by decide +kernel
theorem dX6_init_47 : decode cX6_init 47 = .ok (.putfield 34, 3) := by decide +kernel
theorem dX6_init_50 : decode cX6_init 50 = .ok (.return_, 1) := by decide +kernel
theorem dX2_init_0 : decode cX2_init 0 = .ok (.aload_n 0, 1) := by decide +kernel
theorem dX2_init_1 : decode cX2_init 1 = .ok (.invokespecial 3, 3) := by decide +kernel
theorem dX2_init_4 : decode cX2_init 4 = .ok (.aload_n 0, 1) := by decide +kernel
theorem dX2_init_5 : decode cX2_init 5 = .ok (.aload_n 1, 1) := by decide +kernel
theorem dX2_init_6 : decode cX2_init 6 = .ok (.putfield 9, 3) := by decide +kernel
theorem dX2_init_9 : decode cX2_init 9 = .ok (.return_, 1) := by decide +kernel
theorem dX1_init_0 : decode cX1_init 0 = .ok (.aload_n 0, 1) := by decide +kernel
theorem dX1_init_1 : decode cX1_init 1 = .ok (.invokespecial 3, 3) := by decide +kernel
theorem dX1_init_4 : decode cX1_init 4 = .ok (.aload_n 0, 1) := by decide +kernel
theorem dX1_init_5 : decode cX1_init 5 = .ok (.bipush 101, 2) := by decide +kernel
theorem dX1_init_7 : decode cX1_init 7 = .ok (.anewarray 9, 3) := by decide +kernel
theorem dX1_init_10 : decode cX1_init 10 = .ok (.putfield 11, 3) := by decide +kernel
theorem dX1_init_13 : decode cX1_init 13 = .ok (.aload_n 0, 1) := by decide +kernel
theorem dX1_init_14 : decode cX1_init 14 = .ok (.bipush 101, 2) := by decide +kernel
theorem dX1_init_16 : decode cX1_init 16 = .ok (.newarray .boolean, 2) := by decide +kernel
theorem dX1_init_18 : decode cX1_init 18 = .ok (.putfield 17, 3) := by decide +kernel
theorem dX1_init_21 : decode cX1_init 21 = .ok (.aload_n 0, 1) := by decide +kernel
theorem dX1_init_22 : decode cX1_init 22 = .ok (.iconst 0, 1) := by decide +kernel
theorem dX1_init_23 : decode cX1_init 23 = .ok (.putfield 21, 3) := by decide +kernel
theorem dX1_init_26 : decode cX1_init 26 = .ok (.aload_n 0, 1) := by decide +kernel
theorem dX1_init_27 : decode cX1_init 27 = .ok (.iconst 0, 1) := by decide +kernel
theorem dX1_init_28 : decode cX1_init 28 = .ok (.putfield 25, 3) := by decide +kernel
theorem dX1_init_31 : decode cX1_init 31 = .ok (.iconst 0, 1) := by decide +kernel
theorem dX1_init_32 : decode cX1_init 32 = .ok (.istore_n 1, 1) := by decide +kernel
theorem dX1_init_33 : decode cX1_init 33 = .ok (.iload_n 1, 1) := by decide +kernel
theorem dX1_init_34 : decode cX1_init 34 = .ok (.aload_n 0, 1) := by decide +kernel
theorem dX1_init_35 : decode cX1_init 35 = .ok (.getfield 11, 3) := by decide +kernel
theorem dX1_init_38 : decode cX1_init 38 = .ok (.arraylength, 1) := by decide +kernel
theorem dX1_init_39 : decode cX1_init 39 = .ok (.if_icmp .ge 22, 3) := by decide +kernel
theorem dX1_init_42 : decode cX1_init 42 = .ok (.aload_n 0, 1) := by decide +kernel
theorem dX1_init_43 : decode cX1_init 43 = .ok (.getfield 11, 3) := by decide +kernel
theorem dX1_init_46 : decode cX1_init 46 = .ok (.iload_n 1, 1) := by decide +kernel
theorem dX1_init_47 : decode cX1_init 47 = .ok (.new 9, 3) := by decide +kernel
theorem dX1_init_50 : decode cX1_init 50 = .ok (.dup, 1) := by decide +kernel
theorem dX1_init_51 : decode cX1_init 51 = .ok (.invokespecial 28, 3) := by decide +kernel
theorem dX1_init_54 : decode cX1_init 54 = .ok (.aastore, 1) := by decide +kernel
theorem dX1_init_55 : decode cX1_init 55 = .ok (.iinc 1 1, 3) := by decide +kernel
theorem dX1_init_58 : decode cX1_init 58 = .ok (.goto (-25), 3) := by decide +kernel
theorem dX1_init_61 : decode cX1_init 61 = .ok (.return_, 1) := by decide +kernel
theorem dX5_init_0 : decode cX5_init 0 = .ok (.aload_n 0, 1) := by decide +kernel
theorem dX5_init_1 : decode cX5_init 1 = .ok (.invokespecial 3, 3) := by decide +kernel
theorem dX5_init_4 : decode cX5_init 4 = .ok (.aload_n 0, 1) := by decide +kernel
theorem dX5_init_5 : decode cX5_init 5 = .ok (.bipush 12, 2) := by decide +kernel
theorem dX5_init_7 : decode cX5_init 7 = .ok (.anewarray 9, 3) := by decide +kernel
theorem dX5_init_10 : decode cX5_init 10 = .ok (.putfield 11, 3) := by decide +kernel
theorem dX5_init_13 : decode cX5_init 13 = .ok (.aload_n 0, 1) := by decide +kernel
theorem dX5_init_14 : decode cX5_init 14 = .ok (.bipush 6, 2) := by decide +kernel
theorem dX5_init_16 : decode cX5_init 16 = .ok (.anewarray 17, 3) := by decide +kernel
theorem dX5_init_19 : decode cX5_init 19 = .ok (.putfield 19, 3) := by decide +kernel
theorem dX5_init_22 : decode cX5_init 22 = .ok (.aload_n 0, 1) := by decide +kernel
theorem dX5_init_23 : decode cX5_init 23 = .ok (.new 17, 3) := by decide +kernel
theorem dX5_init_26 : decode cX5_init 26 = .ok (.dup, 1) := by decide +kernel
theorem dX5_init_27 : decode cX5_init 27 = .ok (.invokespecial 23, 3) := by decide +kernel
theorem dX5_init_30 : decode cX5_init 30 = .ok (.putfield 24, 3) := by decide +kernel
theorem dX5_init_33 : decode cX5_init 33 = .ok (.aload_n 0, 1) := by decide +kernel
theorem dX5_init_34 : decode cX5_init 34 = .ok (.iconst 2, 1) := by decide +kernel
theorem dX5_init_35 : decode cX5_init 35 = .ok (.putfield 28, 3) := by decide +kernel
theorem dX5_init_38 : decode cX5_init 38 = .ok (.aload_n 0, 1) := by decide +kernel
theorem dX5_init_39 : decode cX5_init 39 = .ok (.iconst 1, 1) := by decide +kernel
theorem dX5_init_40 : decode cX5_init 40 = .ok (.putfield 32, 3) := by decide +kernel
theorem dX5_init_43 : decode cX5_init 43 = .ok (.aload_n 0, 1) := by decide +kernel
theorem dX5_init_44 : decode cX5_init 44 = .ok (.iconst 0, 1) := by decide +kernel
theorem dX5_init_45 : decode cX5_init 45 = .ok (.putfield 35, 3) := by decide +kernel
theorem dX5_init_48 : decode cX5_init 48 = .ok (.aload_n 0, 1) := by decide +kernel
theorem dX5_init_49 : decode cX5_init 49 = .ok (.iconst 0, 1) := by decide +kernel
theorem dX5_init_50 : decode cX5_init 50 = .ok (.putfield 38, 3) := by decide +kernel
theorem dX5_init_53 : decode cX5_init 53 = .ok (.iconst 0, 1) := by decide +kernel
theorem dX5_init_54 : decode cX5_init 54 = .ok (.istore_n 1, 1) := by decide +kernel
theorem dX5_init_55 : decode cX5_init 55 = .ok (.iload_n 1, 1) := by decide +kernel
theorem dX5_init_56 : decode cX5_init 56 = .ok (.aload_n 0, 1) := by decide +kernel
theorem dX5_init_57 : decode cX5_init 57 = .ok (.getfield 11, 3) := by decide +kernel
theorem dX5_init_60 : decode cX5_init 60 = .ok (.arraylength, 1) := by decide +kernel
theorem dX5_init_61 : decode cX5_init 61 = .ok (.if_icmp .ge 22, 3) := by decide +kernel
theorem dX5_init_64 : decode cX5_init 64 = .ok (.aload_n 0, 1) := by decide +kernel
theorem dX5_init_65 : decode cX5_init 65 = .ok (.getfield 11, 3) := by decide +kernel
theorem dX5_init_68 : decode cX5_init 68 = .ok (.iload_n 1, 1) := by decide +kernel
theorem dX5_init_69 : decode cX5_init 69 = .ok (.new 9, 3) := by decide +kernel
theorem dX5_init_72 : decode cX5_init 72 = .ok (.dup, 1) := by decide +kernel
theorem dX5_init_73 : decode cX5_init 73 = .ok (.invokespecial 41, 3) := by decide +kernel
theorem dX5_init_76 : decode cX5_init 76 = .ok (.aastore, 1) := by decide +kernel
theorem dX5_init_77 : decode cX5_init 77 = .ok (.iinc 1 1, 3) := by decide +kernel
theorem dX5_init_80 : decode cX5_init 80 = .ok (.goto (-25), 3) := by decide +kernel
theorem dX5_init_83 : decode cX5_init 83 = .ok (.iconst 0, 1) := by decide +kernel
theorem dX5_init_84 : decode cX5_init 84 = .ok (.istore_n 1, 1) := by decide +kernel
theorem dX5_init_85 : decode cX5_init 85 = .ok (.iload_n 1, 1) := by decide +kernel
theorem dX5_init_86 : decode cX5_init 86 = .ok (.aload_n 0, 1) := by decide +kernel
theorem dX5_init_87 : decode cX5_init 87 = .ok (.getfield 19, 3) := by decide +kernel
theorem dX5_init_90 : decode cX5_init 90 = .ok (.arraylength, 1) := by decide +kernel
theorem dX5_init_91 : decode cX5_init 91 = .ok (.if_icmp .ge 22, 3) := by decide +kernel
theorem dX5_init_94 : decode cX5_init 94 = .ok (.aload_n 0, 1) := by decide +kernel
theorem dX5_init_95 : decode cX5_init 95 = .ok (.getfield 19, 3) := by decide +kernel
theorem dX5_init_98 : decode cX5_init 98 = .ok (.iload_n 1, 1) := by decide +kernel
theorem dX5_init_99 : decode cX5_init 99 = .ok (.new 17, 3) := by decide +kernel
theorem dX5_init_102 : decode cX5_init 102 = .ok (.dup, 1) := by decide +kernel
theorem dX5_init_103 : decode cX5_init 103 = .ok (.invokespecial 23, 3) := by decide +kernel
theorem dX5_init_106 : decode cX5_init 106 = .ok (.aastore, 1) := by decide +kernel
theorem dX5_init_107 : decode cX5_init 107 = .ok (.iinc 1 1, 3) := by decide +kernel
theorem dX5_init_110 : decode cX5_init 110 = .ok (.goto (-25), 3) := by decide +kernel
theorem dX5_init_113 : decode cX5_init 113 = .ok (.return_, 1) := by decide +kernel
theorem dX0_init_0 : decode cX0_init 0 = .ok (.aload_n 0, 1) := by decide +kernel
theorem dX0_init_1 : decode cX0_init 1 = .ok (.invokespecial 3, 3) := by decide +kernel
theorem dX0_init_4 : decode cX0_init 4 = .ok (.aload_n 0, 1) := by decide +kernel
theorem dX0_init_5 : decode cX0_init 5 = .ok (.new 9, 3) := by decide +kernel
theorem dX0_init_8 : decode cX0_init 8 = .ok (.dup, 1) := by decide +kernel
theorem dX0_init_9 : decode cX0_init 9 = .ok (.sipush 1200, 3) := by decide +kernel
theorem dX0_init_12 : decode cX0_init 12 = .ok (.newarray .int, 2) := by decide +kernel
theorem dX0_init_14 : decode cX0_init 14 = .ok (.invokespecial 11, 3) := by decide +kernel
theorem dX0_init_17 : decode cX0_init 17 = .ok (.putfield 14, 3) := by decide +kernel
theorem dX0_init_20 : decode cX0_init 20 = .ok (.aload_n 0, 1) := by decide +kernel
theorem dX0_init_21 : decode cX0_init 21 = .ok (.new 20, 3) := by decide +kernel
theorem dX0_init_24 : decode cX0_init 24 = .ok (.dup, 1) := by decide +kernel
theorem dX0_init_25 : decode cX0_init 25 = .ok (.invokespecial 22, 3) := by decide +kernel
theorem dX0_init_28 : decode cX0_init 28 = .ok (.putfield 23, 3) := by decide +kernel
theorem dX0_init_31 : decode cX0_init 31 = .ok (.aload_n 0, 1) := by decide +kernel
theorem dX0_init_32 : decode cX0_init 32 = .ok (.new 20, 3) := by decide +kernel
theorem dX0_init_35 : decode cX0_init 35 = .ok (.dup, 1) := by decide +kernel
theorem dX0_init_36 : decode cX0_init 36 = .ok (.invokespecial 22, 3) := by decide +kernel
theorem dX0_init_39 : decode cX0_init 39 = .ok (.putfield 27, 3) := by decide +kernel
theorem dX0_init_42 : decode cX0_init 42 = .ok (.aload_n 0, 1) := by decide +kernel
theorem dX0_init_43 : decode cX0_init 43 = .ok (.new 30, 3) := by decide +kernel
theorem dX0_init_46 : decode cX0_init 46 = .ok (.dup, 1) := by decide +kernel
theorem dX0_init_47 : decode cX0_init 47 = .ok (.invokespecial 32, 3) := by decide +kernel
theorem dX0_init_50 : decode cX0_init 50 = .ok (.putfield 33, 3) := by decide +kernel
theorem dX0_init_53 : decode cX0_init 53 = .ok (.aload_n 0, 1) := by decide +kernel
theorem dX0_init_54 : decode cX0_init 54 = .ok (.new 30, 3) := by decide +kernel
theorem dX0_init_57 : decode cX0_init 57 = .ok (.dup, 1) := by decide +kernel
theorem dX0_init_58 : decode cX0_init 58 = .ok (.invokespecial 32, 3) := by decide +kernel
theorem dX0_init_61 : decode cX0_init 61 = .ok (.putfield 37, 3) := by decide +kernel
theorem dX0_init_64 : decode cX0_init 64 = .ok (.aload_n 0, 1) := by decide +kernel
theorem dX0_init_65 : decode cX0_init 65 = .ok (.bipush (-3), 2) := by decide +kernel
theorem dX0_init_67 : decode cX0_init 67 = .ok (.putfield 40, 3) := by decide +kernel
theorem dX0_init_70 : decode cX0_init 70 = .ok (.aload_n 0, 1) := by decide +kernel
theorem dX0_init_71 : decode cX0_init 71 = .ok (.aload_n 1, 1) := by decide +kernel
theorem dX0_init_72 : decode cX0_init 72 = .ok (.putfield 44, 3) := by decide +kernel
theorem dX0_init_75 : decode cX0_init 75 = .ok (.return_, 1) := by decide +kernel
theorem dX4_init_0 : decode cX4_init 0 = .ok (.aload_n 0, 1) := by decide +kernel
theorem dX4_init_1 : decode cX4_init 1 = .ok (.invokespecial 3, 3) := by decide +kernel
theorem dX4_init_4 : decode cX4_init 4 = .ok (.aload_n 0, 1) := by decide +kernel
theorem dX4_init_5 : decode cX4_init 5 = .ok (.new 9, 3) := by decide +kernel
theorem dX4_init_8 : decode cX4_init 8 = .ok (.dup, 1) := by decide +kernel
theorem dX4_init_9 : decode cX4_init 9 = .ok (.invokespecial 11, 3) := by decide +kernel
theorem dX4_init_12 : decode cX4_init 12 = .ok (.putfield 12, 3) := by decide +kernel
theorem dX4_init_15 : decode cX4_init 15 = .ok (.aload_n 0, 1) := by decide +kernel
theorem dX4_init_16 : decode cX4_init 16 = .ok (.new 9, 3) := by decide +kernel
theorem dX4_init_19 : decode cX4_init 19 = .ok (.dup, 1) := by decide +kernel
theorem dX4_init_20 : decode cX4_init 20 = .ok (.invokespecial 11, 3) := by decide +kernel
theorem dX4_init_23 : decode cX4_init 23 = .ok (.putfield 18, 3) := by decide +kernel
theorem dX4_init_26 : decode cX4_init 26 = .ok (.aload_n 0, 1) := by decide +kernel
theorem dX4_init_27 : decode cX4_init 27 = .ok (.sipush 495, 3) := by decide +kernel
theorem dX4_init_30 : decode cX4_init 30 = .ok (.newarray .int, 2) := by decide +kernel
theorem dX4_init_32 : decode cX4_init 32 = .ok (.putfield 21, 3) := by decide +kernel
theorem dX4_init_35 : decode cX4_init 35 = .ok (.aload_n 0, 1) := by decide +kernel
theorem dX4_init_36 : decode cX4_init 36 = .ok (.sipush 495, 3) := by decide +kernel
theorem dX4_init_39 : decode cX4_init 39 = .ok (.newarray .int, 2) := by decide +kernel
theorem dX4_init_41 : decode cX4_init 41 = .ok (.putfield 25, 3) := by decide +kernel
theorem dX4_init_44 : decode cX4_init 44 = .ok (.aload_n 0, 1) := by decide +kernel
theorem dX4_init_45 : decode cX4_init 45 = .ok (.sipush 495, 3) := by decide +kernel
theorem dX4_init_48 : decode cX4_init 48 = .ok (.newarray .int, 2) := by decide +kernel
theorem dX4_init_50 : decode cX4_init 50 = .ok (.putfield 28, 3) := by decide +kernel
theorem dX4_init_53 : decode cX4_init 53 = .ok (.aload_n 0, 1) := by decide +kernel
theorem dX4_init_54 : decode cX4_init 54 = .ok (.new 31, 3) := by decide +kernel
theorem dX4_init_57 : decode cX4_init 57 = .ok (.dup, 1) := by decide +kernel
theorem dX4_init_58 : decode cX4_init 58 = .ok (.sipush 5940, 3) := by decide +kernel
theorem dX4_init_61 : decode cX4_init 61 = .ok (.newarray .int, 2) := by decide +kernel
theorem dX4_init_63 : decode cX4_init 63 = .ok (.invokespecial 33, 3) := by decide +kernel
theorem dX4_init_66 : decode cX4_init 66 = .ok (.putfield 36, 3) := by decide +kernel
theorem dX4_init_69 : decode cX4_init 69 = .ok (.aload_n 0, 1) := by decide +kernel
theorem dX4_init_70 : decode cX4_init 70 = .ok (.sipush 495, 3) := by decide +kernel
theorem dX4_init_73 : decode cX4_init 73 = .ok (.newarray .boolean, 2) := by decide +kernel
theorem dX4_init_75 : decode cX4_init 75 = .ok (.putfield 40, 3) := by decide +kernel
theorem dX4_init_78 : decode cX4_init 78 = .ok (.aload_n 0, 1) := by decide +kernel
theorem dX4_init_79 : decode cX4_init 79 = .ok (.sipush 495, 3) := by decide +kernel
theorem dX4_init_82 : decode cX4_init 82 = .ok (.newarray .int, 2) := by decide +kernel
theorem dX4_init_84 : decode cX4_init 84 = .ok (.putfield 44, 3) := by decide +kernel
theorem dX4_init_87 : decode cX4_init 87 = .ok (.aload_n 0, 1) := by decide +kernel
theorem dX4_init_88 : decode cX4_init 88 = .ok (.bipush (-9), 2) := by decide +kernel
theorem dX4_init_90 : decode cX4_init 90 = .ok (.putfield 47, 3) := by decide +kernel
theorem dX4_init_93 : decode cX4_init 93 = .ok (.aload_n 0, 1) := by decide +kernel
theorem dX4_init_94 : decode cX4_init 94 = .ok (.iconst 0, 1) := by decide +kernel
theorem dX4_init_95 : decode cX4_init 95 = .ok (.putfield 51, 3) := by decide +kernel
theorem dX4_init_98 : decode cX4_init 98 = .ok (.aload_n 0, 1) := by decide +kernel
theorem dX4_init_99 : decode cX4_init 99 = .ok (.iconst 0, 1) := by decide +kernel
theorem dX4_init_100 : decode cX4_init 100 = .ok (.putfield 54, 3) := by decide +kernel
theorem dX4_init_103 : decode cX4_init 103 = .ok (.aload_n 0, 1) := by decide +kernel
theorem dX4_init_104 : decode cX4_init 104 = .ok (.bipush (-9), 2) := by decide +kernel
theorem dX4_init_106 : decode cX4_init 106 = .ok (.putfield 57, 3) := by decide +kernel
theorem dX4_init_109 : decode cX4_init 109 = .ok (.aload_n 0, 1) := by decide +kernel
theorem dX4_init_110 : decode cX4_init 110 = .ok (.aload_n 1, 1) := by decide +kernel
theorem dX4_init_111 : decode cX4_init 111 = .ok (.putfield 60, 3) := by decide +kernel
theorem dX4_init_114 : decode cX4_init 114 = .ok (.return_, 1) := by decide +kernel
theorem dX7_init_0 : decode cX7_init 0 = .ok (.aload_n 0, 1) := by decide +kernel
theorem dX7_init_1 : decode cX7_init 1 = .ok (.invokespecial 1, 3) := by decide +kernel
theorem dX7_init_4 : decode cX7_init 4 = .ok (.aload_n 0, 1) := by decide +kernel
theorem dX7_init_5 : decode cX7_init 5 = .ok (.new 7, 3) := by decide +kernel
theorem dX7_init_8 : decode cX7_init 8 = .ok (.dup, 1) := by decide +kernel
theorem dX7_init_9 : decode cX7_init 9 = .ok (.invokespecial 9, 3) := by decide +kernel
theorem dX7_init_12 : decode cX7_init 12 = .ok (.putfield 10, 3) := by decide +kernel
theorem dX7_init_15 : decode cX7_init 15 = .ok (.aload_n 0, 1) := by decide +kernel
theorem dX7_init_16 : decode cX7_init 16 = .ok (.new 16, 3) := by decide +kernel
theorem dX7_init_19 : decode cX7_init 19 = .ok (.dup, 1) := by decide +kernel
theorem dX7_init_20 : decode cX7_init 20 = .ok (.invokespecial 18, 3) := by decide +kernel
theorem dX7_init_23 : decode cX7_init 23 = .ok (.putfield 19, 3) := by decide +kernel
theorem dX7_init_26 : decode cX7_init 26 = .ok (.aload_n 0, 1) := by decide +kernel
theorem dX7_init_27 : decode cX7_init 27 = .ok (.new 23, 3) := by decide +kernel
theorem dX7_init_30 : decode cX7_init 30 = .ok (.dup, 1) := by decide +kernel
theorem dX7_init_31 : decode cX7_init 31 = .ok (.aload_n 0, 1) := by decide +kernel
theorem dX7_init_32 : decode cX7_init 32 = .ok (.getfield 10, 3) := by decide +kernel
theorem dX7_init_35 : decode cX7_init 35 = .ok (.invokespecial 25, 3) := by decide +kernel
theorem dX7_init_38 : decode cX7_init 38 = .ok (.putfield 28, 3) := by decide +kernel
theorem dX7_init_41 : decode cX7_init 41 = .ok (.aload_n 0, 1) := by decide +kernel
theorem dX7_init_42 : decode cX7_init 42 = .ok (.new 32, 3) := by decide +kernel
theorem dX7_init_45 : decode cX7_init 45 = .ok (.dup, 1) := by decide +kernel
theorem dX7_init_46 : decode cX7_init 46 = .ok (.aload_n 0, 1) := by decide +kernel
theorem dX7_init_47 : decode cX7_init 47 = .ok (.getfield 10, 3) := by decide +kernel
theorem dX7_init_50 : decode cX7_init 50 = .ok (.invokespecial 34, 3) := by decide +kernel
theorem dX7_init_53 : decode cX7_init 53 = .ok (.putfield 35, 3) := by decide +kernel
theorem dX7_init_56 : decode cX7_init 56 = .ok (.return_, 1) := by decide +kernel
theorem dX8_init_0 : decode cX8_init 0 = .ok (.aload_n 0, 1) := by decide +kernel
theorem dX8_init_1 : decode cX8_init 1 = .ok (.invokespecial 1, 3) := by decide +kernel
theorem dX8_init_4 : decode cX8_init 4 = .ok (.aload_n 0, 1) := by decide +kernel
theorem dX8_init_5 : decode cX8_init 5 = .ok (.iconst 2, 1) := by decide +kernel
theorem dX8_init_6 : decode cX8_init 6 = .ok (.putfield 7, 3) := by decide +kernel
theorem dX8_init_9 : decode cX8_init 9 = .ok (.aload_n 0, 1) := by decide +kernel
theorem dX8_init_10 : decode cX8_init 10 = .ok (.iconst 1, 1) := by decide +kernel
theorem dX8_init_11 : decode cX8_init 11 = .ok (.putfield 13, 3) := by decide +kernel
theorem dX8_init_14 : decode cX8_init 14 = .ok (.aload_n 0, 1) := by decide +kernel
theorem dX8_init_15 : decode cX8_init 15 = .ok (.bipush 12, 2) := by decide +kernel
theorem dX8_init_17 : decode cX8_init 17 = .ok (.newarray .int, 2) := by decide +kernel
theorem dX8_init_19 : decode cX8_init 19 = .ok (.putfield 16, 3) := by decide +kernel
theorem dX8_init_22 : decode cX8_init 22 = .ok (.aload_n 0, 1) := by decide +kernel
theorem dX8_init_23 : decode cX8_init 23 = .ok (.bipush 12, 2) := by decide +kernel
theorem dX8_init_25 : decode cX8_init 25 = .ok (.newarray .int, 2) := by decide +kernel
theorem dX8_init_27 : decode cX8_init 27 = .ok (.putfield 20, 3) := by decide +kernel
theorem dX8_init_30 : decode cX8_init 30 = .ok (.aload_n 0, 1) := by decide +kernel
theorem dX8_init_31 : decode cX8_init 31 = .ok (.bipush 12, 2) := by decide +kernel
theorem dX8_init_33 : decode cX8_init 33 = .ok (.newarray .int, 2) := by decide +kernel
theorem dX8_init_35 : decode cX8_init 35 = .ok (.putfield 23, 3) := by decide +kernel
theorem dX8_init_38 : decode cX8_init 38 = .ok (.aload_n 0, 1) := by decide +kernel
theorem dX8_init_39 : decode cX8_init 39 = .ok (.bipush 12, 2) := by decide +kernel
theorem dX8_init_41 : decode cX8_init 41 = .ok (.newarray .int, 2) := by decide +kernel
theorem dX8_init_43 : decode cX8_init 43 = .ok (.putfield 26, 3) := by decide +kernel
theorem dX8_init_46 : decode cX8_init 46 = .ok (.aload_n 0, 1) := by decide +kernel
theorem dX8_init_47 : decode cX8_init 47 = .ok (.bipush 12, 2) := by decide +kernel
theorem dX8_init_49 : decode cX8_init 49 = .ok (.newarray .int, 2) := by decide +kernel
theorem dX8_init_51 : decode cX8_init 51 = .ok (.putfield 29, 3) := by decide +kernel
theorem dX8_init_54 : decode cX8_init 54 = .ok (.aload_n 0, 1) := by decide +kernel
theorem dX8_init_55 : decode cX8_init 55 = .ok (.bipush 12, 2) := by decide +kernel
theorem dX8_init_57 : decode cX8_init 57 = .ok (.newarray .int, 2) := by decide +kernel
theorem dX8_init_59 : decode cX8_init 59 = .ok (.putfield 32, 3) := by decide +kernel
theorem dX8_init_62 : decode cX8_init 62 = .ok (.aload_n 0, 1) := by decide +kernel
theorem dX8_init_63 : decode cX8_init 63 = .ok (.bipush 12, 2) := by decide +kernel
theorem dX8_init_65 : decode cX8_init 65 = .ok (.newarray .int, 2) := by decide +kernel
theorem dX8_init_67 : decode cX8_init 67 = .ok (.putfield 35, 3) := by decide +kernel
theorem dX8_init_70 : decode cX8_init 70 = .ok (.aload_n 0, 1) := by decide +kernel
theorem dX8_init_71 : decode cX8_init 71 = .ok (.bipush 30, 2) := by decide +kernel
theorem dX8_init_73 : decode cX8_init 73 = .ok (.newarray .int, 2) := by decide +kernel
theorem dX8_init_75 : decode cX8_init 75 = .ok (.putfield 38, 3) := by decide +kernel
theorem dX8_init_78 : decode cX8_init 78 = .ok (.aload_n 0, 1) := by decide +kernel
theorem dX8_init_79 : decode cX8_init 79 = .ok (.iconst 5, 1) := by decide +kernel
theorem dX8_init_80 : decode cX8_init 80 = .ok (.newarray .int, 2) := by decide +kernel
theorem dX8_init_82 : decode cX8_init 82 = .ok (.putfield 41, 3) := by decide +kernel
theorem dX8_init_85 : decode cX8_init 85 = .ok (.aload_n 0, 1) := by decide +kernel
theorem dX8_init_86 : decode cX8_init 86 = .ok (.sipush 505, 3) := by decide +kernel
theorem dX8_init_89 : decode cX8_init 89 = .ok (.newarray .int, 2) := by decide +kernel
theorem dX8_init_91 : decode cX8_init 91 = .ok (.putfield 44, 3) := by decide +kernel
theorem dX8_init_94 : decode cX8_init 94 = .ok (.aload_n 0, 1) := by decide +kernel
theorem dX8_init_95 : decode cX8_init 95 = .ok (.sipush 505, 3) := by decide +kernel
theorem dX8_init_98 : decode cX8_init 98 = .ok (.newarray .int, 2) := by decide +kernel
theorem dX8_init_100 : decode cX8_init 100 = .ok (.putfield 47, 3) := by decide +kernel
theorem dX8_init_103 : decode cX8_init 103 = .ok (.aload_n 0, 1) := by decide +kernel
theorem dX8_init_104 : decode cX8_init 104 = .ok (.iconst 5, 1) := by decide +kernel
theorem dX8_init_105 : decode cX8_init 105 = .ok (.newarray .int, 2) := by decide +kernel
theorem dX8_init_107 : decode cX8_init 107 = .ok (.putfield 50, 3) := by decide +kernel
theorem dX8_init_110 : decode cX8_init 110 = .ok (.aload_n 0, 1) := by decide +kernel
theorem dX8_init_111 : decode cX8_init 111 = .ok (.iconst 5, 1) := by decide +kernel
theorem dX8_init_112 : decode cX8_init 112 = .ok (.newarray .int, 2) := by decide +kernel
theorem dX8_init_114 : decode cX8_init 114 = .ok (.putfield 53, 3) := by decide +kernel
theorem dX8_init_117 : decode cX8_init 117 = .ok (.aload_n 0, 1) := by decide +kernel
theorem dX8_init_118 : decode cX8_init 118 = .ok (.iconst 5, 1) := by decide +kernel
theorem dX8_init_119 : decode cX8_init 119 = .ok (.newarray .int, 2) := by decide +kernel
theorem dX8_init_121 : decode cX8_init 121 = .ok (.putfield 56, 3) := by decide +kernel
theorem dX8_init_124 : decode cX8_init 124 = .ok (.aload_n 0, 1) := by decide +kernel
theorem dX8_init_125 : decode cX8_init 125 = .ok (.sipush 500, 3) := by decide +kernel
theorem dX8_init_128 : decode cX8_init 128 = .ok (.newarray .int, 2) := by decide +kernel
theorem dX8_init_130 : decode cX8_init 130 = .ok (.putfield 59, 3) := by decide +kernel
theorem dX8_init_133 : decode cX8_init 133 = .ok (.aload_n 0, 1) := by decide +kernel
theorem dX8_init_134 : decode cX8_init 134 = .ok (.ldc 62, 2) := by decide +kernel
theorem dX8_init_136 : decode cX8_init 136 = .ok (.newarray .int, 2) := by decide +kernel
theorem dX8_init_138 : decode cX8_init 138 = .ok (.putfield 63, 3) := by decide +kernel
theorem dX8_init_141 : decode cX8_init 141 = .ok (.aload_n 0, 1) := by decide +kernel
theorem dX8_init_142 : decode cX8_init 142 = .ok (.sipush 500, 3) := by decide +kernel
theorem dX8_init_145 : decode cX8_init 145 = .ok (.newarray .int, 2) := by decide +kernel
theorem dX8_init_147 : decode cX8_init 147 = .ok (.putfield 66, 3) := by decide +kernel
theorem dX8_init_150 : decode cX8_init 150 = .ok (.aload_n 0, 1) := by decide +kernel
theorem dX8_init_151 : decode cX8_init 151 = .ok (.sipush 500, 3) := by decide +kernel
theorem dX8_init_154 : decode cX8_init 154 = .ok (.newarray .boolean, 2) := by decide +kernel
theorem dX8_init_156 : decode cX8_init 156 = .ok (.putfield 69, 3) := by decide +kernel
theorem dX8_init_159 : decode cX8_init 159 = .ok (.return_, 1) := by decide +kernel
theorem hl_yX3_init : (yX3_init.cls ≠ "java/lang/invoke/MethodHandle" ∧ yX3_init.cls ≠ "java/lang/invoke/VarHandle") ∧ (parseMethodDescriptor yX3_init.desc).map (fun d => d.parameters.length) = some 0 := by decide +kernel
theorem hl_yX6_init : (yX6_init.cls ≠ "java/lang/invoke/MethodHandle" ∧ yX6_init.cls ≠ "java/lang/invoke/VarHandle") ∧ (parseMethodDescriptor yX6_init.desc).map (fun d => d.parameters.length) = some 0 := by decide +kernel
theorem hl_yX2_init : (yX2_init.cls ≠ "java/lang/invoke/MethodHandle" ∧ yX2_init.cls ≠ "java/lang/invoke/VarHandle") ∧ (parseMethodDescriptor yX2_init.desc).map (fun d => d.parameters.length) = some 1 := by decide +kernel
theorem hl_yX1_init : (yX1_init.cls ≠ "java/lang/invoke/MethodHandle" ∧ yX1_init.cls ≠ "java/lang/invoke/VarHandle") ∧ (parseMethodDescriptor yX1_init.desc).map (fun d => d.parameters.length) = some 0 := by decide +kernel
theorem hl_yX5_init : (yX5_init.cls ≠ "java/lang/invoke/MethodHandle" ∧ yX5_init.cls ≠ "java/lang/invoke/VarHandle") ∧ (parseMethodDescriptor yX5_init.desc).map (fun d => d.parameters.length) = some 0 := by decide +kernel
theorem hl_yX0_init : (yX0_init.cls ≠ "java/lang/invoke/MethodHandle" ∧ yX0_init.cls ≠ "java/lang/invoke/VarHandle") ∧ (parseMethodDescriptor yX0_init.desc).map (fun d => d.parameters.length) = some 1 := by decide +kernel
theorem hl_yX4_init : (yX4_init.cls ≠ "java/lang/invoke/MethodHandle" ∧ yX4_init.cls ≠ "java/lang/invoke/VarHandle") ∧ (parseMethodDescriptor yX4_init.desc).map (fun d => d.parameters.length) = some 1 := by decide +kernel
theorem hl_yX7_init : (yX7_init.cls ≠ "java/lang/invoke/MethodHandle" ∧ yX7_init.cls ≠ "java/lang/invoke/VarHandle") ∧ (parseMethodDescriptor yX7_init.desc).map (fun d => d.parameters.length) = some 0 := by decide +kernel
theorem hl_yX8_init : (yX8_init.cls ≠ "java/lang/invoke/MethodHandle" ∧ yX8_init.cls ≠ "java/lang/invoke/VarHandle") ∧ (parseMethodDescriptor yX8_init.desc).map (fun d => d.parameters.length) = some 0 := by decide +kernel
set_option maxRecDepth 20000 in
set_option maxHeartbeats 4000000 in
theorem i_X3 {l : Launch} {G : Gt} {n0 : Nat} {N k : Nat} {g : Nat → va_E} (hk : k < N) (h1 : g k = .inr (3, [.ref (n0 + N)])) (h2 : g N = .inl (G.2 0, 5, .inl (fun _ => 0))) : In l yX3_init cX3_init 1 1 1 5 G n0 [.ref (n0 + k)] N (va_up g k (.inr (3, [.null]))) (N + 1) g := by
  refine Ct_of (by decide +kernel) (by intro v hv; simp at hv; rcases hv with rfl <;> rfl) (Nat.le_of_ble_eq_true rfl) ?_
  intro p e s m args below meth c9 X hr hname
  have hname : meth.name = "<init>" := hname
  refine w_aload_n X dX3_init_0 rfl ?_
  refine w_objInit X gM_X3_3 dX3_init_1 ⟨Nat.le_of_ble_eq_true rfl, Nat.le_of_ble_eq_true rfl⟩ (Nat.le_of_ble_eq_true rfl) ?_
  refine w_aload_n X dX3_init_4 rfl ?_
  refine w_iconst X dX3_init_5 ?_
  refine i_newi X (n := 5) ((up_ne (by omega)).trans h2) rfl (by decide) (by show _ ≤ (1 : Nat); omega) (by show _ ≤ (5 : Nat); omega) dX3_init_6 ?_
  refine i_putF X hname (by omega) rfl gW_X3 tyX3 tyX3_ok nmX3 0 (by decide) gF_X3_9 rfl rfl rfl rfl (Nat.le_of_ble_eq_true rfl) dX3_init_8 ?_
  refine WW.eqf (up_id h1) ?_
  exact w_vret X hr dX3_init_11 ⟨rfl, rfl, rfl⟩
set_option maxRecDepth 20000 in
set_option maxHeartbeats 4000000 in
theorem i_X6 {l : Launch} {G : Gt} {n0 : Nat} {N k : Nat} {g : Nat → va_E} (hk : k < N) (h1 : g k = .inr (6, [.ref (n0 + N), .int (jI 0), .int (jI 0), .int (jI 0), .int (jI (-9)), .int (jI (-9)), .int (jI (-9)), .int (jI (-9))])) (h2 : g N = .inl (G.2 0, 5, .inl (fun _ => 0))) : In l yX6_init cX6_init 1 1 1 5 G n0 [.ref (n0 + k)] N (va_up g k (.inr (6, [.null, .int 0, .int 0, .int 0, .int 0, .int 0, .int 0, .int 0]))) (N + 1) g := by
  refine Ct_of (by decide +kernel) (by intro v hv; simp at hv; rcases hv with rfl <;> rfl) (Nat.le_of_ble_eq_true rfl) ?_
  intro p e s m args below meth c9 X hr hname
  have hname : meth.name = "<init>" := hname
  refine w_aload_n X dX6_init_0 rfl ?_
  refine w_objInit X gM_X6_3 dX6_init_1 ⟨Nat.le_of_ble_eq_true rfl, Nat.le_of_ble_eq_true rfl⟩ (Nat.le_of_ble_eq_true rfl) ?_
  refine w_aload_n X dX6_init_4 rfl ?_
  refine w_iconst X dX6_init_5 ?_
  refine i_newi X (n := 5) ((up_ne (by omega)).trans h2) rfl (by decide) (by show _ ≤ (1 : Nat); omega) (by show _ ≤ (5 : Nat); omega) dX6_init_6 ?_
  refine i_putF X hname (by omega) rfl gW_X6 tyX6 tyX6_ok nmX6 0 (by decide) gF_X6_9 rfl rfl rfl rfl (Nat.le_of_ble_eq_true rfl) dX6_init_8 ?_
  refine w_aload_n X dX6_init_11 rfl ?_
  refine w_iconst X dX6_init_12 ?_
  refine i_put X (by omega) rfl gW_X6 tyX6 tyX6_ok nmX6 1 (by decide) gF_X6_15 rfl rfl rfl (Nat.le_of_ble_eq_true rfl) dX6_init_13 ?_
  refine w_aload_n X dX6_init_16 rfl ?_
  refine w_iconst X dX6_init_17 ?_
  refine i_put X (by omega) rfl gW_X6 tyX6 tyX6_ok nmX6 2 (by decide) gF_X6_19 rfl rfl rfl (Nat.le_of_ble_eq_true rfl) dX6_init_18 ?_
  refine w_aload_n X dX6_init_21 rfl ?_
  refine w_iconst X dX6_init_22 ?_
  refine i_put X (by omega) rfl gW_X6 tyX6 tyX6_ok nmX6 3 (by decide) gF_X6_22 rfl rfl rfl (Nat.le_of_ble_eq_true rfl) dX6_init_23 ?_
  refine w_aload_n X dX6_init_26 rfl ?_
  refine w_bipush X dX6_init_27 rfl ?_
  refine i_put X (by omega) rfl gW_X6 tyX6 tyX6_ok nmX6 4 (by decide) gF_X6_25 rfl rfl rfl (Nat.le_of_ble_eq_true rfl) dX6_init_29 ?_
  refine w_aload_n X dX6_init_32 rfl ?_
  refine w_bipush X dX6_init_33 rfl ?_
  refine i_put X (by omega) rfl gW_X6 tyX6 tyX6_ok nmX6 5 (by decide) gF_X6_28 rfl rfl rfl (Nat.le_of_ble_eq_true rfl) dX6_init_35 ?_
  refine w_aload_n X dX6_init_38 rfl ?_
  refine w_bipush X dX6_init_39 rfl ?_
  refine i_put X (by omega) rfl gW_X6 tyX6 tyX6_ok nmX6 6 (by decide) gF_X6_31 rfl rfl rfl (Nat.le_of_ble_eq_true rfl) dX6_init_41 ?_
  refine w_aload_n X dX6_init_44 rfl ?_
  refine w_bipush X dX6_init_45 rfl ?_
  refine i_put X (by omega) rfl gW_X6 tyX6 tyX6_ok nmX6 7 (by decide) gF_X6_34 rfl rfl rfl (Nat.le_of_ble_eq_true rfl) dX6_init_47 ?_
  refine WW.eqf (up_id h1) ?_
  exact w_vret X hr dX6_init_50 ⟨rfl, rfl, rfl⟩
set_option maxRecDepth 20000 in
set_option maxHeartbeats 4000000 in
theorem i_X2 {l : Launch} {G : Gt} {n0 : Nat} {N k a : Nat} {g : Nat → va_E} (hk : k < N) (h1 : g k = .inr (2, [.ref (n0 + a)])) : In l yX2_init cX2_init 2 1 0 0 G n0 [.ref (n0 + k), .ref (n0 + a)] N (va_up g k (.inr (2, [.null]))) N g := by
  refine Ct_of (by decide +kernel) (by intro v hv; simp at hv; rcases hv with rfl | rfl <;> rfl) (Nat.le_of_ble_eq_true rfl) ?_
  intro p e s m args below meth c9 X hr hname
  have hname : meth.name = "<init>" := hname
  refine w_aload_n X dX2_init_0 rfl ?_
  refine w_objInit X gM_X2_3 dX2_init_1 ⟨Nat.le_of_ble_eq_true rfl, Nat.le_of_ble_eq_true rfl⟩ (Nat.le_of_ble_eq_true rfl) ?_
  refine w_aload_n X dX2_init_4 rfl ?_
  refine w_aload_n X dX2_init_5 rfl ?_
  refine i_putF X hname (by omega) rfl gW_X2 tyX2 tyX2_ok nmX2 0 (by decide) gF_X2_9 rfl rfl rfl rfl (Nat.le_of_ble_eq_true rfl) dX2_init_6 ?_
  refine WW.eqf (up_id h1) ?_
  exact w_vret X hr dX2_init_9 ⟨rfl, rfl, rfl⟩
set_option maxRecDepth 20000 in
set_option maxHeartbeats 4000000 in
theorem i_X1 {l : Launch} {G : Gt} {n0 : Nat} {k : Nat} {g : Nat → va_E} (h0 : g k = .inr (1, [.ref (n0 + (k + 1)), .ref (n0 + (k + 2)), .int (jI 0), .int (jI 0)])) (h1 : g (k + 1) = .inl (G.2 2, 101, .inr (.inr (.inr (.inr (fun j => some (n0 + (k + 3 + 2 * j)))))))) (h2 : g (k + 2) = .inl (G.2 1, 101, .inl (fun _ => 0))) (h3 : ∀ i : Nat, i < 101 → g (k + 3 + 2 * i) = .inr (3, [.ref (n0 + (k + 3 + 2 * i + 1))])) (h4 : ∀ i : Nat, i < 101 → g (k + 3 + 2 * i + 1) = .inl (G.2 0, 5, .inl (fun _ => 0))) : In l yX1_init cX1_init 2 2 204 808 G n0 [.ref (n0 + k)] (k + 1) (va_up g k (.inr (1, [.null, .null, .int 0, .int 0]))) (k + 205) g := by
  refine Ct_of (by decide +kernel) (by intro v hv; simp at hv; rcases hv with rfl <;> rfl) (Nat.le_of_ble_eq_true rfl) ?_
  intro p e s m args below meth c9 X hr hname
  have hname : meth.name = "<init>" := hname
  refine w_aload_n X dX1_init_0 rfl ?_
  refine w_objInit X gM_X1_3 dX1_init_1 ⟨Nat.le_of_ble_eq_true rfl, Nat.le_of_ble_eq_true rfl⟩ (Nat.le_of_ble_eq_true rfl) ?_
  refine w_aload_n X dX1_init_4 rfl ?_
  refine w_bipush X dX1_init_5 rfl ?_
  refine w_newq X (n := 101) (t := 2) rfl (by decide) gL_X1_9 gA_28 rfl (by show _ ≤ (204 : Nat); omega) (by show _ ≤ (808 : Nat); omega) dX1_init_7 ?_
  refine WW.eqf (up_cm _ _ _ (by omega)) ?_
  rw [← RI_0 n0 (fun j => k + 3 + 2 * j)]
  refine i_putF X hname (by omega) rfl gW_X1 tyX1 tyX1_ok nmX1 0 (by decide) gF_X1_11 rfl rfl rfl rfl (Nat.le_of_ble_eq_true rfl) dX1_init_10 ?_
  refine w_aload_n X dX1_init_13 rfl ?_
  refine w_bipush X dX1_init_14 rfl ?_
  refine i_newz X (n := 101) ((up_ne (by omega)).trans ((up_ne (by omega)).trans h2)) rfl (by decide) (by show _ ≤ (204 : Nat); omega) (by show _ ≤ (808 : Nat); omega) dX1_init_16 ?_
  refine i_putF X hname (by omega) rfl gW_X1 tyX1 tyX1_ok nmX1 1 (by decide) gF_X1_17 rfl rfl rfl rfl (Nat.le_of_ble_eq_true rfl) dX1_init_18 ?_
  refine w_aload_n X dX1_init_21 rfl ?_
  refine w_iconst X dX1_init_22 ?_
  refine i_put X (by omega) rfl gW_X1 tyX1 tyX1_ok nmX1 2 (by decide) gF_X1_21 rfl rfl rfl (Nat.le_of_ble_eq_true rfl) dX1_init_23 ?_
  refine w_aload_n X dX1_init_26 rfl ?_
  refine w_iconst X dX1_init_27 ?_
  refine i_put X (by omega) rfl gW_X1 tyX1 tyX1_ok nmX1 3 (by decide) gF_X1_25 rfl rfl rfl (Nat.le_of_ble_eq_true rfl) dX1_init_28 ?_
  refine w_iconst X dX1_init_31 ?_
  refine w_ist2_1 X dX1_init_32 ?_
  have loop : ∀ (d i : Nat), d + i = 101 → WW p l e { frames := 2, cells := 204, slots := 808, locals := 40 * 2 } s m args below meth c9 (MQ below (Qx G n0 (fun v N' f' => v = none ∧ N' = (k + 205) ∧ f' = g)) args s 204 808 (fun q => n0 ≤ q)) G n0 2 (k + 3 + 2 * i) (va_up (va_up g (k + 1) (.inl (G.2 2, 101, .inr (.inr (.inr (.inr (RI n0 (fun j => k + 3 + 2 * j) i))))))) k (.inr (1, [.ref (n0 + (k + 1)), .ref (n0 + (k + 2)), .int (jI 0), .int (jI 0)]))) (2 + 2 * i) (202 + 6 * i) 33 [some (.ref (n0 + k)), some (.int (jI (i : Int)))] [] := by
    intro d
    induction d with
    | zero =>
      intro i hi
      have e : i = 101 := by omega
      subst e
      refine w_iload_n X dX1_init_33 rfl ?_
      refine w_aload_n X dX1_init_34 rfl ?_
      refine w_get X (by omega) (va_up_self _ _ _) rfl gW_X1 0 (by decide) gF_X1_11 rfl dX1_init_35 ?_
      refine w_alen X (t := 2) (by omega) ((up_ne (by omega)).trans (va_up_self _ _ _)) rfl dX1_init_38 ?_
      refine s_alen (b := 101) rfl ?_
      refine w_icmp_ge X 61 dX1_init_39 (by decide) (fun _ => ?_) (fun q => absurd (by decide) q)
      refine WW.recell (k := k + 1) ((up_ne (by omega)).trans (va_up_self _ _ _)) (RI_n _ _ _ _) ?_
      refine WW.eqf (show _ = g from ?_) ?_
      · rw [up_cm _ _ _ (by omega), up_up, up_id (k := k + 1) h1, up_id h0]
      · refine WW.widen (k := 204) (n := 808) (by omega) (by omega) ?_
        exact w_vret X hr dX1_init_61 ⟨rfl, by omega, rfl⟩
    | succ d ih =>
      intro i hi
      refine w_iload_n X dX1_init_33 rfl ?_
      refine w_aload_n X dX1_init_34 rfl ?_
      refine w_get X (by omega) (va_up_self _ _ _) rfl gW_X1 0 (by decide) gF_X1_11 rfl dX1_init_35 ?_
      refine w_alen X (t := 2) (by omega) ((up_ne (by omega)).trans (va_up_self _ _ _)) rfl dX1_init_38 ?_
      refine s_alen (b := 101) rfl ?_
      refine w_icmp_ge X 61 dX1_init_39 (by decide) (fun q => absurd q (by omega)) (fun _ => ?_)
      refine w_aload_n X dX1_init_42 rfl ?_
      refine w_get X (by omega) (va_up_self _ _ _) rfl gW_X1 0 (by decide) gF_X1_11 rfl dX1_init_43 ?_
      refine w_iload_n X dX1_init_46 rfl ?_
      refine w_new X (ci := 3) gL_X1_9 gB_X3 gN_X3 gW_X3 tyX3 tyX3_ok rfl [.null] (fun j hj => match j, hj with | 0, _ => rfl | (j + 1), hj => absurd hj (by omega)) (by show _ ≤ (204 : Nat); omega) (by show _ ≤ (808 : Nat); omega) dX1_init_47 ?_
      refine w_dup X dX1_init_50 rfl ?_
      refine i_callN X (i_X3 (l := l) (N := k + 3 + 2 * i + 1) (k := k + 3 + 2 * i) (by omega) ((up_ne (by omega)).trans ((up_ne (by omega)).trans (h3 i (by omega)))) ((up_ne (by omega)).trans ((up_ne (by omega)).trans (h4 i (by omega))))) gM_X1_28 gI_yX3_init gN_X3 gC_yX3_init rfl dX1_init_51 hl_yX3_init ⟨Nat.le_of_ble_eq_true rfl, Nat.le_of_ble_eq_true rfl⟩ ⟨by show _ ≤ (204 : Nat); omega, by show _ ≤ (808 : Nat); omega⟩ (Nat.le_of_ble_eq_true rfl) rfl ?_
      refine w_aast X (t := 2) (k := k + 1) (k2 := k + 3 + 2 * i) (by omega) (by omega) ((up_ne (by omega)).trans (va_up_self _ _ _)) rfl ((up_ne (by omega)).trans ((up_ne (by omega)).trans (h3 i (by omega)))) rfl dX1_init_54 ?_
      refine WW.eqf (show _ = va_up (va_up g (k + 1) (.inl (G.2 2, 101, .inr (.inr (.inr (.inr (RI n0 (fun j => k + 3 + 2 * j) (i + 1)))))))) k (.inr (1, [.ref (n0 + (k + 1)), .ref (n0 + (k + 2)), .int (jI 0), .int (jI 0)])) from ?_) ?_
      · rw [up_cm _ _ _ (by omega), up_up, Int.toNat_natCast, RI_s n0 (fun j => k + 3 + 2 * j) i]
      · refine WW.widen (k := 2 + 2 * (i + 1)) (n := 202 + 6 * (i + 1)) (by omega) (by omega) ?_
        refine w_iinc2_1 X dX1_init_55 ?_
        refine w_goto X 33 dX1_init_58 (by decide) ?_
        exact ih (i + 1) (by omega)
  exact loop 101 0 rfl
