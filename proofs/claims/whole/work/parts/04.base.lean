/-! whole numbers as ints: jI z is z, wrapped -/
def jI (z : Int) : Int32 := Int32.ofInt z
abbrev rg (z : Int) : Prop := -2147483648 ≤ z ∧ z < 2147483648
theorem jI_add (a b : Int) : jI a + jI b = jI (a + b) := (Int32.ofInt_add a b).symm
theorem jI_sub (a b : Int) : jI a - jI b = jI (a - b) := (Int32.ofInt_sub a b).symm
theorem jI_mul (a b : Int) : jI a * jI b = jI (a * b) := (Int32.ofInt_mul a b).symm
theorem jI_to {z : Int} (h : rg z) : (jI z).toInt = z := by
  unfold jI
  rw [Int32.toInt_ofInt, show Int32.size = 4294967296 from rfl]
  have h1 := h.1; have h2 := h.2
  exact Int.bmod_eq_of_le_mul_two (by omega) (by omega)
theorem jI_of (x : Int32) : jI x.toInt = x := Int32.ofInt_toInt x
theorem rg_of (x : Int32) : rg x.toInt := by
  have h1 := x.toInt_lt
  have h2 := x.le_toInt
  unfold rg; omega
theorem jI_lt {a b : Int} (ha : rg a) (hb : rg b) : jI a < jI b ↔ a < b := by rw [Int32.lt_iff_toInt_lt, jI_to ha, jI_to hb]
theorem jI_le {a b : Int} (ha : rg a) (hb : rg b) : jI a ≤ jI b ↔ a ≤ b := by rw [Int32.le_iff_toInt_le, jI_to ha, jI_to hb]
theorem jI_eq {a b : Int} (ha : rg a) (hb : rg b) : jI a = jI b ↔ a = b := by
  constructor
  · intro h
    have h2 := congrArg Int32.toInt h
    rwa [jI_to ha, jI_to hb] at h2
  · intro h; rw [h]
theorem jI_0 : jI 0 = 0 := rfl
theorem jI_cl {z : Int} (h0 : 0 ≤ z) (h : z < 2147483648) : (jI z).toNatClampNeg = z.toNat := by
  have h2 : (jI z).toInt = z := jI_to ⟨by omega, h⟩
  show (jI z).toInt.toNat = z.toNat
  rw [h2]
theorem jI_in {z : Int} {n : Nat} (h0 : 0 ≤ z) (h : z < n) (hn : n < 2147483648) : vp_in (jI z) n := by
  rw [vp_in_iff, jI_to ⟨by omega, by omega⟩]
  exact ⟨h0, h⟩
/-! a world that is a function of places: the cells n0 .. n0 + N - 1 -/
def wl (n0 N : Nat) (f : Nat → va_E) : va_W := (List.range N).map (fun k => (n0 + k, f k))
theorem wl_at {n0 N k : Nat} {f : Nat → va_E} (h : k < N) : (wl n0 N f)[k]? = some (n0 + k, f k) := by simp [wl, h]
theorem wl_len {n0 N : Nat} {f : Nat → va_E} : (wl n0 N f).length = N := by simp [wl]
theorem wl_inv {n0 N k : Nat} {f : Nat → va_E} {q : Nat × va_E} (h : (wl n0 N f)[k]? = some q) : k < N ∧ q = (n0 + k, f k) := by
  have h1 : k < (wl n0 N f).length := (List.getElem?_eq_some_iff.mp h).1
  rw [wl_len] at h1
  rw [wl_at h1] at h
  exact ⟨h1, (Option.some.inj h).symm⟩
theorem wl_D {n0 N : Nat} {f : Nat → va_E} : va_D (fun q => n0 ≤ q) (wl n0 N f) := by
  refine ⟨fun i j p q hi hj h => ?_, fun k q hk => ?_⟩
  · obtain ⟨-, rfl⟩ := wl_inv hi
    obtain ⟨-, rfl⟩ := wl_inv hj
    have h : n0 + i = n0 + j := h
    omega
  · obtain ⟨-, rfl⟩ := wl_inv hk
    exact Nat.le_add_right _ _
theorem wl_set {n0 N k : Nat} {f : Nat → va_E} {e : va_E} : (wl n0 N f).set k (n0 + k, e) = wl n0 N (va_up f k e) := by
  apply List.ext_getElem?
  intro i
  rw [List.getElem?_set, wl_len]
  by_cases hi : i < N
  · rw [wl_at hi, wl_at hi]
    by_cases hk : k = i
    · subst hk; simp [va_up, hi]
    · have hk2 : ¬ i = k := fun h => hk h.symm
      simp [va_up, hk, hk2]
  · have h1 : (wl n0 N f)[i]? = none := by rw [List.getElem?_eq_none]; rw [wl_len]; omega
    have h2 : (wl n0 N (va_up f k e))[i]? = none := by rw [List.getElem?_eq_none]; rw [wl_len]; omega
    rw [h1, h2]
    by_cases hk : k = i
    · subst hk; simp [hi]
    · simp [hk]
theorem wl_push {n0 N : Nat} {f : Nat → va_E} {e : va_E} : wl n0 N f ++ [(n0 + N, e)] = wl n0 (N + 1) (va_up f N e) := by
  unfold wl
  rw [List.range_succ, List.map_append]
  congr 1
  · apply List.map_congr_left
    intro a ha
    have : a < N := List.mem_range.mp ha
    have h2 : ¬ a = N := by omega
    simp [va_up, h2]
  · simp [va_up]
theorem wl_congr {n0 N : Nat} {f g : Nat → va_E} (h : ∀ k, k < N → f k = g k) : wl n0 N f = wl n0 N g := by
  unfold wl
  apply List.map_congr_left
  intro a ha
  rw [h a (List.mem_range.mp ha)]
def Wd (G : Gt) (n0 N : Nat) (f : Nat → va_E) (H : Heap) : Prop := H.size = n0 + N ∧ va_P G.1 vwCl (wl n0 N f) H
/-! locals as a list: none is one of which nothing is known -/
def hasL (ls : Array Slot) (nL : Nat) (L : List (Option Value)) : Prop := L.length = nL ∧ ls.size = nL ∧ lv_wf ls ∧ ∀ (i : Nat) (v : Value), L[i]? = some (some v) → v.category = 1 ∧ ls[i]? = some (.val v)
def lvs : Nat → List (Option Value) → List (Nat × Value)
  | _, [] => []
  | n, none :: t => lvs (n + 1) t
  | n, some v :: t => (n, v) :: lvs (n + 1) t
theorem lvs_mem : ∀ (L : List (Option Value)) (n : Nat) (q : Nat × Value), q ∈ lvs n L ↔ ∃ i, L[i]? = some (some q.2) ∧ q.1 = n + i := by
  intro L
  induction L with
  | nil => intro n q; simp [lvs]
  | cons a t ih =>
    intro n q
    cases a with
    | none =>
      show q ∈ lvs (n + 1) t ↔ _
      rw [ih]
      constructor
      · rintro ⟨i, h1, h2⟩; exact ⟨i + 1, by simpa using h1, by omega⟩
      · rintro ⟨i, h1, h2⟩
        cases i with
        | zero => simp at h1
        | succ i => exact ⟨i, by simpa using h1, by omega⟩
    | some v =>
      show q ∈ (n, v) :: lvs (n + 1) t ↔ _
      rw [List.mem_cons, ih]
      constructor
      · rintro (h | ⟨i, h1, h2⟩)
        · subst h; exact ⟨0, by simp, by simp⟩
        · exact ⟨i + 1, by simpa using h1, by omega⟩
      · rintro ⟨i, h1, h2⟩
        cases i with
        | zero =>
          left
          have h1 : v = q.2 := by simpa using h1
          have h2 : q.1 = n := by simpa using h2
          rw [h1, ← h2]
        | succ i => right; exact ⟨i, by simpa using h1, by omega⟩
theorem hasL.lv {ls : Array Slot} {nL : Nat} {L : List (Option Value)} (h : hasL ls nL L) : lv_has ls nL (lvs 0 L) := by
  refine ⟨h.2.1, h.2.2.1, fun q hq => ?_⟩
  obtain ⟨i, h1, h2⟩ := (lvs_mem L 0 q).mp hq
  rw [show q.1 = i by omega]
  exact (h.2.2.2 i q.2 h1).2
theorem hasL.at {ls : Array Slot} {nL : Nat} {L : List (Option Value)} (h : hasL ls nL L) {i : Nat} {v : Value} (hi : L[i]? = some (some v)) : ls[i]? = some (.val v) := (h.2.2.2 i v hi).2
theorem hasL.st {ls : Array Slot} {nL : Nat} {L : List (Option Value)} {i : Nat} {v : Value} (h : hasL ls nL L) (hc : v.category = 1) {ls' : Array Slot} (h' : lv_has ls' nL ((i, v) :: (lvs 0 L).filter (fun q => !(q.1 == i) && !(q.1 + 1 == i && q.2.category == 2)))) : hasL ls' nL (L.set i (some v)) := by
  refine ⟨by rw [List.length_set]; exact h.1, h'.1, h'.2.1, fun j w hj => ?_⟩
  rw [List.getElem?_set] at hj
  by_cases hij : i = j
  · subst hij
    rw [if_pos rfl] at hj
    have hw : w = v := by
      by_cases hl : i < L.length
      · rw [if_pos hl] at hj; exact (Option.some.inj (Option.some.inj hj)).symm
      · rw [if_neg hl] at hj; cases hj
    subst hw
    exact ⟨hc, h'.2.2 (i, w) List.mem_cons_self⟩
  · rw [if_neg hij] at hj
    have hcat := (h.2.2.2 j w hj).1
    refine ⟨hcat, h'.2.2 (j, w) (List.mem_cons_of_mem _ (List.mem_filter.mpr ⟨(lvs_mem L 0 (j, w)).mpr ⟨j, hj, by simp⟩, ?_⟩))⟩
    have hji : (j == i) = false := by simp; exact fun e => hij e.symm
    simp [hji, hcat]
def inL (av : List Value) (nL : Nat) : List (Option Value) := av.map some ++ List.replicate (nL - av.length) none
theorem lg_args1 : ∀ (av : List Value) (n : Nat), (∀ v ∈ av, v.category = 1) → ∀ (i : Nat) (v : Value), av[i]? = some v → (n + i, v) ∈ lv_args n av := by
  intro av
  induction av with
  | nil => intro n _ i v h; simp at h
  | cons a t ih =>
    intro n hc i v h
    have ha := hc a List.mem_cons_self
    cases i with
    | zero =>
      have : a = v := by simpa using h
      subst this
      simp [lv_args]
    | succ i =>
      have h2 := ih (n + 1) (fun w hw => hc w (List.mem_cons_of_mem _ hw)) i v (by simpa using h)
      simp only [lv_args, ha]
      refine List.mem_cons_of_mem _ ?_
      rw [show n + (i + 1) = n + 1 + i by omega]
      exact h2
theorem hasL_entry {av : List Value} {nL : Nat} (hc : ∀ v ∈ av, v.category = 1) (hn : av.length ≤ nL) (hsl : (lg_sl av).length ≤ nL) : hasL ((lg_sl av ++ List.replicate (nL - (lg_sl av).length) Slot.unset).toArray) nL (inL av nL) := by
  have h := lv_entry av hsl
  refine ⟨by simp [inL]; omega, h.1, h.2.1, fun i v hi => ?_⟩
  have h1 : av[i]? = some v := by
    unfold inL at hi
    by_cases hl : i < av.length
    · rw [List.getElem?_append_left (by simpa using hl), List.getElem?_map] at hi
      cases hq : av[i]? with
      | none => rw [hq] at hi; cases hi
      | some w => rw [hq] at hi; simp at hi; rw [hi]
    · rw [List.getElem?_append_right (by simpa using hl), List.getElem?_replicate] at hi
      split at hi <;> simp at hi
  have hv := hc v (List.mem_of_getElem? h1)
  refine ⟨hv, ?_⟩
  have := h.2.2 (0 + i, v) (lg_args1 av 0 hc i v h1)
  simpa using this

theorem lg_sl1 : ∀ (av : List Value), (∀ v ∈ av, v.category = 1) → (lg_sl av).length = av.length := by
  intro av
  induction av with
  | nil => intro _; rfl
  | cons a t ih =>
    intro hc
    have ha := hc a List.mem_cons_self
    have := ih (fun w hw => hc w (List.mem_cons_of_mem _ hw))
    unfold lg_sl at this ⊢
    simp [ha, this]
/-! the machine over such a world -/
def Cx (G : Gt) (n0 : Nat) (p : Program) (s : State) (m : MethodId) (args : Array Value) (meth : Method) (c : Code) (cc : ByteArray) (own : String) (nL : Nat) : Prop :=
  p.tables.exec = Jvm.exec ∧ c.code = cc ∧ c.maxLocals = nL ∧ s.vm.findClass own = some m.cls ∧ (∀ w ∈ lw_w, w.before args s = true) ∧ KK G s ∧ meth.locks = false ∧ n0 ≤ s.heap.size
def WW (p : Program) (l : Launch) (e : Env) (R : Room) (s : State) (m : MethodId) (args : Array Value) (below : List Frame) (meth : Method) (c : Code) (Q : State → Prop) (G : Gt) (n0 nL N : Nat) (f : Nat → va_E) (cells slots pc : Nat) (L : List (Option Value)) (st : List Value) : Prop :=
  ∀ (H : Heap) (locs : List Loc) (ls : Array Slot), Wd G n0 N f H → va_S (fun q => n0 ≤ q) s.heap H locs → hasL ls nL L → W p l e R s m args below meth c H locs cells slots Q (F0 m pc ls st)
section Rows
variable {p : Program} {l : Launch} {e : Env} {R : Room} {s : State} {m : MethodId} {args : Array Value} {below : List Frame} {meth : Method} {c : Code} {Q : State → Prop} {G : Gt} {n0 nL N : Nat} {f : Nat → va_E} {cells slots pc : Nat} {L : List (Option Value)} {st : List Value} {cc : ByteArray} {own : String}
theorem w_iconst (X : Cx G n0 p s m args meth c cc own nL) {n : Int} (hd : decode cc pc = .ok (.iconst n, 1)) (k : WW p l e R s m args below meth c Q G n0 nL N f cells slots (pc + 1) L (.int (jI n) :: st)) : WW p l e R s m args below meth c Q G n0 nL N f cells slots pc L st := fun H locs ls h1 h2 h3 => lv_iconst X.1 X.2.1 hd rfl (k H locs ls h1 h2 h3)
theorem w_bipush (X : Cx G n0 p s m args meth c cc own nL) {n : Int} (hd : decode cc pc = .ok (.bipush n, 2)) (hv : (Int8.ofInt n).toInt32 = jI n) (k : WW p l e R s m args below meth c Q G n0 nL N f cells slots (pc + 2) L (.int (jI n) :: st)) : WW p l e R s m args below meth c Q G n0 nL N f cells slots pc L st := fun H locs ls h1 h2 h3 => lv_bipush X.1 X.2.1 hd hv (k H locs ls h1 h2 h3)
theorem w_sipush (X : Cx G n0 p s m args meth c cc own nL) {n : Int} (hd : decode cc pc = .ok (.sipush n, 3)) (hv : (Int16.ofInt n).toInt32 = jI n) (k : WW p l e R s m args below meth c Q G n0 nL N f cells slots (pc + 3) L (.int (jI n) :: st)) : WW p l e R s m args below meth c Q G n0 nL N f cells slots pc L st := fun H locs ls h1 h2 h3 => lv_sipush X.1 X.2.1 hd hv (k H locs ls h1 h2 h3)
theorem w_ldc (X : Cx G n0 p s m args meth c cc own nL) {index : Nat} {v : Int32} {z : Int} (hw : Cond.constant own index v ∈ lw_w) (hv : v = jI z) (hd : decode cc pc = .ok (.ldc index, 2)) (k : WW p l e R s m args below meth c Q G n0 nL N f cells slots (pc + 2) L (.int (jI z) :: st)) : WW p l e R s m args below meth c Q G n0 nL N f cells slots pc L st := fun H locs ls h1 h2 h3 => lv_ldc X.1 X.2.1 X.2.2.2.1 (X.2.2.2.2.1 _ hw) hd (hv ▸ k H locs ls h1 h2 h3)
theorem w_iload_n (X : Cx G n0 p s m args meth c cc own nL) {k : Fin 4} {x : Int32} (hd : decode cc pc = .ok (.iload_n k, 1)) (hl : L[(k : Nat)]? = some (some (.int x))) (kk : WW p l e R s m args below meth c Q G n0 nL N f cells slots (pc + 1) L (.int x :: st)) : WW p l e R s m args below meth c Q G n0 nL N f cells slots pc L st := fun H locs ls h1 h2 h3 => lv_iload_n X.1 X.2.1 hd rfl (h3.at hl) (kk H locs ls h1 h2 h3)
theorem w_iload (X : Cx G n0 p s m args meth c cc own nL) {k : Nat} {x : Int32} (hd : decode cc pc = .ok (.iload k, 2)) (hl : L[k]? = some (some (.int x))) (kk : WW p l e R s m args below meth c Q G n0 nL N f cells slots (pc + 2) L (.int x :: st)) : WW p l e R s m args below meth c Q G n0 nL N f cells slots pc L st := fun H locs ls h1 h2 h3 => lv_iload X.1 X.2.1 hd (h3.at hl) (kk H locs ls h1 h2 h3)
theorem w_aload_n (X : Cx G n0 p s m args meth c cc own nL) {k : Fin 4} {x : Nat} (hd : decode cc pc = .ok (.aload_n k, 1)) (hl : L[(k : Nat)]? = some (some (.ref x))) (kk : WW p l e R s m args below meth c Q G n0 nL N f cells slots (pc + 1) L (.ref x :: st)) : WW p l e R s m args below meth c Q G n0 nL N f cells slots pc L st := fun H locs ls h1 h2 h3 => lv_aload_n X.1 X.2.1 hd rfl (h3.at hl) (kk H locs ls h1 h2 h3)
theorem w_aload (X : Cx G n0 p s m args meth c cc own nL) {k : Nat} {x : Nat} (hd : decode cc pc = .ok (.aload k, 2)) (hl : L[k]? = some (some (.ref x))) (kk : WW p l e R s m args below meth c Q G n0 nL N f cells slots (pc + 2) L (.ref x :: st)) : WW p l e R s m args below meth c Q G n0 nL N f cells slots pc L st := fun H locs ls h1 h2 h3 => lv_aload X.1 X.2.1 hd (h3.at hl) (kk H locs ls h1 h2 h3)
theorem w_istore_n (X : Cx G n0 p s m args meth c cc own nL) {k : Fin 4} {x : Int32} (hd : decode cc pc = .ok (.istore_n k, 1)) (hn : (k : Nat) < nL) (kk : WW p l e R s m args below meth c Q G n0 nL N f cells slots (pc + 1) (L.set k (some (.int x))) st) : WW p l e R s m args below meth c Q G n0 nL N f cells slots pc L (.int x :: st) := fun H locs ls h1 h2 h3 => lv_istore_n X.1 X.2.1 hd rfl h3.lv hn rfl (fun ls' h' => kk H locs ls' h1 h2 (h3.st rfl h'))
theorem w_istore (X : Cx G n0 p s m args meth c cc own nL) {k : Nat} {x : Int32} (hd : decode cc pc = .ok (.istore k, 2)) (hn : k < nL) (kk : WW p l e R s m args below meth c Q G n0 nL N f cells slots (pc + 2) (L.set k (some (.int x))) st) : WW p l e R s m args below meth c Q G n0 nL N f cells slots pc L (.int x :: st) := fun H locs ls h1 h2 h3 => lv_istore X.1 X.2.1 hd h3.lv hn rfl (fun ls' h' => kk H locs ls' h1 h2 (h3.st rfl h'))
theorem w_astore_n (X : Cx G n0 p s m args meth c cc own nL) {k : Fin 4} {x : Nat} (hd : decode cc pc = .ok (.astore_n k, 1)) (hn : (k : Nat) < nL) (kk : WW p l e R s m args below meth c Q G n0 nL N f cells slots (pc + 1) (L.set k (some (.ref x))) st) : WW p l e R s m args below meth c Q G n0 nL N f cells slots pc L (.ref x :: st) := fun H locs ls h1 h2 h3 => lv_astore_n X.1 X.2.1 hd rfl h3.lv hn rfl (fun ls' h' => kk H locs ls' h1 h2 (h3.st rfl h'))
theorem w_astore (X : Cx G n0 p s m args meth c cc own nL) {k : Nat} {x : Nat} (hd : decode cc pc = .ok (.astore k, 2)) (hn : k < nL) (kk : WW p l e R s m args below meth c Q G n0 nL N f cells slots (pc + 2) (L.set k (some (.ref x))) st) : WW p l e R s m args below meth c Q G n0 nL N f cells slots pc L (.ref x :: st) := fun H locs ls h1 h2 h3 => lv_astore X.1 X.2.1 hd h3.lv hn rfl (fun ls' h' => kk H locs ls' h1 h2 (h3.st rfl h'))
theorem w_iinc (X : Cx G n0 p s m args meth c cc own nL) {i : Nat} {n z : Int} (hd : decode cc pc = .ok (.iinc i n, 3)) (hl : L[i]? = some (some (.int (jI z)))) (kk : WW p l e R s m args below meth c Q G n0 nL N f cells slots (pc + 3) (L.set i (some (.int (jI (z + n))))) st) : WW p l e R s m args below meth c Q G n0 nL N f cells slots pc L st := fun H locs ls h1 h2 h3 => by
  have hn : i < nL := by rw [← h3.1]; exact (List.getElem?_eq_some_iff.mp hl).1
  have hm : (i, Value.int (jI z)) ∈ lvs 0 L := (lvs_mem L 0 _).mpr ⟨i, hl, by simp⟩
  obtain ⟨k, hk⟩ := List.getElem?_of_mem hm
  exact lv_iinc X.1 X.2.1 hd h3.lv hk (jI_add z n) hn rfl (fun ls' h' => kk H locs ls' h1 h2 (h3.st rfl h'))
theorem w_iadd (X : Cx G n0 p s m args meth c cc own nL) {a b : Int} (hd : decode cc pc = .ok (.iadd, 1)) (k : WW p l e R s m args below meth c Q G n0 nL N f cells slots (pc + 1) L (.int (jI (a + b)) :: st)) : WW p l e R s m args below meth c Q G n0 nL N f cells slots pc L (.int (jI b) :: .int (jI a) :: st) := fun H locs ls h1 h2 h3 => lv_iadd X.1 X.2.1 hd (jI_add a b ▸ k H locs ls h1 h2 h3)
theorem w_isub (X : Cx G n0 p s m args meth c cc own nL) {a b : Int} (hd : decode cc pc = .ok (.isub, 1)) (k : WW p l e R s m args below meth c Q G n0 nL N f cells slots (pc + 1) L (.int (jI (a - b)) :: st)) : WW p l e R s m args below meth c Q G n0 nL N f cells slots pc L (.int (jI b) :: .int (jI a) :: st) := fun H locs ls h1 h2 h3 => lv_isub X.1 X.2.1 hd (jI_sub a b ▸ k H locs ls h1 h2 h3)
theorem w_imul (X : Cx G n0 p s m args meth c cc own nL) {a b : Int} (hd : decode cc pc = .ok (.imul, 1)) (k : WW p l e R s m args below meth c Q G n0 nL N f cells slots (pc + 1) L (.int (jI (a * b)) :: st)) : WW p l e R s m args below meth c Q G n0 nL N f cells slots pc L (.int (jI b) :: .int (jI a) :: st) := fun H locs ls h1 h2 h3 => lv_imul X.1 X.2.1 hd (jI_mul a b ▸ k H locs ls h1 h2 h3)
theorem w_pop (X : Cx G n0 p s m args meth c cc own nL) {v : Value} (hd : decode cc pc = .ok (.pop, 1)) (hv : v.category = 1) (k : WW p l e R s m args below meth c Q G n0 nL N f cells slots (pc + 1) L st) : WW p l e R s m args below meth c Q G n0 nL N f cells slots pc L (v :: st) := fun H locs ls h1 h2 h3 => lv_pop X.1 X.2.1 hd hv (k H locs ls h1 h2 h3)
theorem w_dup (X : Cx G n0 p s m args meth c cc own nL) {v : Value} (hd : decode cc pc = .ok (.dup, 1)) (hv : v.category = 1) (k : WW p l e R s m args below meth c Q G n0 nL N f cells slots (pc + 1) L (v :: v :: st)) : WW p l e R s m args below meth c Q G n0 nL N f cells slots pc L (v :: st) := fun H locs ls h1 h2 h3 => lv_dup X.1 X.2.1 hd hv (k H locs ls h1 h2 h3)
theorem w_dup2 (X : Cx G n0 p s m args meth c cc own nL) {v w : Value} (hd : decode cc pc = .ok (.dup2, 1)) (hv : v.category = 1) (hw : w.category = 1) (k : WW p l e R s m args below meth c Q G n0 nL N f cells slots (pc + 1) L (v :: w :: v :: w :: st)) : WW p l e R s m args below meth c Q G n0 nL N f cells slots pc L (v :: w :: st) := fun H locs ls h1 h2 h3 => lv_dup2_11 X.1 X.2.1 hd hv hw (k H locs ls h1 h2 h3)
theorem w_goto (X : Cx G n0 p s m args meth c cc own nL) {off : Int} (tgt : Nat) (hd : decode cc pc = .ok (.goto off, 3)) (ht : (pc : Int) + off = (tgt : Int)) (k : WW p l e R s m args below meth c Q G n0 nL N f cells slots tgt L st) : WW p l e R s m args below meth c Q G n0 nL N f cells slots pc L st := fun H locs ls h1 h2 h3 => lv_goto X.1 X.2.1 hd ht (k H locs ls h1 h2 h3)

theorem rg0 : rg 0 := ⟨by decide, by decide⟩
theorem w_icmp_eq (X : Cx G n0 p s m args meth c cc own nL) {a b : Int} {off : Int} (tgt : Nat) (hd : decode cc pc = .ok (.if_icmp .eq off, 3)) (ht : (pc : Int) + off = (tgt : Int)) (kt : a = b → WW p l e R s m args below meth c Q G n0 nL N f cells slots tgt L st) (kf : ¬ (a = b) → WW p l e R s m args below meth c Q G n0 nL N f cells slots (pc + 3) L st) (ha : rg a := by first | assumption | (refine ⟨?_, ?_⟩ <;> omega) | (unfold rg; omega)) (hb : rg b := by first | assumption | (refine ⟨?_, ?_⟩ <;> omega) | (unfold rg; omega)) : WW p l e R s m args below meth c Q G n0 nL N f cells slots pc L (.int (jI b) :: .int (jI a) :: st) := fun H locs ls h1 h2 h3 => lv_icmp_eq X.1 X.2.1 hd ht (fun h => kt ((jI_eq ha hb).mp h) H locs ls h1 h2 h3) (fun h => kf (fun q => h ((jI_eq ha hb).mpr q)) H locs ls h1 h2 h3)
theorem w_if_eq (X : Cx G n0 p s m args meth c cc own nL) {a : Int} {off : Int} (tgt : Nat) (hd : decode cc pc = .ok (.ifCond .eq off, 3)) (ht : (pc : Int) + off = (tgt : Int)) (kt : a = 0 → WW p l e R s m args below meth c Q G n0 nL N f cells slots tgt L st) (kf : ¬ (a = 0) → WW p l e R s m args below meth c Q G n0 nL N f cells slots (pc + 3) L st) (ha : rg a := by first | assumption | (refine ⟨?_, ?_⟩ <;> omega) | (unfold rg; omega)) : WW p l e R s m args below meth c Q G n0 nL N f cells slots pc L (.int (jI a) :: st) := fun H locs ls h1 h2 h3 => lv_if_eq X.1 X.2.1 hd ht (fun h => kt ((jI_eq ha rg0).mp h) H locs ls h1 h2 h3) (fun h => kf (fun q => h ((jI_eq ha rg0).mpr q)) H locs ls h1 h2 h3)
theorem w_icmp_ne (X : Cx G n0 p s m args meth c cc own nL) {a b : Int} {off : Int} (tgt : Nat) (hd : decode cc pc = .ok (.if_icmp .ne off, 3)) (ht : (pc : Int) + off = (tgt : Int)) (kt : ¬ a = b → WW p l e R s m args below meth c Q G n0 nL N f cells slots tgt L st) (kf : a = b → WW p l e R s m args below meth c Q G n0 nL N f cells slots (pc + 3) L st) (ha : rg a := by first | assumption | (refine ⟨?_, ?_⟩ <;> omega) | (unfold rg; omega)) (hb : rg b := by first | assumption | (refine ⟨?_, ?_⟩ <;> omega) | (unfold rg; omega)) : WW p l e R s m args below meth c Q G n0 nL N f cells slots pc L (.int (jI b) :: .int (jI a) :: st) := fun H locs ls h1 h2 h3 => lv_icmp_ne X.1 X.2.1 hd ht (fun h => kt ((not_congr (jI_eq ha hb)).mp h) H locs ls h1 h2 h3) (fun h => kf ((jI_eq ha hb).mp h) H locs ls h1 h2 h3)
theorem w_if_ne (X : Cx G n0 p s m args meth c cc own nL) {a : Int} {off : Int} (tgt : Nat) (hd : decode cc pc = .ok (.ifCond .ne off, 3)) (ht : (pc : Int) + off = (tgt : Int)) (kt : ¬ a = 0 → WW p l e R s m args below meth c Q G n0 nL N f cells slots tgt L st) (kf : a = 0 → WW p l e R s m args below meth c Q G n0 nL N f cells slots (pc + 3) L st) (ha : rg a := by first | assumption | (refine ⟨?_, ?_⟩ <;> omega) | (unfold rg; omega)) : WW p l e R s m args below meth c Q G n0 nL N f cells slots pc L (.int (jI a) :: st) := fun H locs ls h1 h2 h3 => lv_if_ne X.1 X.2.1 hd ht (fun h => kt ((not_congr (jI_eq ha rg0)).mp h) H locs ls h1 h2 h3) (fun h => kf ((jI_eq ha rg0).mp h) H locs ls h1 h2 h3)
theorem w_icmp_lt (X : Cx G n0 p s m args meth c cc own nL) {a b : Int} {off : Int} (tgt : Nat) (hd : decode cc pc = .ok (.if_icmp .lt off, 3)) (ht : (pc : Int) + off = (tgt : Int)) (kt : a < b → WW p l e R s m args below meth c Q G n0 nL N f cells slots tgt L st) (kf : ¬ (a < b) → WW p l e R s m args below meth c Q G n0 nL N f cells slots (pc + 3) L st) (ha : rg a := by first | assumption | (refine ⟨?_, ?_⟩ <;> omega) | (unfold rg; omega)) (hb : rg b := by first | assumption | (refine ⟨?_, ?_⟩ <;> omega) | (unfold rg; omega)) : WW p l e R s m args below meth c Q G n0 nL N f cells slots pc L (.int (jI b) :: .int (jI a) :: st) := fun H locs ls h1 h2 h3 => lv_icmp_lt X.1 X.2.1 hd ht (fun h => kt ((jI_lt ha hb).mp h) H locs ls h1 h2 h3) (fun h => kf (fun q => h ((jI_lt ha hb).mpr q)) H locs ls h1 h2 h3)
theorem w_if_lt (X : Cx G n0 p s m args meth c cc own nL) {a : Int} {off : Int} (tgt : Nat) (hd : decode cc pc = .ok (.ifCond .lt off, 3)) (ht : (pc : Int) + off = (tgt : Int)) (kt : a < 0 → WW p l e R s m args below meth c Q G n0 nL N f cells slots tgt L st) (kf : ¬ (a < 0) → WW p l e R s m args below meth c Q G n0 nL N f cells slots (pc + 3) L st) (ha : rg a := by first | assumption | (refine ⟨?_, ?_⟩ <;> omega) | (unfold rg; omega)) : WW p l e R s m args below meth c Q G n0 nL N f cells slots pc L (.int (jI a) :: st) := fun H locs ls h1 h2 h3 => lv_if_lt X.1 X.2.1 hd ht (fun h => kt ((jI_lt ha rg0).mp h) H locs ls h1 h2 h3) (fun h => kf (fun q => h ((jI_lt ha rg0).mpr q)) H locs ls h1 h2 h3)
theorem w_icmp_ge (X : Cx G n0 p s m args meth c cc own nL) {a b : Int} {off : Int} (tgt : Nat) (hd : decode cc pc = .ok (.if_icmp .ge off, 3)) (ht : (pc : Int) + off = (tgt : Int)) (kt : b ≤ a → WW p l e R s m args below meth c Q G n0 nL N f cells slots tgt L st) (kf : ¬ (b ≤ a) → WW p l e R s m args below meth c Q G n0 nL N f cells slots (pc + 3) L st) (ha : rg a := by first | assumption | (refine ⟨?_, ?_⟩ <;> omega) | (unfold rg; omega)) (hb : rg b := by first | assumption | (refine ⟨?_, ?_⟩ <;> omega) | (unfold rg; omega)) : WW p l e R s m args below meth c Q G n0 nL N f cells slots pc L (.int (jI b) :: .int (jI a) :: st) := fun H locs ls h1 h2 h3 => lv_icmp_ge X.1 X.2.1 hd ht (fun h => kt ((jI_le hb ha).mp h) H locs ls h1 h2 h3) (fun h => kf (fun q => h ((jI_le hb ha).mpr q)) H locs ls h1 h2 h3)
theorem w_if_ge (X : Cx G n0 p s m args meth c cc own nL) {a : Int} {off : Int} (tgt : Nat) (hd : decode cc pc = .ok (.ifCond .ge off, 3)) (ht : (pc : Int) + off = (tgt : Int)) (kt : 0 ≤ a → WW p l e R s m args below meth c Q G n0 nL N f cells slots tgt L st) (kf : ¬ (0 ≤ a) → WW p l e R s m args below meth c Q G n0 nL N f cells slots (pc + 3) L st) (ha : rg a := by first | assumption | (refine ⟨?_, ?_⟩ <;> omega) | (unfold rg; omega)) : WW p l e R s m args below meth c Q G n0 nL N f cells slots pc L (.int (jI a) :: st) := fun H locs ls h1 h2 h3 => lv_if_ge X.1 X.2.1 hd ht (fun h => kt ((jI_le rg0 ha).mp h) H locs ls h1 h2 h3) (fun h => kf (fun q => h ((jI_le rg0 ha).mpr q)) H locs ls h1 h2 h3)
theorem w_icmp_gt (X : Cx G n0 p s m args meth c cc own nL) {a b : Int} {off : Int} (tgt : Nat) (hd : decode cc pc = .ok (.if_icmp .gt off, 3)) (ht : (pc : Int) + off = (tgt : Int)) (kt : b < a → WW p l e R s m args below meth c Q G n0 nL N f cells slots tgt L st) (kf : ¬ (b < a) → WW p l e R s m args below meth c Q G n0 nL N f cells slots (pc + 3) L st) (ha : rg a := by first | assumption | (refine ⟨?_, ?_⟩ <;> omega) | (unfold rg; omega)) (hb : rg b := by first | assumption | (refine ⟨?_, ?_⟩ <;> omega) | (unfold rg; omega)) : WW p l e R s m args below meth c Q G n0 nL N f cells slots pc L (.int (jI b) :: .int (jI a) :: st) := fun H locs ls h1 h2 h3 => lv_icmp_gt X.1 X.2.1 hd ht (fun h => kt ((jI_lt hb ha).mp h) H locs ls h1 h2 h3) (fun h => kf (fun q => h ((jI_lt hb ha).mpr q)) H locs ls h1 h2 h3)
theorem w_if_gt (X : Cx G n0 p s m args meth c cc own nL) {a : Int} {off : Int} (tgt : Nat) (hd : decode cc pc = .ok (.ifCond .gt off, 3)) (ht : (pc : Int) + off = (tgt : Int)) (kt : 0 < a → WW p l e R s m args below meth c Q G n0 nL N f cells slots tgt L st) (kf : ¬ (0 < a) → WW p l e R s m args below meth c Q G n0 nL N f cells slots (pc + 3) L st) (ha : rg a := by first | assumption | (refine ⟨?_, ?_⟩ <;> omega) | (unfold rg; omega)) : WW p l e R s m args below meth c Q G n0 nL N f cells slots pc L (.int (jI a) :: st) := fun H locs ls h1 h2 h3 => lv_if_gt X.1 X.2.1 hd ht (fun h => kt ((jI_lt rg0 ha).mp h) H locs ls h1 h2 h3) (fun h => kf (fun q => h ((jI_lt rg0 ha).mpr q)) H locs ls h1 h2 h3)
theorem w_icmp_le (X : Cx G n0 p s m args meth c cc own nL) {a b : Int} {off : Int} (tgt : Nat) (hd : decode cc pc = .ok (.if_icmp .le off, 3)) (ht : (pc : Int) + off = (tgt : Int)) (kt : a ≤ b → WW p l e R s m args below meth c Q G n0 nL N f cells slots tgt L st) (kf : ¬ (a ≤ b) → WW p l e R s m args below meth c Q G n0 nL N f cells slots (pc + 3) L st) (ha : rg a := by first | assumption | (refine ⟨?_, ?_⟩ <;> omega) | (unfold rg; omega)) (hb : rg b := by first | assumption | (refine ⟨?_, ?_⟩ <;> omega) | (unfold rg; omega)) : WW p l e R s m args below meth c Q G n0 nL N f cells slots pc L (.int (jI b) :: .int (jI a) :: st) := fun H locs ls h1 h2 h3 => lv_icmp_le X.1 X.2.1 hd ht (fun h => kt ((jI_le ha hb).mp h) H locs ls h1 h2 h3) (fun h => kf (fun q => h ((jI_le ha hb).mpr q)) H locs ls h1 h2 h3)
theorem w_if_le (X : Cx G n0 p s m args meth c cc own nL) {a : Int} {off : Int} (tgt : Nat) (hd : decode cc pc = .ok (.ifCond .le off, 3)) (ht : (pc : Int) + off = (tgt : Int)) (kt : a ≤ 0 → WW p l e R s m args below meth c Q G n0 nL N f cells slots tgt L st) (kf : ¬ (a ≤ 0) → WW p l e R s m args below meth c Q G n0 nL N f cells slots (pc + 3) L st) (ha : rg a := by first | assumption | (refine ⟨?_, ?_⟩ <;> omega) | (unfold rg; omega)) : WW p l e R s m args below meth c Q G n0 nL N f cells slots pc L (.int (jI a) :: st) := fun H locs ls h1 h2 h3 => lv_if_le X.1 X.2.1 hd ht (fun h => kt ((jI_le ha rg0).mp h) H locs ls h1 h2 h3) (fun h => kf (fun q => h ((jI_le ha rg0).mpr q)) H locs ls h1 h2 h3)
theorem w_ist1_0 (X : Cx G n0 p s m args meth c cc own 1) {x : Int32} {a0 : Option Value} (hd : decode cc pc = .ok (.istore_n 0, 1)) (kk : WW p l e R s m args below meth c Q G n0 1 N f cells slots (pc + 1) [some (.int x)] st) : WW p l e R s m args below meth c Q G n0 1 N f cells slots pc [a0] (.int x :: st) := w_istore_n X hd (by decide) kk
theorem w_ast1_0 (X : Cx G n0 p s m args meth c cc own 1) {x : Nat} {a0 : Option Value} (hd : decode cc pc = .ok (.astore_n 0, 1)) (kk : WW p l e R s m args below meth c Q G n0 1 N f cells slots (pc + 1) [some (.ref x)] st) : WW p l e R s m args below meth c Q G n0 1 N f cells slots pc [a0] (.ref x :: st) := w_astore_n X hd (by decide) kk
theorem w_iinc1_0 (X : Cx G n0 p s m args meth c cc own 1) {z n : Int}  (hd : decode cc pc = .ok (.iinc 0 n, 3)) (kk : WW p l e R s m args below meth c Q G n0 1 N f cells slots (pc + 3) [some (.int (jI (z + n)))] st) : WW p l e R s m args below meth c Q G n0 1 N f cells slots pc [some (.int (jI z))] st := w_iinc X hd rfl kk
theorem w_ist2_0 (X : Cx G n0 p s m args meth c cc own 2) {x : Int32} {a0 a1 : Option Value} (hd : decode cc pc = .ok (.istore_n 0, 1)) (kk : WW p l e R s m args below meth c Q G n0 2 N f cells slots (pc + 1) [some (.int x), a1] st) : WW p l e R s m args below meth c Q G n0 2 N f cells slots pc [a0, a1] (.int x :: st) := w_istore_n X hd (by decide) kk
theorem w_ast2_0 (X : Cx G n0 p s m args meth c cc own 2) {x : Nat} {a0 a1 : Option Value} (hd : decode cc pc = .ok (.astore_n 0, 1)) (kk : WW p l e R s m args below meth c Q G n0 2 N f cells slots (pc + 1) [some (.ref x), a1] st) : WW p l e R s m args below meth c Q G n0 2 N f cells slots pc [a0, a1] (.ref x :: st) := w_astore_n X hd (by decide) kk
theorem w_iinc2_0 (X : Cx G n0 p s m args meth c cc own 2) {z n : Int} {a1 : Option Value} (hd : decode cc pc = .ok (.iinc 0 n, 3)) (kk : WW p l e R s m args below meth c Q G n0 2 N f cells slots (pc + 3) [some (.int (jI (z + n))), a1] st) : WW p l e R s m args below meth c Q G n0 2 N f cells slots pc [some (.int (jI z)), a1] st := w_iinc X hd rfl kk
theorem w_ist2_1 (X : Cx G n0 p s m args meth c cc own 2) {x : Int32} {a0 a1 : Option Value} (hd : decode cc pc = .ok (.istore_n 1, 1)) (kk : WW p l e R s m args below meth c Q G n0 2 N f cells slots (pc + 1) [a0, some (.int x)] st) : WW p l e R s m args below meth c Q G n0 2 N f cells slots pc [a0, a1] (.int x :: st) := w_istore_n X hd (by decide) kk
theorem w_ast2_1 (X : Cx G n0 p s m args meth c cc own 2) {x : Nat} {a0 a1 : Option Value} (hd : decode cc pc = .ok (.astore_n 1, 1)) (kk : WW p l e R s m args below meth c Q G n0 2 N f cells slots (pc + 1) [a0, some (.ref x)] st) : WW p l e R s m args below meth c Q G n0 2 N f cells slots pc [a0, a1] (.ref x :: st) := w_astore_n X hd (by decide) kk
theorem w_iinc2_1 (X : Cx G n0 p s m args meth c cc own 2) {z n : Int} {a0 : Option Value} (hd : decode cc pc = .ok (.iinc 1 n, 3)) (kk : WW p l e R s m args below meth c Q G n0 2 N f cells slots (pc + 3) [a0, some (.int (jI (z + n)))] st) : WW p l e R s m args below meth c Q G n0 2 N f cells slots pc [a0, some (.int (jI z))] st := w_iinc X hd rfl kk
theorem w_ist3_0 (X : Cx G n0 p s m args meth c cc own 3) {x : Int32} {a0 a1 a2 : Option Value} (hd : decode cc pc = .ok (.istore_n 0, 1)) (kk : WW p l e R s m args below meth c Q G n0 3 N f cells slots (pc + 1) [some (.int x), a1, a2] st) : WW p l e R s m args below meth c Q G n0 3 N f cells slots pc [a0, a1, a2] (.int x :: st) := w_istore_n X hd (by decide) kk
theorem w_ast3_0 (X : Cx G n0 p s m args meth c cc own 3) {x : Nat} {a0 a1 a2 : Option Value} (hd : decode cc pc = .ok (.astore_n 0, 1)) (kk : WW p l e R s m args below meth c Q G n0 3 N f cells slots (pc + 1) [some (.ref x), a1, a2] st) : WW p l e R s m args below meth c Q G n0 3 N f cells slots pc [a0, a1, a2] (.ref x :: st) := w_astore_n X hd (by decide) kk
theorem w_iinc3_0 (X : Cx G n0 p s m args meth c cc own 3) {z n : Int} {a1 a2 : Option Value} (hd : decode cc pc = .ok (.iinc 0 n, 3)) (kk : WW p l e R s m args below meth c Q G n0 3 N f cells slots (pc + 3) [some (.int (jI (z + n))), a1, a2] st) : WW p l e R s m args below meth c Q G n0 3 N f cells slots pc [some (.int (jI z)), a1, a2] st := w_iinc X hd rfl kk
theorem w_ist3_1 (X : Cx G n0 p s m args meth c cc own 3) {x : Int32} {a0 a1 a2 : Option Value} (hd : decode cc pc = .ok (.istore_n 1, 1)) (kk : WW p l e R s m args below meth c Q G n0 3 N f cells slots (pc + 1) [a0, some (.int x), a2] st) : WW p l e R s m args below meth c Q G n0 3 N f cells slots pc [a0, a1, a2] (.int x :: st) := w_istore_n X hd (by decide) kk
theorem w_ast3_1 (X : Cx G n0 p s m args meth c cc own 3) {x : Nat} {a0 a1 a2 : Option Value} (hd : decode cc pc = .ok (.astore_n 1, 1)) (kk : WW p l e R s m args below meth c Q G n0 3 N f cells slots (pc + 1) [a0, some (.ref x), a2] st) : WW p l e R s m args below meth c Q G n0 3 N f cells slots pc [a0, a1, a2] (.ref x :: st) := w_astore_n X hd (by decide) kk
theorem w_iinc3_1 (X : Cx G n0 p s m args meth c cc own 3) {z n : Int} {a0 a2 : Option Value} (hd : decode cc pc = .ok (.iinc 1 n, 3)) (kk : WW p l e R s m args below meth c Q G n0 3 N f cells slots (pc + 3) [a0, some (.int (jI (z + n))), a2] st) : WW p l e R s m args below meth c Q G n0 3 N f cells slots pc [a0, some (.int (jI z)), a2] st := w_iinc X hd rfl kk
theorem w_ist3_2 (X : Cx G n0 p s m args meth c cc own 3) {x : Int32} {a0 a1 a2 : Option Value} (hd : decode cc pc = .ok (.istore_n 2, 1)) (kk : WW p l e R s m args below meth c Q G n0 3 N f cells slots (pc + 1) [a0, a1, some (.int x)] st) : WW p l e R s m args below meth c Q G n0 3 N f cells slots pc [a0, a1, a2] (.int x :: st) := w_istore_n X hd (by decide) kk
theorem w_ast3_2 (X : Cx G n0 p s m args meth c cc own 3) {x : Nat} {a0 a1 a2 : Option Value} (hd : decode cc pc = .ok (.astore_n 2, 1)) (kk : WW p l e R s m args below meth c Q G n0 3 N f cells slots (pc + 1) [a0, a1, some (.ref x)] st) : WW p l e R s m args below meth c Q G n0 3 N f cells slots pc [a0, a1, a2] (.ref x :: st) := w_astore_n X hd (by decide) kk
theorem w_iinc3_2 (X : Cx G n0 p s m args meth c cc own 3) {z n : Int} {a0 a1 : Option Value} (hd : decode cc pc = .ok (.iinc 2 n, 3)) (kk : WW p l e R s m args below meth c Q G n0 3 N f cells slots (pc + 3) [a0, a1, some (.int (jI (z + n)))] st) : WW p l e R s m args below meth c Q G n0 3 N f cells slots pc [a0, a1, some (.int (jI z))] st := w_iinc X hd rfl kk
theorem w_ist4_0 (X : Cx G n0 p s m args meth c cc own 4) {x : Int32} {a0 a1 a2 a3 : Option Value} (hd : decode cc pc = .ok (.istore_n 0, 1)) (kk : WW p l e R s m args below meth c Q G n0 4 N f cells slots (pc + 1) [some (.int x), a1, a2, a3] st) : WW p l e R s m args below meth c Q G n0 4 N f cells slots pc [a0, a1, a2, a3] (.int x :: st) := w_istore_n X hd (by decide) kk
theorem w_ast4_0 (X : Cx G n0 p s m args meth c cc own 4) {x : Nat} {a0 a1 a2 a3 : Option Value} (hd : decode cc pc = .ok (.astore_n 0, 1)) (kk : WW p l e R s m args below meth c Q G n0 4 N f cells slots (pc + 1) [some (.ref x), a1, a2, a3] st) : WW p l e R s m args below meth c Q G n0 4 N f cells slots pc [a0, a1, a2, a3] (.ref x :: st) := w_astore_n X hd (by decide) kk
theorem w_iinc4_0 (X : Cx G n0 p s m args meth c cc own 4) {z n : Int} {a1 a2 a3 : Option Value} (hd : decode cc pc = .ok (.iinc 0 n, 3)) (kk : WW p l e R s m args below meth c Q G n0 4 N f cells slots (pc + 3) [some (.int (jI (z + n))), a1, a2, a3] st) : WW p l e R s m args below meth c Q G n0 4 N f cells slots pc [some (.int (jI z)), a1, a2, a3] st := w_iinc X hd rfl kk
theorem w_ist4_1 (X : Cx G n0 p s m args meth c cc own 4) {x : Int32} {a0 a1 a2 a3 : Option Value} (hd : decode cc pc = .ok (.istore_n 1, 1)) (kk : WW p l e R s m args below meth c Q G n0 4 N f cells slots (pc + 1) [a0, some (.int x), a2, a3] st) : WW p l e R s m args below meth c Q G n0 4 N f cells slots pc [a0, a1, a2, a3] (.int x :: st) := w_istore_n X hd (by decide) kk
theorem w_ast4_1 (X : Cx G n0 p s m args meth c cc own 4) {x : Nat} {a0 a1 a2 a3 : Option Value} (hd : decode cc pc = .ok (.astore_n 1, 1)) (kk : WW p l e R s m args below meth c Q G n0 4 N f cells slots (pc + 1) [a0, some (.ref x), a2, a3] st) : WW p l e R s m args below meth c Q G n0 4 N f cells slots pc [a0, a1, a2, a3] (.ref x :: st) := w_astore_n X hd (by decide) kk
theorem w_iinc4_1 (X : Cx G n0 p s m args meth c cc own 4) {z n : Int} {a0 a2 a3 : Option Value} (hd : decode cc pc = .ok (.iinc 1 n, 3)) (kk : WW p l e R s m args below meth c Q G n0 4 N f cells slots (pc + 3) [a0, some (.int (jI (z + n))), a2, a3] st) : WW p l e R s m args below meth c Q G n0 4 N f cells slots pc [a0, some (.int (jI z)), a2, a3] st := w_iinc X hd rfl kk
theorem w_ist4_2 (X : Cx G n0 p s m args meth c cc own 4) {x : Int32} {a0 a1 a2 a3 : Option Value} (hd : decode cc pc = .ok (.istore_n 2, 1)) (kk : WW p l e R s m args below meth c Q G n0 4 N f cells slots (pc + 1) [a0, a1, some (.int x), a3] st) : WW p l e R s m args below meth c Q G n0 4 N f cells slots pc [a0, a1, a2, a3] (.int x :: st) := w_istore_n X hd (by decide) kk
theorem w_ast4_2 (X : Cx G n0 p s m args meth c cc own 4) {x : Nat} {a0 a1 a2 a3 : Option Value} (hd : decode cc pc = .ok (.astore_n 2, 1)) (kk : WW p l e R s m args below meth c Q G n0 4 N f cells slots (pc + 1) [a0, a1, some (.ref x), a3] st) : WW p l e R s m args below meth c Q G n0 4 N f cells slots pc [a0, a1, a2, a3] (.ref x :: st) := w_astore_n X hd (by decide) kk
theorem w_iinc4_2 (X : Cx G n0 p s m args meth c cc own 4) {z n : Int} {a0 a1 a3 : Option Value} (hd : decode cc pc = .ok (.iinc 2 n, 3)) (kk : WW p l e R s m args below meth c Q G n0 4 N f cells slots (pc + 3) [a0, a1, some (.int (jI (z + n))), a3] st) : WW p l e R s m args below meth c Q G n0 4 N f cells slots pc [a0, a1, some (.int (jI z)), a3] st := w_iinc X hd rfl kk
theorem w_ist4_3 (X : Cx G n0 p s m args meth c cc own 4) {x : Int32} {a0 a1 a2 a3 : Option Value} (hd : decode cc pc = .ok (.istore_n 3, 1)) (kk : WW p l e R s m args below meth c Q G n0 4 N f cells slots (pc + 1) [a0, a1, a2, some (.int x)] st) : WW p l e R s m args below meth c Q G n0 4 N f cells slots pc [a0, a1, a2, a3] (.int x :: st) := w_istore_n X hd (by decide) kk
theorem w_ast4_3 (X : Cx G n0 p s m args meth c cc own 4) {x : Nat} {a0 a1 a2 a3 : Option Value} (hd : decode cc pc = .ok (.astore_n 3, 1)) (kk : WW p l e R s m args below meth c Q G n0 4 N f cells slots (pc + 1) [a0, a1, a2, some (.ref x)] st) : WW p l e R s m args below meth c Q G n0 4 N f cells slots pc [a0, a1, a2, a3] (.ref x :: st) := w_astore_n X hd (by decide) kk
theorem w_iinc4_3 (X : Cx G n0 p s m args meth c cc own 4) {z n : Int} {a0 a1 a2 : Option Value} (hd : decode cc pc = .ok (.iinc 3 n, 3)) (kk : WW p l e R s m args below meth c Q G n0 4 N f cells slots (pc + 3) [a0, a1, a2, some (.int (jI (z + n)))] st) : WW p l e R s m args below meth c Q G n0 4 N f cells slots pc [a0, a1, a2, some (.int (jI z))] st := w_iinc X hd rfl kk
theorem w_ist5_0 (X : Cx G n0 p s m args meth c cc own 5) {x : Int32} {a0 a1 a2 a3 a4 : Option Value} (hd : decode cc pc = .ok (.istore_n 0, 1)) (kk : WW p l e R s m args below meth c Q G n0 5 N f cells slots (pc + 1) [some (.int x), a1, a2, a3, a4] st) : WW p l e R s m args below meth c Q G n0 5 N f cells slots pc [a0, a1, a2, a3, a4] (.int x :: st) := w_istore_n X hd (by decide) kk
theorem w_ast5_0 (X : Cx G n0 p s m args meth c cc own 5) {x : Nat} {a0 a1 a2 a3 a4 : Option Value} (hd : decode cc pc = .ok (.astore_n 0, 1)) (kk : WW p l e R s m args below meth c Q G n0 5 N f cells slots (pc + 1) [some (.ref x), a1, a2, a3, a4] st) : WW p l e R s m args below meth c Q G n0 5 N f cells slots pc [a0, a1, a2, a3, a4] (.ref x :: st) := w_astore_n X hd (by decide) kk
theorem w_iinc5_0 (X : Cx G n0 p s m args meth c cc own 5) {z n : Int} {a1 a2 a3 a4 : Option Value} (hd : decode cc pc = .ok (.iinc 0 n, 3)) (kk : WW p l e R s m args below meth c Q G n0 5 N f cells slots (pc + 3) [some (.int (jI (z + n))), a1, a2, a3, a4] st) : WW p l e R s m args below meth c Q G n0 5 N f cells slots pc [some (.int (jI z)), a1, a2, a3, a4] st := w_iinc X hd rfl kk
theorem w_ist5_1 (X : Cx G n0 p s m args meth c cc own 5) {x : Int32} {a0 a1 a2 a3 a4 : Option Value} (hd : decode cc pc = .ok (.istore_n 1, 1)) (kk : WW p l e R s m args below meth c Q G n0 5 N f cells slots (pc + 1) [a0, some (.int x), a2, a3, a4] st) : WW p l e R s m args below meth c Q G n0 5 N f cells slots pc [a0, a1, a2, a3, a4] (.int x :: st) := w_istore_n X hd (by decide) kk
theorem w_ast5_1 (X : Cx G n0 p s m args meth c cc own 5) {x : Nat} {a0 a1 a2 a3 a4 : Option Value} (hd : decode cc pc = .ok (.astore_n 1, 1)) (kk : WW p l e R s m args below meth c Q G n0 5 N f cells slots (pc + 1) [a0, some (.ref x), a2, a3, a4] st) : WW p l e R s m args below meth c Q G n0 5 N f cells slots pc [a0, a1, a2, a3, a4] (.ref x :: st) := w_astore_n X hd (by decide) kk
theorem w_iinc5_1 (X : Cx G n0 p s m args meth c cc own 5) {z n : Int} {a0 a2 a3 a4 : Option Value} (hd : decode cc pc = .ok (.iinc 1 n, 3)) (kk : WW p l e R s m args below meth c Q G n0 5 N f cells slots (pc + 3) [a0, some (.int (jI (z + n))), a2, a3, a4] st) : WW p l e R s m args below meth c Q G n0 5 N f cells slots pc [a0, some (.int (jI z)), a2, a3, a4] st := w_iinc X hd rfl kk
theorem w_ist5_2 (X : Cx G n0 p s m args meth c cc own 5) {x : Int32} {a0 a1 a2 a3 a4 : Option Value} (hd : decode cc pc = .ok (.istore_n 2, 1)) (kk : WW p l e R s m args below meth c Q G n0 5 N f cells slots (pc + 1) [a0, a1, some (.int x), a3, a4] st) : WW p l e R s m args below meth c Q G n0 5 N f cells slots pc [a0, a1, a2, a3, a4] (.int x :: st) := w_istore_n X hd (by decide) kk
theorem w_ast5_2 (X : Cx G n0 p s m args meth c cc own 5) {x : Nat} {a0 a1 a2 a3 a4 : Option Value} (hd : decode cc pc = .ok (.astore_n 2, 1)) (kk : WW p l e R s m args below meth c Q G n0 5 N f cells slots (pc + 1) [a0, a1, some (.ref x), a3, a4] st) : WW p l e R s m args below meth c Q G n0 5 N f cells slots pc [a0, a1, a2, a3, a4] (.ref x :: st) := w_astore_n X hd (by decide) kk
theorem w_iinc5_2 (X : Cx G n0 p s m args meth c cc own 5) {z n : Int} {a0 a1 a3 a4 : Option Value} (hd : decode cc pc = .ok (.iinc 2 n, 3)) (kk : WW p l e R s m args below meth c Q G n0 5 N f cells slots (pc + 3) [a0, a1, some (.int (jI (z + n))), a3, a4] st) : WW p l e R s m args below meth c Q G n0 5 N f cells slots pc [a0, a1, some (.int (jI z)), a3, a4] st := w_iinc X hd rfl kk
theorem w_ist5_3 (X : Cx G n0 p s m args meth c cc own 5) {x : Int32} {a0 a1 a2 a3 a4 : Option Value} (hd : decode cc pc = .ok (.istore_n 3, 1)) (kk : WW p l e R s m args below meth c Q G n0 5 N f cells slots (pc + 1) [a0, a1, a2, some (.int x), a4] st) : WW p l e R s m args below meth c Q G n0 5 N f cells slots pc [a0, a1, a2, a3, a4] (.int x :: st) := w_istore_n X hd (by decide) kk
theorem w_ast5_3 (X : Cx G n0 p s m args meth c cc own 5) {x : Nat} {a0 a1 a2 a3 a4 : Option Value} (hd : decode cc pc = .ok (.astore_n 3, 1)) (kk : WW p l e R s m args below meth c Q G n0 5 N f cells slots (pc + 1) [a0, a1, a2, some (.ref x), a4] st) : WW p l e R s m args below meth c Q G n0 5 N f cells slots pc [a0, a1, a2, a3, a4] (.ref x :: st) := w_astore_n X hd (by decide) kk
theorem w_iinc5_3 (X : Cx G n0 p s m args meth c cc own 5) {z n : Int} {a0 a1 a2 a4 : Option Value} (hd : decode cc pc = .ok (.iinc 3 n, 3)) (kk : WW p l e R s m args below meth c Q G n0 5 N f cells slots (pc + 3) [a0, a1, a2, some (.int (jI (z + n))), a4] st) : WW p l e R s m args below meth c Q G n0 5 N f cells slots pc [a0, a1, a2, some (.int (jI z)), a4] st := w_iinc X hd rfl kk
theorem w_ist5_4 (X : Cx G n0 p s m args meth c cc own 5) {x : Int32} {a0 a1 a2 a3 a4 : Option Value} (hd : decode cc pc = .ok (.istore 4, 2)) (kk : WW p l e R s m args below meth c Q G n0 5 N f cells slots (pc + 2) [a0, a1, a2, a3, some (.int x)] st) : WW p l e R s m args below meth c Q G n0 5 N f cells slots pc [a0, a1, a2, a3, a4] (.int x :: st) := w_istore X hd (by decide) kk
theorem w_ast5_4 (X : Cx G n0 p s m args meth c cc own 5) {x : Nat} {a0 a1 a2 a3 a4 : Option Value} (hd : decode cc pc = .ok (.astore 4, 2)) (kk : WW p l e R s m args below meth c Q G n0 5 N f cells slots (pc + 2) [a0, a1, a2, a3, some (.ref x)] st) : WW p l e R s m args below meth c Q G n0 5 N f cells slots pc [a0, a1, a2, a3, a4] (.ref x :: st) := w_astore X hd (by decide) kk
theorem w_iinc5_4 (X : Cx G n0 p s m args meth c cc own 5) {z n : Int} {a0 a1 a2 a3 : Option Value} (hd : decode cc pc = .ok (.iinc 4 n, 3)) (kk : WW p l e R s m args below meth c Q G n0 5 N f cells slots (pc + 3) [a0, a1, a2, a3, some (.int (jI (z + n)))] st) : WW p l e R s m args below meth c Q G n0 5 N f cells slots pc [a0, a1, a2, a3, some (.int (jI z))] st := w_iinc X hd rfl kk
theorem w_ist6_0 (X : Cx G n0 p s m args meth c cc own 6) {x : Int32} {a0 a1 a2 a3 a4 a5 : Option Value} (hd : decode cc pc = .ok (.istore_n 0, 1)) (kk : WW p l e R s m args below meth c Q G n0 6 N f cells slots (pc + 1) [some (.int x), a1, a2, a3, a4, a5] st) : WW p l e R s m args below meth c Q G n0 6 N f cells slots pc [a0, a1, a2, a3, a4, a5] (.int x :: st) := w_istore_n X hd (by decide) kk
theorem w_ast6_0 (X : Cx G n0 p s m args meth c cc own 6) {x : Nat} {a0 a1 a2 a3 a4 a5 : Option Value} (hd : decode cc pc = .ok (.astore_n 0, 1)) (kk : WW p l e R s m args below meth c Q G n0 6 N f cells slots (pc + 1) [some (.ref x), a1, a2, a3, a4, a5] st) : WW p l e R s m args below meth c Q G n0 6 N f cells slots pc [a0, a1, a2, a3, a4, a5] (.ref x :: st) := w_astore_n X hd (by decide) kk
theorem w_iinc6_0 (X : Cx G n0 p s m args meth c cc own 6) {z n : Int} {a1 a2 a3 a4 a5 : Option Value} (hd : decode cc pc = .ok (.iinc 0 n, 3)) (kk : WW p l e R s m args below meth c Q G n0 6 N f cells slots (pc + 3) [some (.int (jI (z + n))), a1, a2, a3, a4, a5] st) : WW p l e R s m args below meth c Q G n0 6 N f cells slots pc [some (.int (jI z)), a1, a2, a3, a4, a5] st := w_iinc X hd rfl kk
theorem w_ist6_1 (X : Cx G n0 p s m args meth c cc own 6) {x : Int32} {a0 a1 a2 a3 a4 a5 : Option Value} (hd : decode cc pc = .ok (.istore_n 1, 1)) (kk : WW p l e R s m args below meth c Q G n0 6 N f cells slots (pc + 1) [a0, some (.int x), a2, a3, a4, a5] st) : WW p l e R s m args below meth c Q G n0 6 N f cells slots pc [a0, a1, a2, a3, a4, a5] (.int x :: st) := w_istore_n X hd (by decide) kk
theorem w_ast6_1 (X : Cx G n0 p s m args meth c cc own 6) {x : Nat} {a0 a1 a2 a3 a4 a5 : Option Value} (hd : decode cc pc = .ok (.astore_n 1, 1)) (kk : WW p l e R s m args below meth c Q G n0 6 N f cells slots (pc + 1) [a0, some (.ref x), a2, a3, a4, a5] st) : WW p l e R s m args below meth c Q G n0 6 N f cells slots pc [a0, a1, a2, a3, a4, a5] (.ref x :: st) := w_astore_n X hd (by decide) kk
theorem w_iinc6_1 (X : Cx G n0 p s m args meth c cc own 6) {z n : Int} {a0 a2 a3 a4 a5 : Option Value} (hd : decode cc pc = .ok (.iinc 1 n, 3)) (kk : WW p l e R s m args below meth c Q G n0 6 N f cells slots (pc + 3) [a0, some (.int (jI (z + n))), a2, a3, a4, a5] st) : WW p l e R s m args below meth c Q G n0 6 N f cells slots pc [a0, some (.int (jI z)), a2, a3, a4, a5] st := w_iinc X hd rfl kk
theorem w_ist6_2 (X : Cx G n0 p s m args meth c cc own 6) {x : Int32} {a0 a1 a2 a3 a4 a5 : Option Value} (hd : decode cc pc = .ok (.istore_n 2, 1)) (kk : WW p l e R s m args below meth c Q G n0 6 N f cells slots (pc + 1) [a0, a1, some (.int x), a3, a4, a5] st) : WW p l e R s m args below meth c Q G n0 6 N f cells slots pc [a0, a1, a2, a3, a4, a5] (.int x :: st) := w_istore_n X hd (by decide) kk
theorem w_ast6_2 (X : Cx G n0 p s m args meth c cc own 6) {x : Nat} {a0 a1 a2 a3 a4 a5 : Option Value} (hd : decode cc pc = .ok (.astore_n 2, 1)) (kk : WW p l e R s m args below meth c Q G n0 6 N f cells slots (pc + 1) [a0, a1, some (.ref x), a3, a4, a5] st) : WW p l e R s m args below meth c Q G n0 6 N f cells slots pc [a0, a1, a2, a3, a4, a5] (.ref x :: st) := w_astore_n X hd (by decide) kk
theorem w_iinc6_2 (X : Cx G n0 p s m args meth c cc own 6) {z n : Int} {a0 a1 a3 a4 a5 : Option Value} (hd : decode cc pc = .ok (.iinc 2 n, 3)) (kk : WW p l e R s m args below meth c Q G n0 6 N f cells slots (pc + 3) [a0, a1, some (.int (jI (z + n))), a3, a4, a5] st) : WW p l e R s m args below meth c Q G n0 6 N f cells slots pc [a0, a1, some (.int (jI z)), a3, a4, a5] st := w_iinc X hd rfl kk
theorem w_ist6_3 (X : Cx G n0 p s m args meth c cc own 6) {x : Int32} {a0 a1 a2 a3 a4 a5 : Option Value} (hd : decode cc pc = .ok (.istore_n 3, 1)) (kk : WW p l e R s m args below meth c Q G n0 6 N f cells slots (pc + 1) [a0, a1, a2, some (.int x), a4, a5] st) : WW p l e R s m args below meth c Q G n0 6 N f cells slots pc [a0, a1, a2, a3, a4, a5] (.int x :: st) := w_istore_n X hd (by decide) kk
theorem w_ast6_3 (X : Cx G n0 p s m args meth c cc own 6) {x : Nat} {a0 a1 a2 a3 a4 a5 : Option Value} (hd : decode cc pc = .ok (.astore_n 3, 1)) (kk : WW p l e R s m args below meth c Q G n0 6 N f cells slots (pc + 1) [a0, a1, a2, some (.ref x), a4, a5] st) : WW p l e R s m args below meth c Q G n0 6 N f cells slots pc [a0, a1, a2, a3, a4, a5] (.ref x :: st) := w_astore_n X hd (by decide) kk
theorem w_iinc6_3 (X : Cx G n0 p s m args meth c cc own 6) {z n : Int} {a0 a1 a2 a4 a5 : Option Value} (hd : decode cc pc = .ok (.iinc 3 n, 3)) (kk : WW p l e R s m args below meth c Q G n0 6 N f cells slots (pc + 3) [a0, a1, a2, some (.int (jI (z + n))), a4, a5] st) : WW p l e R s m args below meth c Q G n0 6 N f cells slots pc [a0, a1, a2, some (.int (jI z)), a4, a5] st := w_iinc X hd rfl kk
theorem w_ist6_4 (X : Cx G n0 p s m args meth c cc own 6) {x : Int32} {a0 a1 a2 a3 a4 a5 : Option Value} (hd : decode cc pc = .ok (.istore 4, 2)) (kk : WW p l e R s m args below meth c Q G n0 6 N f cells slots (pc + 2) [a0, a1, a2, a3, some (.int x), a5] st) : WW p l e R s m args below meth c Q G n0 6 N f cells slots pc [a0, a1, a2, a3, a4, a5] (.int x :: st) := w_istore X hd (by decide) kk
theorem w_ast6_4 (X : Cx G n0 p s m args meth c cc own 6) {x : Nat} {a0 a1 a2 a3 a4 a5 : Option Value} (hd : decode cc pc = .ok (.astore 4, 2)) (kk : WW p l e R s m args below meth c Q G n0 6 N f cells slots (pc + 2) [a0, a1, a2, a3, some (.ref x), a5] st) : WW p l e R s m args below meth c Q G n0 6 N f cells slots pc [a0, a1, a2, a3, a4, a5] (.ref x :: st) := w_astore X hd (by decide) kk
theorem w_iinc6_4 (X : Cx G n0 p s m args meth c cc own 6) {z n : Int} {a0 a1 a2 a3 a5 : Option Value} (hd : decode cc pc = .ok (.iinc 4 n, 3)) (kk : WW p l e R s m args below meth c Q G n0 6 N f cells slots (pc + 3) [a0, a1, a2, a3, some (.int (jI (z + n))), a5] st) : WW p l e R s m args below meth c Q G n0 6 N f cells slots pc [a0, a1, a2, a3, some (.int (jI z)), a5] st := w_iinc X hd rfl kk
theorem w_ist6_5 (X : Cx G n0 p s m args meth c cc own 6) {x : Int32} {a0 a1 a2 a3 a4 a5 : Option Value} (hd : decode cc pc = .ok (.istore 5, 2)) (kk : WW p l e R s m args below meth c Q G n0 6 N f cells slots (pc + 2) [a0, a1, a2, a3, a4, some (.int x)] st) : WW p l e R s m args below meth c Q G n0 6 N f cells slots pc [a0, a1, a2, a3, a4, a5] (.int x :: st) := w_istore X hd (by decide) kk
theorem w_ast6_5 (X : Cx G n0 p s m args meth c cc own 6) {x : Nat} {a0 a1 a2 a3 a4 a5 : Option Value} (hd : decode cc pc = .ok (.astore 5, 2)) (kk : WW p l e R s m args below meth c Q G n0 6 N f cells slots (pc + 2) [a0, a1, a2, a3, a4, some (.ref x)] st) : WW p l e R s m args below meth c Q G n0 6 N f cells slots pc [a0, a1, a2, a3, a4, a5] (.ref x :: st) := w_astore X hd (by decide) kk
theorem w_iinc6_5 (X : Cx G n0 p s m args meth c cc own 6) {z n : Int} {a0 a1 a2 a3 a4 : Option Value} (hd : decode cc pc = .ok (.iinc 5 n, 3)) (kk : WW p l e R s m args below meth c Q G n0 6 N f cells slots (pc + 3) [a0, a1, a2, a3, a4, some (.int (jI (z + n)))] st) : WW p l e R s m args below meth c Q G n0 6 N f cells slots pc [a0, a1, a2, a3, a4, some (.int (jI z))] st := w_iinc X hd rfl kk
theorem w_ist7_0 (X : Cx G n0 p s m args meth c cc own 7) {x : Int32} {a0 a1 a2 a3 a4 a5 a6 : Option Value} (hd : decode cc pc = .ok (.istore_n 0, 1)) (kk : WW p l e R s m args below meth c Q G n0 7 N f cells slots (pc + 1) [some (.int x), a1, a2, a3, a4, a5, a6] st) : WW p l e R s m args below meth c Q G n0 7 N f cells slots pc [a0, a1, a2, a3, a4, a5, a6] (.int x :: st) := w_istore_n X hd (by decide) kk
theorem w_ast7_0 (X : Cx G n0 p s m args meth c cc own 7) {x : Nat} {a0 a1 a2 a3 a4 a5 a6 : Option Value} (hd : decode cc pc = .ok (.astore_n 0, 1)) (kk : WW p l e R s m args below meth c Q G n0 7 N f cells slots (pc + 1) [some (.ref x), a1, a2, a3, a4, a5, a6] st) : WW p l e R s m args below meth c Q G n0 7 N f cells slots pc [a0, a1, a2, a3, a4, a5, a6] (.ref x :: st) := w_astore_n X hd (by decide) kk
theorem w_iinc7_0 (X : Cx G n0 p s m args meth c cc own 7) {z n : Int} {a1 a2 a3 a4 a5 a6 : Option Value} (hd : decode cc pc = .ok (.iinc 0 n, 3)) (kk : WW p l e R s m args below meth c Q G n0 7 N f cells slots (pc + 3) [some (.int (jI (z + n))), a1, a2, a3, a4, a5, a6] st) : WW p l e R s m args below meth c Q G n0 7 N f cells slots pc [some (.int (jI z)), a1, a2, a3, a4, a5, a6] st := w_iinc X hd rfl kk
theorem w_ist7_1 (X : Cx G n0 p s m args meth c cc own 7) {x : Int32} {a0 a1 a2 a3 a4 a5 a6 : Option Value} (hd : decode cc pc = .ok (.istore_n 1, 1)) (kk : WW p l e R s m args below meth c Q G n0 7 N f cells slots (pc + 1) [a0, some (.int x), a2, a3, a4, a5, a6] st) : WW p l e R s m args below meth c Q G n0 7 N f cells slots pc [a0, a1, a2, a3, a4, a5, a6] (.int x :: st) := w_istore_n X hd (by decide) kk
theorem w_ast7_1 (X : Cx G n0 p s m args meth c cc own 7) {x : Nat} {a0 a1 a2 a3 a4 a5 a6 : Option Value} (hd : decode cc pc = .ok (.astore_n 1, 1)) (kk : WW p l e R s m args below meth c Q G n0 7 N f cells slots (pc + 1) [a0, some (.ref x), a2, a3, a4, a5, a6] st) : WW p l e R s m args below meth c Q G n0 7 N f cells slots pc [a0, a1, a2, a3, a4, a5, a6] (.ref x :: st) := w_astore_n X hd (by decide) kk
theorem w_iinc7_1 (X : Cx G n0 p s m args meth c cc own 7) {z n : Int} {a0 a2 a3 a4 a5 a6 : Option Value} (hd : decode cc pc = .ok (.iinc 1 n, 3)) (kk : WW p l e R s m args below meth c Q G n0 7 N f cells slots (pc + 3) [a0, some (.int (jI (z + n))), a2, a3, a4, a5, a6] st) : WW p l e R s m args below meth c Q G n0 7 N f cells slots pc [a0, some (.int (jI z)), a2, a3, a4, a5, a6] st := w_iinc X hd rfl kk
theorem w_ist7_2 (X : Cx G n0 p s m args meth c cc own 7) {x : Int32} {a0 a1 a2 a3 a4 a5 a6 : Option Value} (hd : decode cc pc = .ok (.istore_n 2, 1)) (kk : WW p l e R s m args below meth c Q G n0 7 N f cells slots (pc + 1) [a0, a1, some (.int x), a3, a4, a5, a6] st) : WW p l e R s m args below meth c Q G n0 7 N f cells slots pc [a0, a1, a2, a3, a4, a5, a6] (.int x :: st) := w_istore_n X hd (by decide) kk
theorem w_ast7_2 (X : Cx G n0 p s m args meth c cc own 7) {x : Nat} {a0 a1 a2 a3 a4 a5 a6 : Option Value} (hd : decode cc pc = .ok (.astore_n 2, 1)) (kk : WW p l e R s m args below meth c Q G n0 7 N f cells slots (pc + 1) [a0, a1, some (.ref x), a3, a4, a5, a6] st) : WW p l e R s m args below meth c Q G n0 7 N f cells slots pc [a0, a1, a2, a3, a4, a5, a6] (.ref x :: st) := w_astore_n X hd (by decide) kk
theorem w_iinc7_2 (X : Cx G n0 p s m args meth c cc own 7) {z n : Int} {a0 a1 a3 a4 a5 a6 : Option Value} (hd : decode cc pc = .ok (.iinc 2 n, 3)) (kk : WW p l e R s m args below meth c Q G n0 7 N f cells slots (pc + 3) [a0, a1, some (.int (jI (z + n))), a3, a4, a5, a6] st) : WW p l e R s m args below meth c Q G n0 7 N f cells slots pc [a0, a1, some (.int (jI z)), a3, a4, a5, a6] st := w_iinc X hd rfl kk
theorem w_ist7_3 (X : Cx G n0 p s m args meth c cc own 7) {x : Int32} {a0 a1 a2 a3 a4 a5 a6 : Option Value} (hd : decode cc pc = .ok (.istore_n 3, 1)) (kk : WW p l e R s m args below meth c Q G n0 7 N f cells slots (pc + 1) [a0, a1, a2, some (.int x), a4, a5, a6] st) : WW p l e R s m args below meth c Q G n0 7 N f cells slots pc [a0, a1, a2, a3, a4, a5, a6] (.int x :: st) := w_istore_n X hd (by decide) kk
theorem w_ast7_3 (X : Cx G n0 p s m args meth c cc own 7) {x : Nat} {a0 a1 a2 a3 a4 a5 a6 : Option Value} (hd : decode cc pc = .ok (.astore_n 3, 1)) (kk : WW p l e R s m args below meth c Q G n0 7 N f cells slots (pc + 1) [a0, a1, a2, some (.ref x), a4, a5, a6] st) : WW p l e R s m args below meth c Q G n0 7 N f cells slots pc [a0, a1, a2, a3, a4, a5, a6] (.ref x :: st) := w_astore_n X hd (by decide) kk
theorem w_iinc7_3 (X : Cx G n0 p s m args meth c cc own 7) {z n : Int} {a0 a1 a2 a4 a5 a6 : Option Value} (hd : decode cc pc = .ok (.iinc 3 n, 3)) (kk : WW p l e R s m args below meth c Q G n0 7 N f cells slots (pc + 3) [a0, a1, a2, some (.int (jI (z + n))), a4, a5, a6] st) : WW p l e R s m args below meth c Q G n0 7 N f cells slots pc [a0, a1, a2, some (.int (jI z)), a4, a5, a6] st := w_iinc X hd rfl kk
theorem w_ist7_4 (X : Cx G n0 p s m args meth c cc own 7) {x : Int32} {a0 a1 a2 a3 a4 a5 a6 : Option Value} (hd : decode cc pc = .ok (.istore 4, 2)) (kk : WW p l e R s m args below meth c Q G n0 7 N f cells slots (pc + 2) [a0, a1, a2, a3, some (.int x), a5, a6] st) : WW p l e R s m args below meth c Q G n0 7 N f cells slots pc [a0, a1, a2, a3, a4, a5, a6] (.int x :: st) := w_istore X hd (by decide) kk
theorem w_ast7_4 (X : Cx G n0 p s m args meth c cc own 7) {x : Nat} {a0 a1 a2 a3 a4 a5 a6 : Option Value} (hd : decode cc pc = .ok (.astore 4, 2)) (kk : WW p l e R s m args below meth c Q G n0 7 N f cells slots (pc + 2) [a0, a1, a2, a3, some (.ref x), a5, a6] st) : WW p l e R s m args below meth c Q G n0 7 N f cells slots pc [a0, a1, a2, a3, a4, a5, a6] (.ref x :: st) := w_astore X hd (by decide) kk
theorem w_iinc7_4 (X : Cx G n0 p s m args meth c cc own 7) {z n : Int} {a0 a1 a2 a3 a5 a6 : Option Value} (hd : decode cc pc = .ok (.iinc 4 n, 3)) (kk : WW p l e R s m args below meth c Q G n0 7 N f cells slots (pc + 3) [a0, a1, a2, a3, some (.int (jI (z + n))), a5, a6] st) : WW p l e R s m args below meth c Q G n0 7 N f cells slots pc [a0, a1, a2, a3, some (.int (jI z)), a5, a6] st := w_iinc X hd rfl kk
theorem w_ist7_5 (X : Cx G n0 p s m args meth c cc own 7) {x : Int32} {a0 a1 a2 a3 a4 a5 a6 : Option Value} (hd : decode cc pc = .ok (.istore 5, 2)) (kk : WW p l e R s m args below meth c Q G n0 7 N f cells slots (pc + 2) [a0, a1, a2, a3, a4, some (.int x), a6] st) : WW p l e R s m args below meth c Q G n0 7 N f cells slots pc [a0, a1, a2, a3, a4, a5, a6] (.int x :: st) := w_istore X hd (by decide) kk
theorem w_ast7_5 (X : Cx G n0 p s m args meth c cc own 7) {x : Nat} {a0 a1 a2 a3 a4 a5 a6 : Option Value} (hd : decode cc pc = .ok (.astore 5, 2)) (kk : WW p l e R s m args below meth c Q G n0 7 N f cells slots (pc + 2) [a0, a1, a2, a3, a4, some (.ref x), a6] st) : WW p l e R s m args below meth c Q G n0 7 N f cells slots pc [a0, a1, a2, a3, a4, a5, a6] (.ref x :: st) := w_astore X hd (by decide) kk
theorem w_iinc7_5 (X : Cx G n0 p s m args meth c cc own 7) {z n : Int} {a0 a1 a2 a3 a4 a6 : Option Value} (hd : decode cc pc = .ok (.iinc 5 n, 3)) (kk : WW p l e R s m args below meth c Q G n0 7 N f cells slots (pc + 3) [a0, a1, a2, a3, a4, some (.int (jI (z + n))), a6] st) : WW p l e R s m args below meth c Q G n0 7 N f cells slots pc [a0, a1, a2, a3, a4, some (.int (jI z)), a6] st := w_iinc X hd rfl kk
theorem w_ist7_6 (X : Cx G n0 p s m args meth c cc own 7) {x : Int32} {a0 a1 a2 a3 a4 a5 a6 : Option Value} (hd : decode cc pc = .ok (.istore 6, 2)) (kk : WW p l e R s m args below meth c Q G n0 7 N f cells slots (pc + 2) [a0, a1, a2, a3, a4, a5, some (.int x)] st) : WW p l e R s m args below meth c Q G n0 7 N f cells slots pc [a0, a1, a2, a3, a4, a5, a6] (.int x :: st) := w_istore X hd (by decide) kk
theorem w_ast7_6 (X : Cx G n0 p s m args meth c cc own 7) {x : Nat} {a0 a1 a2 a3 a4 a5 a6 : Option Value} (hd : decode cc pc = .ok (.astore 6, 2)) (kk : WW p l e R s m args below meth c Q G n0 7 N f cells slots (pc + 2) [a0, a1, a2, a3, a4, a5, some (.ref x)] st) : WW p l e R s m args below meth c Q G n0 7 N f cells slots pc [a0, a1, a2, a3, a4, a5, a6] (.ref x :: st) := w_astore X hd (by decide) kk
theorem w_iinc7_6 (X : Cx G n0 p s m args meth c cc own 7) {z n : Int} {a0 a1 a2 a3 a4 a5 : Option Value} (hd : decode cc pc = .ok (.iinc 6 n, 3)) (kk : WW p l e R s m args below meth c Q G n0 7 N f cells slots (pc + 3) [a0, a1, a2, a3, a4, a5, some (.int (jI (z + n)))] st) : WW p l e R s m args below meth c Q G n0 7 N f cells slots pc [a0, a1, a2, a3, a4, a5, some (.int (jI z))] st := w_iinc X hd rfl kk
theorem w_ist8_0 (X : Cx G n0 p s m args meth c cc own 8) {x : Int32} {a0 a1 a2 a3 a4 a5 a6 a7 : Option Value} (hd : decode cc pc = .ok (.istore_n 0, 1)) (kk : WW p l e R s m args below meth c Q G n0 8 N f cells slots (pc + 1) [some (.int x), a1, a2, a3, a4, a5, a6, a7] st) : WW p l e R s m args below meth c Q G n0 8 N f cells slots pc [a0, a1, a2, a3, a4, a5, a6, a7] (.int x :: st) := w_istore_n X hd (by decide) kk
theorem w_ast8_0 (X : Cx G n0 p s m args meth c cc own 8) {x : Nat} {a0 a1 a2 a3 a4 a5 a6 a7 : Option Value} (hd : decode cc pc = .ok (.astore_n 0, 1)) (kk : WW p l e R s m args below meth c Q G n0 8 N f cells slots (pc + 1) [some (.ref x), a1, a2, a3, a4, a5, a6, a7] st) : WW p l e R s m args below meth c Q G n0 8 N f cells slots pc [a0, a1, a2, a3, a4, a5, a6, a7] (.ref x :: st) := w_astore_n X hd (by decide) kk
theorem w_iinc8_0 (X : Cx G n0 p s m args meth c cc own 8) {z n : Int} {a1 a2 a3 a4 a5 a6 a7 : Option Value} (hd : decode cc pc = .ok (.iinc 0 n, 3)) (kk : WW p l e R s m args below meth c Q G n0 8 N f cells slots (pc + 3) [some (.int (jI (z + n))), a1, a2, a3, a4, a5, a6, a7] st) : WW p l e R s m args below meth c Q G n0 8 N f cells slots pc [some (.int (jI z)), a1, a2, a3, a4, a5, a6, a7] st := w_iinc X hd rfl kk
theorem w_ist8_1 (X : Cx G n0 p s m args meth c cc own 8) {x : Int32} {a0 a1 a2 a3 a4 a5 a6 a7 : Option Value} (hd : decode cc pc = .ok (.istore_n 1, 1)) (kk : WW p l e R s m args below meth c Q G n0 8 N f cells slots (pc + 1) [a0, some (.int x), a2, a3, a4, a5, a6, a7] st) : WW p l e R s m args below meth c Q G n0 8 N f cells slots pc [a0, a1, a2, a3, a4, a5, a6, a7] (.int x :: st) := w_istore_n X hd (by decide) kk
theorem w_ast8_1 (X : Cx G n0 p s m args meth c cc own 8) {x : Nat} {a0 a1 a2 a3 a4 a5 a6 a7 : Option Value} (hd : decode cc pc = .ok (.astore_n 1, 1)) (kk : WW p l e R s m args below meth c Q G n0 8 N f cells slots (pc + 1) [a0, some (.ref x), a2, a3, a4, a5, a6, a7] st) : WW p l e R s m args below meth c Q G n0 8 N f cells slots pc [a0, a1, a2, a3, a4, a5, a6, a7] (.ref x :: st) := w_astore_n X hd (by decide) kk
theorem w_iinc8_1 (X : Cx G n0 p s m args meth c cc own 8) {z n : Int} {a0 a2 a3 a4 a5 a6 a7 : Option Value} (hd : decode cc pc = .ok (.iinc 1 n, 3)) (kk : WW p l e R s m args below meth c Q G n0 8 N f cells slots (pc + 3) [a0, some (.int (jI (z + n))), a2, a3, a4, a5, a6, a7] st) : WW p l e R s m args below meth c Q G n0 8 N f cells slots pc [a0, some (.int (jI z)), a2, a3, a4, a5, a6, a7] st := w_iinc X hd rfl kk
theorem w_ist8_2 (X : Cx G n0 p s m args meth c cc own 8) {x : Int32} {a0 a1 a2 a3 a4 a5 a6 a7 : Option Value} (hd : decode cc pc = .ok (.istore_n 2, 1)) (kk : WW p l e R s m args below meth c Q G n0 8 N f cells slots (pc + 1) [a0, a1, some (.int x), a3, a4, a5, a6, a7] st) : WW p l e R s m args below meth c Q G n0 8 N f cells slots pc [a0, a1, a2, a3, a4, a5, a6, a7] (.int x :: st) := w_istore_n X hd (by decide) kk
theorem w_ast8_2 (X : Cx G n0 p s m args meth c cc own 8) {x : Nat} {a0 a1 a2 a3 a4 a5 a6 a7 : Option Value} (hd : decode cc pc = .ok (.astore_n 2, 1)) (kk : WW p l e R s m args below meth c Q G n0 8 N f cells slots (pc + 1) [a0, a1, some (.ref x), a3, a4, a5, a6, a7] st) : WW p l e R s m args below meth c Q G n0 8 N f cells slots pc [a0, a1, a2, a3, a4, a5, a6, a7] (.ref x :: st) := w_astore_n X hd (by decide) kk
theorem w_iinc8_2 (X : Cx G n0 p s m args meth c cc own 8) {z n : Int} {a0 a1 a3 a4 a5 a6 a7 : Option Value} (hd : decode cc pc = .ok (.iinc 2 n, 3)) (kk : WW p l e R s m args below meth c Q G n0 8 N f cells slots (pc + 3) [a0, a1, some (.int (jI (z + n))), a3, a4, a5, a6, a7] st) : WW p l e R s m args below meth c Q G n0 8 N f cells slots pc [a0, a1, some (.int (jI z)), a3, a4, a5, a6, a7] st := w_iinc X hd rfl kk
theorem w_ist8_3 (X : Cx G n0 p s m args meth c cc own 8) {x : Int32} {a0 a1 a2 a3 a4 a5 a6 a7 : Option Value} (hd : decode cc pc = .ok (.istore_n 3, 1)) (kk : WW p l e R s m args below meth c Q G n0 8 N f cells slots (pc + 1) [a0, a1, a2, some (.int x), a4, a5, a6, a7] st) : WW p l e R s m args below meth c Q G n0 8 N f cells slots pc [a0, a1, a2, a3, a4, a5, a6, a7] (.int x :: st) := w_istore_n X hd (by decide) kk
theorem w_ast8_3 (X : Cx G n0 p s m args meth c cc own 8) {x : Nat} {a0 a1 a2 a3 a4 a5 a6 a7 : Option Value} (hd : decode cc pc = .ok (.astore_n 3, 1)) (kk : WW p l e R s m args below meth c Q G n0 8 N f cells slots (pc + 1) [a0, a1, a2, some (.ref x), a4, a5, a6, a7] st) : WW p l e R s m args below meth c Q G n0 8 N f cells slots pc [a0, a1, a2, a3, a4, a5, a6, a7] (.ref x :: st) := w_astore_n X hd (by decide) kk
theorem w_iinc8_3 (X : Cx G n0 p s m args meth c cc own 8) {z n : Int} {a0 a1 a2 a4 a5 a6 a7 : Option Value} (hd : decode cc pc = .ok (.iinc 3 n, 3)) (kk : WW p l e R s m args below meth c Q G n0 8 N f cells slots (pc + 3) [a0, a1, a2, some (.int (jI (z + n))), a4, a5, a6, a7] st) : WW p l e R s m args below meth c Q G n0 8 N f cells slots pc [a0, a1, a2, some (.int (jI z)), a4, a5, a6, a7] st := w_iinc X hd rfl kk
theorem w_ist8_4 (X : Cx G n0 p s m args meth c cc own 8) {x : Int32} {a0 a1 a2 a3 a4 a5 a6 a7 : Option Value} (hd : decode cc pc = .ok (.istore 4, 2)) (kk : WW p l e R s m args below meth c Q G n0 8 N f cells slots (pc + 2) [a0, a1, a2, a3, some (.int x), a5, a6, a7] st) : WW p l e R s m args below meth c Q G n0 8 N f cells slots pc [a0, a1, a2, a3, a4, a5, a6, a7] (.int x :: st) := w_istore X hd (by decide) kk
theorem w_ast8_4 (X : Cx G n0 p s m args meth c cc own 8) {x : Nat} {a0 a1 a2 a3 a4 a5 a6 a7 : Option Value} (hd : decode cc pc = .ok (.astore 4, 2)) (kk : WW p l e R s m args below meth c Q G n0 8 N f cells slots (pc + 2) [a0, a1, a2, a3, some (.ref x), a5, a6, a7] st) : WW p l e R s m args below meth c Q G n0 8 N f cells slots pc [a0, a1, a2, a3, a4, a5, a6, a7] (.ref x :: st) := w_astore X hd (by decide) kk
theorem w_iinc8_4 (X : Cx G n0 p s m args meth c cc own 8) {z n : Int} {a0 a1 a2 a3 a5 a6 a7 : Option Value} (hd : decode cc pc = .ok (.iinc 4 n, 3)) (kk : WW p l e R s m args below meth c Q G n0 8 N f cells slots (pc + 3) [a0, a1, a2, a3, some (.int (jI (z + n))), a5, a6, a7] st) : WW p l e R s m args below meth c Q G n0 8 N f cells slots pc [a0, a1, a2, a3, some (.int (jI z)), a5, a6, a7] st := w_iinc X hd rfl kk
theorem w_ist8_5 (X : Cx G n0 p s m args meth c cc own 8) {x : Int32} {a0 a1 a2 a3 a4 a5 a6 a7 : Option Value} (hd : decode cc pc = .ok (.istore 5, 2)) (kk : WW p l e R s m args below meth c Q G n0 8 N f cells slots (pc + 2) [a0, a1, a2, a3, a4, some (.int x), a6, a7] st) : WW p l e R s m args below meth c Q G n0 8 N f cells slots pc [a0, a1, a2, a3, a4, a5, a6, a7] (.int x :: st) := w_istore X hd (by decide) kk
theorem w_ast8_5 (X : Cx G n0 p s m args meth c cc own 8) {x : Nat} {a0 a1 a2 a3 a4 a5 a6 a7 : Option Value} (hd : decode cc pc = .ok (.astore 5, 2)) (kk : WW p l e R s m args below meth c Q G n0 8 N f cells slots (pc + 2) [a0, a1, a2, a3, a4, some (.ref x), a6, a7] st) : WW p l e R s m args below meth c Q G n0 8 N f cells slots pc [a0, a1, a2, a3, a4, a5, a6, a7] (.ref x :: st) := w_astore X hd (by decide) kk
theorem w_iinc8_5 (X : Cx G n0 p s m args meth c cc own 8) {z n : Int} {a0 a1 a2 a3 a4 a6 a7 : Option Value} (hd : decode cc pc = .ok (.iinc 5 n, 3)) (kk : WW p l e R s m args below meth c Q G n0 8 N f cells slots (pc + 3) [a0, a1, a2, a3, a4, some (.int (jI (z + n))), a6, a7] st) : WW p l e R s m args below meth c Q G n0 8 N f cells slots pc [a0, a1, a2, a3, a4, some (.int (jI z)), a6, a7] st := w_iinc X hd rfl kk
theorem w_ist8_6 (X : Cx G n0 p s m args meth c cc own 8) {x : Int32} {a0 a1 a2 a3 a4 a5 a6 a7 : Option Value} (hd : decode cc pc = .ok (.istore 6, 2)) (kk : WW p l e R s m args below meth c Q G n0 8 N f cells slots (pc + 2) [a0, a1, a2, a3, a4, a5, some (.int x), a7] st) : WW p l e R s m args below meth c Q G n0 8 N f cells slots pc [a0, a1, a2, a3, a4, a5, a6, a7] (.int x :: st) := w_istore X hd (by decide) kk
theorem w_ast8_6 (X : Cx G n0 p s m args meth c cc own 8) {x : Nat} {a0 a1 a2 a3 a4 a5 a6 a7 : Option Value} (hd : decode cc pc = .ok (.astore 6, 2)) (kk : WW p l e R s m args below meth c Q G n0 8 N f cells slots (pc + 2) [a0, a1, a2, a3, a4, a5, some (.ref x), a7] st) : WW p l e R s m args below meth c Q G n0 8 N f cells slots pc [a0, a1, a2, a3, a4, a5, a6, a7] (.ref x :: st) := w_astore X hd (by decide) kk
theorem w_iinc8_6 (X : Cx G n0 p s m args meth c cc own 8) {z n : Int} {a0 a1 a2 a3 a4 a5 a7 : Option Value} (hd : decode cc pc = .ok (.iinc 6 n, 3)) (kk : WW p l e R s m args below meth c Q G n0 8 N f cells slots (pc + 3) [a0, a1, a2, a3, a4, a5, some (.int (jI (z + n))), a7] st) : WW p l e R s m args below meth c Q G n0 8 N f cells slots pc [a0, a1, a2, a3, a4, a5, some (.int (jI z)), a7] st := w_iinc X hd rfl kk
theorem w_ist8_7 (X : Cx G n0 p s m args meth c cc own 8) {x : Int32} {a0 a1 a2 a3 a4 a5 a6 a7 : Option Value} (hd : decode cc pc = .ok (.istore 7, 2)) (kk : WW p l e R s m args below meth c Q G n0 8 N f cells slots (pc + 2) [a0, a1, a2, a3, a4, a5, a6, some (.int x)] st) : WW p l e R s m args below meth c Q G n0 8 N f cells slots pc [a0, a1, a2, a3, a4, a5, a6, a7] (.int x :: st) := w_istore X hd (by decide) kk
theorem w_ast8_7 (X : Cx G n0 p s m args meth c cc own 8) {x : Nat} {a0 a1 a2 a3 a4 a5 a6 a7 : Option Value} (hd : decode cc pc = .ok (.astore 7, 2)) (kk : WW p l e R s m args below meth c Q G n0 8 N f cells slots (pc + 2) [a0, a1, a2, a3, a4, a5, a6, some (.ref x)] st) : WW p l e R s m args below meth c Q G n0 8 N f cells slots pc [a0, a1, a2, a3, a4, a5, a6, a7] (.ref x :: st) := w_astore X hd (by decide) kk
theorem w_iinc8_7 (X : Cx G n0 p s m args meth c cc own 8) {z n : Int} {a0 a1 a2 a3 a4 a5 a6 : Option Value} (hd : decode cc pc = .ok (.iinc 7 n, 3)) (kk : WW p l e R s m args below meth c Q G n0 8 N f cells slots (pc + 3) [a0, a1, a2, a3, a4, a5, a6, some (.int (jI (z + n)))] st) : WW p l e R s m args below meth c Q G n0 8 N f cells slots pc [a0, a1, a2, a3, a4, a5, a6, some (.int (jI z))] st := w_iinc X hd rfl kk
theorem w_ist9_0 (X : Cx G n0 p s m args meth c cc own 9) {x : Int32} {a0 a1 a2 a3 a4 a5 a6 a7 a8 : Option Value} (hd : decode cc pc = .ok (.istore_n 0, 1)) (kk : WW p l e R s m args below meth c Q G n0 9 N f cells slots (pc + 1) [some (.int x), a1, a2, a3, a4, a5, a6, a7, a8] st) : WW p l e R s m args below meth c Q G n0 9 N f cells slots pc [a0, a1, a2, a3, a4, a5, a6, a7, a8] (.int x :: st) := w_istore_n X hd (by decide) kk
theorem w_ast9_0 (X : Cx G n0 p s m args meth c cc own 9) {x : Nat} {a0 a1 a2 a3 a4 a5 a6 a7 a8 : Option Value} (hd : decode cc pc = .ok (.astore_n 0, 1)) (kk : WW p l e R s m args below meth c Q G n0 9 N f cells slots (pc + 1) [some (.ref x), a1, a2, a3, a4, a5, a6, a7, a8] st) : WW p l e R s m args below meth c Q G n0 9 N f cells slots pc [a0, a1, a2, a3, a4, a5, a6, a7, a8] (.ref x :: st) := w_astore_n X hd (by decide) kk
theorem w_iinc9_0 (X : Cx G n0 p s m args meth c cc own 9) {z n : Int} {a1 a2 a3 a4 a5 a6 a7 a8 : Option Value} (hd : decode cc pc = .ok (.iinc 0 n, 3)) (kk : WW p l e R s m args below meth c Q G n0 9 N f cells slots (pc + 3) [some (.int (jI (z + n))), a1, a2, a3, a4, a5, a6, a7, a8] st) : WW p l e R s m args below meth c Q G n0 9 N f cells slots pc [some (.int (jI z)), a1, a2, a3, a4, a5, a6, a7, a8] st := w_iinc X hd rfl kk
theorem w_ist9_1 (X : Cx G n0 p s m args meth c cc own 9) {x : Int32} {a0 a1 a2 a3 a4 a5 a6 a7 a8 : Option Value} (hd : decode cc pc = .ok (.istore_n 1, 1)) (kk : WW p l e R s m args below meth c Q G n0 9 N f cells slots (pc + 1) [a0, some (.int x), a2, a3, a4, a5, a6, a7, a8] st) : WW p l e R s m args below meth c Q G n0 9 N f cells slots pc [a0, a1, a2, a3, a4, a5, a6, a7, a8] (.int x :: st) := w_istore_n X hd (by decide) kk
theorem w_ast9_1 (X : Cx G n0 p s m args meth c cc own 9) {x : Nat} {a0 a1 a2 a3 a4 a5 a6 a7 a8 : Option Value} (hd : decode cc pc = .ok (.astore_n 1, 1)) (kk : WW p l e R s m args below meth c Q G n0 9 N f cells slots (pc + 1) [a0, some (.ref x), a2, a3, a4, a5, a6, a7, a8] st) : WW p l e R s m args below meth c Q G n0 9 N f cells slots pc [a0, a1, a2, a3, a4, a5, a6, a7, a8] (.ref x :: st) := w_astore_n X hd (by decide) kk
theorem w_iinc9_1 (X : Cx G n0 p s m args meth c cc own 9) {z n : Int} {a0 a2 a3 a4 a5 a6 a7 a8 : Option Value} (hd : decode cc pc = .ok (.iinc 1 n, 3)) (kk : WW p l e R s m args below meth c Q G n0 9 N f cells slots (pc + 3) [a0, some (.int (jI (z + n))), a2, a3, a4, a5, a6, a7, a8] st) : WW p l e R s m args below meth c Q G n0 9 N f cells slots pc [a0, some (.int (jI z)), a2, a3, a4, a5, a6, a7, a8] st := w_iinc X hd rfl kk
theorem w_ist9_2 (X : Cx G n0 p s m args meth c cc own 9) {x : Int32} {a0 a1 a2 a3 a4 a5 a6 a7 a8 : Option Value} (hd : decode cc pc = .ok (.istore_n 2, 1)) (kk : WW p l e R s m args below meth c Q G n0 9 N f cells slots (pc + 1) [a0, a1, some (.int x), a3, a4, a5, a6, a7, a8] st) : WW p l e R s m args below meth c Q G n0 9 N f cells slots pc [a0, a1, a2, a3, a4, a5, a6, a7, a8] (.int x :: st) := w_istore_n X hd (by decide) kk
theorem w_ast9_2 (X : Cx G n0 p s m args meth c cc own 9) {x : Nat} {a0 a1 a2 a3 a4 a5 a6 a7 a8 : Option Value} (hd : decode cc pc = .ok (.astore_n 2, 1)) (kk : WW p l e R s m args below meth c Q G n0 9 N f cells slots (pc + 1) [a0, a1, some (.ref x), a3, a4, a5, a6, a7, a8] st) : WW p l e R s m args below meth c Q G n0 9 N f cells slots pc [a0, a1, a2, a3, a4, a5, a6, a7, a8] (.ref x :: st) := w_astore_n X hd (by decide) kk
theorem w_iinc9_2 (X : Cx G n0 p s m args meth c cc own 9) {z n : Int} {a0 a1 a3 a4 a5 a6 a7 a8 : Option Value} (hd : decode cc pc = .ok (.iinc 2 n, 3)) (kk : WW p l e R s m args below meth c Q G n0 9 N f cells slots (pc + 3) [a0, a1, some (.int (jI (z + n))), a3, a4, a5, a6, a7, a8] st) : WW p l e R s m args below meth c Q G n0 9 N f cells slots pc [a0, a1, some (.int (jI z)), a3, a4, a5, a6, a7, a8] st := w_iinc X hd rfl kk
theorem w_ist9_3 (X : Cx G n0 p s m args meth c cc own 9) {x : Int32} {a0 a1 a2 a3 a4 a5 a6 a7 a8 : Option Value} (hd : decode cc pc = .ok (.istore_n 3, 1)) (kk : WW p l e R s m args below meth c Q G n0 9 N f cells slots (pc + 1) [a0, a1, a2, some (.int x), a4, a5, a6, a7, a8] st) : WW p l e R s m args below meth c Q G n0 9 N f cells slots pc [a0, a1, a2, a3, a4, a5, a6, a7, a8] (.int x :: st) := w_istore_n X hd (by decide) kk
theorem w_ast9_3 (X : Cx G n0 p s m args meth c cc own 9) {x : Nat} {a0 a1 a2 a3 a4 a5 a6 a7 a8 : Option Value} (hd : decode cc pc = .ok (.astore_n 3, 1)) (kk : WW p l e R s m args below meth c Q G n0 9 N f cells slots (pc + 1) [a0, a1, a2, some (.ref x), a4, a5, a6, a7, a8] st) : WW p l e R s m args below meth c Q G n0 9 N f cells slots pc [a0, a1, a2, a3, a4, a5, a6, a7, a8] (.ref x :: st) := w_astore_n X hd (by decide) kk
theorem w_iinc9_3 (X : Cx G n0 p s m args meth c cc own 9) {z n : Int} {a0 a1 a2 a4 a5 a6 a7 a8 : Option Value} (hd : decode cc pc = .ok (.iinc 3 n, 3)) (kk : WW p l e R s m args below meth c Q G n0 9 N f cells slots (pc + 3) [a0, a1, a2, some (.int (jI (z + n))), a4, a5, a6, a7, a8] st) : WW p l e R s m args below meth c Q G n0 9 N f cells slots pc [a0, a1, a2, some (.int (jI z)), a4, a5, a6, a7, a8] st := w_iinc X hd rfl kk
theorem w_ist9_4 (X : Cx G n0 p s m args meth c cc own 9) {x : Int32} {a0 a1 a2 a3 a4 a5 a6 a7 a8 : Option Value} (hd : decode cc pc = .ok (.istore 4, 2)) (kk : WW p l e R s m args below meth c Q G n0 9 N f cells slots (pc + 2) [a0, a1, a2, a3, some (.int x), a5, a6, a7, a8] st) : WW p l e R s m args below meth c Q G n0 9 N f cells slots pc [a0, a1, a2, a3, a4, a5, a6, a7, a8] (.int x :: st) := w_istore X hd (by decide) kk
theorem w_ast9_4 (X : Cx G n0 p s m args meth c cc own 9) {x : Nat} {a0 a1 a2 a3 a4 a5 a6 a7 a8 : Option Value} (hd : decode cc pc = .ok (.astore 4, 2)) (kk : WW p l e R s m args below meth c Q G n0 9 N f cells slots (pc + 2) [a0, a1, a2, a3, some (.ref x), a5, a6, a7, a8] st) : WW p l e R s m args below meth c Q G n0 9 N f cells slots pc [a0, a1, a2, a3, a4, a5, a6, a7, a8] (.ref x :: st) := w_astore X hd (by decide) kk
theorem w_iinc9_4 (X : Cx G n0 p s m args meth c cc own 9) {z n : Int} {a0 a1 a2 a3 a5 a6 a7 a8 : Option Value} (hd : decode cc pc = .ok (.iinc 4 n, 3)) (kk : WW p l e R s m args below meth c Q G n0 9 N f cells slots (pc + 3) [a0, a1, a2, a3, some (.int (jI (z + n))), a5, a6, a7, a8] st) : WW p l e R s m args below meth c Q G n0 9 N f cells slots pc [a0, a1, a2, a3, some (.int (jI z)), a5, a6, a7, a8] st := w_iinc X hd rfl kk
theorem w_ist9_5 (X : Cx G n0 p s m args meth c cc own 9) {x : Int32} {a0 a1 a2 a3 a4 a5 a6 a7 a8 : Option Value} (hd : decode cc pc = .ok (.istore 5, 2)) (kk : WW p l e R s m args below meth c Q G n0 9 N f cells slots (pc + 2) [a0, a1, a2, a3, a4, some (.int x), a6, a7, a8] st) : WW p l e R s m args below meth c Q G n0 9 N f cells slots pc [a0, a1, a2, a3, a4, a5, a6, a7, a8] (.int x :: st) := w_istore X hd (by decide) kk
theorem w_ast9_5 (X : Cx G n0 p s m args meth c cc own 9) {x : Nat} {a0 a1 a2 a3 a4 a5 a6 a7 a8 : Option Value} (hd : decode cc pc = .ok (.astore 5, 2)) (kk : WW p l e R s m args below meth c Q G n0 9 N f cells slots (pc + 2) [a0, a1, a2, a3, a4, some (.ref x), a6, a7, a8] st) : WW p l e R s m args below meth c Q G n0 9 N f cells slots pc [a0, a1, a2, a3, a4, a5, a6, a7, a8] (.ref x :: st) := w_astore X hd (by decide) kk
theorem w_iinc9_5 (X : Cx G n0 p s m args meth c cc own 9) {z n : Int} {a0 a1 a2 a3 a4 a6 a7 a8 : Option Value} (hd : decode cc pc = .ok (.iinc 5 n, 3)) (kk : WW p l e R s m args below meth c Q G n0 9 N f cells slots (pc + 3) [a0, a1, a2, a3, a4, some (.int (jI (z + n))), a6, a7, a8] st) : WW p l e R s m args below meth c Q G n0 9 N f cells slots pc [a0, a1, a2, a3, a4, some (.int (jI z)), a6, a7, a8] st := w_iinc X hd rfl kk
theorem w_ist9_6 (X : Cx G n0 p s m args meth c cc own 9) {x : Int32} {a0 a1 a2 a3 a4 a5 a6 a7 a8 : Option Value} (hd : decode cc pc = .ok (.istore 6, 2)) (kk : WW p l e R s m args below meth c Q G n0 9 N f cells slots (pc + 2) [a0, a1, a2, a3, a4, a5, some (.int x), a7, a8] st) : WW p l e R s m args below meth c Q G n0 9 N f cells slots pc [a0, a1, a2, a3, a4, a5, a6, a7, a8] (.int x :: st) := w_istore X hd (by decide) kk
theorem w_ast9_6 (X : Cx G n0 p s m args meth c cc own 9) {x : Nat} {a0 a1 a2 a3 a4 a5 a6 a7 a8 : Option Value} (hd : decode cc pc = .ok (.astore 6, 2)) (kk : WW p l e R s m args below meth c Q G n0 9 N f cells slots (pc + 2) [a0, a1, a2, a3, a4, a5, some (.ref x), a7, a8] st) : WW p l e R s m args below meth c Q G n0 9 N f cells slots pc [a0, a1, a2, a3, a4, a5, a6, a7, a8] (.ref x :: st) := w_astore X hd (by decide) kk
theorem w_iinc9_6 (X : Cx G n0 p s m args meth c cc own 9) {z n : Int} {a0 a1 a2 a3 a4 a5 a7 a8 : Option Value} (hd : decode cc pc = .ok (.iinc 6 n, 3)) (kk : WW p l e R s m args below meth c Q G n0 9 N f cells slots (pc + 3) [a0, a1, a2, a3, a4, a5, some (.int (jI (z + n))), a7, a8] st) : WW p l e R s m args below meth c Q G n0 9 N f cells slots pc [a0, a1, a2, a3, a4, a5, some (.int (jI z)), a7, a8] st := w_iinc X hd rfl kk
theorem w_ist9_7 (X : Cx G n0 p s m args meth c cc own 9) {x : Int32} {a0 a1 a2 a3 a4 a5 a6 a7 a8 : Option Value} (hd : decode cc pc = .ok (.istore 7, 2)) (kk : WW p l e R s m args below meth c Q G n0 9 N f cells slots (pc + 2) [a0, a1, a2, a3, a4, a5, a6, some (.int x), a8] st) : WW p l e R s m args below meth c Q G n0 9 N f cells slots pc [a0, a1, a2, a3, a4, a5, a6, a7, a8] (.int x :: st) := w_istore X hd (by decide) kk
theorem w_ast9_7 (X : Cx G n0 p s m args meth c cc own 9) {x : Nat} {a0 a1 a2 a3 a4 a5 a6 a7 a8 : Option Value} (hd : decode cc pc = .ok (.astore 7, 2)) (kk : WW p l e R s m args below meth c Q G n0 9 N f cells slots (pc + 2) [a0, a1, a2, a3, a4, a5, a6, some (.ref x), a8] st) : WW p l e R s m args below meth c Q G n0 9 N f cells slots pc [a0, a1, a2, a3, a4, a5, a6, a7, a8] (.ref x :: st) := w_astore X hd (by decide) kk
theorem w_iinc9_7 (X : Cx G n0 p s m args meth c cc own 9) {z n : Int} {a0 a1 a2 a3 a4 a5 a6 a8 : Option Value} (hd : decode cc pc = .ok (.iinc 7 n, 3)) (kk : WW p l e R s m args below meth c Q G n0 9 N f cells slots (pc + 3) [a0, a1, a2, a3, a4, a5, a6, some (.int (jI (z + n))), a8] st) : WW p l e R s m args below meth c Q G n0 9 N f cells slots pc [a0, a1, a2, a3, a4, a5, a6, some (.int (jI z)), a8] st := w_iinc X hd rfl kk
theorem w_ist9_8 (X : Cx G n0 p s m args meth c cc own 9) {x : Int32} {a0 a1 a2 a3 a4 a5 a6 a7 a8 : Option Value} (hd : decode cc pc = .ok (.istore 8, 2)) (kk : WW p l e R s m args below meth c Q G n0 9 N f cells slots (pc + 2) [a0, a1, a2, a3, a4, a5, a6, a7, some (.int x)] st) : WW p l e R s m args below meth c Q G n0 9 N f cells slots pc [a0, a1, a2, a3, a4, a5, a6, a7, a8] (.int x :: st) := w_istore X hd (by decide) kk
theorem w_ast9_8 (X : Cx G n0 p s m args meth c cc own 9) {x : Nat} {a0 a1 a2 a3 a4 a5 a6 a7 a8 : Option Value} (hd : decode cc pc = .ok (.astore 8, 2)) (kk : WW p l e R s m args below meth c Q G n0 9 N f cells slots (pc + 2) [a0, a1, a2, a3, a4, a5, a6, a7, some (.ref x)] st) : WW p l e R s m args below meth c Q G n0 9 N f cells slots pc [a0, a1, a2, a3, a4, a5, a6, a7, a8] (.ref x :: st) := w_astore X hd (by decide) kk
theorem w_iinc9_8 (X : Cx G n0 p s m args meth c cc own 9) {z n : Int} {a0 a1 a2 a3 a4 a5 a6 a7 : Option Value} (hd : decode cc pc = .ok (.iinc 8 n, 3)) (kk : WW p l e R s m args below meth c Q G n0 9 N f cells slots (pc + 3) [a0, a1, a2, a3, a4, a5, a6, a7, some (.int (jI (z + n)))] st) : WW p l e R s m args below meth c Q G n0 9 N f cells slots pc [a0, a1, a2, a3, a4, a5, a6, a7, some (.int (jI z))] st := w_iinc X hd rfl kk

theorem nI_jI (n : Nat) : nI n = jI (n : Int) := by
  unfold nI jI
  first | rfl | simp
theorem w_idiv (X : Cx G n0 p s m args meth c cc own nL) {a b : Int} (hd : decode cc pc = .ok (.idiv, 1)) (kk : WW p l e R s m args below meth c Q G n0 nL N f cells slots (pc + 1) L (.int (jI (a / b)) :: st)) (ha : 0 ≤ a ∧ a < 2147483648 := by omega) (hb : 0 < b ∧ b < 2147483648 := by omega) : WW p l e R s m args below meth c Q G n0 nL N f cells slots pc L (.int (jI b) :: .int (jI a) :: st) := fun H locs ls h1 h2 h3 => by
  obtain ⟨n, rfl⟩ := Int.eq_ofNat_of_zero_le ha.1
  obtain ⟨d, rfl⟩ := Int.eq_ofNat_of_zero_le (Int.le_of_lt hb.1)
  have e : jI (n : Int) / jI (d : Int) = jI ((n : Int) / (d : Int)) := by
    rw [← nI_jI, ← nI_jI, pk_div (by omega) (by omega) (by omega), nI_jI]
    rfl
  refine lv_idiv X.1 X.2.1 hd ?_ ?_
  · intro h
    have := (jI_eq ⟨by omega, by omega⟩ rg0).mp h
    omega
  · rw [e]; exact kk H locs ls h1 h2 h3
theorem jI_div {a b : Int} (ha : rg a) (hb : 0 < b ∧ b < 2147483648) : jI a / jI b = jI (a.tdiv b) := by
  have hb2 : rg b := ⟨by omega, by omega⟩
  have h1 : a.tdiv b = if 0 ≤ a then a / b else -((-a) / b) := by
    by_cases h : 0 ≤ a
    · rw [if_pos h, Int.tdiv_eq_ediv_of_nonneg h]
    · rw [if_neg h]
      have e : a = -(-a) := by omega
      rw [e, Int.neg_tdiv, Int.tdiv_eq_ediv_of_nonneg (by omega)]
      simp
  have h2 : rg (a.tdiv b) := by
    rw [h1]
    split
    · have g1 := Int.ediv_nonneg (by assumption) (Int.le_of_lt hb.1)
      have g2 := Int.ediv_le_self b (show 0 ≤ a by assumption)
      exact ⟨by omega, by omega⟩
    · have g1 := Int.ediv_nonneg (show 0 ≤ -a by omega) (Int.le_of_lt hb.1)
      have g2 := Int.ediv_le_self b (show 0 ≤ -a by omega)
      exact ⟨by omega, by omega⟩
  apply Int32.toInt_inj.mp
  rw [Int32.toInt_div, jI_to ha, jI_to hb2, jI_to h2]
  exact Int.bmod_eq_of_le_mul_two (by have := h2.1; omega) (by have := h2.2; omega)
theorem w_idivT (X : Cx G n0 p s m args meth c cc own nL) {a b : Int} (hd : decode cc pc = .ok (.idiv, 1)) (kk : ∀ z : Int, (0 ≤ a ∧ z = a / b ∨ a < 0 ∧ z = -((-a) / b)) → WW p l e R s m args below meth c Q G n0 nL N f cells slots (pc + 1) L (.int (jI z) :: st)) (ha : rg a := by first | assumption | (refine ⟨?_, ?_⟩ <;> omega)) (hb : 0 < b ∧ b < 2147483648 := by omega) : WW p l e R s m args below meth c Q G n0 nL N f cells slots pc L (.int (jI b) :: .int (jI a) :: st) := fun H locs ls h1 h2 h3 => by
  refine lv_idiv X.1 X.2.1 hd ?_ ?_
  · intro h
    have := (jI_eq (a := b) (b := 0) ⟨by omega, by omega⟩ rg0).mp h
    omega
  · rw [jI_div ha hb]
    refine kk (a.tdiv b) ?_ H locs ls h1 h2 h3
    by_cases h : 0 ≤ a
    · exact Or.inl ⟨h, Int.tdiv_eq_ediv_of_nonneg h⟩
    · refine Or.inr ⟨by omega, ?_⟩
      have e : a.tdiv b = -((-a).tdiv b) := by rw [Int.neg_tdiv, Int.neg_neg]
      rw [e, Int.tdiv_eq_ediv_of_nonneg (by omega)]
theorem w_irem (X : Cx G n0 p s m args meth c cc own nL) {a b : Int} (hd : decode cc pc = .ok (.irem, 1)) (kk : WW p l e R s m args below meth c Q G n0 nL N f cells slots (pc + 1) L (.int (jI (a % b)) :: st)) (ha : 0 ≤ a ∧ a < 2147483648 := by omega) (hb : 0 < b ∧ b < 2147483648 := by omega) : WW p l e R s m args below meth c Q G n0 nL N f cells slots pc L (.int (jI b) :: .int (jI a) :: st) := fun H locs ls h1 h2 h3 => by
  obtain ⟨n, rfl⟩ := Int.eq_ofNat_of_zero_le ha.1
  obtain ⟨d, rfl⟩ := Int.eq_ofNat_of_zero_le (Int.le_of_lt hb.1)
  have e : jI (n : Int) - jI (n : Int) / jI (d : Int) * jI (d : Int) = jI ((n : Int) % (d : Int)) := by
    rw [← nI_jI, ← nI_jI, pk_rem (by omega) (by omega) (by omega), nI_jI]
    rfl
  refine lv_irem X.1 X.2.1 hd ?_ ?_
  · intro h
    have := (jI_eq ⟨by omega, by omega⟩ rg0).mp h
    omega
  · rw [e]; exact kk H locs ls h1 h2 h3
/-! the world's cells -/
theorem w_get (X : Cx G n0 p s m args meth c cc own nL) {k ci Nf index : Nat} {fs : List Value} {C : String} {T : u_T} (hk : k < N) (he : f k = .inr (ci, fs)) (hc : vwCl[ci]? = some (C, T, Nf)) (hin : ∀ w ∈ u_ws C T Nf, w ∈ lw_w) (j : Nat) (hj : j < Nf) (hw : Cond.fieldLink own index (T j).1 (T j).2.1 (T j).2.2.1 ∈ lw_w) {v : Value} (hv : fs[j]? = some v) (hd : decode cc pc = .ok (.getfield index, 3)) (kk : WW p l e R s m args below meth c Q G n0 nL N f cells slots (pc + 3) L (v :: st)) : WW p l e R s m args below meth c Q G n0 nL N f cells slots pc L (.ref (n0 + k) :: st) := fun H locs ls h1 h2 h3 =>
  va_get X.1 X.2.1 (fun w hw => X.2.2.2.2.1 w hw) hin X.2.2.2.1 X.2.2.2.2.2.1.1 h1.2 k (by rw [wl_at hk, he]) hc j hj (X.2.2.2.2.1 _ hw) (fun _ h9 => h9) hv hd (kk H locs ls h1 h2 h3)
theorem w_getN (X : Cx G n0 p s m args meth c cc own nL) {k ci Nf index : Nat} {fs : List Value} {C host : String} {T : u_T} (hk : k < N) (he : f k = .inr (ci, fs)) (hc : vwCl[ci]? = some (C, T, Nf)) (hin : ∀ w ∈ u_ws C T Nf, w ∈ lw_w) (j : Nat) (hj : j < Nf) (hw : Cond.fieldLinkNest own index (T j).1 (T j).2.1 (T j).2.2.1 host ∈ lw_w) {v : Value} (hv : fs[j]? = some v) (hd : decode cc pc = .ok (.getfield index, 3)) (kk : WW p l e R s m args below meth c Q G n0 nL N f cells slots (pc + 3) L (v :: st)) : WW p l e R s m args below meth c Q G n0 nL N f cells slots pc L (.ref (n0 + k) :: st) := fun H locs ls h1 h2 h3 =>
  va_getN X.1 X.2.1 (fun w hw => X.2.2.2.2.1 w hw) hin X.2.2.2.1 X.2.2.2.2.2.1.1 h1.2 k (by rw [wl_at hk, he]) hc j hj (X.2.2.2.2.1 _ hw) (fun _ h9 => h9) hv hd (kk H locs ls h1 h2 h3)
/-- a cell is written: the world behind it -/
theorem Wd_set {H H1 : Heap} {k : Nat} {e e0 : va_E} (h : Wd G n0 N f H) (hk : k < N) (z : H1.size = H.size) (he : va_at G.1 vwCl (n0 + k, e) H1) (oq : ∀ q, q ≠ n0 + k → H1[q]? = H[q]?) : Wd G n0 N (va_up f k e) H1 := by
  refine ⟨by rw [z]; exact h.1, ?_⟩
  rw [← wl_set]
  exact h.2.set wl_D (wl_at hk) he oq
theorem w_put (X : Cx G n0 p s m args meth c cc own nL) {k ci Nf index : Nat} {fs : List Value} {C : String} {T : u_T} (hk : k < N) (he : f k = .inr (ci, fs)) (hc : vwCl[ci]? = some (C, T, Nf)) (hin : ∀ w ∈ u_ws C T Nf, w ∈ lw_w) (ty0 : Nat → FieldType) (hty : ∀ k, k < Nf → parseFieldDescriptor (T k).2.2.1 = some (ty0 k)) (hnm : ∀ a, a < Nf → ∀ b, b < Nf → a ≠ b → (T a).2.1 ≠ (T b).2.1) (j : Nat) (hj : j < Nf) (hw : Cond.fieldLink own index (T j).1 (T j).2.1 (T j).2.2.1 ∈ lw_w) (hfin : (T j).2.2.2 = false) {v : Value} (hn : narrow (ty0 j) v = v) (hfit : fits (ty0 j) v = true) (hl : j < fs.length) (hd : decode cc pc = .ok (.putfield index, 3)) (kk : WW p l e R s m args below meth c Q G n0 nL N (va_up f k (.inr (ci, fs.set j v))) cells slots (pc + 3) L st) : WW p l e R s m args below meth c Q G n0 nL N f cells slots pc L (v :: .ref (n0 + k) :: st) := fun H locs ls h1 h2 h3 => by
  have hts : ∀ w ∈ lw_w, w.before args s = true := fun w hw => X.2.2.2.2.1 w hw
  have hK := X.2.2.2.2.2.1.1
  have hap := va_apart (own := own) hts hin ty0 hty hnm hK hc
  obtain ⟨r, g1, cell, q1, q2, q3, q4⟩ := h1.2 k _ (by rw [wl_at hk, he])
  have hr : r = (C, T, Nf) := Option.some.inj (g1.symm.trans hc)
  subst hr
  obtain ⟨hS, hfc, kC, hkC, hkind⟩ := hK.1 ci _ hc
  obtain ⟨cf, kf, fi, fd, hi, hsl⟩ := hS j hj
  have hlay := hts _ (hin _ (u_in_lay hj))
  unfold u_lay at hlay
  rw [if_neg (by rw [hfin]; decide)] at hlay
  have hst := (u_facts hfc hkC (u_lays hts hin hj) hi).1
  have h6 := u_store hfc hkC hkind hlay hi (hty j hj) hn hfit
  refine W.putK X.1 X.2.1 (f := fd) ⟨X.2.2.2.1, hts _ hw, ⟨_, _, _, hi⟩, hst⟩ (by rw [q2]; exact h6) q1 q3 (by rw [hsl]; exact k2_hasslot (q4 j hj)) rfl rfl hd fun H' e1 e2 e3 => ?_
  rw [hsl] at e1 ⊢
  exact kk H' _ ls (Wd_set (e0 := f k) h1 hk e2 ⟨_, hc, t_OB.to (V := updV (vp_V fs) j v) ⟨_, e1, q2, q3, t_set q4 hap hj v⟩ (fun i _ => vp_updV_set hl v i)⟩ e3) (h2.put e2 e3 (Nat.le_add_right _ _)) h3
theorem w_putN (X : Cx G n0 p s m args meth c cc own nL) {k ci Nf index : Nat} {fs : List Value} {C host : String} {T : u_T} (hk : k < N) (he : f k = .inr (ci, fs)) (hc : vwCl[ci]? = some (C, T, Nf)) (hin : ∀ w ∈ u_ws C T Nf, w ∈ lw_w) (ty0 : Nat → FieldType) (hty : ∀ k, k < Nf → parseFieldDescriptor (T k).2.2.1 = some (ty0 k)) (hnm : ∀ a, a < Nf → ∀ b, b < Nf → a ≠ b → (T a).2.1 ≠ (T b).2.1) (j : Nat) (hj : j < Nf) (hw : Cond.fieldLinkNest own index (T j).1 (T j).2.1 (T j).2.2.1 host ∈ lw_w) (hfin : (T j).2.2.2 = false) {v : Value} (hn : narrow (ty0 j) v = v) (hfit : fits (ty0 j) v = true) (hl : j < fs.length) (hd : decode cc pc = .ok (.putfield index, 3)) (kk : WW p l e R s m args below meth c Q G n0 nL N (va_up f k (.inr (ci, fs.set j v))) cells slots (pc + 3) L st) : WW p l e R s m args below meth c Q G n0 nL N f cells slots pc L (v :: .ref (n0 + k) :: st) := fun H locs ls h1 h2 h3 => by
  have hts : ∀ w ∈ lw_w, w.before args s = true := fun w hw => X.2.2.2.2.1 w hw
  have hK := X.2.2.2.2.2.1.1
  have hap := va_apart (own := own) hts hin ty0 hty hnm hK hc
  obtain ⟨r, g1, cell, q1, q2, q3, q4⟩ := h1.2 k _ (by rw [wl_at hk, he])
  have hr : r = (C, T, Nf) := Option.some.inj (g1.symm.trans hc)
  subst hr
  obtain ⟨hS, hfc, kC, hkC, hkind⟩ := hK.1 ci _ hc
  obtain ⟨cf, kf, fi, fd, hi, hsl⟩ := hS j hj
  have hlay := hts _ (hin _ (u_in_lay hj))
  unfold u_lay at hlay
  rw [if_neg (by rw [hfin]; decide)] at hlay
  have hst := (u_facts hfc hkC (u_lays hts hin hj) hi).1
  have h6 := u_store hfc hkC hkind hlay hi (hty j hj) hn hfit
  refine va_WputK X.1 X.2.1 (f := fd) X.2.2.2.1 (hts _ hw) hi hst (by rw [q2]; exact h6) q1 q3 (by rw [hsl]; exact k2_hasslot (q4 j hj)) rfl rfl hd fun H' e1 e2 e3 => ?_
  rw [hsl] at e1 ⊢
  exact kk H' _ ls (Wd_set (e0 := f k) h1 hk e2 ⟨_, hc, t_OB.to (V := updV (vp_V fs) j v) ⟨_, e1, q2, q3, t_set q4 hap hj v⟩ (fun i _ => vp_updV_set hl v i)⟩ e3) (h2.put e2 e3 (Nat.le_add_right _ _)) h3
theorem w_putF (X : Cx G n0 p s m args meth c cc own nL) (hinit : meth.name = "<init>") {k ci Nf index : Nat} {fs : List Value} {C : String} {T : u_T} (hk : k < N) (he : f k = .inr (ci, fs)) (hc : vwCl[ci]? = some (C, T, Nf)) (hin : ∀ w ∈ u_ws C T Nf, w ∈ lw_w) (ty0 : Nat → FieldType) (hty : ∀ k, k < Nf → parseFieldDescriptor (T k).2.2.1 = some (ty0 k)) (hnm : ∀ a, a < Nf → ∀ b, b < Nf → a ≠ b → (T a).2.1 ≠ (T b).2.1) (j : Nat) (hj : j < Nf) (hw : Cond.fieldLink own index (T j).1 (T j).2.1 (T j).2.2.1 ∈ lw_w) (hfin : (T j).2.2.2 = true) (hdecl : (T j).1 = own) {v : Value} (hn : narrow (ty0 j) v = v) (hfit : fits (ty0 j) v = true) (hl : j < fs.length) (hd : decode cc pc = .ok (.putfield index, 3)) (kk : WW p l e R s m args below meth c Q G n0 nL N (va_up f k (.inr (ci, fs.set j v))) cells slots (pc + 3) L st) : WW p l e R s m args below meth c Q G n0 nL N f cells slots pc L (v :: .ref (n0 + k) :: st) := fun H locs ls h1 h2 h3 => by
  have hts : ∀ w ∈ lw_w, w.before args s = true := fun w hw => X.2.2.2.2.1 w hw
  have hK := X.2.2.2.2.2.1.1
  have hap := va_apart (own := own) hts hin ty0 hty hnm hK hc
  obtain ⟨r, g1, cell, q1, q2, q3, q4⟩ := h1.2 k _ (by rw [wl_at hk, he])
  have hr : r = (C, T, Nf) := Option.some.inj (g1.symm.trans hc)
  subst hr
  obtain ⟨hS, hfc, kC, hkC, hkind⟩ := hK.1 ci _ hc
  obtain ⟨cf, kf, fi, fd, hi, hsl⟩ := hS j hj
  have hlay := hts _ (hin _ (u_in_lay hj))
  unfold u_lay at hlay
  rw [if_pos hfin] at hlay
  have hst := (u_facts hfc hkC (u_lays hts hin hj) hi).1
  have hcf : m.cls = cf := by
    obtain ⟨_, _, c', _, _, _, -, -, hf', -, -, -, hown2, -⟩ := Cond.laysFinal_spec hlay
    have e1 : c' = cf := by have := hi.symm.trans hf'; simp at this; exact this.1.symm
    rw [hdecl] at hown2
    rw [← e1]; exact Option.some.inj (X.2.2.2.1.symm.trans hown2)
  have h6 := u_fits hfc hkC hkind (Or.inr hlay) hi (hty j hj) hn hfit
  refine W.putFinK X.1 X.2.1 X.2.2.2.1 (hts _ hw) hi hst hcf hinit (by rw [q2]; exact h6) q1 q3 (by rw [hsl]; exact k2_hasslot (q4 j hj)) rfl rfl hd fun H' e1 e2 e3 => ?_
  rw [hsl] at e1 ⊢
  exact kk H' _ ls (Wd_set (e0 := f k) h1 hk e2 ⟨_, hc, t_OB.to (V := updV (vp_V fs) j v) ⟨_, e1, q2, q3, t_set q4 hap hj v⟩ (fun i _ => vp_updV_set hl v i)⟩ e3) (h2.put e2 e3 (Nat.le_add_right _ _)) h3
theorem w_iald (X : Cx G n0 p s m args meth c cc own nL) {k n : Nat} {g : Nat → Int32} {z : Int} (hk : k < N) (he : f k = .inl (G.2 0, n, .inl g)) (hd : decode cc pc = .ok (.iaload, 1)) (kk : WW p l e R s m args below meth c Q G n0 nL N f cells slots (pc + 1) L (.int (g z.toNat) :: st)) (hz : 0 ≤ z ∧ z < n := by omega) (hn : n < 2147483648 := by decide) : WW p l e R s m args below meth c Q G n0 nL N f cells slots pc L (.int (jI z) :: .ref (n0 + k) :: st) := fun H locs ls h1 h2 h3 =>
  va_iald X.1 X.2.1 X.2.2.2.2.2.1.1 h1.2 k 0 (by rw [wl_at hk, he]) rfl (jI_in hz.1 hz.2 hn) hd (by rw [jI_cl hz.1 (by omega)]; exact kk H locs ls h1 h2 h3)
theorem w_zald (X : Cx G n0 p s m args meth c cc own nL) {k n : Nat} {g : Nat → Int32} {z : Int} (hk : k < N) (he : f k = .inl (G.2 1, n, .inl g)) (hd : decode cc pc = .ok (.baload, 1)) (kk : WW p l e R s m args below meth c Q G n0 nL N f cells slots (pc + 1) L (.int (g z.toNat) :: st)) (hz : 0 ≤ z ∧ z < n := by omega) (hn : n < 2147483648 := by decide) : WW p l e R s m args below meth c Q G n0 nL N f cells slots pc L (.int (jI z) :: .ref (n0 + k) :: st) := fun H locs ls h1 h2 h3 =>
  va_zald X.1 X.2.1 X.2.2.2.2.2.1.1 h1.2 k 1 (by rw [wl_at hk, he]) rfl (jI_in hz.1 hz.2 hn) hd (by rw [jI_cl hz.1 (by omega)]; exact kk H locs ls h1 h2 h3)
theorem w_aald (X : Cx G n0 p s m args meth c cc own nL) {k n t : Nat} {C : String} {g : Nat → Option Nat} {z : Int} {q : Nat} (hk : k < N) (he : f k = .inl (G.2 t, n, .inr (.inr (.inr (.inr g))))) (ht : (tyG G)[t]? = some (G.2 t, .object C)) (hd : decode cc pc = .ok (.aaload, 1)) (hq : g z.toNat = some q) (kk : WW p l e R s m args below meth c Q G n0 nL N f cells slots (pc + 1) L (.ref q :: st)) (hz : 0 ≤ z ∧ z < n := by omega) (hn : n < 2147483648 := by decide) : WW p l e R s m args below meth c Q G n0 nL N f cells slots pc L (.int (jI z) :: .ref (n0 + k) :: st) := fun H locs ls h1 h2 h3 =>
  va_aldq X.1 X.2.1 X.2.2.2.2.2.1.1 h1.2 k t (by rw [wl_at hk, he]) ht (jI_in hz.1 hz.2 hn) hd (by rw [jI_cl hz.1 (by omega), hq]; exact kk H locs ls h1 h2 h3)
theorem w_alen (X : Cx G n0 p s m args meth c cc own nL) {k t : Nat} {x : vp_A} {ty : FieldType} (hk : k < N) (he : f k = .inl (G.2 t, x)) (ht : (tyG G)[t]? = some (G.2 t, ty)) (hd : decode cc pc = .ok (.arraylength, 1)) (kk : WW p l e R s m args below meth c Q G n0 nL N f cells slots (pc + 1) L (.int (jI x.1) :: st)) : WW p l e R s m args below meth c Q G n0 nL N f cells slots pc L (.ref (n0 + k) :: st) := fun H locs ls h1 h2 h3 =>
  va_alen X.1 X.2.1 X.2.2.2.2.2.1.1 h1.2 k t (by rw [wl_at hk, he]) ht (nI_jI x.1) hd (kk H locs ls h1 h2 h3)
theorem w_iast (X : Cx G n0 p s m args meth c cc own nL) {k n : Nat} {g : Nat → Int32} {z : Int} {x : Int32} (hk : k < N) (he : f k = .inl (G.2 0, n, .inl g)) (hd : decode cc pc = .ok (.iastore, 1)) (kk : WW p l e R s m args below meth c Q G n0 nL N (va_up f k (.inl (G.2 0, n, .inl (upd g z.toNat x)))) cells slots (pc + 1) L st) (hz : 0 ≤ z ∧ z < n := by omega) (hn : n < 2147483648 := by decide) : WW p l e R s m args below meth c Q G n0 nL N f cells slots pc L (.int x :: .int (jI z) :: .ref (n0 + k) :: st) := fun H locs ls h1 h2 h3 => by
  have hin := jI_in hz.1 hz.2 hn
  have hcl := jI_cl hz.1 (by omega)
  have hcell : H[n0 + k]? = some (vp_cell (G.2 0) (n, .inl g)) := h1.2 k (n0 + k, .inl (G.2 0, n, .inl g)) (by rw [wl_at hk, he])
  refine W.iast X.1 X.2.1 hcell ((X.2.2.2.2.2.1.1.2 0 (G.2 0, _) rfl).1 n (fun j => .int (g j))) (fun q => by cases q) (by show ¬ (jI z < 0 ∨ (arrV _ _ _).slots.size ≤ _); rw [arrV_size]; exact hin) rfl rfl hd fun H1 e1 e2 e3 => ?_
  refine kk H1 _ ls (Wd_set (e0 := f k) h1 hk e2 ?_ e3) (h2.put e2 e3 (Nat.le_add_right _ _)) h3
  show H1[n0 + k]? = some (vp_cell _ _)
  rw [e1, hcl]
  rw [vp_cell_i, vp_cell_i, arrV_store]
  congr 2
  funext q
  by_cases hq : q = z.toNat
  · subst hq
    simp [updV, upd]
  · simp [updV, upd, hq]
theorem w_zast (X : Cx G n0 p s m args meth c cc own nL) {k n : Nat} {g : Nat → Int32} {z : Int} {x : Int32} (hk : k < N) (he : f k = .inl (G.2 1, n, .inl g)) (hx : vp_nar .boolean x = x) (hd : decode cc pc = .ok (.bastore, 1)) (kk : WW p l e R s m args below meth c Q G n0 nL N (va_up f k (.inl (G.2 1, n, .inl (upd g z.toNat x)))) cells slots (pc + 1) L st) (hz : 0 ≤ z ∧ z < n := by omega) (hn : n < 2147483648 := by decide) : WW p l e R s m args below meth c Q G n0 nL N f cells slots pc L (.int x :: .int (jI z) :: .ref (n0 + k) :: st) := fun H locs ls h1 h2 h3 => by
  have hin := jI_in hz.1 hz.2 hn
  have hcl := jI_cl hz.1 (by omega)
  have hcell : H[n0 + k]? = some (vp_cell (G.2 1) (n, .inl g)) := h1.2 k (n0 + k, .inl (G.2 1, n, .inl g)) (by rw [wl_at hk, he])
  refine W.zast X.1 X.2.1 hcell ((X.2.2.2.2.2.1.1.2 1 (G.2 1, _) rfl).1 n (fun j => .int (g j))) (fun q => by cases q) (by show ¬ (jI z < 0 ∨ (arrV _ _ _).slots.size ≤ _); rw [arrV_size]; exact hin) rfl rfl hd fun H1 e1 e2 e3 => ?_
  refine kk H1 _ ls (Wd_set (e0 := f k) h1 hk e2 ?_ e3) (h2.put e2 e3 (Nat.le_add_right _ _)) h3
  show H1[n0 + k]? = some (vp_cell _ _)
  rw [e1, hcl]
  rw [vp_cell_i, vp_cell_i, arrV_store]
  congr 2
  funext q
  have hx2 : narrow .boolean (.int x) = .int x := by
    have := hx
    unfold vp_nar at this
    revert this
    cases hh : narrow FieldType.boolean (Value.int x) <;> intro this <;> first | (simp at this; rw [this]) | (simp [narrow] at hh)
  by_cases hq : q = z.toNat
  · subst hq
    simp [updV, upd, hx2]
  · simp [updV, upd, hq]
theorem w_aast (X : Cx G n0 p s m args meth c cc own nL) {k k2 n t ci : Nat} {r : vw_C} {vs : List Value} {g : Nat → Option Nat} {z : Int} (hk : k < N) (hk2 : k2 < N) (he : f k = .inl (G.2 t, n, .inr (.inr (.inr (.inr g))))) (ht : (tyG G)[t]? = some (G.2 t, .object r.1)) (hv : f k2 = .inr (ci, vs)) (hc : vwCl[ci]? = some r) (hd : decode cc pc = .ok (.aastore, 1)) (kk : WW p l e R s m args below meth c Q G n0 nL N (va_up f k (.inl (G.2 t, n, .inr (.inr (.inr (.inr (va_up g z.toNat (some (n0 + k2)))))))))  cells slots (pc + 1) L st) (hz : 0 ≤ z ∧ z < n := by omega) (hn : n < 2147483648 := by decide) : WW p l e R s m args below meth c Q G n0 nL N f cells slots pc L (.ref (n0 + k2) :: .int (jI z) :: .ref (n0 + k) :: st) := fun H locs ls h1 h2 h3 => by
  have hin := jI_in hz.1 hz.2 hn
  have hcl := jI_cl hz.1 (by omega)
  have hlt : (jI z).toNatClampNeg < n := by rw [hcl]; omega
  have h0 : ¬ jI z < 0 := fun q => hin (Or.inl q)
  have hK := X.2.2.2.2.2.1.1
  obtain ⟨r', hr', cellV, g1, g2, g3, -⟩ := h1.2 k2 _ (by rw [wl_at hk2, hv])
  have hcls := (hK.1 ci r hc).2
  obtain ⟨kA, comp, k1, k2', k3, -⟩ := (hK.2 t _ ht).2
  have hcomp : comp = G.1.1 ci := Option.some.inj (k3.symm.trans hcls.1)
  subst hcomp
  obtain ⟨kC, hkC, -⟩ := hcls.2
  have hcell : H[n0 + k]? = some (vp_cell (G.2 t) (n, .inr (.inr (.inr (.inr g))))) := h1.2 k (n0 + k, .inl (G.2 t, n, .inr (.inr (.inr (.inr g))))) (by rw [wl_at hk, he])
  refine W.aast X.1 X.2.1 hcell (fun q h => by cases h) (fun h => by cases h) k1 k2' rfl hkC ⟨h0, by show _ < (arrV _ _ _).slots.size; rw [arrV_size]; exact hlt⟩ g1 (fun q h => by rw [g3] at h; cases h) (by rw [g2]; exact hkC) (by rw [g2]; exact va_assign hcls) rfl rfl hd fun H1 e1 e2 e3 => ?_
  refine kk H1 _ ls (Wd_set (e0 := f k) h1 hk e2 ?_ e3) (h2.put e2 e3 (Nat.le_add_right _ _)) h3
  show H1[n0 + k]? = some (vp_cell _ _)
  rw [e1, hcl]
  rw [vp_cell_q, vp_cell_q, arrV_store]
  congr 2
  funext q
  by_cases hq : q = z.toNat
  · subst hq
    simp [updV, va_up, va_rf]
  · simp [updV, va_up, hq]
theorem w_mmax (X : Cx G n0 p s m args meth c cc own nL) {index : Nat} {a b : Int} (hw : Cond.methodLink own index Lib.Math.max.name ∈ lw_w) (hR : 1 ≤ R.frames ∧ 40 ≤ R.locals) (hcs : cells ≤ R.cells ∧ slots ≤ R.slots) (hst : (st.map fun v => v.category).sum ≤ 8) (hd : decode cc pc = .ok (.invokestatic index, 3)) (kk : ∀ z : Int, (a < b ∧ z = b ∨ b ≤ a ∧ z = a) → WW p l e R s m args below meth c Q G n0 nL N f cells slots (pc + 3) L (.int (jI z) :: st)) (ha : rg a := by first | assumption | (refine ⟨?_, ?_⟩ <;> omega)) (hb : rg b := by first | assumption | (refine ⟨?_, ?_⟩ <;> omega)) : WW p l e R s m args below meth c Q G n0 nL N f cells slots pc L (.int (jI b) :: .int (jI a) :: st) := fun H locs ls h1 h2 h3 => by
  have hts : ∀ w ∈ lw_w, w.before args s = true := fun w hw => X.2.2.2.2.1 w hw
  refine va_mmax X.1 X.2.1 (X.2.2.1.trans h3.2.1.symm) X.2.2.2.1 (hts _ hw) (hts _ gT_Lib_Math_max_name) (hts _ gN_J) (hts _ gC_Lib_Math_max_name) hR.1 (by omega) hcs.1 hcs.2 hd ?_
  by_cases h : a < b
  · rw [if_pos ((jI_lt ha hb).mpr h)]
    exact kk b (Or.inl ⟨h, rfl⟩) H locs ls h1 h2 h3
  · rw [if_neg (fun q => h ((jI_lt ha hb).mp q))]
    exact kk a (Or.inr ⟨by omega, rfl⟩) H locs ls h1 h2 h3
theorem WW.congr {g : Nat → va_E} (h : ∀ k, k < N → f k = g k) (kk : WW p l e R s m args below meth c Q G n0 nL N g cells slots pc L st) : WW p l e R s m args below meth c Q G n0 nL N f cells slots pc L st := fun H locs ls h1 h2 h3 => kk H locs ls ⟨h1.1, by rw [← wl_congr h]; exact h1.2⟩ h2 h3
theorem WW.eqf {g : Nat → va_E} (h : f = g) (kk : WW p l e R s m args below meth c Q G n0 nL N g cells slots pc L st) : WW p l e R s m args below meth c Q G n0 nL N f cells slots pc L st := h ▸ kk
end Rows
