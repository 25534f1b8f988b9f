/-! the machine's tables for this world; both objects as they are made -/
theorem KK_mk {s : State} {args : Array Value} (hts : ∀ w ∈ lw_w, w.before args s = true) : ∃ G : Gt, KK G s := by
  obtain ⟨c0, i0, h0⟩ := u_known hts gW_X0 (hts _ gB_X0)
  obtain ⟨c1, i1, h1⟩ := u_known hts gW_X1 (hts _ gB_X1)
  obtain ⟨c2, i2, h2⟩ := u_known hts gW_X2 (hts _ gB_X2)
  obtain ⟨c3, i3, h3⟩ := u_known hts gW_X3 (hts _ gB_X3)
  obtain ⟨c4, i4, h4⟩ := u_known hts gW_X4 (hts _ gB_X4)
  obtain ⟨c5, i5, h5⟩ := u_known hts gW_X5 (hts _ gB_X5)
  obtain ⟨c6, i6, h6⟩ := u_known hts gW_X6 (hts _ gB_X6)
  obtain ⟨c7, i7, h7⟩ := u_known hts gW_X7 (hts _ gB_X7)
  obtain ⟨c8, i8, h8⟩ := u_known hts gW_X8 (hts _ gB_X8)
  obtain ⟨a0, k0, p0, f0, g0, e0⟩ := Cond.arrayClass_spec (hts _ gA_38)
  obtain ⟨a1, k1, p1, f1, g1, e1⟩ := Cond.arrayClass_spec (hts _ gA_162)
  obtain ⟨p2, a2, k2, f2, -, g2, e2, n2⟩ := Cond.arrayOver_spec (hts _ gA_28)
  obtain ⟨p3, a3, k3, f3, -, g3, e3, n3⟩ := Cond.arrayOver_spec (hts _ gA_26)
  refine ⟨((fun c => match c with | 0 => c0 | 1 => c1 | 2 => c2 | 3 => c3 | 4 => c4 | 5 => c5 | 6 => c6 | 7 => c7 | _ => c8, fun c => match c with | 0 => i0 | 1 => i1 | 2 => i2 | 3 => i3 | 4 => i4 | 5 => i5 | 6 => i6 | 7 => i7 | _ => i8), fun t => match t with | 0 => a0 | 1 => a1 | 2 => a2 | _ => a3), ⟨fun c q hq => ?_, fun k q hk => ?_⟩, fun w hw => ?_⟩
  · rcases (show c = 0 ∨ c = 1 ∨ c = 2 ∨ c = 3 ∨ c = 4 ∨ c = 5 ∨ c = 6 ∨ c = 7 ∨ c = 8 ∨ 9 ≤ c by omega) with rfl | rfl | rfl | rfl | rfl | rfl | rfl | rfl | rfl | hc
    · cases hq; exact h0
    · cases hq; exact h1
    · cases hq; exact h2
    · cases hq; exact h3
    · cases hq; exact h4
    · cases hq; exact h5
    · cases hq; exact h6
    · cases hq; exact h7
    · cases hq; exact h8
    · rw [List.getElem?_eq_none (by simpa using hc)] at hq; cases hq
  · rcases (show k = 0 ∨ k = 1 ∨ k = 2 ∨ k = 3 ∨ 4 ≤ k by omega) with rfl | rfl | rfl | rfl | hc
    · cases hk; exact ⟨fun n z => ⟨fun k h => (by cases h), k0, g0, p0, e0⟩, f0⟩
    · cases hk; exact ⟨fun n z => ⟨fun k h => (by cases h), k1, g1, p1, e1⟩, f1⟩
    · cases hk; exact ⟨fun n z => ⟨fun k h => (by cases h), k2, g2, p2, e2⟩, k2, p2, g2, e2, f2, n2⟩
    · cases hk; exact ⟨fun n z => ⟨fun k h => (by cases h), k3, g3, p3, e3⟩, k3, p3, g3, e3, f3, n3⟩
    · rw [List.getElem?_eq_none (by simpa using hc)] at hk; cases hk
  · have hb := hts w (List.mem_filter.mp hw).1
    have hn := (List.mem_filter.mp hw).2
    cases w <;> try (simp [isNest] at hn; done)
    · exact va_tabs rfl rfl hb
    · exact va_tabs rfl rfl hb
    · rename_i t
      cases t <;> try (simp [isNest] at hn; done)
      exact va_AO.of hb
def mi0 (k j : Nat) : Int := if k = 1 then (if j = 3 then 2 else if j = 4 then 1 else 0) else if k = 44 then (if j = 6 then -3 else 0) else if k = 461 then (if j = 9 ∨ j = 12 then -9 else 0) else if k = 473 then (if j = 1 then 2 else if j = 2 then 1 else 0) else if 6 ≤ k ∧ k < 30 ∧ k % 2 = 0 ∧ 4 ≤ j then -9 else 0
def mr0 (k j : Nat) : Nat := if k = 44 then (if j = 4 then 51 else 256) else if k = 52 then 54 + 2 * j else 259 + 2 * j
theorem mi0_0 {k : Nat} (h1 : k ≠ 1) (h2 : k ≠ 44) (h3 : k ≠ 461) (h4 : k ≠ 473) (h5 : ¬ (6 ≤ k ∧ k < 30 ∧ k % 2 = 0)) (j : Nat) : mi0 k j = 0 := by
  unfold mi0
  rw [if_neg h1, if_neg h2, if_neg h3, if_neg h4, if_neg (fun w => h5 ⟨w.1, w.2.1, w.2.2.1⟩)]
theorem mi0_f {k : Nat} (h : ∀ j, mi0 k j = 0) : (fun j => jI (mi0 k j)) = fun _ => (0 : Int32) := funext (fun j => by rw [h j]; rfl)
theorem mi0_r {k : Nat} (h : isRu k) : mi0 k 1 = 0 ∧ mi0 k 2 = 0 ∧ mi0 k 3 = 0 ∧ mi0 k 4 = -9 ∧ mi0 k 5 = -9 ∧ mi0 k 6 = -9 ∧ mi0 k 7 = -9 := by
  unfold isRu at h
  unfold mi0
  rw [if_neg (by omega), if_neg (by omega), if_neg (by omega), if_neg (by omega), if_neg (by omega), if_neg (by omega), if_neg (by omega), if_neg (by omega), if_neg (by omega), if_neg (by omega), if_neg (by omega), if_neg (by omega), if_neg (by omega), if_neg (by omega), if_neg (by omega)]
  rw [if_neg (by omega), if_neg (by omega), if_neg (by omega), if_neg (by omega), if_pos (by omega), if_neg (by omega), if_neg (by omega), if_neg (by omega), if_neg (by omega), if_pos (by omega), if_neg (by omega), if_neg (by omega), if_neg (by omega), if_neg (by omega), if_pos (by omega), if_neg (by omega), if_neg (by omega), if_neg (by omega), if_neg (by omega), if_pos (by omega)]
  exact ⟨rfl, rfl, rfl, rfl, rfl, rfl, rfl⟩
