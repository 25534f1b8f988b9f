/-! how both objects stand when they have been made -/
def L00 : Lws := (2, 0, 0, fun _ _ => 0, fun _ => (0, 0, 0, 0, 0))
def H00 : V5 := (0, 0, 0, 0, 0)
theorem H00_j {j : Nat} (hj : j < 5) : F5 H00 j = 0 := F5_T5 (fun _ => 0) hj
theorem a_in (G : Gt) (n0 : Nat) {c : Nat} (h : isCr c) : σ G n0 mi0 mr0 (c + 1) = .inl (G.2 0, 5, .inl (fun _ => 0)) := by
  rw [σ_in G n0 mi0 mr0 h, mi0_f (mi0_0 (by unfold isCr at h; omega) (by unfold isCr at h; omega) (by unfold isCr at h; omega) (by unfold isCr at h; omega) (by unfold isCr at h; omega))]
theorem a_go (G : Gt) (n0 : Nat) {c : Nat} (h : isRu c) : σ G n0 mi0 mr0 (c + 1) = .inl (G.2 0, 5, .inl (fun _ => 0)) := by
  rw [σ_go G n0 mi0 mr0 h, mi0_f (mi0_0 (by unfold isRu at h; omega) (by unfold isRu at h; omega) (by unfold isRu at h; omega) (by unfold isRu at h; omega) (by unfold isRu at h; omega))]
theorem a_ru (G : Gt) (n0 : Nat) {k : Nat} (h : isRu k) : σ G n0 mi0 mr0 k = .inr (6, [.ref (n0 + (k + 1)), .int (jI 0), .int (jI 0), .int (jI 0), .int (jI (-9)), .int (jI (-9)), .int (jI (-9)), .int (jI (-9))]) := by
  obtain ⟨a, b, c, d, e, f, g⟩ := mi0_r h
  rw [σ_ru G n0 mi0 mr0 h, a, b, c, d, e, f, g]
theorem a_ar (k n t : Nat) (G : Gt) (n0 : Nat) (hs : σ G n0 mi0 mr0 k = .inl (G.2 t, n, .inl (fun j => jI (mi0 k j)))) (h1 : k ≠ 1) (h2 : k ≠ 44) (h3 : k ≠ 461) (h4 : k ≠ 473) (h5 : ¬ (6 ≤ k ∧ k < 30 ∧ k % 2 = 0)) : σ G n0 mi0 mr0 k = .inl (G.2 t, n, .inl (fun _ => 0)) := by
  rw [hs, mi0_f (mi0_0 h1 h2 h3 h4 h5)]
theorem s_X7 {l : Launch} (G : Gt) (n0 : Nat) : In l yX7_init cX7_init 1 4 472 11514 G n0 [.ref (n0 + 0)] 1 (va_up (σ G n0 mi0 mr0) 0 (.inr (7, [.null, .null, .null, .null]))) 473 (σ G n0 mi0 mr0) := by
  have cr := fun (k : Nat) (h : isCr k) => σ_cr G n0 mi0 mr0 h
  have c51 : ∀ i : Nat, i < 101 → isCr (51 + 3 + 2 * i) := fun i hi => by unfold isCr; omega
  have c256 : ∀ i : Nat, i < 101 → isCr (256 + 3 + 2 * i) := fun i hi => by unfold isCr; omega
  refine i_X7 (σ_0 G n0 mi0 mr0) (σ_1 G n0 mi0 mr0) (σ_2 G n0 mi0 mr0) (σ_3 G n0 mi0 mr0) (cr 4 cr_4) (a_in G n0 cr_4) (fun i hi => a_ru G n0 (ru_2 hi)) (fun i hi => a_go G n0 (ru_2 hi)) (fun i hi => cr _ (cr_3 hi)) (fun i hi => a_in G n0 (cr_3 hi)) (cr 42 cr_42) (a_in G n0 cr_42) (σ_44 G n0 mi0 mr0) (σ_45 G n0 mi0 mr0) ?_ (cr 47 cr_47) (a_in G n0 cr_47) (cr 49 cr_49) (a_in G n0 cr_49) (σ_bs G n0 mi0 mr0 (Or.inl rfl)) ?_ ?_ (fun i hi => cr _ (c51 i hi)) (fun i hi => a_in G n0 (c51 i hi)) (σ_bs G n0 mi0 mr0 (Or.inr rfl)) ?_ ?_ (fun i hi => cr _ (c256 i hi)) (fun i hi => a_in G n0 (c256 i hi)) (σ_461 G n0 mi0 mr0) (cr 462 cr_462) (a_in G n0 cr_462) (cr 464 cr_464) (a_in G n0 cr_464) ?_ ?_ ?_ ?_ (σ_469 G n0 mi0 mr0) ?_ ?_
  · exact a_ar 46 1200 0 G n0 (σ_46 G n0 mi0 mr0) (by decide) (by decide) (by decide) (by decide) (by decide)
  · exact (σ_rows G n0 mi0 mr0 (k := 52) (Or.inl rfl))
  · exact a_ar 53 101 1 G n0 (σ_fresh G n0 mi0 mr0 (Or.inl rfl)) (by decide) (by decide) (by decide) (by decide) (by decide)
  · exact (σ_rows G n0 mi0 mr0 (k := 257) (Or.inr rfl))
  · exact a_ar 258 101 1 G n0 (σ_fresh G n0 mi0 mr0 (Or.inr rfl)) (by decide) (by decide) (by decide) (by decide) (by decide)
  · exact a_ar 466 495 0 G n0 (σ_f4 G n0 mi0 mr0 (by decide)) (by decide) (by decide) (by decide) (by decide) (by decide)
  · exact a_ar 467 495 0 G n0 (σ_f4 G n0 mi0 mr0 (by decide)) (by decide) (by decide) (by decide) (by decide) (by decide)
  · exact a_ar 468 495 0 G n0 (σ_f4 G n0 mi0 mr0 (by decide)) (by decide) (by decide) (by decide) (by decide) (by decide)
  · exact a_ar 472 495 0 G n0 (σ_f4 G n0 mi0 mr0 (by decide)) (by decide) (by decide) (by decide) (by decide) (by decide)
  · exact a_ar 470 5940 0 G n0 (σ_470 G n0 mi0 mr0) (by decide) (by decide) (by decide) (by decide) (by decide)
  · exact a_ar 471 495 1 G n0 (σ_471 G n0 mi0 mr0) (by decide) (by decide) (by decide) (by decide) (by decide)
theorem s_X8 {l : Launch} (G : Gt) (n0 : Nat) : In l yX8_init cX8_init 1 1 18 61693 G n0 [.ref (n0 + 473)] 474 (va_up (σ G n0 mi0 mr0) 473 (.inr (8, [.int 0, .int 0, .int 0, .int 0, .null, .null, .null, .null, .null, .null, .null, .int 0, .null, .null, .int 0, .int 0, .int 0, .null, .int 0, .null, .null, .null, .null, .int 0, .null, .null, .null, .null]))) 492 (σ G n0 mi0 mr0) := by
  have m12 := fun (k : Nat) (h : 474 ≤ k ∧ k ≤ 480) => a_ar k 12 0 G n0 (σ_m12 G n0 mi0 mr0 h) (by omega) (by omega) (by omega) (by omega) (by omega)
  have m5 := fun (k : Nat) (h : k = 482 ∨ k = 485 ∨ k = 486 ∨ k = 487) => a_ar k 5 0 G n0 (σ_m5 G n0 mi0 mr0 h) (by omega) (by omega) (by omega) (by omega) (by omega)
  have m505 := fun (k : Nat) (h : k = 483 ∨ k = 484) => a_ar k 505 0 G n0 (σ_m505 G n0 mi0 mr0 h) (by omega) (by omega) (by omega) (by omega) (by omega)
  have m500 := fun (k : Nat) (h : k = 488 ∨ k = 490) => a_ar k 500 0 G n0 (σ_m500 G n0 mi0 mr0 h) (by omega) (by omega) (by omega) (by omega) (by omega)
  exact i_X8 (σ_473 G n0 mi0 mr0) (m12 474 (by decide)) (m12 475 (by decide)) (m12 476 (by decide)) (m12 477 (by decide)) (m12 478 (by decide)) (m12 479 (by decide)) (m12 480 (by decide)) (a_ar 481 30 0 G n0 (σ_481 G n0 mi0 mr0) (by decide) (by decide) (by decide) (by decide) (by decide)) (m5 482 (by decide)) (m505 483 (by decide)) (m505 484 (by decide)) (m5 485 (by decide)) (m5 486 (by decide)) (m5 487 (by decide)) (m500 488 (by decide)) (a_ar 489 59049 0 G n0 (σ_489 G n0 mi0 mr0) (by decide) (by decide) (by decide) (by decide) (by decide)) (m500 490 (by decide)) (a_ar 491 500 1 G n0 (σ_491 G n0 mi0 mr0) (by decide) (by decide) (by decide) (by decide) (by decide))
theorem BO_m {b : Nat} (hb : isBs b) (h2 : mi0 b 2 = 0) (h3 : mi0 b 3 = 0) (hr : ∀ i, mr0 (b + 1) i = b + 3 + 2 * i) : BO mi0 mr0 b := by
  refine ⟨hb, by omega, fun i hi => by rw [hr i]; omega, fun i j hi hj e => by rw [hr i, hr j] at e; omega, fun i hi => by omega, fun i hi => by omega, by omega, by omega⟩
theorem CV_0 : CV mi0 L00 1 H00 (-3) mi0 mr0 := by
  have e13 : mi0 1 3 = 2 := rfl
  have e14 : mi0 1 4 = 1 := rfl
  have e15 : mi0 1 5 = 0 := rfl
  have e16 : mi0 1 6 = 0 := rfl
  refine ⟨⟨by omega, by omega, by omega, by omega, fun i hi => by omega, fun i hi => by omega⟩, ⟨by decide, fun j hj => absurd hj (by show ¬ (j : Int) < 0; omega), fun j hj => absurd hj (by show ¬ (j : Int) < 0; omega)⟩, ⟨rfl, rfl, rfl, fun j hj => by omega, fun j hj => by omega⟩, rfl, ⟨⟨fun j hj _ => H00_j hj, fun j hj => by rw [H00_j hj]; exact Int.le_refl _, rfl⟩, by decide, fun j hj => by rw [H00_j hj]; exact mi0_0 (by decide) (by decide) (by decide) (by decide) (by decide) j⟩, ⟨51, 256, Or.inl ⟨rfl, rfl⟩, rfl, rfl, BO_m (Or.inl rfl) rfl rfl (fun i => rfl), BO_m (Or.inr rfl) rfl rfl (fun i => rfl), Or.inl rfl⟩, rfl, fun a _ => rfl, Or.inl rfl, fun z h1 h2 h3 => ?_⟩
  have : mi0 461 9 = -9 := rfl
  omega
theorem MV_0 : MV L00 1 H00 (-3) mi0 := ⟨⟨rfl, rfl, rfl, fun k hk => absurd hk (by show ¬ (k : Int) < 0; omega), fun b hb => absurd hb (by show ¬ (b : Int) < 0; omega)⟩, rfl, fun j hj => by rw [H00_j hj]; exact mi0_0 (by decide) (by decide) (by decide) (by decide) (by decide) j, Or.inl ⟨rfl, rfl⟩⟩
theorem AV_of {K : Nat → Nat → Int} {L : Lws} {set : Int} {H : V5} {o : Int} {mi : Nat → Nat → Int} {mr : Nat → Nat → Nat} (h : CV K L set H o mi mr) : AV L set H := by
  obtain ⟨a1, a2, a3, a4, a5, -⟩ := h
  have b1 := a1.2.1
  have b2 := a1.2.2.1
  have b3 := a1.2.2.2.1
  have c2 := a3.2.1
  have c3 := a3.2.2.1
  exact ⟨⟨a2, by omega, by omega⟩, by omega, a5.1, a5.2.1⟩
theorem CV_fm {K K' : Nat → Nat → Int} {L : Lws} {set : Int} {H : V5} {o : Int} {mi mi' : Nat → Nat → Int} {mr : Nat → Nat → Nat} (h : CV K L set H o mi mr) (hf : ∀ a, a < 473 → mi' a = mi a) (hK : ∀ a, 472 < a → mi' a = K' a) : CV K' L set H o mi' mr := by
  obtain ⟨a1, a2, a3, a4, a5, a6, a7, -, a9⟩ := h
  exact ⟨LW_fr a1 (fun a ha _ _ => hf a (by omega)), a2, LwC_fr a1 a3 (fun a ha _ _ => hf a (by omega)), by rw [hf 1 (by omega)]; exact a4, ⟨a5.1, a5.2.1, by rw [hf 43 (by omega)]; exact a5.2.2⟩, SkP_fr a6 (fun a _ h2 => hf a (by omega)), by rw [hf 44 (by omega)]; exact a7, hK, by rw [hf 461 (by omega)]; exact a9.1, fun z q1 q2 q3 => by rw [hf 461 (by omega)] at q3; exact FD_fr (a9.2 z q1 q2 q3) (fun a ha _ _ => hf a (by omega)) (hf 461 (by omega))⟩
theorem MV_K {K : Nat → Nat → Int} {L : Lws} {set : Int} {H : V5} {o : Int} {mi : Nat → Nat → Int} (h : MV L set H o K) (hf : ∀ a, 472 < a → mi a = K a) : MV L set H o mi := MV_fr h (fun j _ _ _ => by rw [hf 473 (by decide)]) (fun a h1 h2 => hf a (by omega))
