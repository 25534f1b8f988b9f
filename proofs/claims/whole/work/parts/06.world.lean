/-! the world once both objects are made: 492 cells at fixed places; mi: what is in each place of each cell as a number, mr: the places that may change and hold cells -/
def up2 {α : Type} (f : Nat → Nat → α) (k j : Nat) (z : α) : Nat → Nat → α := fun a b => if a = k ∧ b = j then z else f a b
theorem up2_s {α : Type} (f : Nat → Nat → α) (k j : Nat) (z : α) : up2 f k j z k j = z := by simp [up2]
theorem up2_j {α : Type} (f : Nat → Nat → α) (k j : Nat) (z : α) {b : Nat} (h : b ≠ j) : up2 f k j z k b = f k b := by simp [up2, h]
theorem up2_k {α : Type} (f : Nat → Nat → α) (k j : Nat) (z : α) {a : Nat} (h : a ≠ k) : up2 f k j z a = f a := by funext b; simp [up2, h]
theorem up2_a {α : Type} (f : Nat → Nat → α) (k j : Nat) (z : α) (a b : Nat) : up2 f k j z a b = if a = k ∧ b = j then z else f a b := rfl
theorem up2_add {mi : Nat → Nat → Int} {k : Nat} {g x : Int} (h : 0 ≤ g) (j : Nat) : up2 mi k g.toNat (mi k g.toNat + x) k j = mi k j + (if g = (j : Int) then x else 0) := by
  by_cases hj : j = g.toNat
  · have e : g = (j : Int) := by omega
    subst e
    simp [up2]
  · have e : ¬ g = (j : Int) := by omega
    simp [up2, hj, e]
def isCr (c : Nat) : Prop := c = 4 ∨ (30 ≤ c ∧ c < 42 ∧ c % 2 = 0) ∨ c = 42 ∨ c = 47 ∨ c = 49 ∨ (54 ≤ c ∧ c < 256 ∧ c % 2 = 0) ∨ (259 ≤ c ∧ c < 461 ∧ c % 2 = 1) ∨ c = 462 ∨ c = 464
def isRu (k : Nat) : Prop := 6 ≤ k ∧ k < 30 ∧ k % 2 = 0
def isBs (b : Nat) : Prop := b = 51 ∨ b = 256
theorem isCr_lt {c : Nat} (h : isCr c) : c < 491 := by unfold isCr at h; omega
theorem isRu_lt {c : Nat} (h : isRu c) : c < 491 := by unfold isRu at h; omega
theorem isBs_lt {c : Nat} (h : isBs c) : c < 480 := by unfold isBs at h; omega

def σ (G : Gt) (n0 : Nat) (mi : Nat → Nat → Int) (mr : Nat → Nat → Nat) (k : Nat) : va_E :=
  if k = 0 then .inr (7, [.ref (n0 + 1), .ref (n0 + 42), .ref (n0 + 44), .ref (n0 + 461)]) else
  if k = 1 then .inr (5, [.ref (n0 + 2), .ref (n0 + 3), .ref (n0 + 4), .int (jI (mi k 3)), .int (jI (mi k 4)), .int (jI (mi k 5)), .int (jI (mi k 6))]) else
  if k = 2 then .inl (G.2 3, 12, .inr (.inr (.inr (.inr (fun j => some (n0 + (6 + 2 * j))))))) else
  if k = 3 then .inl (G.2 2, 6, .inr (.inr (.inr (.inr (fun j => some (n0 + (30 + 2 * j))))))) else
  if k = 44 then .inr (0, [.ref (n0 + 1), .ref (n0 + 45), .ref (n0 + 47), .ref (n0 + 49), .ref (n0 + mr k 4), .ref (n0 + mr k 5), .int (jI (mi k 6))]) else
  if k = 45 then .inr (2, [.ref (n0 + 46)]) else
  if k = 46 then .inl (G.2 0, 1200, .inl (fun j => jI (mi k j))) else
  if k = 51 ∨ k = 256 then .inr (1, [.ref (n0 + (k + 1)), .ref (n0 + (k + 2)), .int (jI (mi k 2)), .int (jI (mi k 3))]) else
  if k = 52 ∨ k = 257 then .inl (G.2 2, 101, .inr (.inr (.inr (.inr (fun j => some (n0 + mr k j)))))) else
  if k = 53 ∨ k = 258 then .inl (G.2 1, 101, .inl (fun j => jI (mi k j))) else
  if k = 461 then .inr (4, [.ref (n0 + 1), .ref (n0 + 462), .ref (n0 + 464), .ref (n0 + 466), .ref (n0 + 467), .ref (n0 + 468), .ref (n0 + 469), .ref (n0 + 471), .ref (n0 + 472), .int (jI (mi k 9)), .int (jI (mi k 10)), .int (jI (mi k 11)), .int (jI (mi k 12))]) else
  if k = 466 ∨ k = 467 ∨ k = 468 ∨ k = 472 then .inl (G.2 0, 495, .inl (fun j => jI (mi k j))) else
  if k = 469 then .inr (2, [.ref (n0 + 470)]) else
  if k = 470 then .inl (G.2 0, 5940, .inl (fun j => jI (mi k j))) else
  if k = 471 then .inl (G.2 1, 495, .inl (fun j => jI (mi k j))) else
  if k = 473 then .inr (8, [.int (jI (mi k 0)), .int (jI (mi k 1)), .int (jI (mi k 2)), .int (jI (mi k 3)), .ref (n0 + 474), .ref (n0 + 475), .ref (n0 + 476), .ref (n0 + 477), .ref (n0 + 478), .ref (n0 + 479), .ref (n0 + 480), .int (jI (mi k 11)), .ref (n0 + 481), .ref (n0 + 482), .int (jI (mi k 14)), .int (jI (mi k 15)), .int (jI (mi k 16)), .ref (n0 + 483), .int (jI (mi k 18)), .ref (n0 + 484), .ref (n0 + 485), .ref (n0 + 486), .ref (n0 + 487), .int (jI (mi k 23)), .ref (n0 + 488), .ref (n0 + 489), .ref (n0 + 490), .ref (n0 + 491)]) else
  if 474 ≤ k ∧ k ≤ 480 then .inl (G.2 0, 12, .inl (fun j => jI (mi k j))) else
  if k = 481 then .inl (G.2 0, 30, .inl (fun j => jI (mi k j))) else
  if k = 483 ∨ k = 484 then .inl (G.2 0, 505, .inl (fun j => jI (mi k j))) else
  if k = 488 ∨ k = 490 then .inl (G.2 0, 500, .inl (fun j => jI (mi k j))) else
  if k = 489 then .inl (G.2 0, 59049, .inl (fun j => jI (mi k j))) else
  if k = 491 then .inl (G.2 1, 500, .inl (fun j => jI (mi k j))) else
  if 6 ≤ k ∧ k < 30 ∧ k % 2 = 0 then .inr (6, [.ref (n0 + (k + 1)), .int (jI (mi k 1)), .int (jI (mi k 2)), .int (jI (mi k 3)), .int (jI (mi k 4)), .int (jI (mi k 5)), .int (jI (mi k 6)), .int (jI (mi k 7))]) else
  if k = 4 ∨ (30 ≤ k ∧ k < 42 ∧ k % 2 = 0) ∨ k = 42 ∨ k = 47 ∨ k = 49 ∨ (54 ≤ k ∧ k < 256 ∧ k % 2 = 0) ∨ (259 ≤ k ∧ k < 461 ∧ k % 2 = 1) ∨ k = 462 ∨ k = 464 then .inr (3, [.ref (n0 + (k + 1))]) else
  .inl (G.2 0, 5, .inl (fun j => jI (mi k j)))
theorem σ_0 (G : Gt) (n0 : Nat) (mi : Nat → Nat → Int) (mr : Nat → Nat → Nat) : σ G n0 mi mr 0 = .inr (7, [.ref (n0 + 1), .ref (n0 + 42), .ref (n0 + 44), .ref (n0 + 461)]) := rfl
theorem σ_1 (G : Gt) (n0 : Nat) (mi : Nat → Nat → Int) (mr : Nat → Nat → Nat) : σ G n0 mi mr 1 = .inr (5, [.ref (n0 + 2), .ref (n0 + 3), .ref (n0 + 4), .int (jI (mi 1 3)), .int (jI (mi 1 4)), .int (jI (mi 1 5)), .int (jI (mi 1 6))]) := rfl
theorem σ_2 (G : Gt) (n0 : Nat) (mi : Nat → Nat → Int) (mr : Nat → Nat → Nat) : σ G n0 mi mr 2 = .inl (G.2 3, 12, .inr (.inr (.inr (.inr (fun j => some (n0 + (6 + 2 * j))))))) := rfl
theorem σ_3 (G : Gt) (n0 : Nat) (mi : Nat → Nat → Int) (mr : Nat → Nat → Nat) : σ G n0 mi mr 3 = .inl (G.2 2, 6, .inr (.inr (.inr (.inr (fun j => some (n0 + (30 + 2 * j))))))) := rfl
theorem σ_44 (G : Gt) (n0 : Nat) (mi : Nat → Nat → Int) (mr : Nat → Nat → Nat) : σ G n0 mi mr 44 = .inr (0, [.ref (n0 + 1), .ref (n0 + 45), .ref (n0 + 47), .ref (n0 + 49), .ref (n0 + mr 44 4), .ref (n0 + mr 44 5), .int (jI (mi 44 6))]) := rfl
theorem σ_45 (G : Gt) (n0 : Nat) (mi : Nat → Nat → Int) (mr : Nat → Nat → Nat) : σ G n0 mi mr 45 = .inr (2, [.ref (n0 + 46)]) := rfl
theorem σ_46 (G : Gt) (n0 : Nat) (mi : Nat → Nat → Int) (mr : Nat → Nat → Nat) : σ G n0 mi mr 46 = .inl (G.2 0, 1200, .inl (fun j => jI (mi 46 j))) := rfl
theorem σ_bs (G : Gt) (n0 : Nat) (mi : Nat → Nat → Int) (mr : Nat → Nat → Nat) {k : Nat} (h : isBs k) : σ G n0 mi mr k = .inr (1, [.ref (n0 + (k + 1)), .ref (n0 + (k + 2)), .int (jI (mi k 2)), .int (jI (mi k 3))]) := by
  have h := h
  try unfold isBs at h
  try unfold isRu at h
  try unfold isCr at h
  unfold σ
  rw [if_neg (by omega), if_neg (by omega), if_neg (by omega), if_neg (by omega), if_neg (by omega), if_neg (by omega), if_neg (by omega), if_pos (by omega)]
theorem σ_rows (G : Gt) (n0 : Nat) (mi : Nat → Nat → Int) (mr : Nat → Nat → Nat) {k : Nat} (h : k = 52 ∨ k = 257) : σ G n0 mi mr k = .inl (G.2 2, 101, .inr (.inr (.inr (.inr (fun j => some (n0 + mr k j)))))) := by
  have h := h
  try unfold isBs at h
  try unfold isRu at h
  try unfold isCr at h
  unfold σ
  rw [if_neg (by omega), if_neg (by omega), if_neg (by omega), if_neg (by omega), if_neg (by omega), if_neg (by omega), if_neg (by omega), if_neg (by omega), if_pos (by omega)]
theorem σ_fresh (G : Gt) (n0 : Nat) (mi : Nat → Nat → Int) (mr : Nat → Nat → Nat) {k : Nat} (h : k = 53 ∨ k = 258) : σ G n0 mi mr k = .inl (G.2 1, 101, .inl (fun j => jI (mi k j))) := by
  have h := h
  try unfold isBs at h
  try unfold isRu at h
  try unfold isCr at h
  unfold σ
  rw [if_neg (by omega), if_neg (by omega), if_neg (by omega), if_neg (by omega), if_neg (by omega), if_neg (by omega), if_neg (by omega), if_neg (by omega), if_neg (by omega), if_pos (by omega)]
theorem σ_461 (G : Gt) (n0 : Nat) (mi : Nat → Nat → Int) (mr : Nat → Nat → Nat) : σ G n0 mi mr 461 = .inr (4, [.ref (n0 + 1), .ref (n0 + 462), .ref (n0 + 464), .ref (n0 + 466), .ref (n0 + 467), .ref (n0 + 468), .ref (n0 + 469), .ref (n0 + 471), .ref (n0 + 472), .int (jI (mi 461 9)), .int (jI (mi 461 10)), .int (jI (mi 461 11)), .int (jI (mi 461 12))]) := rfl
theorem σ_f4 (G : Gt) (n0 : Nat) (mi : Nat → Nat → Int) (mr : Nat → Nat → Nat) {k : Nat} (h : k = 466 ∨ k = 467 ∨ k = 468 ∨ k = 472) : σ G n0 mi mr k = .inl (G.2 0, 495, .inl (fun j => jI (mi k j))) := by
  have h := h
  try unfold isBs at h
  try unfold isRu at h
  try unfold isCr at h
  unfold σ
  rw [if_neg (by omega), if_neg (by omega), if_neg (by omega), if_neg (by omega), if_neg (by omega), if_neg (by omega), if_neg (by omega), if_neg (by omega), if_neg (by omega), if_neg (by omega), if_neg (by omega), if_pos (by omega)]
theorem σ_469 (G : Gt) (n0 : Nat) (mi : Nat → Nat → Int) (mr : Nat → Nat → Nat) : σ G n0 mi mr 469 = .inr (2, [.ref (n0 + 470)]) := rfl
theorem σ_470 (G : Gt) (n0 : Nat) (mi : Nat → Nat → Int) (mr : Nat → Nat → Nat) : σ G n0 mi mr 470 = .inl (G.2 0, 5940, .inl (fun j => jI (mi 470 j))) := rfl
theorem σ_471 (G : Gt) (n0 : Nat) (mi : Nat → Nat → Int) (mr : Nat → Nat → Nat) : σ G n0 mi mr 471 = .inl (G.2 1, 495, .inl (fun j => jI (mi 471 j))) := rfl
theorem σ_473 (G : Gt) (n0 : Nat) (mi : Nat → Nat → Int) (mr : Nat → Nat → Nat) : σ G n0 mi mr 473 = .inr (8, [.int (jI (mi 473 0)), .int (jI (mi 473 1)), .int (jI (mi 473 2)), .int (jI (mi 473 3)), .ref (n0 + 474), .ref (n0 + 475), .ref (n0 + 476), .ref (n0 + 477), .ref (n0 + 478), .ref (n0 + 479), .ref (n0 + 480), .int (jI (mi 473 11)), .ref (n0 + 481), .ref (n0 + 482), .int (jI (mi 473 14)), .int (jI (mi 473 15)), .int (jI (mi 473 16)), .ref (n0 + 483), .int (jI (mi 473 18)), .ref (n0 + 484), .ref (n0 + 485), .ref (n0 + 486), .ref (n0 + 487), .int (jI (mi 473 23)), .ref (n0 + 488), .ref (n0 + 489), .ref (n0 + 490), .ref (n0 + 491)]) := rfl
theorem σ_m12 (G : Gt) (n0 : Nat) (mi : Nat → Nat → Int) (mr : Nat → Nat → Nat) {k : Nat} (h : 474 ≤ k ∧ k ≤ 480) : σ G n0 mi mr k = .inl (G.2 0, 12, .inl (fun j => jI (mi k j))) := by
  have h := h
  try unfold isBs at h
  try unfold isRu at h
  try unfold isCr at h
  unfold σ
  rw [if_neg (by omega), if_neg (by omega), if_neg (by omega), if_neg (by omega), if_neg (by omega), if_neg (by omega), if_neg (by omega), if_neg (by omega), if_neg (by omega), if_neg (by omega), if_neg (by omega), if_neg (by omega), if_neg (by omega), if_neg (by omega), if_neg (by omega), if_neg (by omega), if_pos (by omega)]
theorem σ_481 (G : Gt) (n0 : Nat) (mi : Nat → Nat → Int) (mr : Nat → Nat → Nat) : σ G n0 mi mr 481 = .inl (G.2 0, 30, .inl (fun j => jI (mi 481 j))) := rfl
theorem σ_m505 (G : Gt) (n0 : Nat) (mi : Nat → Nat → Int) (mr : Nat → Nat → Nat) {k : Nat} (h : k = 483 ∨ k = 484) : σ G n0 mi mr k = .inl (G.2 0, 505, .inl (fun j => jI (mi k j))) := by
  have h := h
  try unfold isBs at h
  try unfold isRu at h
  try unfold isCr at h
  unfold σ
  rw [if_neg (by omega), if_neg (by omega), if_neg (by omega), if_neg (by omega), if_neg (by omega), if_neg (by omega), if_neg (by omega), if_neg (by omega), if_neg (by omega), if_neg (by omega), if_neg (by omega), if_neg (by omega), if_neg (by omega), if_neg (by omega), if_neg (by omega), if_neg (by omega), if_neg (by omega), if_neg (by omega), if_pos (by omega)]
theorem σ_m500 (G : Gt) (n0 : Nat) (mi : Nat → Nat → Int) (mr : Nat → Nat → Nat) {k : Nat} (h : k = 488 ∨ k = 490) : σ G n0 mi mr k = .inl (G.2 0, 500, .inl (fun j => jI (mi k j))) := by
  have h := h
  try unfold isBs at h
  try unfold isRu at h
  try unfold isCr at h
  unfold σ
  rw [if_neg (by omega), if_neg (by omega), if_neg (by omega), if_neg (by omega), if_neg (by omega), if_neg (by omega), if_neg (by omega), if_neg (by omega), if_neg (by omega), if_neg (by omega), if_neg (by omega), if_neg (by omega), if_neg (by omega), if_neg (by omega), if_neg (by omega), if_neg (by omega), if_neg (by omega), if_neg (by omega), if_neg (by omega), if_pos (by omega)]
theorem σ_489 (G : Gt) (n0 : Nat) (mi : Nat → Nat → Int) (mr : Nat → Nat → Nat) : σ G n0 mi mr 489 = .inl (G.2 0, 59049, .inl (fun j => jI (mi 489 j))) := rfl
theorem σ_491 (G : Gt) (n0 : Nat) (mi : Nat → Nat → Int) (mr : Nat → Nat → Nat) : σ G n0 mi mr 491 = .inl (G.2 1, 500, .inl (fun j => jI (mi 491 j))) := rfl
theorem σ_ru (G : Gt) (n0 : Nat) (mi : Nat → Nat → Int) (mr : Nat → Nat → Nat) {k : Nat} (h : isRu k) : σ G n0 mi mr k = .inr (6, [.ref (n0 + (k + 1)), .int (jI (mi k 1)), .int (jI (mi k 2)), .int (jI (mi k 3)), .int (jI (mi k 4)), .int (jI (mi k 5)), .int (jI (mi k 6)), .int (jI (mi k 7))]) := by
  have h := h
  try unfold isBs at h
  try unfold isRu at h
  try unfold isCr at h
  unfold σ
  rw [if_neg (by omega), if_neg (by omega), if_neg (by omega), if_neg (by omega), if_neg (by omega), if_neg (by omega), if_neg (by omega), if_neg (by omega), if_neg (by omega), if_neg (by omega), if_neg (by omega), if_neg (by omega), if_neg (by omega), if_neg (by omega), if_neg (by omega), if_neg (by omega), if_neg (by omega), if_neg (by omega), if_neg (by omega), if_neg (by omega), if_neg (by omega), if_neg (by omega), if_pos (by omega)]
theorem σ_cr (G : Gt) (n0 : Nat) (mi : Nat → Nat → Int) (mr : Nat → Nat → Nat) {k : Nat} (h : isCr k) : σ G n0 mi mr k = .inr (3, [.ref (n0 + (k + 1))]) := by
  have h := h
  try unfold isBs at h
  try unfold isRu at h
  try unfold isCr at h
  unfold σ
  rw [if_neg (by omega), if_neg (by omega), if_neg (by omega), if_neg (by omega), if_neg (by omega), if_neg (by omega), if_neg (by omega), if_neg (by omega), if_neg (by omega), if_neg (by omega), if_neg (by omega), if_neg (by omega), if_neg (by omega), if_neg (by omega), if_neg (by omega), if_neg (by omega), if_neg (by omega), if_neg (by omega), if_neg (by omega), if_neg (by omega), if_neg (by omega), if_neg (by omega), if_neg (by omega), if_pos (by omega)]
theorem σ_in (G : Gt) (n0 : Nat) (mi : Nat → Nat → Int) (mr : Nat → Nat → Nat) {c : Nat} (h : isCr c) : σ G n0 mi mr (c + 1) = .inl (G.2 0, 5, .inl (fun j => jI (mi (c + 1) j))) := by
  have h := h
  try unfold isRu at h
  try unfold isCr at h
  unfold σ
  rw [if_neg (by omega), if_neg (by omega), if_neg (by omega), if_neg (by omega), if_neg (by omega), if_neg (by omega), if_neg (by omega), if_neg (by omega), if_neg (by omega), if_neg (by omega), if_neg (by omega), if_neg (by omega), if_neg (by omega), if_neg (by omega), if_neg (by omega), if_neg (by omega), if_neg (by omega), if_neg (by omega), if_neg (by omega), if_neg (by omega), if_neg (by omega), if_neg (by omega), if_neg (by omega), if_neg (by omega)]
theorem σ_go (G : Gt) (n0 : Nat) (mi : Nat → Nat → Int) (mr : Nat → Nat → Nat) {c : Nat} (h : isRu c) : σ G n0 mi mr (c + 1) = .inl (G.2 0, 5, .inl (fun j => jI (mi (c + 1) j))) := by
  have h := h
  try unfold isRu at h
  try unfold isCr at h
  unfold σ
  rw [if_neg (by omega), if_neg (by omega), if_neg (by omega), if_neg (by omega), if_neg (by omega), if_neg (by omega), if_neg (by omega), if_neg (by omega), if_neg (by omega), if_neg (by omega), if_neg (by omega), if_neg (by omega), if_neg (by omega), if_neg (by omega), if_neg (by omega), if_neg (by omega), if_neg (by omega), if_neg (by omega), if_neg (by omega), if_neg (by omega), if_neg (by omega), if_neg (by omega), if_neg (by omega), if_neg (by omega)]
theorem σ_m5 (G : Gt) (n0 : Nat) (mi : Nat → Nat → Int) (mr : Nat → Nat → Nat) {k : Nat} (h : k = 482 ∨ k = 485 ∨ k = 486 ∨ k = 487) : σ G n0 mi mr k = .inl (G.2 0, 5, .inl (fun j => jI (mi k j))) := by
  unfold σ
  rw [if_neg (by omega), if_neg (by omega), if_neg (by omega), if_neg (by omega), if_neg (by omega), if_neg (by omega), if_neg (by omega), if_neg (by omega), if_neg (by omega), if_neg (by omega), if_neg (by omega), if_neg (by omega), if_neg (by omega), if_neg (by omega), if_neg (by omega), if_neg (by omega), if_neg (by omega), if_neg (by omega), if_neg (by omega), if_neg (by omega), if_neg (by omega), if_neg (by omega), if_neg (by omega), if_neg (by omega)]
theorem σ_r1 (G : Gt) (n0 : Nat) (mi : Nat → Nat → Int) (mr : Nat → Nat → Nat) {b : Nat} (h : isBs b) : σ G n0 mi mr (b + 1) = .inl (G.2 2, 101, .inr (.inr (.inr (.inr (fun j => some (n0 + mr (b + 1) j)))))) := σ_rows G n0 mi mr (by unfold isBs at h; omega)
theorem σ_f1 (G : Gt) (n0 : Nat) (mi : Nat → Nat → Int) (mr : Nat → Nat → Nat) {b : Nat} (h : isBs b) : σ G n0 mi mr (b + 2) = .inl (G.2 1, 101, .inl (fun j => jI (mi (b + 2) j))) := σ_fresh G n0 mi mr (by unfold isBs at h; omega)
theorem σ_ext (G : Gt) (n0 : Nat) {mi mi' : Nat → Nat → Int} {mr mr' : Nat → Nat → Nat} {k : Nat} (h1 : mi' k = mi k) (h2 : mr' k = mr k) : σ G n0 mi' mr' k = σ G n0 mi mr k := by
  unfold σ
  rw [h1, h2]
theorem σ_up {G : Gt} {n0 : Nat} {mi mi' : Nat → Nat → Int} {mr mr' : Nat → Nat → Nat} {k : Nat} {e : va_E} (h1 : σ G n0 mi' mr' k = e) (h2 : ∀ a, a ≠ k → mi' a = mi a ∧ mr' a = mr a) : va_up (σ G n0 mi mr) k e = σ G n0 mi' mr' := by
  funext a
  by_cases ha : a = k
  · subst ha; simp [va_up, h1]
  · obtain ⟨g1, g2⟩ := h2 a ha
    rw [σ_ext G n0 g1 g2]
    simp [va_up, ha]
theorem σ_iast {G : Gt} {n0 : Nat} {mi : Nat → Nat → Int} {mr : Nat → Nat → Nat} {k n t : Nat} (he : ∀ mi', σ G n0 mi' mr k = .inl (G.2 t, n, .inl (fun j => jI (mi' k j)))) (i : Nat) (x : Int) : va_up (σ G n0 mi mr) k (.inl (G.2 t, n, .inl (upd (fun j => jI (mi k j)) i (jI x)))) = σ G n0 (up2 mi k i x) mr := by
  refine σ_up ?_ (fun a ha => ⟨up2_k mi k i x ha, rfl⟩)
  rw [he]
  congr 4
  funext j
  by_cases hj : j = i
  · subst hj; simp [up2, upd]
  · simp [up2, upd, hj]
theorem σ_aast {G : Gt} {n0 : Nat} {mi : Nat → Nat → Int} {mr : Nat → Nat → Nat} {k n t : Nat} (he : ∀ mr', σ G n0 mi mr' k = .inl (G.2 t, n, .inr (.inr (.inr (.inr (fun j => some (n0 + mr' k j))))))) (i : Nat) (x : Nat) : va_up (σ G n0 mi mr) k (.inl (G.2 t, n, .inr (.inr (.inr (.inr (va_up (fun j => some (n0 + mr k j)) i (some (n0 + x)))))))) = σ G n0 mi (up2 mr k i x) := by
  refine σ_up ?_ (fun a ha => ⟨rfl, up2_k mr k i x ha⟩)
  rw [he]
  congr 7
  funext j
  by_cases hj : j = i
  · subst hj; simp [up2, va_up]
  · simp [up2, va_up, hj]
theorem sp_1_3 {G : Gt} {n0 : Nat} {mi : Nat → Nat → Int} {mr : Nat → Nat → Nat}  (z : Int) : va_up (σ G n0 mi mr) 1 (.inr (5, List.set [.ref (n0 + 2), .ref (n0 + 3), .ref (n0 + 4), .int (jI (mi 1 3)), .int (jI (mi 1 4)), .int (jI (mi 1 5)), .int (jI (mi 1 6))] 3 (.int (jI z)))) = σ G n0 (up2 mi 1 3 z) mr := by
  refine σ_up ?_ (fun a ha => ⟨up2_k mi 1 3 z ha, rfl⟩)
  rw [σ_1 G n0 _ mr]
  simp [up2]
theorem sp_1_4 {G : Gt} {n0 : Nat} {mi : Nat → Nat → Int} {mr : Nat → Nat → Nat}  (z : Int) : va_up (σ G n0 mi mr) 1 (.inr (5, List.set [.ref (n0 + 2), .ref (n0 + 3), .ref (n0 + 4), .int (jI (mi 1 3)), .int (jI (mi 1 4)), .int (jI (mi 1 5)), .int (jI (mi 1 6))] 4 (.int (jI z)))) = σ G n0 (up2 mi 1 4 z) mr := by
  refine σ_up ?_ (fun a ha => ⟨up2_k mi 1 4 z ha, rfl⟩)
  rw [σ_1 G n0 _ mr]
  simp [up2]
theorem sp_1_5 {G : Gt} {n0 : Nat} {mi : Nat → Nat → Int} {mr : Nat → Nat → Nat}  (z : Int) : va_up (σ G n0 mi mr) 1 (.inr (5, List.set [.ref (n0 + 2), .ref (n0 + 3), .ref (n0 + 4), .int (jI (mi 1 3)), .int (jI (mi 1 4)), .int (jI (mi 1 5)), .int (jI (mi 1 6))] 5 (.int (jI z)))) = σ G n0 (up2 mi 1 5 z) mr := by
  refine σ_up ?_ (fun a ha => ⟨up2_k mi 1 5 z ha, rfl⟩)
  rw [σ_1 G n0 _ mr]
  simp [up2]
theorem sp_1_6 {G : Gt} {n0 : Nat} {mi : Nat → Nat → Int} {mr : Nat → Nat → Nat}  (z : Int) : va_up (σ G n0 mi mr) 1 (.inr (5, List.set [.ref (n0 + 2), .ref (n0 + 3), .ref (n0 + 4), .int (jI (mi 1 3)), .int (jI (mi 1 4)), .int (jI (mi 1 5)), .int (jI (mi 1 6))] 6 (.int (jI z)))) = σ G n0 (up2 mi 1 6 z) mr := by
  refine σ_up ?_ (fun a ha => ⟨up2_k mi 1 6 z ha, rfl⟩)
  rw [σ_1 G n0 _ mr]
  simp [up2]
theorem sp_44_6 {G : Gt} {n0 : Nat} {mi : Nat → Nat → Int} {mr : Nat → Nat → Nat}  (z : Int) : va_up (σ G n0 mi mr) 44 (.inr (0, List.set [.ref (n0 + 1), .ref (n0 + 45), .ref (n0 + 47), .ref (n0 + 49), .ref (n0 + mr 44 4), .ref (n0 + mr 44 5), .int (jI (mi 44 6))] 6 (.int (jI z)))) = σ G n0 (up2 mi 44 6 z) mr := by
  refine σ_up ?_ (fun a ha => ⟨up2_k mi 44 6 z ha, rfl⟩)
  rw [σ_44 G n0 _ mr]
  simp [up2]
theorem sp_bs_2 {G : Gt} {n0 : Nat} {mi : Nat → Nat → Int} {mr : Nat → Nat → Nat} {k : Nat} (h : isBs k) (z : Int) : va_up (σ G n0 mi mr) k (.inr (1, List.set [.ref (n0 + (k + 1)), .ref (n0 + (k + 2)), .int (jI (mi k 2)), .int (jI (mi k 3))] 2 (.int (jI z)))) = σ G n0 (up2 mi k 2 z) mr := by
  refine σ_up ?_ (fun a ha => ⟨up2_k mi k 2 z ha, rfl⟩)
  rw [σ_bs G n0 _ mr h]
  simp [up2]
theorem sp_bs_3 {G : Gt} {n0 : Nat} {mi : Nat → Nat → Int} {mr : Nat → Nat → Nat} {k : Nat} (h : isBs k) (z : Int) : va_up (σ G n0 mi mr) k (.inr (1, List.set [.ref (n0 + (k + 1)), .ref (n0 + (k + 2)), .int (jI (mi k 2)), .int (jI (mi k 3))] 3 (.int (jI z)))) = σ G n0 (up2 mi k 3 z) mr := by
  refine σ_up ?_ (fun a ha => ⟨up2_k mi k 3 z ha, rfl⟩)
  rw [σ_bs G n0 _ mr h]
  simp [up2]
theorem sp_461_9 {G : Gt} {n0 : Nat} {mi : Nat → Nat → Int} {mr : Nat → Nat → Nat}  (z : Int) : va_up (σ G n0 mi mr) 461 (.inr (4, List.set [.ref (n0 + 1), .ref (n0 + 462), .ref (n0 + 464), .ref (n0 + 466), .ref (n0 + 467), .ref (n0 + 468), .ref (n0 + 469), .ref (n0 + 471), .ref (n0 + 472), .int (jI (mi 461 9)), .int (jI (mi 461 10)), .int (jI (mi 461 11)), .int (jI (mi 461 12))] 9 (.int (jI z)))) = σ G n0 (up2 mi 461 9 z) mr := by
  refine σ_up ?_ (fun a ha => ⟨up2_k mi 461 9 z ha, rfl⟩)
  rw [σ_461 G n0 _ mr]
  simp [up2]
theorem sp_461_10 {G : Gt} {n0 : Nat} {mi : Nat → Nat → Int} {mr : Nat → Nat → Nat}  (z : Int) : va_up (σ G n0 mi mr) 461 (.inr (4, List.set [.ref (n0 + 1), .ref (n0 + 462), .ref (n0 + 464), .ref (n0 + 466), .ref (n0 + 467), .ref (n0 + 468), .ref (n0 + 469), .ref (n0 + 471), .ref (n0 + 472), .int (jI (mi 461 9)), .int (jI (mi 461 10)), .int (jI (mi 461 11)), .int (jI (mi 461 12))] 10 (.int (jI z)))) = σ G n0 (up2 mi 461 10 z) mr := by
  refine σ_up ?_ (fun a ha => ⟨up2_k mi 461 10 z ha, rfl⟩)
  rw [σ_461 G n0 _ mr]
  simp [up2]
theorem sp_461_11 {G : Gt} {n0 : Nat} {mi : Nat → Nat → Int} {mr : Nat → Nat → Nat}  (z : Int) : va_up (σ G n0 mi mr) 461 (.inr (4, List.set [.ref (n0 + 1), .ref (n0 + 462), .ref (n0 + 464), .ref (n0 + 466), .ref (n0 + 467), .ref (n0 + 468), .ref (n0 + 469), .ref (n0 + 471), .ref (n0 + 472), .int (jI (mi 461 9)), .int (jI (mi 461 10)), .int (jI (mi 461 11)), .int (jI (mi 461 12))] 11 (.int (jI z)))) = σ G n0 (up2 mi 461 11 z) mr := by
  refine σ_up ?_ (fun a ha => ⟨up2_k mi 461 11 z ha, rfl⟩)
  rw [σ_461 G n0 _ mr]
  simp [up2]
theorem sp_461_12 {G : Gt} {n0 : Nat} {mi : Nat → Nat → Int} {mr : Nat → Nat → Nat}  (z : Int) : va_up (σ G n0 mi mr) 461 (.inr (4, List.set [.ref (n0 + 1), .ref (n0 + 462), .ref (n0 + 464), .ref (n0 + 466), .ref (n0 + 467), .ref (n0 + 468), .ref (n0 + 469), .ref (n0 + 471), .ref (n0 + 472), .int (jI (mi 461 9)), .int (jI (mi 461 10)), .int (jI (mi 461 11)), .int (jI (mi 461 12))] 12 (.int (jI z)))) = σ G n0 (up2 mi 461 12 z) mr := by
  refine σ_up ?_ (fun a ha => ⟨up2_k mi 461 12 z ha, rfl⟩)
  rw [σ_461 G n0 _ mr]
  simp [up2]
theorem sp_473_0 {G : Gt} {n0 : Nat} {mi : Nat → Nat → Int} {mr : Nat → Nat → Nat}  (z : Int) : va_up (σ G n0 mi mr) 473 (.inr (8, List.set [.int (jI (mi 473 0)), .int (jI (mi 473 1)), .int (jI (mi 473 2)), .int (jI (mi 473 3)), .ref (n0 + 474), .ref (n0 + 475), .ref (n0 + 476), .ref (n0 + 477), .ref (n0 + 478), .ref (n0 + 479), .ref (n0 + 480), .int (jI (mi 473 11)), .ref (n0 + 481), .ref (n0 + 482), .int (jI (mi 473 14)), .int (jI (mi 473 15)), .int (jI (mi 473 16)), .ref (n0 + 483), .int (jI (mi 473 18)), .ref (n0 + 484), .ref (n0 + 485), .ref (n0 + 486), .ref (n0 + 487), .int (jI (mi 473 23)), .ref (n0 + 488), .ref (n0 + 489), .ref (n0 + 490), .ref (n0 + 491)] 0 (.int (jI z)))) = σ G n0 (up2 mi 473 0 z) mr := by
  refine σ_up ?_ (fun a ha => ⟨up2_k mi 473 0 z ha, rfl⟩)
  rw [σ_473 G n0 _ mr]
  simp [up2]
theorem sp_473_1 {G : Gt} {n0 : Nat} {mi : Nat → Nat → Int} {mr : Nat → Nat → Nat}  (z : Int) : va_up (σ G n0 mi mr) 473 (.inr (8, List.set [.int (jI (mi 473 0)), .int (jI (mi 473 1)), .int (jI (mi 473 2)), .int (jI (mi 473 3)), .ref (n0 + 474), .ref (n0 + 475), .ref (n0 + 476), .ref (n0 + 477), .ref (n0 + 478), .ref (n0 + 479), .ref (n0 + 480), .int (jI (mi 473 11)), .ref (n0 + 481), .ref (n0 + 482), .int (jI (mi 473 14)), .int (jI (mi 473 15)), .int (jI (mi 473 16)), .ref (n0 + 483), .int (jI (mi 473 18)), .ref (n0 + 484), .ref (n0 + 485), .ref (n0 + 486), .ref (n0 + 487), .int (jI (mi 473 23)), .ref (n0 + 488), .ref (n0 + 489), .ref (n0 + 490), .ref (n0 + 491)] 1 (.int (jI z)))) = σ G n0 (up2 mi 473 1 z) mr := by
  refine σ_up ?_ (fun a ha => ⟨up2_k mi 473 1 z ha, rfl⟩)
  rw [σ_473 G n0 _ mr]
  simp [up2]
theorem sp_473_2 {G : Gt} {n0 : Nat} {mi : Nat → Nat → Int} {mr : Nat → Nat → Nat}  (z : Int) : va_up (σ G n0 mi mr) 473 (.inr (8, List.set [.int (jI (mi 473 0)), .int (jI (mi 473 1)), .int (jI (mi 473 2)), .int (jI (mi 473 3)), .ref (n0 + 474), .ref (n0 + 475), .ref (n0 + 476), .ref (n0 + 477), .ref (n0 + 478), .ref (n0 + 479), .ref (n0 + 480), .int (jI (mi 473 11)), .ref (n0 + 481), .ref (n0 + 482), .int (jI (mi 473 14)), .int (jI (mi 473 15)), .int (jI (mi 473 16)), .ref (n0 + 483), .int (jI (mi 473 18)), .ref (n0 + 484), .ref (n0 + 485), .ref (n0 + 486), .ref (n0 + 487), .int (jI (mi 473 23)), .ref (n0 + 488), .ref (n0 + 489), .ref (n0 + 490), .ref (n0 + 491)] 2 (.int (jI z)))) = σ G n0 (up2 mi 473 2 z) mr := by
  refine σ_up ?_ (fun a ha => ⟨up2_k mi 473 2 z ha, rfl⟩)
  rw [σ_473 G n0 _ mr]
  simp [up2]
theorem sp_473_3 {G : Gt} {n0 : Nat} {mi : Nat → Nat → Int} {mr : Nat → Nat → Nat}  (z : Int) : va_up (σ G n0 mi mr) 473 (.inr (8, List.set [.int (jI (mi 473 0)), .int (jI (mi 473 1)), .int (jI (mi 473 2)), .int (jI (mi 473 3)), .ref (n0 + 474), .ref (n0 + 475), .ref (n0 + 476), .ref (n0 + 477), .ref (n0 + 478), .ref (n0 + 479), .ref (n0 + 480), .int (jI (mi 473 11)), .ref (n0 + 481), .ref (n0 + 482), .int (jI (mi 473 14)), .int (jI (mi 473 15)), .int (jI (mi 473 16)), .ref (n0 + 483), .int (jI (mi 473 18)), .ref (n0 + 484), .ref (n0 + 485), .ref (n0 + 486), .ref (n0 + 487), .int (jI (mi 473 23)), .ref (n0 + 488), .ref (n0 + 489), .ref (n0 + 490), .ref (n0 + 491)] 3 (.int (jI z)))) = σ G n0 (up2 mi 473 3 z) mr := by
  refine σ_up ?_ (fun a ha => ⟨up2_k mi 473 3 z ha, rfl⟩)
  rw [σ_473 G n0 _ mr]
  simp [up2]
theorem sp_473_11 {G : Gt} {n0 : Nat} {mi : Nat → Nat → Int} {mr : Nat → Nat → Nat}  (z : Int) : va_up (σ G n0 mi mr) 473 (.inr (8, List.set [.int (jI (mi 473 0)), .int (jI (mi 473 1)), .int (jI (mi 473 2)), .int (jI (mi 473 3)), .ref (n0 + 474), .ref (n0 + 475), .ref (n0 + 476), .ref (n0 + 477), .ref (n0 + 478), .ref (n0 + 479), .ref (n0 + 480), .int (jI (mi 473 11)), .ref (n0 + 481), .ref (n0 + 482), .int (jI (mi 473 14)), .int (jI (mi 473 15)), .int (jI (mi 473 16)), .ref (n0 + 483), .int (jI (mi 473 18)), .ref (n0 + 484), .ref (n0 + 485), .ref (n0 + 486), .ref (n0 + 487), .int (jI (mi 473 23)), .ref (n0 + 488), .ref (n0 + 489), .ref (n0 + 490), .ref (n0 + 491)] 11 (.int (jI z)))) = σ G n0 (up2 mi 473 11 z) mr := by
  refine σ_up ?_ (fun a ha => ⟨up2_k mi 473 11 z ha, rfl⟩)
  rw [σ_473 G n0 _ mr]
  simp [up2]
theorem sp_473_14 {G : Gt} {n0 : Nat} {mi : Nat → Nat → Int} {mr : Nat → Nat → Nat}  (z : Int) : va_up (σ G n0 mi mr) 473 (.inr (8, List.set [.int (jI (mi 473 0)), .int (jI (mi 473 1)), .int (jI (mi 473 2)), .int (jI (mi 473 3)), .ref (n0 + 474), .ref (n0 + 475), .ref (n0 + 476), .ref (n0 + 477), .ref (n0 + 478), .ref (n0 + 479), .ref (n0 + 480), .int (jI (mi 473 11)), .ref (n0 + 481), .ref (n0 + 482), .int (jI (mi 473 14)), .int (jI (mi 473 15)), .int (jI (mi 473 16)), .ref (n0 + 483), .int (jI (mi 473 18)), .ref (n0 + 484), .ref (n0 + 485), .ref (n0 + 486), .ref (n0 + 487), .int (jI (mi 473 23)), .ref (n0 + 488), .ref (n0 + 489), .ref (n0 + 490), .ref (n0 + 491)] 14 (.int (jI z)))) = σ G n0 (up2 mi 473 14 z) mr := by
  refine σ_up ?_ (fun a ha => ⟨up2_k mi 473 14 z ha, rfl⟩)
  rw [σ_473 G n0 _ mr]
  simp [up2]
theorem sp_473_15 {G : Gt} {n0 : Nat} {mi : Nat → Nat → Int} {mr : Nat → Nat → Nat}  (z : Int) : va_up (σ G n0 mi mr) 473 (.inr (8, List.set [.int (jI (mi 473 0)), .int (jI (mi 473 1)), .int (jI (mi 473 2)), .int (jI (mi 473 3)), .ref (n0 + 474), .ref (n0 + 475), .ref (n0 + 476), .ref (n0 + 477), .ref (n0 + 478), .ref (n0 + 479), .ref (n0 + 480), .int (jI (mi 473 11)), .ref (n0 + 481), .ref (n0 + 482), .int (jI (mi 473 14)), .int (jI (mi 473 15)), .int (jI (mi 473 16)), .ref (n0 + 483), .int (jI (mi 473 18)), .ref (n0 + 484), .ref (n0 + 485), .ref (n0 + 486), .ref (n0 + 487), .int (jI (mi 473 23)), .ref (n0 + 488), .ref (n0 + 489), .ref (n0 + 490), .ref (n0 + 491)] 15 (.int (jI z)))) = σ G n0 (up2 mi 473 15 z) mr := by
  refine σ_up ?_ (fun a ha => ⟨up2_k mi 473 15 z ha, rfl⟩)
  rw [σ_473 G n0 _ mr]
  simp [up2]
theorem sp_473_16 {G : Gt} {n0 : Nat} {mi : Nat → Nat → Int} {mr : Nat → Nat → Nat}  (z : Int) : va_up (σ G n0 mi mr) 473 (.inr (8, List.set [.int (jI (mi 473 0)), .int (jI (mi 473 1)), .int (jI (mi 473 2)), .int (jI (mi 473 3)), .ref (n0 + 474), .ref (n0 + 475), .ref (n0 + 476), .ref (n0 + 477), .ref (n0 + 478), .ref (n0 + 479), .ref (n0 + 480), .int (jI (mi 473 11)), .ref (n0 + 481), .ref (n0 + 482), .int (jI (mi 473 14)), .int (jI (mi 473 15)), .int (jI (mi 473 16)), .ref (n0 + 483), .int (jI (mi 473 18)), .ref (n0 + 484), .ref (n0 + 485), .ref (n0 + 486), .ref (n0 + 487), .int (jI (mi 473 23)), .ref (n0 + 488), .ref (n0 + 489), .ref (n0 + 490), .ref (n0 + 491)] 16 (.int (jI z)))) = σ G n0 (up2 mi 473 16 z) mr := by
  refine σ_up ?_ (fun a ha => ⟨up2_k mi 473 16 z ha, rfl⟩)
  rw [σ_473 G n0 _ mr]
  simp [up2]
theorem sp_473_18 {G : Gt} {n0 : Nat} {mi : Nat → Nat → Int} {mr : Nat → Nat → Nat}  (z : Int) : va_up (σ G n0 mi mr) 473 (.inr (8, List.set [.int (jI (mi 473 0)), .int (jI (mi 473 1)), .int (jI (mi 473 2)), .int (jI (mi 473 3)), .ref (n0 + 474), .ref (n0 + 475), .ref (n0 + 476), .ref (n0 + 477), .ref (n0 + 478), .ref (n0 + 479), .ref (n0 + 480), .int (jI (mi 473 11)), .ref (n0 + 481), .ref (n0 + 482), .int (jI (mi 473 14)), .int (jI (mi 473 15)), .int (jI (mi 473 16)), .ref (n0 + 483), .int (jI (mi 473 18)), .ref (n0 + 484), .ref (n0 + 485), .ref (n0 + 486), .ref (n0 + 487), .int (jI (mi 473 23)), .ref (n0 + 488), .ref (n0 + 489), .ref (n0 + 490), .ref (n0 + 491)] 18 (.int (jI z)))) = σ G n0 (up2 mi 473 18 z) mr := by
  refine σ_up ?_ (fun a ha => ⟨up2_k mi 473 18 z ha, rfl⟩)
  rw [σ_473 G n0 _ mr]
  simp [up2]
theorem sp_473_23 {G : Gt} {n0 : Nat} {mi : Nat → Nat → Int} {mr : Nat → Nat → Nat}  (z : Int) : va_up (σ G n0 mi mr) 473 (.inr (8, List.set [.int (jI (mi 473 0)), .int (jI (mi 473 1)), .int (jI (mi 473 2)), .int (jI (mi 473 3)), .ref (n0 + 474), .ref (n0 + 475), .ref (n0 + 476), .ref (n0 + 477), .ref (n0 + 478), .ref (n0 + 479), .ref (n0 + 480), .int (jI (mi 473 11)), .ref (n0 + 481), .ref (n0 + 482), .int (jI (mi 473 14)), .int (jI (mi 473 15)), .int (jI (mi 473 16)), .ref (n0 + 483), .int (jI (mi 473 18)), .ref (n0 + 484), .ref (n0 + 485), .ref (n0 + 486), .ref (n0 + 487), .int (jI (mi 473 23)), .ref (n0 + 488), .ref (n0 + 489), .ref (n0 + 490), .ref (n0 + 491)] 23 (.int (jI z)))) = σ G n0 (up2 mi 473 23 z) mr := by
  refine σ_up ?_ (fun a ha => ⟨up2_k mi 473 23 z ha, rfl⟩)
  rw [σ_473 G n0 _ mr]
  simp [up2]
theorem sp_ru_1 {G : Gt} {n0 : Nat} {mi : Nat → Nat → Int} {mr : Nat → Nat → Nat} {k : Nat} (h : isRu k) (z : Int) : va_up (σ G n0 mi mr) k (.inr (6, List.set [.ref (n0 + (k + 1)), .int (jI (mi k 1)), .int (jI (mi k 2)), .int (jI (mi k 3)), .int (jI (mi k 4)), .int (jI (mi k 5)), .int (jI (mi k 6)), .int (jI (mi k 7))] 1 (.int (jI z)))) = σ G n0 (up2 mi k 1 z) mr := by
  refine σ_up ?_ (fun a ha => ⟨up2_k mi k 1 z ha, rfl⟩)
  rw [σ_ru G n0 _ mr h]
  simp [up2]
theorem sp_ru_2 {G : Gt} {n0 : Nat} {mi : Nat → Nat → Int} {mr : Nat → Nat → Nat} {k : Nat} (h : isRu k) (z : Int) : va_up (σ G n0 mi mr) k (.inr (6, List.set [.ref (n0 + (k + 1)), .int (jI (mi k 1)), .int (jI (mi k 2)), .int (jI (mi k 3)), .int (jI (mi k 4)), .int (jI (mi k 5)), .int (jI (mi k 6)), .int (jI (mi k 7))] 2 (.int (jI z)))) = σ G n0 (up2 mi k 2 z) mr := by
  refine σ_up ?_ (fun a ha => ⟨up2_k mi k 2 z ha, rfl⟩)
  rw [σ_ru G n0 _ mr h]
  simp [up2]
theorem sp_ru_3 {G : Gt} {n0 : Nat} {mi : Nat → Nat → Int} {mr : Nat → Nat → Nat} {k : Nat} (h : isRu k) (z : Int) : va_up (σ G n0 mi mr) k (.inr (6, List.set [.ref (n0 + (k + 1)), .int (jI (mi k 1)), .int (jI (mi k 2)), .int (jI (mi k 3)), .int (jI (mi k 4)), .int (jI (mi k 5)), .int (jI (mi k 6)), .int (jI (mi k 7))] 3 (.int (jI z)))) = σ G n0 (up2 mi k 3 z) mr := by
  refine σ_up ?_ (fun a ha => ⟨up2_k mi k 3 z ha, rfl⟩)
  rw [σ_ru G n0 _ mr h]
  simp [up2]
theorem sp_ru_4 {G : Gt} {n0 : Nat} {mi : Nat → Nat → Int} {mr : Nat → Nat → Nat} {k : Nat} (h : isRu k) (z : Int) : va_up (σ G n0 mi mr) k (.inr (6, List.set [.ref (n0 + (k + 1)), .int (jI (mi k 1)), .int (jI (mi k 2)), .int (jI (mi k 3)), .int (jI (mi k 4)), .int (jI (mi k 5)), .int (jI (mi k 6)), .int (jI (mi k 7))] 4 (.int (jI z)))) = σ G n0 (up2 mi k 4 z) mr := by
  refine σ_up ?_ (fun a ha => ⟨up2_k mi k 4 z ha, rfl⟩)
  rw [σ_ru G n0 _ mr h]
  simp [up2]
theorem sp_ru_5 {G : Gt} {n0 : Nat} {mi : Nat → Nat → Int} {mr : Nat → Nat → Nat} {k : Nat} (h : isRu k) (z : Int) : va_up (σ G n0 mi mr) k (.inr (6, List.set [.ref (n0 + (k + 1)), .int (jI (mi k 1)), .int (jI (mi k 2)), .int (jI (mi k 3)), .int (jI (mi k 4)), .int (jI (mi k 5)), .int (jI (mi k 6)), .int (jI (mi k 7))] 5 (.int (jI z)))) = σ G n0 (up2 mi k 5 z) mr := by
  refine σ_up ?_ (fun a ha => ⟨up2_k mi k 5 z ha, rfl⟩)
  rw [σ_ru G n0 _ mr h]
  simp [up2]
theorem sp_ru_6 {G : Gt} {n0 : Nat} {mi : Nat → Nat → Int} {mr : Nat → Nat → Nat} {k : Nat} (h : isRu k) (z : Int) : va_up (σ G n0 mi mr) k (.inr (6, List.set [.ref (n0 + (k + 1)), .int (jI (mi k 1)), .int (jI (mi k 2)), .int (jI (mi k 3)), .int (jI (mi k 4)), .int (jI (mi k 5)), .int (jI (mi k 6)), .int (jI (mi k 7))] 6 (.int (jI z)))) = σ G n0 (up2 mi k 6 z) mr := by
  refine σ_up ?_ (fun a ha => ⟨up2_k mi k 6 z ha, rfl⟩)
  rw [σ_ru G n0 _ mr h]
  simp [up2]
theorem sp_ru_7 {G : Gt} {n0 : Nat} {mi : Nat → Nat → Int} {mr : Nat → Nat → Nat} {k : Nat} (h : isRu k) (z : Int) : va_up (σ G n0 mi mr) k (.inr (6, List.set [.ref (n0 + (k + 1)), .int (jI (mi k 1)), .int (jI (mi k 2)), .int (jI (mi k 3)), .int (jI (mi k 4)), .int (jI (mi k 5)), .int (jI (mi k 6)), .int (jI (mi k 7))] 7 (.int (jI z)))) = σ G n0 (up2 mi k 7 z) mr := by
  refine σ_up ?_ (fun a ha => ⟨up2_k mi k 7 z ha, rfl⟩)
  rw [σ_ru G n0 _ mr h]
  simp [up2]
theorem sq_44_4 {G : Gt} {n0 : Nat} {mi : Nat → Nat → Int} {mr : Nat → Nat → Nat} (z : Nat) : va_up (σ G n0 mi mr) 44 (.inr (0, List.set [.ref (n0 + 1), .ref (n0 + 45), .ref (n0 + 47), .ref (n0 + 49), .ref (n0 + mr 44 4), .ref (n0 + mr 44 5), .int (jI (mi 44 6))] 4 (.ref (n0 + z)))) = σ G n0 mi (up2 mr 44 4 z) := by
  refine σ_up ?_ (fun a ha => ⟨rfl, up2_k mr 44 4 z ha⟩)
  rw [σ_44]
  simp [up2]
theorem sq_44_5 {G : Gt} {n0 : Nat} {mi : Nat → Nat → Int} {mr : Nat → Nat → Nat} (z : Nat) : va_up (σ G n0 mi mr) 44 (.inr (0, List.set [.ref (n0 + 1), .ref (n0 + 45), .ref (n0 + 47), .ref (n0 + 49), .ref (n0 + mr 44 4), .ref (n0 + mr 44 5), .int (jI (mi 44 6))] 5 (.ref (n0 + z)))) = σ G n0 mi (up2 mr 44 5 z) := by
  refine σ_up ?_ (fun a ha => ⟨rfl, up2_k mr 44 5 z ha⟩)
  rw [σ_44]
  simp [up2]
/-! contracts and rows over it -/
def Pi (G : Gt) (n0 : Nat) (post : Int → (Nat → Nat → Int) → (Nat → Nat → Nat) → Prop) : Option Value → Nat → (Nat → va_E) → Prop := fun v N f => ∃ (r : Int) (mi' : Nat → Nat → Int) (mr' : Nat → Nat → Nat), v = some (.int (jI r)) ∧ N = 492 ∧ f = σ G n0 mi' mr' ∧ post r mi' mr'
def Pv (G : Gt) (n0 : Nat) (post : (Nat → Nat → Int) → (Nat → Nat → Nat) → Prop) : Option Value → Nat → (Nat → va_E) → Prop := fun v N f => ∃ (mi' : Nat → Nat → Int) (mr' : Nat → Nat → Nat), v = none ∧ N = 492 ∧ f = σ G n0 mi' mr' ∧ post mi' mr'
def Ci (l : Launch) (y : MethodName) (b : ByteArray) (nL : Nat) (ret : FieldType) (lv : Nat) (G : Gt) (n0 : Nat) (av : List Value) (mi : Nat → Nat → Int) (mr : Nat → Nat → Nat) (post : Int → (Nat → Nat → Int) → (Nat → Nat → Nat) → Prop) : Prop := Ct l y b nL (some ret) lv 0 0 G n0 av 492 (σ G n0 mi mr) (Pi G n0 post)
def Cv (l : Launch) (y : MethodName) (b : ByteArray) (nL : Nat) (lv : Nat) (G : Gt) (n0 : Nat) (av : List Value) (mi : Nat → Nat → Int) (mr : Nat → Nat → Nat) (post : (Nat → Nat → Int) → (Nat → Nat → Nat) → Prop) : Prop := Ct l y b nL none lv 0 0 G n0 av 492 (σ G n0 mi mr) (Pv G n0 post)
section SRows
variable {p : Program} {l : Launch} {e : Env} {R : Room} {s : State} {m : MethodId} {args : Array Value} {below : List Frame} {meth : Method} {c : Code} {Q : State → Prop} {G : Gt} {n0 nL : Nat} {mi : Nat → Nat → Int} {mr : Nat → Nat → Nat} {cells slots pc : Nat} {L : List (Option Value)} {st : List Value} {cc : ByteArray} {own : String}
theorem s_iald (X : Cx G n0 p s m args meth c cc own nL) {k n : Nat} {z : Int} (j : Nat) (hk : k < 492) (he : ∀ mi', σ G n0 mi' mr k = .inl (G.2 0, n, .inl (fun j => jI (mi' k j)))) (hd : decode cc pc = .ok (.iaload, 1)) (kk : WW p l e R s m args below meth c Q G n0 nL 492 (σ G n0 mi mr) cells slots (pc + 1) L (.int (jI (mi k j)) :: st)) (hz : 0 ≤ z ∧ z < n := by omega) (hj : z.toNat = j := by omega) (hn : n < 2147483648 := by decide) : WW p l e R s m args below meth c Q G n0 nL 492 (σ G n0 mi mr) cells slots pc L (.int (jI z) :: .ref (n0 + k) :: st) := by
  subst hj
  exact w_iald X hk (he mi) hd kk hz hn
theorem s_zald (X : Cx G n0 p s m args meth c cc own nL) {k n : Nat} {z : Int} (j : Nat) (hk : k < 492) (he : ∀ mi', σ G n0 mi' mr k = .inl (G.2 1, n, .inl (fun j => jI (mi' k j)))) (hd : decode cc pc = .ok (.baload, 1)) (kk : WW p l e R s m args below meth c Q G n0 nL 492 (σ G n0 mi mr) cells slots (pc + 1) L (.int (jI (mi k j)) :: st)) (hz : 0 ≤ z ∧ z < n := by omega) (hj : z.toNat = j := by omega) (hn : n < 2147483648 := by decide) : WW p l e R s m args below meth c Q G n0 nL 492 (σ G n0 mi mr) cells slots pc L (.int (jI z) :: .ref (n0 + k) :: st) := by
  subst hj
  exact w_zald X hk (he mi) hd kk hz hn
theorem s_iast (X : Cx G n0 p s m args meth c cc own nL) {k n : Nat} {z x : Int} (j : Nat) (hk : k < 492) (he : ∀ mi', σ G n0 mi' mr k = .inl (G.2 0, n, .inl (fun j => jI (mi' k j)))) (hd : decode cc pc = .ok (.iastore, 1)) (kk : WW p l e R s m args below meth c Q G n0 nL 492 (σ G n0 (up2 mi k j x) mr) cells slots (pc + 1) L st) (hz : 0 ≤ z ∧ z < n := by omega) (hj : z.toNat = j := by omega) (hn : n < 2147483648 := by decide) : WW p l e R s m args below meth c Q G n0 nL 492 (σ G n0 mi mr) cells slots pc L (.int (jI x) :: .int (jI z) :: .ref (n0 + k) :: st) := by
  subst hj
  exact w_iast X hk (he mi) hd (WW.eqf (σ_iast he z.toNat x) kk) hz hn
theorem s_zast (X : Cx G n0 p s m args meth c cc own nL) {k n : Nat} {z x : Int} (j : Nat) (hk : k < 492) (he : ∀ mi', σ G n0 mi' mr k = .inl (G.2 1, n, .inl (fun j => jI (mi' k j)))) (hx : x = 0 ∨ x = 1) (hd : decode cc pc = .ok (.bastore, 1)) (kk : WW p l e R s m args below meth c Q G n0 nL 492 (σ G n0 (up2 mi k j x) mr) cells slots (pc + 1) L st) (hz : 0 ≤ z ∧ z < n := by omega) (hj : z.toNat = j := by omega) (hn : n < 2147483648 := by decide) : WW p l e R s m args below meth c Q G n0 nL 492 (σ G n0 mi mr) cells slots pc L (.int (jI x) :: .int (jI z) :: .ref (n0 + k) :: st) := by
  subst hj
  exact w_zast X hk (he mi) (by rcases hx with rfl | rfl <;> rfl) hd (WW.eqf (σ_iast he z.toNat x) kk) hz hn
theorem s_aald (X : Cx G n0 p s m args meth c cc own nL) {k n t : Nat} {C : String} {g : Nat → Nat} {z : Int} (j : Nat) (hk : k < 492) (he : σ G n0 mi mr k = .inl (G.2 t, n, .inr (.inr (.inr (.inr (fun j => some (n0 + g j))))))) (ht : (tyG G)[t]? = some (G.2 t, .object C)) (hd : decode cc pc = .ok (.aaload, 1)) (kk : WW p l e R s m args below meth c Q G n0 nL 492 (σ G n0 mi mr) cells slots (pc + 1) L (.ref (n0 + g j) :: st)) (hz : 0 ≤ z ∧ z < n := by omega) (hj : z.toNat = j := by omega) (hn : n < 2147483648 := by decide) : WW p l e R s m args below meth c Q G n0 nL 492 (σ G n0 mi mr) cells slots pc L (.int (jI z) :: .ref (n0 + k) :: st) := by
  subst hj
  exact w_aald X hk he ht hd rfl kk hz hn
theorem s_aast (X : Cx G n0 p s m args meth c cc own nL) {k k2 n t ci : Nat} {r : vw_C} {vs : List Value} {z : Int} (j : Nat) (hk : k < 492) (hk2 : k2 < 492) (he : ∀ mr', σ G n0 mi mr' k = .inl (G.2 t, n, .inr (.inr (.inr (.inr (fun j => some (n0 + mr' k j))))))) (ht : (tyG G)[t]? = some (G.2 t, .object r.1)) (hv : σ G n0 mi mr k2 = .inr (ci, vs)) (hc : vwCl[ci]? = some r) (hd : decode cc pc = .ok (.aastore, 1)) (kk : WW p l e R s m args below meth c Q G n0 nL 492 (σ G n0 mi (up2 mr k j k2)) cells slots (pc + 1) L st) (hz : 0 ≤ z ∧ z < n := by omega) (hj : z.toNat = j := by omega) (hn : n < 2147483648 := by decide) : WW p l e R s m args below meth c Q G n0 nL 492 (σ G n0 mi mr) cells slots pc L (.ref (n0 + k2) :: .int (jI z) :: .ref (n0 + k) :: st) := by
  subst hj
  exact w_aast X hk hk2 (he mr) ht hv hc hd (WW.eqf (σ_aast he z.toNat k2) kk) hz hn
theorem s_callVi (X : Cx G n0 p s m args meth c cc own nL) {y : MethodName} {b : ByteArray} {nL' lv k ci index : Nat} {ret : FieldType} {rest : List Value} {fs : List Value} {T' : u_T} {n' : Nat} {post : Int → (Nat → Nat → Int) → (Nat → Nat → Nat) → Prop} (As : List Value) (hC : Ci l y b nL' ret lv G n0 (.ref (n0 + k) :: As) mi mr post) (hl : Cond.methodLink own index y ∈ lw_w) (hi : Cond.instanceMethod y ∈ lw_w) (hse : Cond.selects y.cls y y ∈ lw_w) (hini : Cond.initialized y.cls ∈ lw_w) (hco : Cond.code y b nL' (some ret) ∈ lw_w) (hk : k < 492) (he : σ G n0 mi mr k = .inr (ci, fs)) (hc : vwCl[ci]? = some (y.cls, T', n')) (hd : decode cc pc = .ok (.invokevirtual index, 3)) (hlen : (y.cls ≠ "java/lang/invoke/MethodHandle" ∧ y.cls ≠ "java/lang/invoke/VarHandle") ∧ (parseMethodDescriptor y.desc).map (fun d => d.parameters.length) = some As.length) (hR : lv + 1 ≤ R.frames ∧ 8 + (nL' + 11) + 40 * lv ≤ R.locals) (hrest : (rest.map fun v => v.category).sum ≤ 8) (hst : st = As.reverse ++ .ref (n0 + k) :: rest)
    (kk : ∀ (r : Int) (mi' : Nat → Nat → Int) (mr' : Nat → Nat → Nat), post r mi' mr' → WW p l e R s m args below meth c Q G n0 nL 492 (σ G n0 mi' mr') cells slots (pc + 3) L (.int (jI r) :: rest)) (hcs : cells ≤ R.cells ∧ slots ≤ R.slots := by exact ⟨Nat.zero_le _, Nat.zero_le _⟩) : WW p l e R s m args below meth c Q G n0 nL 492 (σ G n0 mi mr) cells slots pc L st :=
  w_callV X hC hl hi hse hini hco hk he hc hd hlen hR hcs hrest hst (fun v N' f' h => by obtain ⟨r, mi', mr', rfl, rfl, rfl, h⟩ := h; exact kk r mi' mr' h)
theorem s_callVv (X : Cx G n0 p s m args meth c cc own nL) {y : MethodName} {b : ByteArray} {nL' lv k ci index : Nat} {rest : List Value} {fs : List Value} {T' : u_T} {n' : Nat} {post : (Nat → Nat → Int) → (Nat → Nat → Nat) → Prop} (As : List Value) (hC : Cv l y b nL' lv G n0 (.ref (n0 + k) :: As) mi mr post) (hl : Cond.methodLink own index y ∈ lw_w) (hi : Cond.instanceMethod y ∈ lw_w) (hse : Cond.selects y.cls y y ∈ lw_w) (hini : Cond.initialized y.cls ∈ lw_w) (hco : Cond.code y b nL' none ∈ lw_w) (hk : k < 492) (he : σ G n0 mi mr k = .inr (ci, fs)) (hc : vwCl[ci]? = some (y.cls, T', n')) (hd : decode cc pc = .ok (.invokevirtual index, 3)) (hlen : (y.cls ≠ "java/lang/invoke/MethodHandle" ∧ y.cls ≠ "java/lang/invoke/VarHandle") ∧ (parseMethodDescriptor y.desc).map (fun d => d.parameters.length) = some As.length) (hR : lv + 1 ≤ R.frames ∧ 8 + (nL' + 11) + 40 * lv ≤ R.locals) (hrest : (rest.map fun v => v.category).sum ≤ 8) (hst : st = As.reverse ++ .ref (n0 + k) :: rest)
    (kk : ∀ (mi' : Nat → Nat → Int) (mr' : Nat → Nat → Nat), post mi' mr' → WW p l e R s m args below meth c Q G n0 nL 492 (σ G n0 mi' mr') cells slots (pc + 3) L rest) (hcs : cells ≤ R.cells ∧ slots ≤ R.slots := by exact ⟨Nat.zero_le _, Nat.zero_le _⟩) : WW p l e R s m args below meth c Q G n0 nL 492 (σ G n0 mi mr) cells slots pc L st :=
  w_callV X hC hl hi hse hini hco hk he hc hd hlen hR hcs hrest hst (fun v N' f' h => by obtain ⟨mi', mr', rfl, rfl, rfl, h⟩ := h; exact kk mi' mr' h)
theorem s_callSi (X : Cx G n0 p s m args meth c cc own nL) {y : MethodName} {b : ByteArray} {nL' lv index : Nat} {ret : FieldType} {rest : List Value} {post : Int → (Nat → Nat → Int) → (Nat → Nat → Nat) → Prop} (As : List Value) (hC : Ci l y b nL' ret lv G n0 As mi mr post) (hl : Cond.methodLink own index y ∈ lw_w) (hi : Cond.static y ∈ lw_w) (hini : Cond.initialized y.cls ∈ lw_w) (hco : Cond.code y b nL' (some ret) ∈ lw_w) (hd : decode cc pc = .ok (.invokestatic index, 3)) (hlen : (y.cls ≠ "java/lang/invoke/MethodHandle" ∧ y.cls ≠ "java/lang/invoke/VarHandle") ∧ (parseMethodDescriptor y.desc).map (fun d => d.parameters.length) = some As.length) (hR : lv + 1 ≤ R.frames ∧ 8 + (nL' + 11) + 40 * lv ≤ R.locals) (hrest : (rest.map fun v => v.category).sum ≤ 8) (hst : st = As.reverse ++ rest)
    (kk : ∀ (r : Int) (mi' : Nat → Nat → Int) (mr' : Nat → Nat → Nat), post r mi' mr' → WW p l e R s m args below meth c Q G n0 nL 492 (σ G n0 mi' mr') cells slots (pc + 3) L (.int (jI r) :: rest)) (hcs : cells ≤ R.cells ∧ slots ≤ R.slots := by exact ⟨Nat.zero_le _, Nat.zero_le _⟩) : WW p l e R s m args below meth c Q G n0 nL 492 (σ G n0 mi mr) cells slots pc L st :=
  w_callS X hC hl hi hini hco hd hlen hR hcs hrest hst (fun v N' f' h => by obtain ⟨r, mi', mr', rfl, rfl, rfl, h⟩ := h; exact kk r mi' mr' h)
theorem s_iret {post : Int → (Nat → Nat → Int) → (Nat → Nat → Nat) → Prop} (X : Cx G n0 p s m args meth c cc own nL) {v : Int} (hr : meth.sig.returnType = some .int) (hd : decode cc pc = .ok (.ireturn, 1)) (hp : post v mi mr) : WW p l e R s m args below meth c (MQ below (Qx G n0 (Pi G n0 post)) args s cells slots (fun q => n0 ≤ q)) G n0 nL 492 (σ G n0 mi mr) cells slots pc L [.int (jI v)] := w_iret X hr hd ⟨v, mi, mr, rfl, rfl, rfl, hp⟩
theorem s_zret {post : Int → (Nat → Nat → Int) → (Nat → Nat → Nat) → Prop} (X : Cx G n0 p s m args meth c cc own nL) {v : Int} (hr : meth.sig.returnType = some .boolean) (hd : decode cc pc = .ok (.ireturn, 1)) (hv : v = 0 ∨ v = 1) (hp : post v mi mr) : WW p l e R s m args below meth c (MQ below (Qx G n0 (Pi G n0 post)) args s cells slots (fun q => n0 ≤ q)) G n0 nL 492 (σ G n0 mi mr) cells slots pc L [.int (jI v)] := w_zret X hr hv hd ⟨v, mi, mr, rfl, rfl, rfl, hp⟩
theorem s_vret {post : (Nat → Nat → Int) → (Nat → Nat → Nat) → Prop} (X : Cx G n0 p s m args meth c cc own nL) (hr : meth.sig.returnType = none) (hd : decode cc pc = .ok (.return_, 1)) (hp : post mi mr) : WW p l e R s m args below meth c (MQ below (Qx G n0 (Pv G n0 post)) args s cells slots (fun q => n0 ≤ q)) G n0 nL 492 (σ G n0 mi mr) cells slots pc L [] := w_vret X hr hd ⟨mi, mr, rfl, rfl, rfl, hp⟩
end SRows
abbrev WSi (p : Program) (l : Launch) (e : Env) (s : State) (m : MethodId) (args : Array Value) (below : List Frame) (meth : Method) (c : Code) (lv : Nat) (post : Int → (Nat → Nat → Int) → (Nat → Nat → Nat) → Prop) (G : Gt) (n0 nL : Nat) (mi : Nat → Nat → Int) (mr : Nat → Nat → Nat) (pc : Nat) (L : List (Option Value)) (st : List Value) : Prop := WW p l e { frames := lv, cells := 0, slots := 0, locals := 40 * lv } s m args below meth c (MQ below (Qx G n0 (Pi G n0 post)) args s 0 0 (fun q => n0 ≤ q)) G n0 nL 492 (σ G n0 mi mr) 0 0 pc L st
abbrev WSv (p : Program) (l : Launch) (e : Env) (s : State) (m : MethodId) (args : Array Value) (below : List Frame) (meth : Method) (c : Code) (lv : Nat) (post : (Nat → Nat → Int) → (Nat → Nat → Nat) → Prop) (G : Gt) (n0 nL : Nat) (mi : Nat → Nat → Int) (mr : Nat → Nat → Nat) (pc : Nat) (L : List (Option Value)) (st : List Value) : Prop := WW p l e { frames := lv, cells := 0, slots := 0, locals := 40 * lv } s m args below meth c (MQ below (Qx G n0 (Pv G n0 post)) args s 0 0 (fun q => n0 ≤ q)) G n0 nL 492 (σ G n0 mi mr) 0 0 pc L st
theorem isCr_k {c : Nat} (h : isCr c) : c < 492 := by unfold isCr at h; omega
theorem isCr_k1 {c : Nat} (h : isCr c) : c + 1 < 492 := by unfold isCr at h; omega
theorem isRu_k {c : Nat} (h : isRu c) : c < 492 := by unfold isRu at h; omega
theorem isRu_k1 {c : Nat} (h : isRu c) : c + 1 < 492 := by unfold isRu at h; omega
theorem isBs_k {c : Nat} (h : isBs c) : c < 492 := by unfold isBs at h; omega
theorem isBs_k1 {c : Nat} (h : isBs c) : c + 1 < 492 := by unfold isBs at h; omega
theorem isBs_k2 {c : Nat} (h : isBs c) : c + 2 < 492 := by unfold isBs at h; omega
theorem cr_4 : isCr 4 := by unfold isCr; omega
theorem cr_42 : isCr 42 := by unfold isCr; omega
theorem cr_47 : isCr 47 := by unfold isCr; omega
theorem cr_49 : isCr 49 := by unfold isCr; omega
theorem cr_462 : isCr 462 := by unfold isCr; omega
theorem cr_464 : isCr 464 := by unfold isCr; omega
theorem ru_2 {j : Nat} (h : j < 12) : isRu (6 + 2 * j) := by unfold isRu; omega
theorem cr_3 {j : Nat} (h : j < 6) : isCr (30 + 2 * j) := by unfold isCr; omega
/-- five places of a cell at once -/
def row5 (mi : Nat → Nat → Int) (k : Nat) (f : Nat → Int) : Nat → Nat → Int := fun a b => if a = k ∧ b < 5 then f b else mi a b
theorem row5_up (mi : Nat → Nat → Int) (k : Nat) (f : Nat → Int) : up2 (up2 (up2 (up2 (up2 mi k 0 (f 0)) k 1 (f 1)) k 2 (f 2)) k 3 (f 3)) k 4 (f 4) = row5 mi k f := by
  funext a b
  unfold row5
  simp only [up2]
  by_cases ha : a = k
  · by_cases hb : b < 5
    · rcases (show b = 0 ∨ b = 1 ∨ b = 2 ∨ b = 3 ∨ b = 4 by omega) with rfl | rfl | rfl | rfl | rfl <;> simp [ha]
    · have h0 : ¬ b = 0 := by omega
      have h1 : ¬ b = 1 := by omega
      have h2 : ¬ b = 2 := by omega
      have h3 : ¬ b = 3 := by omega
      have h4 : ¬ b = 4 := by omega
      simp [hb, h0, h1, h2, h3, h4]
  · simp [ha]
theorem row5_s {mi : Nat → Nat → Int} {k : Nat} {f : Nat → Int} {j : Nat} (h : j < 5) : row5 mi k f k j = f j := by simp [row5, h]
theorem row5_k {mi : Nat → Nat → Int} {k : Nat} {f : Nat → Int} {a : Nat} (h : a ≠ k) : row5 mi k f a = mi a := by funext b; simp [row5, h]
theorem row5_c {mi : Nat → Nat → Int} {k : Nat} {f g : Nat → Int} (h : ∀ j, j < 5 → f j = g j) : row5 mi k f = row5 mi k g := by
  funext a b
  by_cases hb : a = k ∧ b < 5
  · simp [row5, hb, h b hb.2]
  · simp [row5, hb]
/-- so many in each state, none fewer than 0 and none too many -/
def CB (mi : Nat → Nat → Int) (c : Nat) : Prop := (0 ≤ mi (c + 1) 0 ∧ mi (c + 1) 0 ≤ 1000) ∧ (0 ≤ mi (c + 1) 1 ∧ mi (c + 1) 1 ≤ 1000) ∧ (0 ≤ mi (c + 1) 2 ∧ mi (c + 1) 2 ≤ 1000) ∧ (0 ≤ mi (c + 1) 3 ∧ mi (c + 1) 3 ≤ 1000) ∧ (0 ≤ mi (c + 1) 4 ∧ mi (c + 1) 4 ≤ 1000)
theorem CB_at {mi : Nat → Nat → Int} {c : Nat} (h : CB mi c) : ∀ j : Nat, j < 5 → 0 ≤ mi (c + 1) j ∧ mi (c + 1) j ≤ 1000 := by
  intro j hj
  obtain ⟨h0, h1, h2, h3, h4⟩ := h
  rcases (show j = 0 ∨ j = 1 ∨ j = 2 ∨ j = 3 ∨ j = 4 by omega) with rfl | rfl | rfl | rfl | rfl <;> assumption
theorem CB_of {mi : Nat → Nat → Int} {c : Nat} (h : ∀ j : Nat, j < 5 → 0 ≤ mi (c + 1) j ∧ mi (c + 1) j ≤ 1000) : CB mi c := ⟨h 0 (by decide), h 1 (by decide), h 2 (by decide), h 3 (by decide), h 4 (by decide)⟩
def ge5 (u v : Nat → Int) : Prop := v 0 ≤ u 0 ∧ v 1 ≤ u 1 ∧ v 2 ≤ u 2 ∧ v 3 ≤ u 3 ∧ v 4 ≤ u 4
def sum5 (u : Nat → Int) : Int := u 0 + u 1 + u 2 + u 3 + u 4
theorem s_alen {p : Program} {l : Launch} {e : Env} {R : Room} {s : State} {m : MethodId} {args : Array Value} {below : List Frame} {meth : Method} {c : Code} {Q : State → Prop} {G : Gt} {n0 nL N : Nat} {f : Nat → va_E} {cells slots pc : Nat} {L : List (Option Value)} {st : List Value} {a b : Int} (h : a = b) (k : WW p l e R s m args below meth c Q G n0 nL N f cells slots pc L (.int (jI b) :: st)) : WW p l e R s m args below meth c Q G n0 nL N f cells slots pc L (.int (jI a) :: st) := h ▸ k
