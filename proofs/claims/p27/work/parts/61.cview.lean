/-! the class's view -/
def vC0 (M : MI) (i : Nat) : Int32 := if i = 0 then M 1 0 else if i = 1 then M 3 0 else if i = 2 then M 68 0 else if i = 3 then M 81 0 else if i = 4 then M 0 11 else if i = 5 then M 0 10 else 0
def vC (M : MI) : VW := fun k i =>
  if k = 0 then vC0 M i else if k = 1 then M 2 i else if k = 2 then M 4 i else if k = 3 then M 5 i else if k = 4 then M 6 i else if k = 5 then (if i < 600 then M (8 + i / 10) (i % 10) else 0) else
  if k = 6 then M 69 i else if k = 7 then M 70 i else if k = 8 then (if i < 320 ∧ ((i % 40 : Nat) : Int) < (M 70 (i / 40)).toInt then M (73 + i / 40) (i % 40) else -9) else if k = 9 then M 82 i else
  if k = 10 then M 85 i else if k = 11 then M 86 i else if k = 12 then M 84 i else if k = 13 then M 83 i else if k = 14 then M 257 i else 0
/-- a store that the view does not show -/
theorem vC_z {M : MI} {k i : Nat} {x : Int32} (h : k = 72 ∨ k = 87 ∨ (88 ≤ k ∧ k < 257) ∨ 258 ≤ k) : vC (sI M k i x) = vC M := by
  funext a b
  have e5 : b < 600 → sI M k i x (8 + b / 10) = M (8 + b / 10) := fun hb => sI_n M i x (by omega)
  have e8 : b < 320 → sI M k i x (73 + b / 40) = M (73 + b / 40) := fun hb => sI_n M i x (by omega)
  unfold vC vC0
  rw [sI_n M i x (show 1 ≠ k by omega), sI_n M i x (show 3 ≠ k by omega), sI_n M i x (show 68 ≠ k by omega), sI_n M i x (show 81 ≠ k by omega), sI_n M i x (show 0 ≠ k by omega), sI_n M i x (show 2 ≠ k by omega), sI_n M i x (show 4 ≠ k by omega), sI_n M i x (show 5 ≠ k by omega), sI_n M i x (show 6 ≠ k by omega), sI_n M i x (show 69 ≠ k by omega), sI_n M i x (show 70 ≠ k by omega), sI_n M i x (show 82 ≠ k by omega), sI_n M i x (show 83 ≠ k by omega), sI_n M i x (show 84 ≠ k by omega), sI_n M i x (show 85 ≠ k by omega), sI_n M i x (show 86 ≠ k by omega), sI_n M i x (show 257 ≠ k by omega)]
  have q5 : (if b < 600 then sI M k i x (8 + b / 10) (b % 10) else 0) = (if b < 600 then M (8 + b / 10) (b % 10) else 0) := by
    by_cases hb : b < 600
    · rw [if_pos hb, if_pos hb, e5 hb]
    · rw [if_neg hb, if_neg hb]
  have q8 : (if b < 320 ∧ ((b % 40 : Nat) : Int) < (M 70 (b / 40)).toInt then sI M k i x (73 + b / 40) (b % 40) else -9) = (if b < 320 ∧ ((b % 40 : Nat) : Int) < (M 70 (b / 40)).toInt then M (73 + b / 40) (b % 40) else -9) := by
    by_cases hb : b < 320 ∧ ((b % 40 : Nat) : Int) < (M 70 (b / 40)).toInt
    · rw [if_pos hb, if_pos hb, e8 hb.1]
    · rw [if_neg hb, if_neg hb]
  rw [q5, q8]
theorem vC_fr {M M1 : MI} (h1 : ∀ k, (k = 0 ∨ k = 1 ∨ k = 2 ∨ k = 3 ∨ k = 4 ∨ k = 5 ∨ k = 6 ∨ (8 ≤ k ∧ k < 71) ∨ (73 ≤ k ∧ k < 87) ∨ k = 257) → M1 k = M k) : vC M1 = vC M := by
  funext a b
  unfold vC vC0
  have q5 : (if b < 600 then M1 (8 + b / 10) (b % 10) else 0) = (if b < 600 then M (8 + b / 10) (b % 10) else 0) := by
    by_cases hb : b < 600
    · rw [if_pos hb, if_pos hb, h1 (8 + b / 10) (by omega)]
    · rw [if_neg hb, if_neg hb]
  rw [h1 70 (by omega)]
  have q8 : (if b < 320 ∧ ((b % 40 : Nat) : Int) < (M 70 (b / 40)).toInt then M1 (73 + b / 40) (b % 40) else -9) = (if b < 320 ∧ ((b % 40 : Nat) : Int) < (M 70 (b / 40)).toInt then M (73 + b / 40) (b % 40) else -9) := by
    by_cases hb : b < 320 ∧ ((b % 40 : Nat) : Int) < (M 70 (b / 40)).toInt
    · rw [if_pos hb, if_pos hb, h1 (73 + b / 40) (by omega)]
    · rw [if_neg hb, if_neg hb]
  rw [q5, q8, h1 1 (by omega), h1 3 (by omega), h1 68 (by omega), h1 81 (by omega), h1 0 (by omega), h1 2 (by omega), h1 4 (by omega), h1 5 (by omega), h1 6 (by omega), h1 69 (by omega), h1 82 (by omega), h1 85 (by omega), h1 86 (by omega), h1 84 (by omega), h1 83 (by omega), h1 257 (by omega)]
/-- stores to rows of one component -/
theorem vC_a {M : MI} {k c i : Nat} {x : Int32} (h : (k = 2 ∧ c = 1) ∨ (k = 4 ∧ c = 2) ∨ (k = 5 ∧ c = 3) ∨ (k = 6 ∧ c = 4) ∨ (k = 69 ∧ c = 6) ∨ (k = 82 ∧ c = 9) ∨ (k = 85 ∧ c = 10) ∨ (k = 86 ∧ c = 11) ∨ (k = 84 ∧ c = 12) ∨ (k = 83 ∧ c = 13) ∨ (k = 257 ∧ c = 14)) : vC (sI M k i x) = sI (vC M) c i x := by
  funext a b
  have e5 : b < 600 → sI M k i x (8 + b / 10) = M (8 + b / 10) := fun hb => sI_n M i x (by omega)
  have e8 : b < 320 → sI M k i x (73 + b / 40) = M (73 + b / 40) := fun hb => sI_n M i x (by omega)
  have e70 : sI M k i x 70 = M 70 := sI_n M i x (by omega)
  have q5 : (if b < 600 then sI M k i x (8 + b / 10) (b % 10) else 0) = (if b < 600 then M (8 + b / 10) (b % 10) else 0) := by
    by_cases hb : b < 600
    · rw [if_pos hb, if_pos hb, e5 hb]
    · rw [if_neg hb, if_neg hb]
  have q8 : (if b < 320 ∧ ((b % 40 : Nat) : Int) < (M 70 (b / 40)).toInt then sI M k i x (73 + b / 40) (b % 40) else -9) = (if b < 320 ∧ ((b % 40 : Nat) : Int) < (M 70 (b / 40)).toInt then M (73 + b / 40) (b % 40) else -9) := by
    by_cases hb : b < 320 ∧ ((b % 40 : Nat) : Int) < (M 70 (b / 40)).toInt
    · rw [if_pos hb, if_pos hb, e8 hb.1]
    · rw [if_neg hb, if_neg hb]
  rw [sI_at]
  unfold vC vC0
  rw [e70, q5, q8]
  generalize (if b < 600 then M (8 + b / 10) (b % 10) else 0) = u5
  generalize (if b < 320 ∧ ((b % 40 : Nat) : Int) < (M 70 (b / 40)).toInt then M (73 + b / 40) (b % 40) else -9) = u8
  rcases h with h | h | h | h | h | h | h | h | h | h | h <;> obtain ⟨rfl, rfl⟩ := h <;> simp only [sI_at] <;> grind (splits := 30)
/-- stores to the scalars -/
theorem vC_s {M : MI} {k j c : Nat} {x : Int32} (h : (k = 1 ∧ j = 0 ∧ c = 0) ∨ (k = 3 ∧ j = 0 ∧ c = 1) ∨ (k = 68 ∧ j = 0 ∧ c = 2) ∨ (k = 81 ∧ j = 0 ∧ c = 3) ∨ (k = 0 ∧ j = 11 ∧ c = 4) ∨ (k = 0 ∧ j = 10 ∧ c = 5)) : vC (sI M k j x) = sI (vC M) 0 c x := by
  funext a b
  have e5 : b < 600 → sI M k j x (8 + b / 10) = M (8 + b / 10) := fun hb => sI_n M j x (by omega)
  have e8 : b < 320 → sI M k j x (73 + b / 40) = M (73 + b / 40) := fun hb => sI_n M j x (by omega)
  have e70 : sI M k j x 70 = M 70 := sI_n M j x (by omega)
  have q5 : (if b < 600 then sI M k j x (8 + b / 10) (b % 10) else 0) = (if b < 600 then M (8 + b / 10) (b % 10) else 0) := by
    by_cases hb : b < 600
    · rw [if_pos hb, if_pos hb, e5 hb]
    · rw [if_neg hb, if_neg hb]
  have q8 : (if b < 320 ∧ ((b % 40 : Nat) : Int) < (M 70 (b / 40)).toInt then sI M k j x (73 + b / 40) (b % 40) else -9) = (if b < 320 ∧ ((b % 40 : Nat) : Int) < (M 70 (b / 40)).toInt then M (73 + b / 40) (b % 40) else -9) := by
    by_cases hb : b < 320 ∧ ((b % 40 : Nat) : Int) < (M 70 (b / 40)).toInt
    · rw [if_pos hb, if_pos hb, e8 hb.1]
    · rw [if_neg hb, if_neg hb]
  rw [sI_at]
  unfold vC vC0
  rw [e70, q5, q8]
  generalize (if b < 600 then M (8 + b / 10) (b % 10) else 0) = u5
  generalize (if b < 320 ∧ ((b % 40 : Nat) : Int) < (M 70 (b / 40)).toInt then M (73 + b / 40) (b % 40) else -9) = u8
  rcases h with h | h | h | h | h | h <;> obtain ⟨rfl, rfl, rfl⟩ := h <;> simp only [sI_at] <;> grind (splits := 30)
/-- the results' places of the house -/
theorem vC_h {M : MI} {j : Nat} {x : Int32} (h : j = 8 ∨ j = 9) : vC (sI M 0 j x) = vC M := by
  funext a b
  have e5 : b < 600 → sI M 0 j x (8 + b / 10) = M (8 + b / 10) := fun hb => sI_n M j x (by omega)
  have e8 : b < 320 → sI M 0 j x (73 + b / 40) = M (73 + b / 40) := fun hb => sI_n M j x (by omega)
  have e10 : sI M 0 j x 0 10 = M 0 10 := by rw [sI_at, if_neg (by omega)]
  have e11 : sI M 0 j x 0 11 = M 0 11 := by rw [sI_at, if_neg (by omega)]
  unfold vC vC0
  rw [e10, e11, sI_n M j x (show 1 ≠ 0 by decide), sI_n M j x (show 3 ≠ 0 by decide), sI_n M j x (show 68 ≠ 0 by decide), sI_n M j x (show 81 ≠ 0 by decide), sI_n M j x (show 2 ≠ 0 by decide), sI_n M j x (show 4 ≠ 0 by decide), sI_n M j x (show 5 ≠ 0 by decide), sI_n M j x (show 6 ≠ 0 by decide), sI_n M j x (show 69 ≠ 0 by decide), sI_n M j x (show 70 ≠ 0 by decide), sI_n M j x (show 82 ≠ 0 by decide), sI_n M j x (show 83 ≠ 0 by decide), sI_n M j x (show 84 ≠ 0 by decide), sI_n M j x (show 85 ≠ 0 by decide), sI_n M j x (show 86 ≠ 0 by decide), sI_n M j x (show 257 ≠ 0 by decide)]
  have q5 : (if b < 600 then sI M 0 j x (8 + b / 10) (b % 10) else 0) = (if b < 600 then M (8 + b / 10) (b % 10) else 0) := by
    by_cases hb : b < 600
    · rw [if_pos hb, if_pos hb, e5 hb]
    · rw [if_neg hb, if_neg hb]
  have q8 : (if b < 320 ∧ ((b % 40 : Nat) : Int) < (M 70 (b / 40)).toInt then sI M 0 j x (73 + b / 40) (b % 40) else -9) = (if b < 320 ∧ ((b % 40 : Nat) : Int) < (M 70 (b / 40)).toInt then M (73 + b / 40) (b % 40) else -9) := by
    by_cases hb : b < 320 ∧ ((b % 40 : Nat) : Int) < (M 70 (b / 40)).toInt
    · rw [if_pos hb, if_pos hb, e8 hb.1]
    · rw [if_neg hb, if_neg hb]
  rw [q5, q8]
/-- a mark on a ballot -/
theorem vC_row {M : MI} {b k : Nat} {x : Int32} (hb : b < 60) (hk : k < 10) : vC (sI M (8 + b) k x) = sI (vC M) 5 (10 * b + k) x := by
  funext a i
  rw [sI_at]
  by_cases ha : a = 5
  · subst ha
    show (if i < 600 then sI M (8 + b) k x (8 + i / 10) (i % 10) else 0) = _
    by_cases hi : i = 10 * b + k
    · rw [if_pos (show 5 = 5 ∧ i = 10 * b + k from ⟨rfl, hi⟩), if_pos (show i < 600 by omega), sI_at, if_pos (show 8 + i / 10 = 8 + b ∧ i % 10 = k by omega)]
    · rw [if_neg (show ¬ (5 = 5 ∧ i = 10 * b + k) from fun q => hi q.2)]
      show _ = (if i < 600 then M (8 + i / 10) (i % 10) else 0)
      by_cases h6 : i < 600
      · rw [if_pos h6, if_pos h6, sI_at, if_neg (by omega)]
      · rw [if_neg h6, if_neg h6]
  · rw [if_neg (fun q => ha q.1)]
    have e8 : i < 320 → sI M (8 + b) k x (73 + i / 40) = M (73 + i / 40) := fun hi => sI_n M k x (by omega)
    have q8 : (if i < 320 ∧ ((i % 40 : Nat) : Int) < (M 70 (i / 40)).toInt then sI M (8 + b) k x (73 + i / 40) (i % 40) else -9) = (if i < 320 ∧ ((i % 40 : Nat) : Int) < (M 70 (i / 40)).toInt then M (73 + i / 40) (i % 40) else -9) := by
      by_cases hb : i < 320 ∧ ((i % 40 : Nat) : Int) < (M 70 (i / 40)).toInt
      · rw [if_pos hb, if_pos hb, e8 hb.1]
      · rw [if_neg hb, if_neg hb]
    unfold vC vC0
    rw [if_neg ha, if_neg ha, sI_n M k x (show 70 ≠ 8 + b by omega), q8, sI_n M k x (show 1 ≠ 8 + b by omega), sI_n M k x (show 3 ≠ 8 + b by omega), sI_n M k x (show 68 ≠ 8 + b by omega), sI_n M k x (show 81 ≠ 8 + b by omega), sI_n M k x (show 0 ≠ 8 + b by omega), sI_n M k x (show 2 ≠ 8 + b by omega), sI_n M k x (show 4 ≠ 8 + b by omega), sI_n M k x (show 5 ≠ 8 + b by omega), sI_n M k x (show 6 ≠ 8 + b by omega), sI_n M k x (show 69 ≠ 8 + b by omega), sI_n M k x (show 82 ≠ 8 + b by omega), sI_n M k x (show 83 ≠ 8 + b by omega), sI_n M k x (show 84 ≠ 8 + b by omega), sI_n M k x (show 85 ≠ 8 + b by omega), sI_n M k x (show 86 ≠ 8 + b by omega), sI_n M k x (show 257 ≠ 8 + b by omega)]
/-- a ballot in a place of a box -/
theorem vC_pl {M : MI} {y j : Nat} {x : Int32} (hy : y < 8) (hj : j < 40) (hs : (j : Int) < (M 70 y).toInt) : vC (sI M (73 + y) j x) = sI (vC M) 8 (40 * y + j) x := by
  funext a i
  rw [sI_at]
  by_cases ha : a = 8
  · subst ha
    show (if i < 320 ∧ ((i % 40 : Nat) : Int) < (sI M (73 + y) j x 70 (i / 40)).toInt then sI M (73 + y) j x (73 + i / 40) (i % 40) else -9) = _
    rw [sI_n M j x (show 70 ≠ 73 + y by omega)]
    by_cases hi : i = 40 * y + j
    · have e1 : i / 40 = y := by omega
      have e2 : i % 40 = j := by omega
      rw [if_pos (show 8 = 8 ∧ i = 40 * y + j from ⟨rfl, hi⟩), e1, e2, if_pos (show i < 320 ∧ ((j : Nat) : Int) < (M 70 y).toInt from ⟨by omega, hs⟩), sI_at, if_pos ⟨rfl, rfl⟩]
    · rw [if_neg (show ¬ (8 = 8 ∧ i = 40 * y + j) from fun q => hi q.2)]
      show _ = (if i < 320 ∧ ((i % 40 : Nat) : Int) < (M 70 (i / 40)).toInt then M (73 + i / 40) (i % 40) else -9)
      by_cases h6 : i < 320 ∧ ((i % 40 : Nat) : Int) < (M 70 (i / 40)).toInt
      · rw [if_pos h6, if_pos h6, sI_at, if_neg (by omega)]
      · rw [if_neg h6, if_neg h6]
  · rw [if_neg (fun q => ha q.1)]
    have e5 : i < 600 → sI M (73 + y) j x (8 + i / 10) = M (8 + i / 10) := fun hi => sI_n M j x (by omega)
    have q5 : (if i < 600 then sI M (73 + y) j x (8 + i / 10) (i % 10) else 0) = (if i < 600 then M (8 + i / 10) (i % 10) else 0) := by
      by_cases hb : i < 600
      · rw [if_pos hb, if_pos hb, e5 hb]
      · rw [if_neg hb, if_neg hb]
    unfold vC vC0
    rw [if_neg ha, if_neg ha, q5, sI_n M j x (show 1 ≠ 73 + y by omega), sI_n M j x (show 3 ≠ 73 + y by omega), sI_n M j x (show 68 ≠ 73 + y by omega), sI_n M j x (show 81 ≠ 73 + y by omega), sI_n M j x (show 0 ≠ 73 + y by omega), sI_n M j x (show 2 ≠ 73 + y by omega), sI_n M j x (show 4 ≠ 73 + y by omega), sI_n M j x (show 5 ≠ 73 + y by omega), sI_n M j x (show 6 ≠ 73 + y by omega), sI_n M j x (show 69 ≠ 73 + y by omega), sI_n M j x (show 70 ≠ 73 + y by omega), sI_n M j x (show 82 ≠ 73 + y by omega), sI_n M j x (show 83 ≠ 73 + y by omega), sI_n M j x (show 84 ≠ 73 + y by omega), sI_n M j x (show 85 ≠ 73 + y by omega), sI_n M j x (show 86 ≠ 73 + y by omega), sI_n M j x (show 257 ≠ 73 + y by omega)]
theorem vC5 {M : MI} {b k : Nat} (hb : b < 60) (hk : k < 10) : vC M 5 (10 * b + k) = M (8 + b) k := by
  show (if 10 * b + k < 600 then M (8 + (10 * b + k) / 10) ((10 * b + k) % 10) else 0) = _
  rw [if_pos (by omega), show (10 * b + k) / 10 = b by omega, show (10 * b + k) % 10 = k by omega]
theorem vC8 {M : MI} {y j : Nat} (hy : y < 8) (hj : j < 40) (hs9 : (j : Int) < (vC M 7 y).toInt) : vC M 8 (40 * y + j) = M (73 + y) j := by
  have hs : (j : Int) < (M 70 y).toInt := hs9
  show (if 40 * y + j < 320 ∧ (((40 * y + j) % 40 : Nat) : Int) < (M 70 ((40 * y + j) / 40)).toInt then M (73 + (40 * y + j) / 40) ((40 * y + j) % 40) else -9) = _
  rw [show (40 * y + j) / 40 = y by omega, show (40 * y + j) % 40 = j by omega, if_pos ⟨by omega, hs⟩]
theorem zo_has {r i n : Int32} (h : r = if 0 ≤ i ∧ i < n then 1 else 0) : zo r (0 ≤ i.toInt ∧ i.toInt < n.toInt) := by
  by_cases q : 0 ≤ i ∧ i < n
  · rw [if_pos q] at h
    exact Or.inl ⟨h, Int32.le_iff_toInt_le.mp q.1, Int32.lt_iff_toInt_lt.mp q.2⟩
  · rw [if_neg q] at h
    exact Or.inr ⟨h, fun w => q ⟨Int32.le_iff_toInt_le.mpr w.1, Int32.lt_iff_toInt_lt.mpr w.2⟩⟩
theorem zo_lt {r i n : Int32} {B : Int} (h : r = if 0 ≤ i ∧ i < n then 1 else 0) (hn : n.toInt = B) : zo r (0 ≤ i.toInt ∧ i.toInt < B) := by
  rw [← hn]; exact zo_has h
theorem inc_dec (x : Int32) : x + 1 - 1 = x := by grind
