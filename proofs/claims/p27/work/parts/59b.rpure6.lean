theorem vR_fr {M M1 : MI} (h : ∀ k i, ((k = 258 ∧ (i = 2 ∨ i = 4 ∨ i = 9 ∨ i = 14 ∨ i = 0 ∨ i = 26)) ∨ (259 ≤ k ∧ k ≤ 267) ∨ (269 ≤ k ∧ k ≤ 273)) → M1 k i = M k i) : vR M1 = vR M := by
  funext a b
  unfold vR vR0
  rw [h 258 2 (by omega), h 258 4 (by omega), h 258 9 (by omega), h 258 14 (by omega), h 258 0 (by omega), h 258 26 (by omega), h 260 b (by omega), h 261 b (by omega), h 262 b (by omega), h 263 b (by omega), h 264 b (by omega), h 265 b (by omega), h 266 b (by omega), h 267 b (by omega), h 269 b (by omega), h 270 b (by omega), h 271 b (by omega), h 272 b (by omega), h 273 b (by omega), h 259 b (by omega)]
theorem NOv_w {V : VW} (h : NOv V) (y : Int32) : NOv (sI V 0 5 y) := by
  unfold NOv
  rw [sI_at, if_neg (by decide), sI_n _ _ _ (by decide)]
  exact h
theorem startV_w (V : VW) (m y : Int32) : startV (sI V 0 5 y) m = sI (startV V m) 0 5 y := by
  funext k i
  rw [sI_at]
  unfold startV
  by_cases e : k = 13
  · rw [if_pos e, if_neg (by omega), if_pos e, sI_n _ _ _ (by decide), stB_ext (sI_n V 5 y (by decide)) (sI_n V 5 y (by decide))]
  · rw [if_neg e, if_neg e, sI_at]
theorem sI_sI (V : VW) (k i : Nat) (x y : Int32) : sI (sI V k i x) k i y = sI V k i y := by
  funext a b
  rw [sI_at, sI_at, sI_at]
  by_cases e : a = k ∧ b = i
  · rw [if_pos e, if_pos e]
  · rw [if_neg e, if_neg e, if_neg e]
theorem unF_ext {V W : VW} (h8 : V 8 = W 8) (h2 : V 2 = W 2) (x : Nat) (s : Int32) : ∀ n k, unF V x s n k = unF W x s n k := by
  intro n
  induction n with
  | zero => intro k; rfl
  | succ n ih =>
    intro k
    show (if _ then _ else _) = (if _ then _ else _)
    rw [h8, h2, ih]
theorem start12 {V : VW} (hb : b012 (V 13)) {m : Int32} (h0 : 0 ≤ m.toInt) : (startV V m 13 m.toNatClampNeg).toInt = 1 ∨ (startV V m 13 m.toNatClampNeg).toInt = 2 := by
  have e : startV V m 13 = stB V 20 m (V 13) := if_pos rfl
  rw [e]
  have w1 := stB_at (V := V) (B := V 13) h0
  have w2 := stB_b (V := V) hb 20 m m.toNatClampNeg
  omega
theorem DP_w {V : VW} (h : DP V) (m : Int32) : DP (sI (startV V m) 0 5 (-9)) := by
  unfold DP
  rw [sI_at, if_neg (by decide), sI_n _ _ _ (by decide)]
  exact h
