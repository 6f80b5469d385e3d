def TLo (L : ML) : Prop := ∀ c : Nat, c < 10 → oddF (L 284 c) (L 285 c)
theorem add_ok {u d y z A B : Int} (hA : A = (u * z + y * d).bmod 18446744073709551616) (hB : B = (d * z).bmod 18446744073709551616) (h : 0 ≤ u ∧ u ≤ 1000000000 ∧ 1 ≤ d ∧ d ≤ 1000000000) (hy : 0 ≤ y ∧ y ≤ 1000000000) (hz : 1 ≤ z ∧ z ≤ 1000000000) : 0 ≤ A ∧ 0 < B := by
  have h1 := mul_le9 h.1 h.2.1 (show 0 ≤ z by omega) hz.2
  have h2 := mul_le9 hy.1 hy.2 (show 0 ≤ d by omega) h.2.2.2
  have h3 := mul_le9 (show 0 ≤ d by omega) h.2.2.2 (show 0 ≤ z by omega) hz.2
  have h4 := mul_pos9 h.2.2.1 hz.1
  rw [bmod_id (by omega) (by omega)] at hA hB
  omega
theorem TLo_of {L1 : ML} (h : ∀ j : Nat, j < 10 → L1 284 j = 0 ∧ L1 285 j = 1) : TLo L1 := fun c hc => by
  rw [(h c hc).1, (h c hc).2]; exact Or.inr (by decide)
/-- every candidate stands in the row of the draw -/
def DP (V : VW) : Prop := ∀ c : Nat, (c : Int) < (V 0 0).toInt → ∃ i : Nat, (i : Int) < (V 0 0).toInt ∧ (V 1 i).toInt = (c : Int)
theorem DP_k {M M1 : MI} (h : DP (vR M)) (e1 : M1 258 2 = M 258 2) (e2 : ∀ i, M1 260 i = M 260 i) : DP (vR M1) := by
  intro c hc
  have hc2 : (c : Int) < (M 258 2).toInt := by rw [← e1]; exact hc
  obtain ⟨i, h1, h2⟩ := h c hc2
  refine ⟨i, ?_, ?_⟩
  · show (i : Int) < (M1 258 2).toInt
    rw [e1]; exact h1
  · show (M1 260 i).toInt = c
    rw [e2]; exact h2
/-- those in are candidates -/
def NIn (T : Nat → Int32) (n : Int) : Prop := ∀ c : Nat, c < 10 → ¬ (T c).toInt = 0 → (c : Int) < n
theorem NIn_upd {T : Nat → Int32} {n : Int} (h : NIn T n) (b : Nat) : NIn (upd T b 0) n := by
  intro c hc hi
  by_cases e : c = b
  · rw [show upd T b 0 c = 0 from if_pos e] at hi; exact absurd (by decide) hi
  · rw [show upd T b 0 c = T c from if_neg e] at hi; exact h c hc hi
theorem idivI {a b v : Int32} (h : v = a / b) (ha : 0 ≤ a.toInt) (hb : 1 ≤ b.toInt) : 0 ≤ v.toInt ∧ v.toInt ≤ a.toInt := by
  have h1 := Int32.toInt_lt a
  have q1 := Int.tdiv_nonneg ha (show 0 ≤ b.toInt by omega)
  have q2 := Int.tdiv_le_self b.toInt ha
  have e : v.toInt = a.toInt.tdiv b.toInt := by
    rw [h, Int32.toInt_div]
    exact Int.bmod_eq_of_le (by omega) (by omega)
  rw [e]
  exact ⟨q1, q2⟩
theorem unF_end {V : VW} {x : Nat} {s : Int32} {n k : Nat} (h : n ≤ k) : unF V x s (n - k) k = -9 := by
  rw [Nat.sub_eq_zero_of_le h]; rfl
theorem unF_hit {V : VW} {x : Nat} {s : Int32} {n k : Nat} (h : k < n) (e : (V 8 (40 * x + k)).toInt ≠ -9 ∧ ¬ ofS (V 2 (V 8 (40 * x + k)).toNatClampNeg) s) : unF V x s (n - k) k = Int32.ofNat k := by
  rw [show n - k = (n - k - 1) + 1 by omega]
  show (if _ then Int32.ofNat k else _) = _
  rw [if_pos e]
theorem unF_go {V : VW} {x : Nat} {s : Int32} {n k : Nat} (h : k < n) (e : ¬ ((V 8 (40 * x + k)).toInt ≠ -9 ∧ ¬ ofS (V 2 (V 8 (40 * x + k)).toNatClampNeg) s)) : unF V x s (n - k) k = unF V x s (n - (k + 1)) (k + 1) := by
  rw [show n - k = (n - (k + 1)) + 1 by omega]
  show (if _ then _ else unF V x s (n - (k + 1)) (k + 1)) = _
  rw [if_neg e]
