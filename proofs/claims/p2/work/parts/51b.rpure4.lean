def TLo (L : ML) : Prop := ∀ c : Nat, c < 10 → oddF (L 284 c) (L 285 c)
def TLk (M : MI) (L : ML) : Prop := (M 258 25).toInt = 0 → ∀ c : Nat, c < 10 → okF (L 284 c) (L 285 c)
theorem add_ok {u d y z A B : Int} (hA : A = (u * z + y * d).bmod 18446744073709551616) (hB : B = (d * z).bmod 18446744073709551616) (h : 0 ≤ u ∧ u ≤ 1000000000 ∧ 1 ≤ d ∧ d ≤ 1000000000) (hy : 0 ≤ y ∧ y ≤ 1000000000) (hz : 1 ≤ z ∧ z ≤ 1000000000) : 0 ≤ A ∧ 0 < B := by
  have h1 := mul_le9 h.1 h.2.1 (show 0 ≤ z by omega) hz.2
  have h2 := mul_le9 hy.1 hy.2 (show 0 ≤ d by omega) h.2.2.2
  have h3 := mul_le9 (show 0 ≤ d by omega) h.2.2.2 (show 0 ≤ z by omega) hz.2
  have h4 := mul_pos9 h.2.2.1 hz.1
  rw [bmod_id (by omega) (by omega)] at hA hB
  omega
theorem TLo_of {L1 : ML} (h : ∀ j : Nat, j < 10 → L1 284 j = 0 ∧ L1 285 j = 1) : TLo L1 := fun c hc => by
  rw [(h c hc).1, (h c hc).2]; exact Or.inr (by decide)
theorem TLk_of {M : MI} {L1 : ML} (h : ∀ j : Nat, j < 10 → L1 284 j = 0 ∧ L1 285 j = 1) : TLk M L1 := fun _ c hc => by
  rw [(h c hc).1, (h c hc).2]; exact ⟨by decide, by decide, by decide, by decide⟩
/-- every candidate stands in the row of the draw -/
def DP (V : VW) : Prop := ∀ c : Nat, (c : Int) < (V 0 0).toInt → ∃ i : Nat, (i : Int) < (V 0 0).toInt ∧ (V 1 i).toInt = (c : Int)
