/-! numbers of Int32 as Int -/
theorem fl {x y : Int32} {a b : Int} (hx : x.toInt = a) (hy : y.toInt = b) (h : x < y) : a < b := by rw [← hx, ← hy]; exact Int32.lt_iff_toInt_lt.mp h
theorem fnl {x y : Int32} {a b : Int} (hx : x.toInt = a) (hy : y.toInt = b) (h : ¬ x < y) : b ≤ a := by rw [← hx, ← hy]; rw [Int32.lt_iff_toInt_lt] at h; omega
theorem fle {x y : Int32} {a b : Int} (hx : x.toInt = a) (hy : y.toInt = b) (h : x ≤ y) : a ≤ b := by rw [← hx, ← hy]; exact Int32.le_iff_toInt_le.mp h
theorem fnle {x y : Int32} {a b : Int} (hx : x.toInt = a) (hy : y.toInt = b) (h : ¬ x ≤ y) : b < a := by rw [← hx, ← hy]; rw [Int32.le_iff_toInt_le] at h; omega
theorem feq {x y : Int32} {a b : Int} (hx : x.toInt = a) (hy : y.toInt = b) (h : x = y) : a = b := by rw [← hx, ← hy, h]
theorem fne {x y : Int32} {a b : Int} (hx : x.toInt = a) (hy : y.toInt = b) (h : ¬ x = y) : a ≠ b := by rw [← hx, ← hy]; exact fun e => h (Int32.toInt_inj.mp e)
theorem fadd {x y v : Int32} {a b : Int} (hx : x.toInt = a) (hy : y.toInt = b) (h : v = x + y) (h1 : -2147483648 ≤ a + b) (h2 : a + b ≤ 2147483647) : v.toInt = a + b := by
  rw [h, Int32.toInt_add, hx, hy]
  exact Int.bmod_eq_of_le (by omega) (by omega)
theorem fsub {x y v : Int32} {a b : Int} (hx : x.toInt = a) (hy : y.toInt = b) (h : v = x - y) (h1 : -2147483648 ≤ a - b) (h2 : a - b ≤ 2147483647) : v.toInt = a - b := by
  rw [h, Int32.toInt_sub, hx, hy]
  exact Int.bmod_eq_of_le (by omega) (by omega)
theorem fmul {x y v : Int32} {a b : Int} (hx : x.toInt = a) (hy : y.toInt = b) (h : v = x * y) (h1 : -2147483648 ≤ a * b) (h2 : a * b ≤ 2147483647) : v.toInt = a * b := by
  rw [h, Int32.toInt_mul, hx, hy]
  exact Int.bmod_eq_of_le (by omega) (by omega)
theorem fin' {x : Int32} {a : Int} {n : Nat} (hx : x.toInt = a) (h1 : 0 ≤ a) (h2 : a < n) : vp_in x n := vp_in_iff.mpr ⟨by rw [hx]; exact h1, by rw [hx]; exact h2⟩
theorem tn {x : Int32} {n : Nat} (h : vp_in x n) : x.toNatClampNeg < n := Nat.not_le.mp fun q => h (Or.inr q)
/-- a number between -/
def rg (a b : Int) (x : Int32) : Prop := a ≤ x.toInt ∧ x.toInt ≤ b
/-- what the numbers in the class's cells keep to, place by place -/
def bC (k i : Nat) (x : Int32) : Prop :=
  if k = 0 then ((i = 8 ∨ i = 9) → x = 125 ∨ x = 191) else
  if k = 1 then (i = 0 → rg 0 10 x) else
  if k = 2 then rg 0 9 x else
  if k = 3 then (i = 0 → rg 0 60 x) else
  if k = 6 then rg 0 10 x else
  if 8 ≤ k ∧ k < 68 then rg 0 9 x else
  if k = 68 then (i = 0 → rg 0 8 x) else
  if k = 70 then rg 0 40 x else
  if k = 81 then (i = 0 → rg 0 20 x) else
  if k = 87 then rg 0 19 x else
  if k = 88 then ((i = 3 → rg 0 40 x) ∧ (i = 4 → rg 0 30 x)) else
  if k = 89 then rg 0 59 x else
  if k = 125 ∨ k = 191 then ((i = 0 ∨ i = 2) → rg 0 30 x) else True
def IC (M : MI) : Prop := ∀ k i, bC k i (M k i)
theorem IC.st {M : MI} (h : IC M) {k i : Nat} {x : Int32} (hb : bC k i x) : IC (sI M k i x) := by
  intro a b
  rw [sI_at]
  split
  · rename_i e
    rw [e.1, e.2]
    exact hb
  · exact h a b
theorem bC_row {k i : Nat} {x : Int32} (h1 : 8 ≤ k) (h2 : k < 68) (hx : rg 0 9 x) : bC k i x := by
  unfold bC
  rw [if_neg (by omega), if_neg (by omega), if_neg (by omega), if_neg (by omega), if_neg (by omega), if_pos ⟨h1, h2⟩]
  exact hx
theorem bC_free {k i : Nat} {x : Int32} (h : 71 ≤ k) (h81 : k ≠ 81) (h87 : k ≠ 87) (h88 : k ≠ 88) (h89 : k ≠ 89) (h125 : k ≠ 125) (h191 : k ≠ 191) : bC k i x := by
  unfold bC
  rw [if_neg (by omega), if_neg (by omega), if_neg (by omega), if_neg (by omega), if_neg (by omega), if_neg (by omega), if_neg (by omega), if_neg (by omega), if_neg (by omega), if_neg (by omega), if_neg (by omega), if_neg (by omega), if_neg (by omega)]
  trivial
theorem IC.row {M : MI} (h : IC M) {k : Nat} (i : Nat) (h1 : 8 ≤ k) (h2 : k < 68) : rg 0 9 (M k i) := by
  have := h k i
  unfold bC at this
  rw [if_neg (by omega), if_neg (by omega), if_neg (by omega), if_neg (by omega), if_neg (by omega), if_pos ⟨h1, h2⟩] at this
  exact this
theorem ite_or {p : Prop} [Decidable p] {a b : Prop} (ha : a) (hb : b) : if p then a else b := by
  by_cases h : p
  · rw [if_pos h]; exact ha
  · rw [if_neg h]; exact hb
theorem rg_z {b : Int} (hb : 0 ≤ b) : rg 0 b 0 := ⟨by decide, by rw [show (0 : Int32).toInt = 0 by decide]; exact hb⟩
theorem bC_z {k i : Nat} (h0 : k ≠ 0) : bC k i 0 := by
  unfold bC
  rw [if_neg h0]
  exact ite_or (fun _ => rg_z (by decide)) (ite_or (rg_z (by decide)) (ite_or (fun _ => rg_z (by decide)) (ite_or (rg_z (by decide)) (ite_or (rg_z (by decide)) (ite_or (fun _ => rg_z (by decide)) (ite_or (rg_z (by decide)) (ite_or (fun _ => rg_z (by decide)) (ite_or (rg_z (by decide)) (ite_or ⟨fun _ => rg_z (by decide), fun _ => rg_z (by decide)⟩ (ite_or (rg_z (by decide)) (ite_or (fun _ => rg_z (by decide)) trivial)))))))))))
theorem IC0 : IC M0 := by
  intro k i
  by_cases e0 : k = 0
  · subst e0
    intro h
    rcases h with rfl | rfl
    · exact Or.inl rfl
    · exact Or.inr rfl
  · by_cases e1 : k = 258
    · subst e1
      exact bC_free (by decide) (by decide) (by decide) (by decide) (by decide) (by decide) (by decide)
    · have e2 : M0 k i = 0 := by rw [M0_z e0 e1]
      rw [e2]
      exact bC_z e0
