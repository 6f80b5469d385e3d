/-! the reference: its view, what its numbers keep to -/
def vR0 (M : MI) (i : Nat) : Int32 := if i = 0 then M 258 2 else if i = 1 then M 258 4 else if i = 2 then M 258 9 else if i = 3 then M 258 14 else if i = 4 then M 258 0 else if i = 5 then M 258 26 else 0
def vR (M : MI) : VW := fun k i =>
  if k = 0 then vR0 M i else if k = 1 then M 260 i else if k = 2 then M 261 i else if k = 3 then M 262 i else if k = 4 then M 263 i else if k = 5 then M 264 i else
  if k = 6 then M 265 i else if k = 7 then M 266 i else if k = 8 then (if ((i / 40 : Nat) : Int) < (M 258 9).toInt then M 267 i else -9) else if k = 9 then M 269 i else
  if k = 10 then M 270 i else if k = 11 then M 271 i else if k = 12 then M 272 i else if k = 13 then M 273 i else if k = 14 then M 259 i else 0
def bxd (x : Int32) : Prop := x.toInt = -9 ∨ (0 ≤ x.toInt ∧ x.toInt ≤ 59)
def bS (i : Nat) (x : Int32) : Prop :=
  if i = 2 then rg 0 10 x else if i = 4 then rg 0 60 x else if i = 9 then rg 0 8 x else if i = 14 then rg 0 20 x else if i = 25 then rg 0 1 x else
  if i = 27 then rg 0 7 x else if i = 28 then rg 0 30 x else if i = 29 then rg 0 30 x else if i = 31 then rg 0 40 x else if i = 42 then rg 0 30 x else if i = 44 then rg 0 40 x else True
def bR (k i : Nat) (x : Int32) : Prop :=
  if k = 258 then bS i x else if k = 260 then rg 0 9 x else if k = 262 then rg 0 100000 x else if k = 263 then rg 0 10 x else if k = 264 then rg 0 9 x else
  if k = 266 then rg 0 40 x else if k = 267 then bxd x else if k = 275 then rg 0 19 x else True
def IR (M : MI) : Prop := ∀ k i, bR k i (M k i)
theorem IR.st {M : MI} (h : IR M) {k i : Nat} {x : Int32} (hb : bR k i x) : IR (sI M k i x) := by
  intro a b
  rw [sI_at]
  split
  · rename_i e
    rw [e.1, e.2]
    exact hb
  · exact h a b
theorem IR.of {M M1 : MI} (h : IR M) (e : ∀ k, 258 ≤ k → M1 k = M k) : IR M1 := by
  intro k i
  by_cases hk : 258 ≤ k
  · rw [e k hk]; exact h k i
  · unfold bR
    rw [if_neg (by omega), if_neg (by omega), if_neg (by omega), if_neg (by omega), if_neg (by omega), if_neg (by omega), if_neg (by omega), if_neg (by omega)]
    trivial
theorem IC.of {M M1 : MI} (h : IC M) (e : ∀ k, k < 258 → M1 k = M k) : IC M1 := by
  intro k i
  by_cases hk : k < 258
  · rw [e k hk]; exact h k i
  · exact bC_free (by omega) (by omega) (by omega) (by omega) (by omega) (by omega) (by omega)
theorem IR0 : IR M0 := by
  intro k i
  by_cases e0 : k = 0
  · subst e0
    exact trivial
  · by_cases e1 : k = 258
    · subst e1
      show bS i (M0 258 i)
      by_cases e2 : i = 26
      · subst e2; exact trivial
      · have e3 : M0 258 i = 0 := by
          show (match i with
            | 26 => (-9 : Int32)
            | _ => 0) = 0
          split
          · exact absurd rfl e2
          · rfl
        rw [e3]
        unfold bS
        exact ite_or (rg_z (by decide)) (ite_or (rg_z (by decide)) (ite_or (rg_z (by decide)) (ite_or (rg_z (by decide)) (ite_or (rg_z (by decide)) (ite_or (rg_z (by decide)) (ite_or (rg_z (by decide)) (ite_or (rg_z (by decide)) (ite_or (rg_z (by decide)) (ite_or (rg_z (by decide)) (ite_or (rg_z (by decide)) trivial))))))))))
    · have e2 : M0 k i = 0 := by rw [M0_z e0 e1]
      rw [e2]
      unfold bR
      rw [if_neg e1]
      exact ite_or (rg_z (by decide)) (ite_or (rg_z (by decide)) (ite_or (rg_z (by decide)) (ite_or (rg_z (by decide)) (ite_or (rg_z (by decide)) (ite_or (Or.inr ⟨by decide, by decide⟩) (ite_or (rg_z (by decide)) trivial))))))
/-! an answer that is yes or no -/
def zo (r : Int32) (P : Prop) : Prop := (r = 1 ∧ P) ∨ (r = 0 ∧ ¬ P)
theorem zo_t {r : Int32} {P : Prop} (h : zo r P) (c : ¬ r = 0) : P := by
  rcases h with h | h
  · exact h.2
  · exact absurd h.1 c
theorem zo_f {r : Int32} {P : Prop} (h : zo r P) (c : r = 0) : ¬ P := by
  rcases h with h | h
  · exact absurd (h.1.symm.trans c) (by decide)
  · exact h.2
theorem zo_b {r : Int32} {P : Prop} (h : zo r P) : 0 ≤ r.toInt ∧ r.toInt ≤ 1 := by
  rcases h with h | h <;> rw [h.1] <;> exact ⟨by decide, by decide⟩
theorem zo_i {r : Int32} {P Q : Prop} (h : zo r P) (e : P ↔ Q) : zo r Q := by
  rcases h with h | h
  · exact Or.inl ⟨h.1, e.mp h.2⟩
  · exact Or.inr ⟨h.1, fun q => h.2 (e.mpr q)⟩
theorem zo_in {r v a b : Int32} {A B : Int} (h : r = if a ≤ v ∧ v ≤ b then 1 else 0) (ha : a.toInt = A) (hb : b.toInt = B) : zo r (A ≤ v.toInt ∧ v.toInt ≤ B) := by
  rw [← ha, ← hb]
  by_cases q : a ≤ v ∧ v ≤ b
  · rw [if_pos q] at h
    exact Or.inl ⟨h, Int32.le_iff_toInt_le.mp q.1, Int32.le_iff_toInt_le.mp q.2⟩
  · rw [if_neg q] at h
    exact Or.inr ⟨h, fun w => q ⟨Int32.le_iff_toInt_le.mpr w.1, Int32.le_iff_toInt_le.mpr w.2⟩⟩
/-! long numbers as Int -/
theorem fi2l {x : Int32} {v : Int64} {a : Int} (hx : x.toInt = a) (h : v = x.toInt64) : v.toInt = a := by rw [h, Int32.toInt_toInt64, hx]
theorem fladd {x y v : Int64} {a b : Int} (hx : x.toInt = a) (hy : y.toInt = b) (h : v = x + y) (h1 : -9223372036854775808 ≤ a + b) (h2 : a + b ≤ 9223372036854775807) : v.toInt = a + b := by
  rw [h, Int64.toInt_add, hx, hy]
  exact Int.bmod_eq_of_le (by omega) (by omega)
theorem flsub {x y v : Int64} {a b : Int} (hx : x.toInt = a) (hy : y.toInt = b) (h : v = x - y) (h1 : -9223372036854775808 ≤ a - b) (h2 : a - b ≤ 9223372036854775807) : v.toInt = a - b := by
  rw [h, Int64.toInt_sub, hx, hy]
  exact Int.bmod_eq_of_le (by omega) (by omega)
section LC
variable {x y : Int64} {v : Int32} {a b : Int}
theorem ceq (hx : x.toInt = a) (hy : y.toInt = b) (e : v = lg_cmp x y) (h : v = 0) : a = b := by rw [e, lg_cmp_eq] at h; rw [← hx, ← hy, h]
theorem cne (hx : x.toInt = a) (hy : y.toInt = b) (e : v = lg_cmp x y) (h : ¬ v = 0) : a ≠ b := by rw [e, lg_cmp_eq] at h; rw [← hx, ← hy]; exact fun q => h (Int64.toInt_inj.mp q)
theorem clt (hx : x.toInt = a) (hy : y.toInt = b) (e : v = lg_cmp x y) (h : v < 0) : a < b := by rw [e, lg_cmp_lt] at h; rw [← hx, ← hy]; exact Int64.lt_iff_toInt_lt.mp h
theorem cnlt (hx : x.toInt = a) (hy : y.toInt = b) (e : v = lg_cmp x y) (h : ¬ v < 0) : b ≤ a := by rw [e, lg_cmp_lt, Int64.lt_iff_toInt_lt] at h; rw [← hx, ← hy]; omega
theorem cge (hx : x.toInt = a) (hy : y.toInt = b) (e : v = lg_cmp x y) (h : 0 ≤ v) : b ≤ a := by rw [e, lg_cmp_ge] at h; rw [← hx, ← hy]; exact Int64.le_iff_toInt_le.mp h
theorem cnge (hx : x.toInt = a) (hy : y.toInt = b) (e : v = lg_cmp x y) (h : ¬ 0 ≤ v) : a < b := by rw [e, lg_cmp_ge, Int64.le_iff_toInt_le] at h; rw [← hx, ← hy]; omega
theorem cgt (hx : x.toInt = a) (hy : y.toInt = b) (e : v = lg_cmp x y) (h : 0 < v) : b < a := by rw [e, lg_cmp_gt] at h; rw [← hx, ← hy]; exact Int64.lt_iff_toInt_lt.mp h
theorem cngt (hx : x.toInt = a) (hy : y.toInt = b) (e : v = lg_cmp x y) (h : ¬ 0 < v) : a ≤ b := by rw [e, lg_cmp_gt, Int64.lt_iff_toInt_lt] at h; rw [← hx, ← hy]; omega
theorem cle (hx : x.toInt = a) (hy : y.toInt = b) (e : v = lg_cmp x y) (h : v ≤ 0) : a ≤ b := by rw [e, lg_cmp_le] at h; rw [← hx, ← hy]; exact Int64.le_iff_toInt_le.mp h
theorem cnle (hx : x.toInt = a) (hy : y.toInt = b) (e : v = lg_cmp x y) (h : ¬ v ≤ 0) : b < a := by rw [e, lg_cmp_le, Int64.le_iff_toInt_le] at h; rw [← hx, ← hy]; omega
end LC
/-! stores and the view -/
theorem vR_z {M : MI} {k i : Nat} {x : Int32} (h : (268 ≤ k ∧ ¬ (269 ≤ k ∧ k ≤ 273)) ∨ k < 258) : vR (sI M k i x) = vR M := by
  funext a b
  unfold vR vR0
  rw [sI_n M i x (show 258 ≠ k by omega), sI_n M i x (show 259 ≠ k by omega), sI_n M i x (show 260 ≠ k by omega), sI_n M i x (show 261 ≠ k by omega), sI_n M i x (show 262 ≠ k by omega), sI_n M i x (show 263 ≠ k by omega), sI_n M i x (show 264 ≠ k by omega), sI_n M i x (show 265 ≠ k by omega), sI_n M i x (show 266 ≠ k by omega), sI_n M i x (show 267 ≠ k by omega), sI_n M i x (show 269 ≠ k by omega), sI_n M i x (show 270 ≠ k by omega), sI_n M i x (show 271 ≠ k by omega), sI_n M i x (show 272 ≠ k by omega), sI_n M i x (show 273 ≠ k by omega)]
theorem vR_a {M : MI} {k c i : Nat} {x : Int32} (h : (k = 260 ∧ c = 1) ∨ (k = 261 ∧ c = 2) ∨ (k = 262 ∧ c = 3) ∨ (k = 263 ∧ c = 4) ∨ (k = 264 ∧ c = 5) ∨ (k = 265 ∧ c = 6) ∨ (k = 266 ∧ c = 7) ∨ (k = 269 ∧ c = 9) ∨ (k = 270 ∧ c = 10) ∨ (k = 271 ∧ c = 11) ∨ (k = 272 ∧ c = 12) ∨ (k = 273 ∧ c = 13) ∨ (k = 259 ∧ c = 14)) : vR (sI M k i x) = sI (vR M) c i x := by
  funext a b
  rw [sI_at]
  rcases h with h | h | h | h | h | h | h | h | h | h | h | h | h <;> obtain ⟨rfl, rfl⟩ := h <;> simp only [vR, vR0, sI_at] <;> grind (splits := 30)
theorem vR_s {M : MI} {j c : Nat} {x : Int32} (h : (j = 2 ∧ c = 0) ∨ (j = 4 ∧ c = 1) ∨ (j = 14 ∧ c = 3) ∨ (j = 0 ∧ c = 4) ∨ (j = 26 ∧ c = 5)) : vR (sI M 258 j x) = sI (vR M) 0 c x := by
  funext a b
  rw [sI_at]
  rcases h with h | h | h | h | h <;> obtain ⟨rfl, rfl⟩ := h <;> simp only [vR, vR0, sI_at] <;> grind (splits := 30)
theorem vR_b {M : MI} {i : Nat} {x : Int32} (h : ((i / 40 : Nat) : Int) < (M 258 9).toInt) : vR (sI M 267 i x) = sI (vR M) 8 i x := by
  funext a b
  rw [sI_at]
  simp only [vR, vR0, sI_at]
  grind (splits := 30)
theorem ixn {x : Int32} (h : 0 ≤ x.toInt) : (x.toNatClampNeg : Int) = x.toInt := by
  rw [Int32.toNatClampNeg]
  exact Int.toNat_of_nonneg h
theorem cg1 {f : Nat → Int32} {i j : Nat} {v : Int32} (h : v = f i) (e : i = j) : v = f j := by rw [h, e]
theorem sge {M : MI} {V : VW} {k i j : Nat} {x : Int32} (h : vR M = sI V k i x) (e : i = j) : vR M = sI V k j x := by rw [h, e]
theorem vR8 {M : MI} {i : Nat} (h : ((i / 40 : Nat) : Int) < (M 258 9).toInt) : vR M 8 i = M 267 i := by
  show (if ((i / 40 : Nat) : Int) < (M 258 9).toInt then M 267 i else -9) = _
  rw [if_pos h]
theorem of_ix {x : Int32} (h : 0 ≤ x.toInt) : Int32.ofNat (ix x) = x := by
  apply Int32.toInt_inj.mp
  have h1 := ixn h
  have h2 := Int32.toInt_lt x
  rw [Int32.toInt_ofNat', show ((ix x : Nat) : Int) = x.toInt from h1]
  exact Int.bmod_eq_of_le (by omega) (by have := Int32.size; show x.toInt < (4294967296 + 1) / 2; omega)
theorem pF_end {f : Nat → Int32} {c : Int32} {n k : Nat} (h : n ≤ k) : pF f c (n - k) k = -9 := by
  rw [Nat.sub_eq_zero_of_le h]; rfl
theorem pF_hit {f : Nat → Int32} {c : Int32} {n k : Nat} (h : k < n) (e : (f k).toInt = c.toInt) : pF f c (n - k) k = Int32.ofNat k := by
  rw [show n - k = (n - k - 1) + 1 by omega]
  show (if (f k).toInt = c.toInt then Int32.ofNat k else _) = _
  rw [if_pos e]
theorem pF_go {f : Nat → Int32} {c : Int32} {n k : Nat} (h : k < n) (e : ¬ (f k).toInt = c.toInt) : pF f c (n - k) k = pF f c (n - (k + 1)) (k + 1) := by
  rw [show n - k = (n - (k + 1)) + 1 by omega]
  show (if (f k).toInt = c.toInt then _ else pF f c (n - (k + 1)) (k + 1)) = _
  rw [if_neg e]
theorem vR_bm {M : MI} {i : Nat} {x : Int32} (h : ¬ ((i / 40 : Nat) : Int) < (M 258 9).toInt) : vR (sI M 267 i x) = vR M := by
  funext a b
  simp only [vR, vR0, sI_at]
  grind (splits := 30)
theorem vR_bx {M : MI} {x : Int32} {n : Nat} (h : (M 258 9).toInt = (n : Int)) (hx : x.toInt = (n : Int) + 1) (hn : ∀ j, j < 40 → M 267 (40 * n + j) = -9) : vR (sI M 258 9 x) = sI (vR M) 0 2 x := by
  funext a b
  rw [sI_at]
  by_cases ha : a = 8
  · subst ha
    rw [if_neg (by omega)]
    show (if ((b / 40 : Nat) : Int) < (sI M 258 9 x 258 9).toInt then sI M 258 9 x 267 b else -9) = (if ((b / 40 : Nat) : Int) < (M 258 9).toInt then M 267 b else -9)
    rw [show sI M 258 9 x 258 9 = x from by rw [sI_at, if_pos (by decide)], sI_n _ _ _ (by decide), hx, h]
    by_cases h1 : ((b / 40 : Nat) : Int) < (n : Int)
    · rw [if_pos h1, if_pos (by omega)]
    · rw [if_neg h1]
      by_cases h2 : ((b / 40 : Nat) : Int) < (n : Int) + 1
      · rw [if_pos h2]
        have e : b = 40 * n + b % 40 := by omega
        rw [e]
        exact hn _ (by omega)
      · rw [if_neg h2]
  · simp only [vR, vR0, sI_at]
    grind (splits := 30)
theorem pourV_0 (V : VW) (a b : Nat) : pourV V a b 0 = V := by
  funext k i
  unfold pourV
  rw [if_neg (by omega)]
theorem pourV_s (V : VW) (a b n : Nat) : sI (pourV V a b n) 8 (b + n) (V 8 (a + n)) = pourV V a b (n + 1) := by
  funext k i
  rw [sI_at]
  unfold pourV
  by_cases h : k = 8 ∧ i = b + n
  · rw [if_pos h, if_pos (by omega), h.2, show a + (b + n - b) = a + n by omega]
  · rw [if_neg h]
    by_cases h2 : k = 8 ∧ b ≤ i ∧ i < b + n
    · rw [if_pos h2, if_pos (by omega)]
    · rw [if_neg h2, if_neg (by omega)]
theorem cg1L {f : Nat → Int64} {i j : Nat} {v : Int64} (h : v = f i) (e : i = j) : v = f j := by rw [h, e]
theorem lk0 {V : VW} {x i : Int32} (h : (lacksV V x i).toInt = 0) : 0 ≤ i.toInt ∧ i.toInt < (V 7 x.toNatClampNeg).toInt ∧ ¬ (V 8 (40 * x.toNatClampNeg + i.toNatClampNeg)).toInt = -9 := by
  unfold lacksV at h
  by_cases h1 : 0 ≤ i.toInt ∧ i.toInt < (V 7 x.toNatClampNeg).toInt
  · rw [if_pos h1] at h
    by_cases h2 : (V 8 (40 * x.toNatClampNeg + i.toNatClampNeg)).toInt = -9
    · rw [if_pos h2] at h; exact absurd h (by decide)
    · exact ⟨h1.1, h1.2, h2⟩
  · rw [if_neg h1] at h; exact absurd h (by decide)
