/-! the class's view: a new box; sums; finding step by step -/
theorem vC_come {M M1 : MI} {n : Nat} {x y z : Int32} (hn : n < 8) (h69 : M1 69 = upd (M 69) n x) (h70 : M1 70 = upd (M 70) n y) (h68 : M1 68 0 = z) (hp : ∀ j : Nat, (j : Int) < y.toInt → M1 (73 + n) j = -9) (ho : ∀ k i, k ≠ 69 → k ≠ 70 → k ≠ 73 + n → k ≠ 68 → M1 k i = M k i) (h8 : ∀ i : Nat, i / 40 = n → vC M 8 i = -9) : vC M1 = sI (sI (sI (vC M) 6 n x) 7 n y) 0 2 z := by
  have hc : ∀ k, k ≠ 69 → k ≠ 70 → k ≠ 73 + n → k ≠ 68 → M1 k = M k := fun k a b c d => funext (fun i => ho k i a b c d)
  funext a b
  simp only [sI_at]
  by_cases a8 : a = 8
  · subst a8
    rw [if_neg (by omega), if_neg (by omega), if_neg (by omega)]
    show (if b < 320 ∧ ((b % 40 : Nat) : Int) < (M1 70 (b / 40)).toInt then M1 (73 + b / 40) (b % 40) else -9) = _
    by_cases e : b / 40 = n
    · rw [h8 b e, e]
      by_cases q : b < 320 ∧ ((b % 40 : Nat) : Int) < (M1 70 n).toInt
      · rw [if_pos q]
        apply hp
        have w := q.2
        rw [h70, upd_at, if_pos rfl] at w
        exact w
      · rw [if_neg q]
    · show _ = (if b < 320 ∧ ((b % 40 : Nat) : Int) < (M 70 (b / 40)).toInt then M (73 + b / 40) (b % 40) else -9)
      rw [h70, upd_at, if_neg e]
      by_cases q : b < 320 ∧ ((b % 40 : Nat) : Int) < (M 70 (b / 40)).toInt
      · rw [if_pos q, if_pos q, ho _ _ (by omega) (by omega) (by omega) (by omega)]
      · rw [if_neg q, if_neg q]
  · by_cases a5 : a = 5
    · subst a5
      rw [if_neg (by omega), if_neg (by omega), if_neg (by omega)]
      show (if b < 600 then M1 (8 + b / 10) (b % 10) else 0) = (if b < 600 then M (8 + b / 10) (b % 10) else 0)
      by_cases q : b < 600
      · rw [if_pos q, if_pos q, ho _ _ (by omega) (by omega) (by omega) (by omega)]
      · rw [if_neg q, if_neg q]
    · unfold vC vC0
      rw [if_neg a8, if_neg a8, if_neg a5, if_neg a5, h68, h69, h70, hc 1 (by omega) (by omega) (by omega) (by omega), hc 3 (by omega) (by omega) (by omega) (by omega), hc 81 (by omega) (by omega) (by omega) (by omega), hc 0 (by omega) (by omega) (by omega) (by omega), hc 2 (by omega) (by omega) (by omega) (by omega), hc 4 (by omega) (by omega) (by omega) (by omega), hc 5 (by omega) (by omega) (by omega) (by omega), hc 6 (by omega) (by omega) (by omega) (by omega), hc 82 (by omega) (by omega) (by omega) (by omega), hc 85 (by omega) (by omega) (by omega) (by omega), hc 86 (by omega) (by omega) (by omega) (by omega), hc 84 (by omega) (by omega) (by omega) (by omega), hc 83 (by omega) (by omega) (by omega) (by omega), hc 257 (by omega) (by omega) (by omega) (by omega), upd_at, upd_at]
      grind (splits := 30)
theorem sumM_b {V : VW} {b : Nat} (h : ∀ i, 0 ≤ (V 5 i).toInt ∧ (V 5 i).toInt ≤ 9) : ∀ n : Nat, n ≤ 10 → 0 ≤ (sumM V b n).toInt ∧ (sumM V b n).toInt ≤ 9 * (n : Int) := by
  intro n
  induction n with
  | zero => intro _; exact ⟨by show 0 ≤ (0 : Int32).toInt; decide, by show (0 : Int32).toInt ≤ _; rw [show (0 : Int32).toInt = 0 by decide]; omega⟩
  | succ n ih =>
    intro hn
    have a := ih (by omega)
    have c := h (10 * b + n)
    have d := fadd (x := sumM V b n) (y := V 5 (10 * b + n)) rfl rfl rfl (by omega) (by omega)
    have e : sumM V b (n + 1) = sumM V b n + V 5 (10 * b + n) := rfl
    rw [e, d]
    omega
theorem sumM_k {V : VW} {b m : Nat} : ∀ n : Nat, (∀ k, m ≤ k → k < m + n → V 5 (10 * b + k) = 0) → sumM V b (m + n) = sumM V b m := by
  intro n
  induction n with
  | zero => intro _; rfl
  | succ n ih =>
    intro h
    have e : sumM V b (m + (n + 1)) = sumM V b (m + n) + V 5 (10 * b + (m + n)) := rfl
    rw [e, ih (fun k h1 h2 => h k h1 (by omega)), h (m + n) (by omega) (by omega), Int32.add_zero]
theorem bestF_ext {V W : VW} (e10 : W 10 = V 10) (e11 : W 11 = V 11) (B : Nat → Int32) (x : Int32) : ∀ n, bestF W B x n = bestF V B x n := by
  intro n
  induction n with
  | zero => rfl
  | succ n ih =>
    show (if _ then _ else _) = (if _ then _ else _)
    rw [ih, e10, e11]
theorem findF_s {V : VW} {x : Int32} {n k : Nat} {B : Nat → Int32} (h : k < n) : findF V x (n - k) B = if (bestF V B x ((V 0 3).toNatClampNeg)).toInt = -9 then (-9, B) else if (stB V 20 (bestF V B x ((V 0 3).toNatClampNeg)) B ((bestF V B x ((V 0 3).toNatClampNeg)).toNatClampNeg)).toInt = 1 then (bestF V B x ((V 0 3).toNatClampNeg), stB V 20 (bestF V B x ((V 0 3).toNatClampNeg)) B) else findF V x (n - (k + 1)) (stB V 20 (bestF V B x ((V 0 3).toNatClampNeg)) B) := by
  rw [show n - k = (n - (k + 1)) + 1 by omega]
  rfl
theorem vC5b {M : MI} (h : IC M) (i : Nat) : 0 ≤ (vC M 5 i).toInt ∧ (vC M 5 i).toInt ≤ 9 := by
  show 0 ≤ (if i < 600 then M (8 + i / 10) (i % 10) else 0).toInt ∧ (if i < 600 then M (8 + i / 10) (i % 10) else 0).toInt ≤ 9
  by_cases q : i < 600
  · rw [if_pos q]; exact h.row _ (by omega) (by omega)
  · rw [if_neg q]; exact ⟨by decide, by decide⟩
