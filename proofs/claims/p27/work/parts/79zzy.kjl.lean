/-! both tell the same of the latest count that was not refused -/
def JL (M : MI) : Prop := LSc M ∧ ∃ S R, CD M S R ∧ TD M S R
theorem CD_k {M M2 : MI} (h : ∀ k i, ((k = 0 ∧ (i = 8 ∨ i = 9)) ∨ (125 ≤ k ∧ k ≤ 128) ∨ (191 ≤ k ∧ k ≤ 194)) → M2 k i = M k i) {S : List Int32} {R : List (Int32 × Int32)} (hc : CD M S R) : CD M2 S R := by
  have q : ∀ k, ((125 ≤ k ∧ k ≤ 128) ∨ (191 ≤ k ∧ k ≤ 194)) → M2 k = M k := fun k hk => funext (fun i => h k i (by omega))
  unfold CD
  rw [h 0 8 (by decide), q 125 (by decide), q 126 (by decide), q 127 (by decide), q 128 (by decide), q 191 (by decide), q 192 (by decide), q 193 (by decide), q 194 (by decide)]
  exact hc
theorem TD_k {M M2 : MI} (h : ∀ k i, ((k = 258 ∧ (i = 42 ∨ i = 44)) ∨ (288 ≤ k ∧ k ≤ 290)) → M2 k i = M k i) {S : List Int32} {R : List (Int32 × Int32)} (hc : TD M S R) : TD M2 S R := by
  have q : ∀ k, (288 ≤ k ∧ k ≤ 290) → M2 k = M k := fun k hk => funext (fun i => h k i (by omega))
  unfold TD
  rw [h 258 42 (by decide), h 258 44 (by decide), q 288 (by decide), q 289 (by decide), q 290 (by decide)]
  exact hc
theorem TD_s {M M1 : MI} (h : TDs M M1) {S : List Int32} {R : List (Int32 × Int32)} (hc : TD M S R) : TD M1 S R := by
  obtain ⟨h1, h2, h3, h4, h5⟩ := h
  unfold TD
  rw [h1, h2, h3, h4, h5]
  exact hc
theorem JL_k {M M2 : MI} (h : ∀ k i, ((k = 0 ∧ (i = 8 ∨ i = 9)) ∨ (125 ≤ k ∧ k ≤ 128) ∨ (191 ≤ k ∧ k ≤ 194) ∨ (k = 258 ∧ (i = 42 ∨ i = 44)) ∨ (288 ≤ k ∧ k ≤ 290)) → M2 k i = M k i) (hL : JL M) : JL M2 := by
  obtain ⟨h1, S, R, h2, h3⟩ := hL
  refine ⟨?_, S, R, CD_k (fun k i hk => h k i (by omega)) h2, TD_k (fun k i hk => h k i (by omega)) h3⟩
  unfold LSc
  rw [h 0 8 (by decide), h 0 9 (by decide)]
  exact h1
theorem seat_eq {g g1 n n1 x : Int32} {fs fs1 fw fw1 fh fh1 : Nat → Int32} {S : List Int32} {R : List (Int32 × Int32)} (h : RP g fs n fw fh S R) (h1 : RP g1 fs1 n1 fw1 fh1 S R) : A_seat g fs x = A_seat g1 fs1 x := by
  obtain ⟨a1, a2, a3, a4⟩ := h
  obtain ⟨b1, b2, b3, b4⟩ := h1
  unfold A_seat
  rw [a1, b1]
  by_cases e : 0 ≤ x.toInt ∧ x.toInt < (S.length : Int)
  · have nx := ixn e.1
    rw [if_pos e, if_pos e, a2 _ (by omega), b2 _ (by omega)]
  · rw [if_neg e, if_neg e]
theorem rounds_eq {g g1 n n1 : Int32} {fs fs1 fw fw1 fh fh1 : Nat → Int32} {S : List Int32} {R : List (Int32 × Int32)} (h : RP g fs n fw fh S R) (h1 : RP g1 fs1 n1 fw1 fh1 S R) : n = n1 ∧ g = g1 := ⟨Int32.toInt_inj.mp (h.2.2.1.trans h1.2.2.1.symm), Int32.toInt_inj.mp (h.1.trans h1.1.symm)⟩
theorem round_eq {g g1 n n1 x w : Int32} {fs fs1 fw fw1 fh fh1 : Nat → Int32} {S : List Int32} {R : List (Int32 × Int32)} (h : RP g fs n fw fh S R) (h1 : RP g1 fs1 n1 fw1 fh1 S R) : A_round n fw fh x w = A_round n1 fw1 fh1 x w := by
  obtain ⟨a1, a2, a3, a4⟩ := h
  obtain ⟨b1, b2, b3, b4⟩ := h1
  unfold A_round
  rw [a3, b3]
  by_cases e : 0 ≤ x.toInt ∧ x.toInt < (R.length : Int)
  · have nx := ixn e.1
    rw [if_pos e, if_pos e, (a4 _ (by omega)).1, (a4 _ (by omega)).2, (b4 _ (by omega)).1, (b4 _ (by omega)).2]
  · rw [if_neg e, if_neg e]
theorem L_seat {M : MI} (hL : JL M) {x r : Int32} (h : (M 0 8 = 125 ∧ r = A_seat (M 125 0) (M 126) x) ∨ (M 0 8 = 191 ∧ r = A_seat (M 191 0) (M 192) x)) : r = A_seat (M 258 42) (M 288) x := by
  obtain ⟨_, S, R, hc, ht⟩ := hL
  rcases h with ⟨e, q⟩ | ⟨e, q⟩ <;> rcases hc with ⟨e2, c⟩ | ⟨e2, c⟩
  · rw [q]; exact seat_eq c ht
  · rw [e] at e2; exact absurd e2 (by decide)
  · rw [e] at e2; exact absurd e2 (by decide)
  · rw [q]; exact seat_eq c ht
theorem L_rounds {M : MI} (hL : JL M) {r : Int32} (h : (M 0 8 = 125 ∧ r = M 125 2) ∨ (M 0 8 = 191 ∧ r = M 191 2)) : r = M 258 44 := by
  obtain ⟨_, S, R, hc, ht⟩ := hL
  rcases h with ⟨e, q⟩ | ⟨e, q⟩ <;> rcases hc with ⟨e2, c⟩ | ⟨e2, c⟩
  · rw [q]; exact (rounds_eq c ht).1
  · rw [e] at e2; exact absurd e2 (by decide)
  · rw [e] at e2; exact absurd e2 (by decide)
  · rw [q]; exact (rounds_eq c ht).1
theorem L_round {M : MI} (hL : JL M) {x y r : Int32} (h : (M 0 8 = 125 ∧ r = A_round (M 125 2) (M 127) (M 128) x y) ∨ (M 0 8 = 191 ∧ r = A_round (M 191 2) (M 193) (M 194) x y)) : r = A_round (M 258 44) (M 289) (M 290) x y := by
  obtain ⟨_, S, R, hc, ht⟩ := hL
  rcases h with ⟨e, q⟩ | ⟨e, q⟩ <;> rcases hc with ⟨e2, c⟩ | ⟨e2, c⟩
  · rw [q]; exact round_eq c ht
  · rw [e] at e2; exact absurd e2 (by decide)
  · rw [e] at e2; exact absurd e2 (by decide)
  · rw [q]; exact round_eq c ht
theorem L_many {M : MI} (hL : JL M) (hV : vC M = vR M) {x r : Int32} (h : (M 0 8 = 125 ∧ r = A_many (vC M) (M 125 0) x) ∨ (M 0 8 = 191 ∧ r = A_many (vC M) (M 191 0) x)) : r = A_many (vR M) (M 258 42) x := by
  obtain ⟨_, S, R, hc, ht⟩ := hL
  rw [hV] at h
  rcases h with ⟨e, q⟩ | ⟨e, q⟩ <;> rcases hc with ⟨e2, c⟩ | ⟨e2, c⟩
  · rw [q, (rounds_eq c ht).2]
  · rw [e] at e2; exact absurd e2 (by decide)
  · rw [e] at e2; exact absurd e2 (by decide)
  · rw [q, (rounds_eq c ht).2]
theorem count_rel {M M1 M2 : MI} {x y z r r2 : Int32} (hJ : vC M = vR M) (h32 : AI3 (vR M2)) (hI2 : IR M2) (hL : JL M) (hv : vR M1 = vR M) (hf : ∀ k i, 258 ≤ k → M1 k i = M k i) (hg : ∀ k i, k < 258 → M2 k i = M1 k i) (hans : ((A_count (vC M) x y z).1 ≠ 0 → r = (A_count (vC M) x y z).1 ∧ CDs M M1) ∧ ((A_count (vC M) x y z).1 = 0 → ∃ ok S R, OUT (A_count (vC M) x y z).2 (vC M 9 x.toNatClampNeg) y z ok S R ∧ (ok = true → r.toInt = (S.length : Int) ∧ CD M1 S R ∧ LSc M1) ∧ (ok = false → r = -6 ∧ CDs M M1))) (hA1 : (A_count (vR M1) x y z).2 = vR M2) (hA2 : (A_count (vR M1) x y z).1 ≠ 0 → r2 = (A_count (vR M1) x y z).1 ∧ TDs M1 M2) (hA4 : (A_count (vR M1) x y z).1 = 0 → ∃ ok S R, OUT (A_count (vR M1) x y z).2 (vR M1 9 x.toNatClampNeg) y z ok S R ∧ (ok = true → r2.toInt = (S.length : Int) ∧ TD M2 S R) ∧ (ok = false → r2 = -6 ∧ TDs M1 M2)) : r = r2 ∧ JL M2 := by
  rw [hJ] at hans
  rw [hv] at hA1 hA2 hA4
  have hcg : ∀ S R, CD M1 S R → CD M2 S R := fun S R h => CD_k (fun k i hk => hg k i (by omega)) h
  have hlg : LSc M1 → LSc M2 := fun h => by unfold LSc; rw [hg 0 8 (by decide), hg 0 9 (by decide)]; exact h
  have hst : CDs M M1 → TDs M1 M2 → JL M2 := fun hc ht => by
    obtain ⟨l1, S, R, l2, l3⟩ := hL
    exact ⟨hlg (LSc_s hc l1), S, R, hcg S R (hc.2.2 S R l2), TD_s ht (TD_k (fun k i hk => hf k i (by omega)) l3)⟩
  by_cases c : (A_count (vR M) x y z).1 = 0
  · obtain ⟨ok, S, R, o, a, b⟩ := hans.2 c
    obtain ⟨ok1, S1, R1, o1, a1, b1⟩ := hA4 c
    rw [hA1] at o o1
    obtain ⟨e, f⟩ := OUT_u (V := vR M2) (fun i => hI2 264 i) (fun i => hI2 260 i) (hI2 258 2) h32.1 o o1
    subst e
    cases ok with
    | true =>
      obtain ⟨f1, f2⟩ := f rfl
      subst f1
      subst f2
      obtain ⟨a2, a3, a4⟩ := a rfl
      obtain ⟨b2, b3⟩ := a1 rfl
      exact ⟨Int32.toInt_inj.mp (a2.trans b2.symm), hlg a4, S, R, hcg S R a3, b3⟩
    | false =>
      obtain ⟨a2, a3⟩ := b rfl
      obtain ⟨b2, b3⟩ := b1 rfl
      exact ⟨a2.trans b2.symm, hst a3 b3⟩
  · obtain ⟨a2, a3⟩ := hans.1 c
    obtain ⟨b2, b3⟩ := hA2 c
    exact ⟨a2.trans b2.symm, hst a3 b3⟩
