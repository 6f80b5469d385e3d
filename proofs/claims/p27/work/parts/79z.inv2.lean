/-! more that the house keeps to: sorts, kinds, marks of those that are not written -/
def AI2 (V : VW) : Prop := (∀ b, 0 ≤ (V 2 b).toInt ∧ (V 2 b).toInt ≤ 3) ∧ (∀ x, 0 ≤ (V 6 x).toInt ∧ (V 6 x).toInt ≤ 3) ∧ (∀ m, 0 ≤ (V 9 m).toInt ∧ (V 9 m).toInt ≤ 8) ∧
  (∀ b : Nat, b < 60 → (V 2 b).toInt = 2 → (V 4 b).toInt ≤ 1) ∧
  (∀ b : Nat, b < 60 → (V 2 b).toInt = 3 → ∀ k : Nat, (V 0 0).toInt ≤ (k : Int) → k < 10 → V 5 (10 * b + k) = 0) ∧
  (∀ b : Nat, b < 60 → (V 0 1).toInt ≤ (b : Int) → ∀ k : Nat, k < 10 → V 5 (10 * b + k) = 0)
theorem AI2_ext {V W : VW} (h : AI2 V) (e0 : (V 0 0).toInt ≤ (W 0 0).toInt) (e01 : W 0 1 = V 0 1) (e2 : W 2 = V 2) (e4 : W 4 = V 4) (e5 : W 5 = V 5) (e6 : W 6 = V 6) (e9 : W 9 = V 9) : AI2 W := by
  obtain ⟨a1, a2, a3, a4, a5, a6⟩ := h
  refine ⟨by rw [e2]; exact a1, by rw [e6]; exact a2, by rw [e9]; exact a3, by rw [e2, e4]; exact a4, ?_, by rw [e01, e5]; exact a6⟩
  rw [e2, e5]
  exact fun b hb hs k hk hk2 => a5 b hb hs k (by omega) hk2
theorem AI2_n {V W : VW} (h : AI2 V) (n : ∀ c, (c = 0 ∨ c = 2 ∨ c = 4 ∨ c = 5 ∨ c = 6 ∨ c = 9) → W c = V c) : AI2 W :=
  AI2_ext h (by rw [n 0 (by decide)]; exact Int.le_refl _) (by rw [n 0 (by decide)]) (n 2 (by decide)) (n 4 (by decide)) (n 5 (by decide)) (n 6 (by decide)) (n 9 (by decide))
theorem AI2_05 {V : VW} (h : AI2 V) {j : Nat} (hj : 2 ≤ j) (y : Int32) : AI2 (sI V 0 j y) :=
  AI2_ext h (by rw [sI_at, if_neg (by omega)]; exact Int.le_refl _) (by rw [sI_at, if_neg (by omega)]) (sI_n _ _ _ (by decide)) (sI_n _ _ _ (by decide)) (sI_n _ _ _ (by decide)) (sI_n _ _ _ (by decide)) (sI_n _ _ _ (by decide))
theorem AI2_k {V : VW} (h : AI2 V) {c i : Nat} (hc : c ≠ 0 ∧ c ≠ 2 ∧ c ≠ 4 ∧ c ≠ 5 ∧ c ≠ 6 ∧ c ≠ 9) (y : Int32) : AI2 (sI V c i y) :=
  AI2_n h (fun k hk => sI_n _ _ _ (by omega))
theorem AI2_meets {V : VW} (h : AI2 V) (f : Int32) : AI2 (meetsV V f) := by
  unfold meetsV
  exact AI2_k (AI2_05 h (by decide) _) (by decide) _
theorem AI2_stand {V : VW} (h : AI2 V) (h0 : 0 ≤ (V 0 0).toInt) (h1 : (V 0 0).toInt ≤ 10) : AI2 (A_stand V).2 := by
  unfold A_stand
  split
  · exact h
  · have ny := inc1 h0 h1 (by decide)
    show AI2 (sI (sI V 1 (V 0 0).toNatClampNeg (V 0 0)) 0 0 (V 0 0 + 1))
    refine AI2_ext (AI2_k (c := 1) (i := (V 0 0).toNatClampNeg) h (by decide) (V 0 0)) ?_ ?_ (sI_n _ _ _ (by decide)) (sI_n _ _ _ (by decide)) (sI_n _ _ _ (by decide)) (sI_n _ _ _ (by decide)) (sI_n _ _ _ (by decide))
    · rw [show sI (sI V 1 (V 0 0).toNatClampNeg (V 0 0)) 0 0 (V 0 0 + 1) 0 0 = V 0 0 + 1 by rw [sI_at, if_pos ⟨rfl, rfl⟩], sI_n V _ _ (show 0 ≠ 1 by decide)]; omega
    · rw [sI_at, if_neg (by decide)]
theorem AI2_draw {V : VW} (h : AI2 V) (x y : Int32) : AI2 (A_draw V x y).2 := by
  unfold A_draw
  split
  · exact AI2_k (AI2_k h (by decide) _) (by decide) _
  · exact h
theorem AI2_ballot {V : VW} (h : AI2 V) (hA : AI V) (h0 : 0 ≤ (V 0 1).toInt) (h1 : (V 0 1).toInt ≤ 60) (s p : Int32) : AI2 (A_ballot V s p).2 := by
  unfold A_ballot
  split
  · rename_i hc
    split
    · exact h
    · rename_i hne
      have n0 := ixn h0
      have ny := inc1 h0 h1 (by decide)
      have hs := hc.1
      show AI2 (sI (sI (sI V 2 (V 0 1).toNatClampNeg s) 3 (V 0 1).toNatClampNeg p) 0 1 (V 0 1 + 1))
      generalize hW : sI (sI (sI V 2 (V 0 1).toNatClampNeg s) 3 (V 0 1).toNatClampNeg p) 0 1 (V 0 1 + 1) = W
      have n : ∀ c, c ≠ 0 → c ≠ 2 → c ≠ 3 → W c = V c := fun c h1 h2 h3 => by rw [← hW, sI_n _ _ _ h1, sI_n _ _ _ h3, sI_n _ _ _ h2]
      have z : ∀ j, j ≠ 1 → W 0 j = V 0 j := fun j hj => by rw [← hW, sI_at, if_neg (by omega), sI_n _ _ _ (by decide), sI_n _ _ _ (by decide)]
      have z0 : W 0 1 = V 0 1 + 1 := by rw [← hW, sI_at, if_pos ⟨rfl, rfl⟩]
      have z2 : ∀ i, W 2 i = if i = (V 0 1).toNatClampNeg then s else V 2 i := fun i => by rw [← hW, sI_n _ _ _ (by decide), sI_n _ _ _ (by decide), sI_k]; rfl
      obtain ⟨a1, a2, a3, a4, a5, a6⟩ := h
      have a8 := hA.2.2.2.2.2.2.2
      refine ⟨?_, ?_, ?_, ?_, ?_, ?_⟩
      · intro b; rw [z2]; by_cases e : b = (V 0 1).toNatClampNeg
        · rw [if_pos e]; exact hs
        · rw [if_neg e]; exact a1 b
      · rw [n 6 (by decide) (by decide) (by decide)]; exact a2
      · rw [n 9 (by decide) (by decide) (by decide)]; exact a3
      · intro b hb hq
        rw [z2] at hq
        rw [n 4 (by decide) (by decide) (by decide)]
        by_cases e : b = (V 0 1).toNatClampNeg
        · have := a8 b hb (by omega); omega
        · rw [if_neg e] at hq; exact a4 b hb hq
      · intro b hb hq k hk hk2
        rw [z2] at hq
        rw [z 0 (by decide)] at hk
        rw [n 5 (by decide) (by decide) (by decide)]
        by_cases e : b = (V 0 1).toNatClampNeg
        · exact a6 b hb (by omega) k hk2
        · rw [if_neg e] at hq; exact a5 b hb hq k hk hk2
      · intro b hb hq k hk
        rw [z0, ny] at hq
        rw [n 5 (by decide) (by decide) (by decide)]
        exact a6 b hb (by omega) k hk
  · exact h
theorem AI2_rank {V : VW} (h : AI2 V) (hA : AI V) (h1 : (V 0 1).toInt ≤ 60) (h10 : (V 0 0).toInt ≤ 10) (hm : ∀ i, 0 ≤ (V 5 i).toInt ∧ (V 5 i).toInt ≤ 9) (ho : ∀ b, 0 ≤ (V 4 b).toInt ∧ (V 4 b).toInt ≤ 10) (b c : Int32) : AI2 (A_rank V b c).2 := by
  unfold A_rank
  split
  · rename_i hc
    split
    · rename_i hs
      split
      · exact h
      · rename_i hp
        have nb := ixn hc.1.1
        have hb2 := hc.1.2
        have hc2 := hc.2.2
        have hob := ho b.toNatClampNeg
        have no := ixn hob.1
        have ny := inc1 hob.1 hob.2 (by decide)
        have hlt10 : (V 4 b.toNatClampNeg).toInt < 10 := rank_lt hA hm b.toNatClampNeg (by omega) hob c ⟨hc.2.1, by omega⟩ (show (placeV V b c).toInt = -9 by omega)
        show AI2 (sI (sI V 5 (10 * b.toNatClampNeg + (V 4 b.toNatClampNeg).toNatClampNeg) c) 4 b.toNatClampNeg (V 4 b.toNatClampNeg + 1))
        generalize hW : sI (sI V 5 (10 * b.toNatClampNeg + (V 4 b.toNatClampNeg).toNatClampNeg) c) 4 b.toNatClampNeg (V 4 b.toNatClampNeg + 1) = W
        have n : ∀ c, c ≠ 4 → c ≠ 5 → W c = V c := fun c h1 h2 => by rw [← hW, sI_n _ _ _ h1, sI_n _ _ _ h2]
        have z4 : ∀ i, W 4 i = if i = b.toNatClampNeg then V 4 b.toNatClampNeg + 1 else V 4 i := fun i => by rw [← hW, sI_k, sI_n _ _ _ (by decide)]; rfl
        have z5 : ∀ i, W 5 i = if i = 10 * b.toNatClampNeg + (V 4 b.toNatClampNeg).toNatClampNeg then c else V 5 i := fun i => by rw [← hW, sI_n _ _ _ (by decide), sI_k]; rfl
        obtain ⟨a1, a2, a3, a4, a5, a6⟩ := h
        have z1 : (1 : Int32).toInt = 1 := by decide
        refine ⟨by rw [n 2 (by decide) (by decide)]; exact a1, by rw [n 6 (by decide) (by decide)]; exact a2, by rw [n 9 (by decide) (by decide)]; exact a3, ?_, ?_, ?_⟩
        · intro b' hb' hq
          rw [n 2 (by decide) (by decide)] at hq
          rw [z4]
          by_cases e : b' = b.toNatClampNeg
          · rw [if_pos e, ny]
            rw [e] at hq
            have := a4 b.toNatClampNeg (by omega) hq
            omega
          · rw [if_neg e]; exact a4 b' hb' hq
        · intro b' hb' hq k hk hk2
          rw [n 2 (by decide) (by decide)] at hq
          rw [n 0 (by decide) (by decide)] at hk
          rw [z5]
          by_cases e : b' = b.toNatClampNeg
          · exfalso; rw [e] at hq; dsimp only [ofS] at hs; omega
          · rw [if_neg (by omega)]; exact a5 b' hb' hq k hk hk2
        · intro b' hb' hq k hk
          rw [n 0 (by decide) (by decide)] at hq
          rw [z5, if_neg (by omega)]; exact a6 b' hb' hq k hk
    · exact AI2_meets h 3
  · exact h
theorem AI2_score {V : VW} (h : AI2 V) (h1 : (V 0 1).toInt ≤ 60) (h10 : (V 0 0).toInt ≤ 10) (b c p : Int32) : AI2 (A_score V b c p).2 := by
  unfold A_score
  split
  · rename_i hc
    split
    · rename_i hs
      have nb := ixn hc.1.1
      have nc := ixn hc.2.1.1
      have hb2 := hc.1.2
      have hc2 := hc.2.1.2
      show AI2 (sI V 5 (10 * b.toNatClampNeg + c.toNatClampNeg) p)
      generalize hW : sI V 5 (10 * b.toNatClampNeg + c.toNatClampNeg) p = W
      have n : ∀ c, c ≠ 5 → W c = V c := fun c h1 => by rw [← hW, sI_n _ _ _ h1]
      have z5 : ∀ i, W 5 i = if i = 10 * b.toNatClampNeg + c.toNatClampNeg then p else V 5 i := fun i => by rw [← hW, sI_k]; rfl
      obtain ⟨a1, a2, a3, a4, a5, a6⟩ := h
      refine ⟨by rw [n 2 (by decide)]; exact a1, by rw [n 6 (by decide)]; exact a2, by rw [n 9 (by decide)]; exact a3, by rw [n 2 (by decide), n 4 (by decide)]; exact a4, ?_, ?_⟩
      · intro b' hb' hq k hk hk2
        rw [n 2 (by decide)] at hq
        rw [n 0 (by decide)] at hk
        rw [z5, if_neg (by omega)]; exact a5 b' hb' hq k hk hk2
      · intro b' hb' hq k hk
        rw [n 0 (by decide)] at hq
        rw [z5, if_neg (by omega)]; exact a6 b' hb' hq k hk
    · exact AI2_meets h 3
  · exact h
theorem AI2_box {V : VW} (h : AI2 V) (s k : Int32) : AI2 (A_box V s k).2 := by
  unfold A_box
  split
  · rename_i hc
    split
    · exact h
    · split
      · exact AI2_meets h 5
      · refine AI2_05 (AI2_k ?_ (by decide) _) (by decide) _
        have hs := hc.1
        obtain ⟨a1, a2, a3, a4, a5, a6⟩ := h
        have n : ∀ c, c ≠ 6 → sI V 6 (V 0 2).toNatClampNeg s c = V c := fun c h1 => sI_n _ _ _ h1
        refine ⟨by rw [n 2 (by decide)]; exact a1, ?_, by rw [n 9 (by decide)]; exact a3, by rw [n 2 (by decide), n 4 (by decide)]; exact a4, by rw [n 2 (by decide), n 5 (by decide), n 0 (by decide)]; exact a5, by rw [n 5 (by decide), n 0 (by decide)]; exact a6⟩
        intro x
        rw [sI_at]
        by_cases e : x = (V 0 2).toNatClampNeg
        · rw [if_pos ⟨rfl, e⟩]; exact hs
        · rw [if_neg (fun q => e q.2)]; exact a2 x
  · exact h
theorem AI2_put {V : VW} (h : AI2 V) (x i b : Int32) : AI2 (A_put V x i b).2 := by
  unfold A_put
  split
  · split
    · split
      · exact AI2_meets h 6
      · exact AI2_k h (by decide) _
    · exact AI2_meets h 2
  · exact h
theorem AI2_pour {V : VW} (h : AI2 V) (x i y j k : Int32) : AI2 (A_pour V x i y j k).2 := by
  unfold A_pour
  split
  · split
    · split
      · refine AI2_n h (fun c hc => ?_)
        funext z
        show (if c = 8 ∧ _ then _ else V c z) = V c z
        rw [if_neg (by omega)]
      · exact AI2_meets h 2
    · exact AI2_meets h 6
  · exact h
theorem AI2_at {V : VW} (h : AI2 V) (x i : Int32) : AI2 (A_at V x i).2 := by
  unfold A_at
  split
  · split
    · exact h
    · exact AI2_meets h _
  · exact h
theorem AI2_share {V : VW} (h : AI2 V) (x i : Int32) : AI2 (A_share V x i).2 := by
  unfold A_share
  split
  · split
    · exact h
    · exact AI2_meets h _
  · exact h
theorem AI2_weight {V : VW} (h : AI2 V) (b c : Int32) : AI2 (A_weight V b c).2 := by
  unfold A_weight
  split
  · split
    · split
      · exact AI2_meets h 4
      · exact h
    · exact AI2_meets h 3
  · exact h
theorem AI2_method {V : VW} (h : AI2 V) (k r m q : Int32) : AI2 (A_method V k r m q).2 := by
  unfold A_method
  split
  · rename_i hc
    split
    · exact h
    · refine AI2_05 (AI2_k (AI2_k (AI2_k ?_ (by decide) _) (by decide) _) (by decide) _) (by decide) _
      have hs := hc.1
      obtain ⟨a1, a2, a3, a4, a5, a6⟩ := h
      have n : ∀ c, c ≠ 9 → sI V 9 (V 0 3).toNatClampNeg k c = V c := fun c h1 => sI_n _ _ _ h1
      refine ⟨by rw [n 2 (by decide)]; exact a1, by rw [n 6 (by decide)]; exact a2, ?_, by rw [n 2 (by decide), n 4 (by decide)]; exact a4, by rw [n 2 (by decide), n 5 (by decide), n 0 (by decide)]; exact a5, by rw [n 5 (by decide), n 0 (by decide)]; exact a6⟩
      intro x
      rw [sI_at]
      by_cases e : x = (V 0 3).toNatClampNeg
      · rw [if_pos ⟨rfl, e⟩]; exact hs
      · rw [if_neg (fun q => e q.2)]; exact a3 x
  · exact h
theorem AI2_startV {V : VW} (h : AI2 V) (m : Int32) : AI2 (startV V m) := AI2_n h (fun c hc => if_neg (by omega))
theorem AI2_start {V : VW} (h : AI2 V) (m : Int32) : AI2 (A_start V m).2 := by
  unfold A_start
  split
  · exact AI2_startV h m
  · exact h
theorem AI2_find {V : VW} (h : AI2 V) (m : Int32) : AI2 (A_find V m).2 := by
  unfold A_find
  split
  · exact AI2_n h (fun c hc => if_neg (by omega))
  · exact h
theorem AI2_count {V : VW} (h : AI2 V) (m x k : Int32) : AI2 (A_count V m x k).2 := by
  unfold A_count
  split
  · split
    · split
      · exact AI2_05 (AI2_startV h m) (by decide) _
      · exact AI2_meets (AI2_05 (AI2_startV h m) (by decide) _) 3
    · exact AI2_05 (AI2_startV h m) (by decide) _
  · exact AI2_05 h (by decide) _
