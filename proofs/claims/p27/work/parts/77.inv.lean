/-! what the house keeps to -/
def AI (V : VW) : Prop := DP V ∧ NOv V ∧ b012 (V 13) ∧
  (∀ b : Nat, (b : Int) < (V 0 1).toInt → 1 ≤ (V 3 b).toInt) ∧
  (∀ i : Nat, (V 8 i).toInt = -9 ∨ (0 ≤ (V 8 i).toInt ∧ (V 8 i).toInt < (V 0 1).toInt)) ∧
  (∀ b : Nat, b < 60 → ∀ i j : Nat, i < j → (j : Int) < (V 4 b).toInt → (V 5 (10 * b + i)).toInt ≠ (V 5 (10 * b + j)).toInt) ∧
  (∀ b : Nat, b < 60 → (V 2 b).toInt = 3 → (V 4 b).toInt = 0) ∧
  (∀ b : Nat, b < 60 → (V 0 1).toInt ≤ (b : Int) → (V 4 b).toInt = 0)
theorem AI_ext {V W : VW} (h : AI V) (e0 : W 0 0 = V 0 0) (e01 : W 0 1 = V 0 1) (e03 : W 0 3 = V 0 3) (e1 : W 1 = V 1) (e2 : W 2 = V 2) (e3 : W 3 = V 3) (e4 : W 4 = V 4) (e5 : W 5 = V 5) (e8 : W 8 = V 8) (e12 : W 12 = V 12) (e13 : b012 (W 13)) : AI W := by
  obtain ⟨a1, a2, a3, a4, a5, a6, a7, a8⟩ := h
  refine ⟨?_, ?_, e13, ?_, ?_, ?_, ?_, ?_⟩
  · unfold DP; rw [e0, e1]; exact a1
  · unfold NOv; rw [e03, e12]; exact a2
  · rw [e01, e3]; exact a4
  · rw [e01, e8]; exact a5
  · rw [e4, e5]; exact a6
  · rw [e2, e4]; exact a7
  · rw [e01, e4]; exact a8
theorem AI_meets {V : VW} (h : AI V) (f : Int32) : AI (meetsV V f) := by
  unfold meetsV
  have n : ∀ c, c ≠ 0 → c ≠ 14 → sI (sI V 0 4 f) 14 f.toNatClampNeg (V 14 f.toNatClampNeg + 1) c = V c := fun c h1 h2 => by rw [sI_n _ _ _ h2, sI_n _ _ _ h1]
  have z : ∀ j, j ≠ 4 → sI (sI V 0 4 f) 14 f.toNatClampNeg (V 14 f.toNatClampNeg + 1) 0 j = V 0 j := fun j hj => by rw [sI_n _ _ _ (by decide), sI_at, if_neg (by omega)]
  exact AI_ext h (z 0 (by decide)) (z 1 (by decide)) (z 3 (by decide)) (n 1 (by decide) (by decide)) (n 2 (by decide) (by decide)) (n 3 (by decide) (by decide)) (n 4 (by decide) (by decide)) (n 5 (by decide) (by decide)) (n 8 (by decide) (by decide)) (n 12 (by decide) (by decide)) (by rw [n 13 (by decide) (by decide)]; exact h.2.2.1)
theorem inc1 {x : Int32} {n : Int} (h0 : 0 ≤ x.toInt) (h1 : x.toInt ≤ n) (hn : n ≤ 1000) : (x + 1).toInt = x.toInt + 1 := fadd rfl (by decide : (1 : Int32).toInt = 1) rfl (by omega) (by omega)
theorem AI_stand {V : VW} (h : AI V) (h0 : 0 ≤ (V 0 0).toInt) (h1 : (V 0 0).toInt ≤ 10) : AI (A_stand V).2 := by
  unfold A_stand
  split
  · exact h
  · have n0 := ixn h0
    have ny := inc1 h0 h1 (by decide)
    obtain ⟨a1, a2, a3, a4, a5, a6, a7, a8⟩ := h
    show AI (sI (sI V 1 (V 0 0).toNatClampNeg (V 0 0)) 0 0 (V 0 0 + 1))
    have n : ∀ c, c ≠ 0 → c ≠ 1 → sI (sI V 1 (V 0 0).toNatClampNeg (V 0 0)) 0 0 (V 0 0 + 1) c = V c := fun c h1 h2 => by rw [sI_n _ _ _ h1, sI_n _ _ _ h2]
    have z : ∀ j, j ≠ 0 → sI (sI V 1 (V 0 0).toNatClampNeg (V 0 0)) 0 0 (V 0 0 + 1) 0 j = V 0 j := fun j hj => by rw [sI_at, if_neg (by omega), sI_n _ _ _ (by decide)]
    have z0 : sI (sI V 1 (V 0 0).toNatClampNeg (V 0 0)) 0 0 (V 0 0 + 1) 0 0 = V 0 0 + 1 := by rw [sI_at, if_pos ⟨rfl, rfl⟩]
    have z1 : ∀ i, sI (sI V 1 (V 0 0).toNatClampNeg (V 0 0)) 0 0 (V 0 0 + 1) 1 i = if i = (V 0 0).toNatClampNeg then V 0 0 else V 1 i := fun i => by
      rw [sI_n _ _ _ (by decide), sI_k]; rfl
    refine ⟨?_, ?_, ?_, ?_, ?_, ?_, ?_, ?_⟩
    · intro c hc
      rw [z0, ny] at hc
      by_cases e : (c : Int) < (V 0 0).toInt
      · obtain ⟨i, hi, hv⟩ := a1 c e
        exact ⟨i, by rw [z0, ny]; omega, by rw [z1, if_neg (by omega)]; exact hv⟩
      · exact ⟨(V 0 0).toNatClampNeg, by rw [z0, ny]; omega, by rw [z1, if_pos rfl]; omega⟩
    · unfold NOv; rw [z 3 (by decide), n 12 (by decide) (by decide)]; exact a2
    · rw [n 13 (by decide) (by decide)]; exact a3
    · rw [z 1 (by decide), n 3 (by decide) (by decide)]; exact a4
    · rw [z 1 (by decide), n 8 (by decide) (by decide)]; exact a5
    · rw [n 4 (by decide) (by decide), n 5 (by decide) (by decide)]; exact a6
    · rw [n 2 (by decide) (by decide), n 4 (by decide) (by decide)]; exact a7
    · rw [z 1 (by decide), n 4 (by decide) (by decide)]; exact a8
theorem AI_draw {V : VW} (h : AI V) (x y : Int32) : AI (A_draw V x y).2 := by
  unfold A_draw
  split
  · rename_i hc
    have nx := ixn hc.1.1
    have ny := ixn hc.2.1
    show AI (sI (sI V 1 x.toNatClampNeg (V 1 y.toNatClampNeg)) 1 y.toNatClampNeg (V 1 x.toNatClampNeg))
    have n : ∀ c, c ≠ 1 → sI (sI V 1 x.toNatClampNeg (V 1 y.toNatClampNeg)) 1 y.toNatClampNeg (V 1 x.toNatClampNeg) c = V c := fun c h2 => by rw [sI_n _ _ _ h2, sI_n _ _ _ h2]
    have z1 : ∀ i, sI (sI V 1 x.toNatClampNeg (V 1 y.toNatClampNeg)) 1 y.toNatClampNeg (V 1 x.toNatClampNeg) 1 i = if i = y.toNatClampNeg then V 1 x.toNatClampNeg else if i = x.toNatClampNeg then V 1 y.toNatClampNeg else V 1 i := fun i => by
      rw [sI_k, sI_k]; rfl
    obtain ⟨a1, a2, a3, a4, a5, a6, a7, a8⟩ := h
    refine ⟨?_, ?_, ?_, ?_, ?_, ?_, ?_, ?_⟩
    · intro c hc2
      rw [n 0 (by decide)] at hc2 ⊢
      obtain ⟨i, hi, hv⟩ := a1 c hc2
      have h1 := hc.1.2
      have h2 := hc.2.2
      by_cases ex : i = x.toNatClampNeg
      · exact ⟨y.toNatClampNeg, by omega, by rw [z1, if_pos rfl, ← ex]; exact hv⟩
      · by_cases ey : i = y.toNatClampNeg
        · refine ⟨x.toNatClampNeg, by omega, ?_⟩
          rw [z1]
          by_cases exy : x.toNatClampNeg = y.toNatClampNeg
          · omega
          · rw [if_neg exy, if_pos rfl, ← ey]; exact hv
        · exact ⟨i, hi, by rw [z1, if_neg ey, if_neg ex]; exact hv⟩
    · unfold NOv; rw [n 0 (by decide), n 12 (by decide)]; exact a2
    · rw [n 13 (by decide)]; exact a3
    · rw [n 0 (by decide), n 3 (by decide)]; exact a4
    · rw [n 0 (by decide), n 8 (by decide)]; exact a5
    · rw [n 4 (by decide), n 5 (by decide)]; exact a6
    · rw [n 2 (by decide), n 4 (by decide)]; exact a7
    · rw [n 0 (by decide), n 4 (by decide)]; exact a8
  · exact h
theorem AI_ballot {V : VW} (h : AI V) (h0 : 0 ≤ (V 0 1).toInt) (h1 : (V 0 1).toInt ≤ 60) (s p : Int32) : AI (A_ballot V s p).2 := by
  unfold A_ballot
  split
  · rename_i hc
    split
    · exact h
    · rename_i hne
      have n0 := ixn h0
      have ny := inc1 h0 h1 (by decide)
      have hp := hc.2.1
      show AI (sI (sI (sI V 2 (V 0 1).toNatClampNeg s) 3 (V 0 1).toNatClampNeg p) 0 1 (V 0 1 + 1))
      generalize hW : sI (sI (sI V 2 (V 0 1).toNatClampNeg s) 3 (V 0 1).toNatClampNeg p) 0 1 (V 0 1 + 1) = W
      have n : ∀ c, c ≠ 0 → c ≠ 2 → c ≠ 3 → W c = V c := fun c h1 h2 h3 => by rw [← hW, sI_n _ _ _ h1, sI_n _ _ _ h3, sI_n _ _ _ h2]
      have z : ∀ j, j ≠ 1 → W 0 j = V 0 j := fun j hj => by rw [← hW, sI_at, if_neg (by omega), sI_n _ _ _ (by decide), sI_n _ _ _ (by decide)]
      have z0 : W 0 1 = V 0 1 + 1 := by rw [← hW, sI_at, if_pos ⟨rfl, rfl⟩]
      have z2 : ∀ i, W 2 i = if i = (V 0 1).toNatClampNeg then s else V 2 i := fun i => by rw [← hW, sI_n _ _ _ (by decide), sI_n _ _ _ (by decide), sI_k]; rfl
      have z3 : ∀ i, W 3 i = if i = (V 0 1).toNatClampNeg then p else V 3 i := fun i => by rw [← hW, sI_n _ _ _ (by decide), sI_k, sI_n _ _ _ (by decide)]; rfl
      obtain ⟨a1, a2, a3, a4, a5, a6, a7, a8⟩ := h
      refine ⟨?_, ?_, ?_, ?_, ?_, ?_, ?_, ?_⟩
      · unfold DP; rw [z 0 (by decide), n 1 (by decide) (by decide) (by decide)]; exact a1
      · unfold NOv; rw [z 3 (by decide), n 12 (by decide) (by decide) (by decide)]; exact a2
      · rw [n 13 (by decide) (by decide) (by decide)]; exact a3
      · intro b hb
        rw [z0, ny] at hb
        rw [z3]
        by_cases e : b = (V 0 1).toNatClampNeg
        · rw [if_pos e]; exact hp
        · rw [if_neg e]; exact a4 b (by omega)
      · intro i
        rw [z0, ny, n 8 (by decide) (by decide) (by decide)]
        have := a5 i
        omega
      · rw [n 4 (by decide) (by decide) (by decide), n 5 (by decide) (by decide) (by decide)]; exact a6
      · intro b hb hs
        rw [n 4 (by decide) (by decide) (by decide)]
        rw [z2] at hs
        by_cases e : b = (V 0 1).toNatClampNeg
        · exact a8 b hb (by omega)
        · rw [if_neg e] at hs; exact a7 b hb hs
      · intro b hb hn
        rw [z0, ny] at hn
        rw [n 4 (by decide) (by decide) (by decide)]
        exact a8 b hb (by omega)
  · exact h
theorem pigeon : ∀ (n : Nat) (f : Nat → Nat), (∀ i, i ≤ n → f i < n) → ∃ i j, i < j ∧ j ≤ n ∧ f i = f j := by
  intro n
  induction n with
  | zero => intro f h; exact absurd (h 0 (Nat.le_refl 0)) (Nat.not_lt_zero _)
  | succ n ih =>
    intro f h
    by_cases hv : ∃ i, i ≤ n ∧ f i = f (n + 1)
    · obtain ⟨i, h1, h2⟩ := hv
      exact ⟨i, n + 1, by omega, by omega, h2⟩
    · have hne : ∀ i, i ≤ n → f i ≠ f (n + 1) := fun i hi e => hv ⟨i, hi, e⟩
      have hl := h (n + 1) (by omega)
      obtain ⟨i, j, h1, h2, h3⟩ := ih (fun i => if f i = n then f (n + 1) else f i) (fun i hi => by
        have a := hne i hi
        have b := h i (by omega)
        show (if f i = n then f (n + 1) else f i) < n
        by_cases e : f i = n
        · rw [if_pos e]; omega
        · rw [if_neg e]; omega)
      have ai := hne i (by omega)
      have aj := hne j (by omega)
      refine ⟨i, j, h1, by omega, ?_⟩
      have h4 : (if f i = n then f (n + 1) else f i) = (if f j = n then f (n + 1) else f j) := h3
      by_cases ei : f i = n
      · by_cases ej : f j = n
        · omega
        · rw [if_pos ei, if_neg ej] at h4; omega
      · by_cases ej : f j = n
        · rw [if_neg ei, if_pos ej] at h4; omega
        · rw [if_neg ei, if_neg ej] at h4; exact h4
theorem pF_none0 {f : Nat → Int32} {c : Int32} : ∀ n k0, k0 + n < 2147483648 → (pF f c n k0).toInt = -9 → ∀ k, k0 ≤ k → k < k0 + n → (f k).toInt ≠ c.toInt := by
  intro n
  induction n with
  | zero => intro k0 _ _ k h1 h2; omega
  | succ n ih =>
    intro k0 hb h k h1 h2
    by_cases e : (f k0).toInt = c.toInt
    · have h3 : pF f c (n + 1) k0 = Int32.ofNat k0 := if_pos e
      rw [h3, on31 (by omega)] at h
      omega
    · have h3 : pF f c (n + 1) k0 = pF f c n (k0 + 1) := if_neg e
      rw [h3] at h
      by_cases ek : k = k0
      · subst ek; exact e
      · exact ih (k0 + 1) (by omega) h k (by omega) (by omega)
theorem rank_lt {V : VW} (h : AI V) (hm : ∀ i, 0 ≤ (V 5 i).toInt ∧ (V 5 i).toInt ≤ 9) (b : Nat) (hb : b < 60) (ho : 0 ≤ (V 4 b).toInt ∧ (V 4 b).toInt ≤ 10) (c : Int32) (hc : 0 ≤ c.toInt ∧ c.toInt ≤ 9) (hp : (pF (mk V b) c (V 4 b).toNatClampNeg 0).toInt = -9) : (V 4 b).toInt < 10 := by
  rcases Int.lt_or_le (V 4 b).toInt 10 with q | q
  · exact q
  · exfalso
    have no := ixn ho.1
    have hn := pF_none0 (V 4 b).toNatClampNeg 0 (by omega) hp
    obtain ⟨i, j, h1, h2, h3⟩ := pigeon 9 (fun i => if (V 5 (10 * b + i)).toInt < c.toInt then (V 5 (10 * b + i)).toInt.toNat else (V 5 (10 * b + i)).toInt.toNat - 1) (fun i hi => by
      have a := hm (10 * b + i)
      have e : (V 5 (10 * b + i)).toInt ≠ c.toInt := hn i (by omega) (by omega)
      show (if (V 5 (10 * b + i)).toInt < c.toInt then (V 5 (10 * b + i)).toInt.toNat else (V 5 (10 * b + i)).toInt.toNat - 1) < 9
      by_cases hl : (V 5 (10 * b + i)).toInt < c.toInt
      · rw [if_pos hl]; omega
      · rw [if_neg hl]; omega)
    have ai := hm (10 * b + i)
    have aj := hm (10 * b + j)
    have ei : (V 5 (10 * b + i)).toInt ≠ c.toInt := hn i (by omega) (by omega)
    have ej : (V 5 (10 * b + j)).toInt ≠ c.toInt := hn j (by omega) (by omega)
    have hd := h.2.2.2.2.2.1 b hb i j h1 (by omega)
    have h4 : (if (V 5 (10 * b + i)).toInt < c.toInt then (V 5 (10 * b + i)).toInt.toNat else (V 5 (10 * b + i)).toInt.toNat - 1) = (if (V 5 (10 * b + j)).toInt < c.toInt then (V 5 (10 * b + j)).toInt.toNat else (V 5 (10 * b + j)).toInt.toNat - 1) := h3
    by_cases hi : (V 5 (10 * b + i)).toInt < c.toInt
    · by_cases hj : (V 5 (10 * b + j)).toInt < c.toInt
      · rw [if_pos hi, if_pos hj] at h4; omega
      · rw [if_pos hi, if_neg hj] at h4; omega
    · by_cases hj : (V 5 (10 * b + j)).toInt < c.toInt
      · rw [if_neg hi, if_pos hj] at h4; omega
      · rw [if_neg hi, if_neg hj] at h4; omega
theorem AI_rank {V : VW} (h : AI V) (h1 : (V 0 1).toInt ≤ 60) (h10 : (V 0 0).toInt ≤ 10) (hm : ∀ i, 0 ≤ (V 5 i).toInt ∧ (V 5 i).toInt ≤ 9) (ho : ∀ b, 0 ≤ (V 4 b).toInt ∧ (V 4 b).toInt ≤ 10) (b c : Int32) : AI (A_rank V b c).2 := by
  unfold A_rank
  split
  · rename_i hc
    split
    · rename_i hs
      split
      · exact h
      · rename_i hp
        have nb := ixn hc.1.1
        have hb2 := hc.1.2
        have hob := ho b.toNatClampNeg
        have no := ixn hob.1
        have ny := inc1 hob.1 hob.2 (by decide)
        have hnone : ∀ k, k < (V 4 b.toNatClampNeg).toNatClampNeg → (V 5 (10 * b.toNatClampNeg + k)).toInt ≠ c.toInt := by
          intro k hk
          exact pF_none0 (f := mk V b.toNatClampNeg) (V 4 b.toNatClampNeg).toNatClampNeg 0 (by omega) (show (placeV V b c).toInt = -9 by omega) k (by omega) (by omega)
        have hlt10 : (V 4 b.toNatClampNeg).toInt < 10 := rank_lt h hm b.toNatClampNeg (by omega) hob c ⟨hc.2.1, by omega⟩ (show (placeV V b c).toInt = -9 by omega)
        show AI (sI (sI V 5 (10 * b.toNatClampNeg + (V 4 b.toNatClampNeg).toNatClampNeg) c) 4 b.toNatClampNeg (V 4 b.toNatClampNeg + 1))
        generalize hW : sI (sI V 5 (10 * b.toNatClampNeg + (V 4 b.toNatClampNeg).toNatClampNeg) c) 4 b.toNatClampNeg (V 4 b.toNatClampNeg + 1) = W
        have n : ∀ c, c ≠ 4 → c ≠ 5 → W c = V c := fun c h1 h2 => by rw [← hW, sI_n _ _ _ h1, sI_n _ _ _ h2]
        have z4 : ∀ i, W 4 i = if i = b.toNatClampNeg then V 4 b.toNatClampNeg + 1 else V 4 i := fun i => by rw [← hW, sI_k, sI_n _ _ _ (by decide)]; rfl
        have z5 : ∀ i, W 5 i = if i = 10 * b.toNatClampNeg + (V 4 b.toNatClampNeg).toNatClampNeg then c else V 5 i := fun i => by rw [← hW, sI_n _ _ _ (by decide), sI_k]; rfl
        obtain ⟨a1, a2, a3, a4, a5, a6, a7, a8⟩ := h
        refine ⟨?_, ?_, ?_, ?_, ?_, ?_, ?_, ?_⟩
        · unfold DP; rw [n 0 (by decide) (by decide), n 1 (by decide) (by decide)]; exact a1
        · unfold NOv; rw [n 0 (by decide) (by decide), n 12 (by decide) (by decide)]; exact a2
        · rw [n 13 (by decide) (by decide)]; exact a3
        · rw [n 0 (by decide) (by decide), n 3 (by decide) (by decide)]; exact a4
        · rw [n 0 (by decide) (by decide), n 8 (by decide) (by decide)]; exact a5
        · intro b' hb' i j hij hj
          rw [z4] at hj
          rw [z5, z5]
          by_cases e : b' = b.toNatClampNeg
          · rw [if_pos e, ny] at hj
            subst e
            rw [if_neg (by omega)]
            by_cases ej : j = (V 4 b.toNatClampNeg).toNatClampNeg
            · rw [if_pos (by omega)]; exact hnone i (by omega)
            · rw [if_neg (by omega)]; exact a6 _ hb' i j hij (by omega)
          · rw [if_neg e] at hj
            have hj2 := (ho b').2
            rw [if_neg (by omega), if_neg (by omega)]; exact a6 b' hb' i j hij hj
        · intro b' hb' hs'
          rw [n 2 (by decide) (by decide)] at hs'
          rw [z4]
          by_cases e : b' = b.toNatClampNeg
          · exfalso; rw [e] at hs'; dsimp only [ofS] at hs; have z1 : (1 : Int32).toInt = 1 := by decide
            omega
          · rw [if_neg e]; exact a7 b' hb' hs'
        · intro b' hb' hn'
          rw [n 0 (by decide) (by decide)] at hn'
          rw [z4, if_neg (by omega)]
          exact a8 b' hb' hn'
    · exact AI_meets h 3
  · exact h
theorem AI_score {V : VW} (h : AI V) (h1 : (V 0 1).toInt ≤ 60) (h10 : (V 0 0).toInt ≤ 10) (ho : ∀ b, 0 ≤ (V 4 b).toInt ∧ (V 4 b).toInt ≤ 10) (b c p : Int32) : AI (A_score V b c p).2 := by
  unfold A_score
  split
  · rename_i hc
    split
    · rename_i hs
      have nb := ixn hc.1.1
      have nc := ixn hc.2.1.1
      have hb2 := hc.1.2
      have hc2 := hc.2.1.2
      show AI (sI V 5 (10 * b.toNatClampNeg + c.toNatClampNeg) p)
      generalize hW : sI V 5 (10 * b.toNatClampNeg + c.toNatClampNeg) p = W
      have n : ∀ c, c ≠ 5 → W c = V c := fun c h1 => by rw [← hW, sI_n _ _ _ h1]
      have z5 : ∀ i, W 5 i = if i = 10 * b.toNatClampNeg + c.toNatClampNeg then p else V 5 i := fun i => by rw [← hW, sI_k]; rfl
      obtain ⟨a1, a2, a3, a4, a5, a6, a7, a8⟩ := h
      have hz := a7 b.toNatClampNeg (by omega) hs
      refine ⟨?_, ?_, ?_, ?_, ?_, ?_, ?_, ?_⟩
      · unfold DP; rw [n 0 (by decide), n 1 (by decide)]; exact a1
      · unfold NOv; rw [n 0 (by decide), n 12 (by decide)]; exact a2
      · rw [n 13 (by decide)]; exact a3
      · rw [n 0 (by decide), n 3 (by decide)]; exact a4
      · rw [n 0 (by decide), n 8 (by decide)]; exact a5
      · intro b' hb' i j hij hj
        rw [n 4 (by decide)] at hj
        have hj2 := (ho b').2
        rw [z5, z5]
        by_cases e : b' = b.toNatClampNeg
        · rw [e] at hj; omega
        · rw [if_neg (by omega), if_neg (by omega)]; exact a6 b' hb' i j hij hj
      · rw [n 2 (by decide), n 4 (by decide)]; exact a7
      · rw [n 0 (by decide), n 4 (by decide)]; exact a8
    · exact AI_meets h 3
  · exact h
theorem AI_box {V : VW} (h : AI V) (s k : Int32) : AI (A_box V s k).2 := by
  unfold A_box
  split
  · split
    · exact h
    · split
      · exact AI_meets h 5
      · show AI (sI (sI (sI V 6 (V 0 2).toNatClampNeg s) 7 (V 0 2).toNatClampNeg k) 0 2 (V 0 2 + 1))
        generalize hW : sI (sI (sI V 6 (V 0 2).toNatClampNeg s) 7 (V 0 2).toNatClampNeg k) 0 2 (V 0 2 + 1) = W
        have n : ∀ c, c ≠ 0 → c ≠ 6 → c ≠ 7 → W c = V c := fun c h1 h2 h3 => by rw [← hW, sI_n _ _ _ h1, sI_n _ _ _ h3, sI_n _ _ _ h2]
        have z : ∀ j, j ≠ 2 → W 0 j = V 0 j := fun j hj => by rw [← hW, sI_at, if_neg (by omega), sI_n _ _ _ (by decide), sI_n _ _ _ (by decide)]
        exact AI_ext h (z 0 (by decide)) (z 1 (by decide)) (z 3 (by decide)) (n 1 (by decide) (by decide) (by decide)) (n 2 (by decide) (by decide) (by decide)) (n 3 (by decide) (by decide) (by decide)) (n 4 (by decide) (by decide) (by decide)) (n 5 (by decide) (by decide) (by decide)) (n 8 (by decide) (by decide) (by decide)) (n 12 (by decide) (by decide) (by decide)) (by rw [n 13 (by decide) (by decide) (by decide)]; exact h.2.2.1)
  · exact h
theorem AI_8 {V W : VW} (h : AI V) (n : ∀ c, c ≠ 8 → W c = V c) (h8 : ∀ i, (W 8 i).toInt = -9 ∨ (0 ≤ (W 8 i).toInt ∧ (W 8 i).toInt < (V 0 1).toInt)) : AI W := by
  obtain ⟨a1, a2, a3, a4, a5, a6, a7, a8⟩ := h
  refine ⟨?_, ?_, ?_, ?_, ?_, ?_, ?_, ?_⟩
  · unfold DP; rw [n 0 (by decide), n 1 (by decide)]; exact a1
  · unfold NOv; rw [n 0 (by decide), n 12 (by decide)]; exact a2
  · rw [n 13 (by decide)]; exact a3
  · rw [n 0 (by decide), n 3 (by decide)]; exact a4
  · rw [n 0 (by decide)]; exact h8
  · rw [n 4 (by decide), n 5 (by decide)]; exact a6
  · rw [n 2 (by decide), n 4 (by decide)]; exact a7
  · rw [n 0 (by decide), n 4 (by decide)]; exact a8
theorem AI_put {V : VW} (h : AI V) (x i b : Int32) : AI (A_put V x i b).2 := by
  unfold A_put
  split
  · rename_i hc
    split
    · split
      · exact AI_meets h 6
      · refine AI_8 (V := V) h (fun c hc => sI_n _ _ _ hc) (fun j => ?_)
        show (sI V 8 (40 * x.toNatClampNeg + i.toNatClampNeg) b 8 j).toInt = -9 ∨ (0 ≤ (sI V 8 (40 * x.toNatClampNeg + i.toNatClampNeg) b 8 j).toInt ∧ (sI V 8 (40 * x.toNatClampNeg + i.toNatClampNeg) b 8 j).toInt < (V 0 1).toInt)
        rw [sI_at]
        by_cases e : 8 = 8 ∧ j = 40 * x.toNatClampNeg + i.toNatClampNeg
        · rw [if_pos e]; exact hc.2
        · rw [if_neg e]; exact h.2.2.2.2.1 j
    · exact AI_meets h 2
  · exact h
theorem AI_pour {V : VW} (h : AI V) (x i y j k : Int32) : AI (A_pour V x i y j k).2 := by
  unfold A_pour
  split
  · split
    · split
      · refine AI_8 (V := V) h (fun c hc => ?_) (fun i => ?_)
        · funext i
          show (if _ then _ else _) = _
          rw [if_neg (fun q => hc q.1)]
        · show ((if _ then _ else _ : Int32).toInt = -9) ∨ (0 ≤ (if _ then _ else _ : Int32).toInt ∧ (if _ then _ else _ : Int32).toInt < _)
          split
          · exact h.2.2.2.2.1 _
          · exact h.2.2.2.2.1 _
      · exact AI_meets h 2
    · exact AI_meets h 6
  · exact h
theorem AI_at {V : VW} (h : AI V) (x i : Int32) : AI (A_at V x i).2 := by
  unfold A_at
  split
  · split
    · exact h
    · exact AI_meets h _
  · exact h
theorem AI_share {V : VW} (h : AI V) (x i : Int32) : AI (A_share V x i).2 := by
  unfold A_share
  split
  · split
    · exact h
    · exact AI_meets h _
  · exact h
theorem AI_weight {V : VW} (h : AI V) (b c : Int32) : AI (A_weight V b c).2 := by
  unfold A_weight
  split
  · split
    · split
      · exact AI_meets h 4
      · exact h
    · exact AI_meets h 3
  · exact h
theorem AI_method {V : VW} (h : AI V) (h0 : 0 ≤ (V 0 3).toInt) (h1 : (V 0 3).toInt ≤ 20) (k r m q : Int32) : AI (A_method V k r m q).2 := by
  unfold A_method
  split
  · rename_i hc
    split
    · exact h
    · have n0 := ixn h0
      have ny := inc1 h0 h1 (by decide)
      have hq := hc.2.2
      show AI (sI (sI (sI (sI (sI V 9 (V 0 3).toNatClampNeg k) 10 (V 0 3).toNatClampNeg r) 11 (V 0 3).toNatClampNeg m) 12 (V 0 3).toNatClampNeg q) 0 3 (V 0 3 + 1))
      generalize hW : sI (sI (sI (sI (sI V 9 (V 0 3).toNatClampNeg k) 10 (V 0 3).toNatClampNeg r) 11 (V 0 3).toNatClampNeg m) 12 (V 0 3).toNatClampNeg q) 0 3 (V 0 3 + 1) = W
      have n : ∀ c, c ≠ 0 → (c < 9 ∨ 12 < c) → W c = V c := fun c h1 h2 => by rw [← hW, sI_n _ _ _ h1, sI_n _ _ _ (by omega), sI_n _ _ _ (by omega), sI_n _ _ _ (by omega), sI_n _ _ _ (by omega)]
      have z : ∀ j, j ≠ 3 → W 0 j = V 0 j := fun j hj => by rw [← hW, sI_at, if_neg (by omega), sI_n _ _ _ (by decide), sI_n _ _ _ (by decide), sI_n _ _ _ (by decide), sI_n _ _ _ (by decide)]
      have z3 : W 0 3 = V 0 3 + 1 := by rw [← hW, sI_at, if_pos ⟨rfl, rfl⟩]
      have z12 : ∀ i, W 12 i = if i = (V 0 3).toNatClampNeg then q else V 12 i := fun i => by rw [← hW, sI_n _ _ _ (by decide), sI_k, sI_n _ _ _ (by decide), sI_n _ _ _ (by decide), sI_n _ _ _ (by decide)]; rfl
      obtain ⟨a1, a2, a3, a4, a5, a6, a7, a8⟩ := h
      refine ⟨?_, ?_, ?_, ?_, ?_, ?_, ?_, ?_⟩
      · unfold DP; rw [z 0 (by decide), n 1 (by decide) (by decide)]; exact a1
      · intro i hi
        rw [z3, ny] at hi
        rw [z12]
        by_cases e : i = (V 0 3).toNatClampNeg
        · rw [if_pos e]
          rcases hq with w | w
          · exact Or.inl w
          · exact Or.inr ⟨w.1, by have := w.2; omega⟩
        · rw [if_neg e]; exact a2 i (by omega)
      · rw [n 13 (by decide) (by decide)]; exact a3
      · rw [z 1 (by decide), n 3 (by decide) (by decide)]; exact a4
      · rw [z 1 (by decide), n 8 (by decide) (by decide)]; exact a5
      · rw [n 4 (by decide) (by decide), n 5 (by decide) (by decide)]; exact a6
      · rw [n 2 (by decide) (by decide), n 4 (by decide) (by decide)]; exact a7
      · rw [z 1 (by decide), n 4 (by decide) (by decide)]; exact a8
  · exact h
theorem AI_13 {V W : VW} (h : AI V) (n : ∀ c, c ≠ 13 → W c = V c) (hb : b012 (W 13)) : AI W :=
  AI_ext h (by rw [n 0 (by decide)]) (by rw [n 0 (by decide)]) (by rw [n 0 (by decide)]) (n 1 (by decide)) (n 2 (by decide)) (n 3 (by decide)) (n 4 (by decide)) (n 5 (by decide)) (n 8 (by decide)) (n 12 (by decide)) hb
theorem AI_startV {V : VW} (h : AI V) (m : Int32) : AI (startV V m) := AI_13 h (fun c hc => if_neg hc) (by rw [show startV V m 13 = stB V 20 m (V 13) from if_pos rfl]; exact stB_b h.2.2.1 20 m)
theorem AI_start {V : VW} (h : AI V) (m : Int32) : AI (A_start V m).2 := by
  unfold A_start
  split
  · exact AI_startV h m
  · exact h
theorem findF_b {V : VW} {mark : Int32} : ∀ (f : Nat) (B : Nat → Int32), b012 B → b012 (findF V mark f B).2 := by
  intro f
  induction f with
  | zero => intro B h; exact h
  | succ f ih =>
    intro B h
    unfold findF
    split
    · exact h
    · split
      · exact stB_b h 20 _
      · exact ih _ (stB_b h 20 _)
theorem AI_find {V : VW} (h : AI V) (m : Int32) : AI (A_find V m).2 := by
  unfold A_find
  split
  · refine AI_13 (V := V) h (fun c hc => ?_) ?_
    · show (if c = 13 then _ else V c) = _
      rw [if_neg hc]
    · show b012 (if 13 = 13 then _ else _)
      rw [if_pos rfl]; exact findF_b _ _ h.2.2.1
  · exact h
theorem AI_05 {V : VW} (h : AI V) (y : Int32) : AI (sI V 0 5 y) := by
  have n : ∀ c, c ≠ 0 → sI V 0 5 y c = V c := fun c hc => sI_n _ _ _ hc
  have z : ∀ j, j ≠ 5 → sI V 0 5 y 0 j = V 0 j := fun j hj => by rw [sI_at, if_neg (by omega)]
  exact AI_ext h (z 0 (by decide)) (z 1 (by decide)) (z 3 (by decide)) (n 1 (by decide)) (n 2 (by decide)) (n 3 (by decide)) (n 4 (by decide)) (n 5 (by decide)) (n 8 (by decide)) (n 12 (by decide)) (by rw [n 13 (by decide)]; exact h.2.2.1)
theorem AI_count {V : VW} (h : AI V) (m x k : Int32) : AI (A_count V m x k).2 := by
  unfold A_count
  split
  · split
    · split
      · exact AI_05 (AI_startV h m) _
      · exact AI_meets (AI_05 (AI_startV h m) _) 3
    · exact AI_05 (AI_startV h m) _
  · exact AI_05 h _
theorem sumP_b {V : VW} {x : Nat} (hp : ∀ b, 0 ≤ (V 3 b).toInt ∧ (V 3 b).toInt ≤ 100000) : ∀ n : Nat, n ≤ 40 → 0 ≤ (sumP V x n).toInt ∧ (sumP V x n).toInt ≤ 100000 * (n : Int) ∧ ∀ k, k < n → ¬ (V 8 (40 * x + k)).toInt = -9 → (V 3 (V 8 (40 * x + k)).toNatClampNeg).toInt ≤ (sumP V x n).toInt := by
  intro n
  induction n with
  | zero => intro _; exact ⟨(by decide : 0 ≤ (0 : Int32).toInt), (by decide : (0 : Int32).toInt ≤ _), fun k hk => absurd hk (by omega)⟩
  | succ n ih =>
    intro hn
    obtain ⟨h1, h2, h3⟩ := ih (by omega)
    by_cases e : (V 8 (40 * x + n)).toInt = -9
    · have e2 : sumP V x (n + 1) = sumP V x n + 0 := by show sumP V x n + (if _ then 0 else _) = _; rw [if_pos e]
      have e3 : (sumP V x (n + 1)).toInt = (sumP V x n).toInt + 0 := fadd rfl (by decide : (0 : Int32).toInt = 0) e2 (by omega) (by omega)
      rw [e3]
      refine ⟨by omega, by omega, fun k hk hne => ?_⟩
      by_cases ek : k = n
      · subst ek; exact absurd e hne
      · have := h3 k (by omega) hne; omega
    · have hb := hp (V 8 (40 * x + n)).toNatClampNeg
      have e2 : sumP V x (n + 1) = sumP V x n + V 3 (V 8 (40 * x + n)).toNatClampNeg := by show sumP V x n + (if _ then 0 else _) = _; rw [if_neg e]
      have e3 : (sumP V x (n + 1)).toInt = (sumP V x n).toInt + (V 3 (V 8 (40 * x + n)).toNatClampNeg).toInt := fadd rfl rfl e2 (by omega) (by omega)
      rw [e3]
      refine ⟨by omega, by omega, fun k hk hne => ?_⟩
      by_cases ek : k = n
      · subst ek; omega
      · have := h3 k (by omega) hne; omega
theorem share_ne {V : VW} (h : AI V) (hp : ∀ b, 0 ≤ (V 3 b).toInt ∧ (V 3 b).toInt ≤ 100000) (h7 : ∀ x, 0 ≤ (V 7 x).toInt ∧ (V 7 x).toInt ≤ 40) (x i : Int32) (hl : (lacksV V x i).toInt = 0) : (sumP V x.toNatClampNeg (V 7 x.toNatClampNeg).toNatClampNeg).toInt ≠ 0 := by
  obtain ⟨l1, l2, l3⟩ := lk0 hl
  have n7 := ixn (h7 x.toNatClampNeg).1
  have h40 := (h7 x.toNatClampNeg).2
  have ni := ixn l1
  have hs := (sumP_b (x := x.toNatClampNeg) hp (V 7 x.toNatClampNeg).toNatClampNeg (by omega)).2.2 i.toNatClampNeg (by omega) l3
  rcases h.2.2.2.2.1 (40 * x.toNatClampNeg + i.toNatClampNeg) with w | w
  · exact absurd w l3
  · have nb := ixn w.1
    have := h.2.2.2.1 _ (show ((V 8 (40 * x.toNatClampNeg + i.toNatClampNeg)).toNatClampNeg : Int) < (V 0 1).toInt by omega)
    omega
