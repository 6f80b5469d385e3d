/-! what counting needs of the view besides -/
def AI3 (V : VW) : Prop := (∀ i : Nat, (i : Int) < (V 0 0).toInt → (V 1 i).toInt < (V 0 0).toInt) ∧ (∀ b : Nat, b < 60 → ∀ i : Nat, (i : Int) < (V 4 b).toInt → (V 5 (10 * b + i)).toInt < (V 0 0).toInt) ∧
  (∀ m : Nat, (V 13 m).toInt = 1 → (V 9 m).toInt ≠ 8 ∧ (m : Int) < (V 0 3).toInt)
theorem AI3_ext {V W : VW} (h : AI3 V) (e0 : W 0 0 = V 0 0) (e03 : W 0 3 = V 0 3) (e1 : W 1 = V 1) (e4 : W 4 = V 4) (e5 : W 5 = V 5) (e9 : W 9 = V 9) (e13 : W 13 = V 13) : AI3 W := by
  obtain ⟨a1, a2, a3⟩ := h
  exact ⟨by rw [e0, e1]; exact a1, by rw [e0, e4, e5]; exact a2, by rw [e03, e9, e13]; exact a3⟩
theorem AI3_n {V W : VW} (h : AI3 V) (n : ∀ c, (c = 0 ∨ c = 1 ∨ c = 4 ∨ c = 5 ∨ c = 9 ∨ c = 13) → W c = V c) : AI3 W :=
  AI3_ext h (by rw [n 0 (by decide)]) (by rw [n 0 (by decide)]) (n 1 (by decide)) (n 4 (by decide)) (n 5 (by decide)) (n 9 (by decide)) (n 13 (by decide))
theorem AI3_05 {V : VW} (h : AI3 V) {j : Nat} (hj : j = 1 ∨ j = 2 ∨ j = 4 ∨ j = 5) (y : Int32) : AI3 (sI V 0 j y) :=
  AI3_ext h (by rw [sI_at, if_neg (by omega)]) (by rw [sI_at, if_neg (by omega)]) (sI_n _ _ _ (by decide)) (sI_n _ _ _ (by decide)) (sI_n _ _ _ (by decide)) (sI_n _ _ _ (by decide)) (sI_n _ _ _ (by decide))
theorem AI3_k {V : VW} (h : AI3 V) {c i : Nat} (hc : c ≠ 0 ∧ c ≠ 1 ∧ c ≠ 4 ∧ c ≠ 5 ∧ c ≠ 9 ∧ c ≠ 13) (y : Int32) : AI3 (sI V c i y) :=
  AI3_n h (fun d hd => sI_n _ _ _ (by omega))
theorem AI3_meets {V : VW} (h : AI3 V) (f : Int32) : AI3 (meetsV V f) := AI3_k (AI3_05 h (by decide) f) (by decide) _
theorem AI3_stand {V : VW} (h : AI3 V) (h0 : 0 ≤ (V 0 0).toInt) (h1 : (V 0 0).toInt ≤ 10) : AI3 (A_stand V).2 := by
  unfold A_stand
  split
  · exact h
  · have ny := inc1 h0 h1 (by decide)
    have n0 := ixn h0
    show AI3 (sI (sI V 1 (V 0 0).toNatClampNeg (V 0 0)) 0 0 (V 0 0 + 1))
    generalize hW : sI (sI V 1 (V 0 0).toNatClampNeg (V 0 0)) 0 0 (V 0 0 + 1) = W
    have n : ∀ c, c ≠ 0 → c ≠ 1 → W c = V c := fun c h1 h2 => by rw [← hW, sI_n _ _ _ h1, sI_n _ _ _ h2]
    have z0 : W 0 0 = V 0 0 + 1 := by rw [← hW, sI_at, if_pos ⟨rfl, rfl⟩]
    have z3 : W 0 3 = V 0 3 := by rw [← hW, sI_at, if_neg (by decide), sI_n _ _ _ (by decide)]
    have z1 : ∀ i, W 1 i = if i = (V 0 0).toNatClampNeg then V 0 0 else V 1 i := fun i => by rw [← hW, sI_n _ _ _ (by decide), sI_k]; rfl
    obtain ⟨a1, a2, a3⟩ := h
    refine ⟨?_, ?_, ?_⟩
    · intro i hi
      rw [z0, ny] at hi ⊢
      rw [z1]
      by_cases e : i = (V 0 0).toNatClampNeg
      · rw [if_pos e]; omega
      · rw [if_neg e]; have := a1 i (by omega); omega
    · intro b hb i hi
      rw [n 4 (by decide) (by decide)] at hi
      rw [n 5 (by decide) (by decide), z0, ny]
      have := a2 b hb i hi
      omega
    · rw [n 13 (by decide) (by decide), n 9 (by decide) (by decide), z3]; exact a3
theorem AI3_draw {V : VW} (h : AI3 V) (x y : Int32) : AI3 (A_draw V x y).2 := by
  unfold A_draw
  split
  · rename_i hc
    have nx := ixn hc.1.1
    have ny := ixn hc.2.1
    have hx := hc.1.2
    have hy := hc.2.2
    show AI3 (sI (sI V 1 x.toNatClampNeg (V 1 y.toNatClampNeg)) 1 y.toNatClampNeg (V 1 x.toNatClampNeg))
    generalize hW : sI (sI V 1 x.toNatClampNeg (V 1 y.toNatClampNeg)) 1 y.toNatClampNeg (V 1 x.toNatClampNeg) = W
    have n : ∀ c, c ≠ 1 → W c = V c := fun c h1 => by rw [← hW, sI_n _ _ _ h1, sI_n _ _ _ h1]
    have z1 : ∀ i, W 1 i = if i = y.toNatClampNeg then V 1 x.toNatClampNeg else if i = x.toNatClampNeg then V 1 y.toNatClampNeg else V 1 i := fun i => by rw [← hW, sI_k, sI_k]; rfl
    obtain ⟨a1, a2, a3⟩ := h
    refine ⟨?_, by rw [n 0 (by decide), n 4 (by decide), n 5 (by decide)]; exact a2, by rw [n 13 (by decide), n 9 (by decide), n 0 (by decide)]; exact a3⟩
    intro i hi
    rw [n 0 (by decide)] at hi ⊢
    rw [z1]
    by_cases e : i = y.toNatClampNeg
    · rw [if_pos e]; exact a1 _ (by omega)
    · rw [if_neg e]
      by_cases e2 : i = x.toNatClampNeg
      · rw [if_pos e2]; exact a1 _ (by omega)
      · rw [if_neg e2]; exact a1 i hi
  · exact h
theorem AI3_ballot {V : VW} (h : AI3 V) (s p : Int32) : AI3 (A_ballot V s p).2 := by
  unfold A_ballot
  split
  · split
    · exact h
    · exact AI3_05 (AI3_k (AI3_k h (by decide) _) (by decide) _) (by decide) _
  · exact h
theorem AI3_rank {V : VW} (h : AI3 V) (hA : AI V) (h1 : (V 0 1).toInt ≤ 60) (h10 : (V 0 0).toInt ≤ 10) (hm : ∀ i, 0 ≤ (V 5 i).toInt ∧ (V 5 i).toInt ≤ 9) (ho : ∀ b, 0 ≤ (V 4 b).toInt ∧ (V 4 b).toInt ≤ 10) (b c : Int32) : AI3 (A_rank V b c).2 := by
  unfold A_rank
  split
  · rename_i hc
    split
    · rename_i hs
      split
      · exact h
      · rename_i hp
        have nb := ixn hc.1.1
        have hb2 := hc.1.2
        have hc2 := hc.2.2
        have hob := ho b.toNatClampNeg
        have no := ixn hob.1
        have ny := inc1 hob.1 hob.2 (by decide)
        have hlt10 : (V 4 b.toNatClampNeg).toInt < 10 := rank_lt hA hm b.toNatClampNeg (by omega) hob c ⟨hc.2.1, by omega⟩ (show (placeV V b c).toInt = -9 by omega)
        show AI3 (sI (sI V 5 (10 * b.toNatClampNeg + (V 4 b.toNatClampNeg).toNatClampNeg) c) 4 b.toNatClampNeg (V 4 b.toNatClampNeg + 1))
        generalize hW : sI (sI V 5 (10 * b.toNatClampNeg + (V 4 b.toNatClampNeg).toNatClampNeg) c) 4 b.toNatClampNeg (V 4 b.toNatClampNeg + 1) = W
        have n : ∀ c, c ≠ 4 → c ≠ 5 → W c = V c := fun c h1 h2 => by rw [← hW, sI_n _ _ _ h1, sI_n _ _ _ h2]
        have z4 : ∀ i, W 4 i = if i = b.toNatClampNeg then V 4 b.toNatClampNeg + 1 else V 4 i := fun i => by rw [← hW, sI_k, sI_n _ _ _ (by decide)]; rfl
        have z5 : ∀ i, W 5 i = if i = 10 * b.toNatClampNeg + (V 4 b.toNatClampNeg).toNatClampNeg then c else V 5 i := fun i => by rw [← hW, sI_n _ _ _ (by decide), sI_k]; rfl
        obtain ⟨a1, a2, a3⟩ := h
        refine ⟨by rw [n 0 (by decide) (by decide), n 1 (by decide) (by decide)]; exact a1, ?_, by rw [n 13 (by decide) (by decide), n 9 (by decide) (by decide), n 0 (by decide) (by decide)]; exact a3⟩
        intro b' hb' i hi
        rw [z4] at hi
        rw [z5, n 0 (by decide) (by decide)]
        by_cases e : i = (V 4 b.toNatClampNeg).toNatClampNeg ∧ b' = b.toNatClampNeg
        · rw [if_pos (by omega)]; exact hc2
        · have hob' := ho b'
          by_cases e2 : b' = b.toNatClampNeg
          · rw [if_pos e2, ny] at hi
            subst e2
            rw [if_neg (by omega)]
            exact a2 b.toNatClampNeg hb' i (by omega)
          · rw [if_neg e2] at hi
            rw [if_neg (by omega)]
            exact a2 b' hb' i hi
    · exact AI3_meets h 3
  · exact h
theorem AI3_score {V : VW} (h : AI3 V) (hA : AI V) (h1 : (V 0 1).toInt ≤ 60) (h10 : (V 0 0).toInt ≤ 10) (ho : ∀ b, 0 ≤ (V 4 b).toInt ∧ (V 4 b).toInt ≤ 10) (b c p : Int32) : AI3 (A_score V b c p).2 := by
  unfold A_score
  split
  · rename_i hc
    split
    · rename_i hs
      have nb := ixn hc.1.1
      have nc := ixn hc.2.1.1
      have hb2 := hc.1.2
      have hc2 := hc.2.1.2
      show AI3 (sI V 5 (10 * b.toNatClampNeg + c.toNatClampNeg) p)
      generalize hW : sI V 5 (10 * b.toNatClampNeg + c.toNatClampNeg) p = W
      have n : ∀ c, c ≠ 5 → W c = V c := fun c h1 => by rw [← hW, sI_n _ _ _ h1]
      have z5 : ∀ i, W 5 i = if i = 10 * b.toNatClampNeg + c.toNatClampNeg then p else V 5 i := fun i => by rw [← hW, sI_k]; rfl
      have h0 := hA.2.2.2.2.2.2.1 b.toNatClampNeg (by omega) hs
      obtain ⟨a1, a2, a3⟩ := h
      refine ⟨by rw [n 0 (by decide), n 1 (by decide)]; exact a1, ?_, by rw [n 13 (by decide), n 9 (by decide), n 0 (by decide)]; exact a3⟩
      intro b' hb' i hi
      rw [n 4 (by decide)] at hi
      have hob' := ho b'
      rw [z5, n 0 (by decide)]
      by_cases e : b' = b.toNatClampNeg
      · rw [e, h0] at hi; omega
      · rw [if_neg (by omega)]; exact a2 b' hb' i hi
    · exact AI3_meets h 3
  · exact h
theorem AI3_box {V : VW} (h : AI3 V) (s k : Int32) : AI3 (A_box V s k).2 := by
  unfold A_box
  split
  · split
    · exact h
    · split
      · exact AI3_meets h 5
      · exact AI3_05 (AI3_k (AI3_k h (by decide) _) (by decide) _) (by decide) _
  · exact h
theorem AI3_put {V : VW} (h : AI3 V) (x i b : Int32) : AI3 (A_put V x i b).2 := by
  unfold A_put
  split
  · split
    · split
      · exact AI3_meets h 6
      · exact AI3_k h (by decide) _
    · exact AI3_meets h 2
  · exact h
theorem AI3_pour {V : VW} (h : AI3 V) (x i y j k : Int32) : AI3 (A_pour V x i y j k).2 := by
  unfold A_pour
  split
  · split
    · split
      · refine AI3_n h (fun c hc => ?_)
        funext z
        show (if c = 8 ∧ _ then _ else V c z) = V c z
        rw [if_neg (by omega)]
      · exact AI3_meets h 2
    · exact AI3_meets h 6
  · exact h
theorem AI3_at {V : VW} (h : AI3 V) (x i : Int32) : AI3 (A_at V x i).2 := by
  unfold A_at
  split
  · split
    · exact h
    · exact AI3_meets h _
  · exact h
theorem AI3_share {V : VW} (h : AI3 V) (x i : Int32) : AI3 (A_share V x i).2 := by
  unfold A_share
  split
  · split
    · exact h
    · exact AI3_meets h _
  · exact h
theorem AI3_weight {V : VW} (h : AI3 V) (b c : Int32) : AI3 (A_weight V b c).2 := by
  unfold A_weight
  split
  · split
    · split
      · exact AI3_meets h 4
      · exact h
    · exact AI3_meets h 3
  · exact h
theorem AI3_method {V : VW} (h : AI3 V) (h0 : 0 ≤ (V 0 3).toInt) (h1 : (V 0 3).toInt ≤ 20) (k r m q : Int32) : AI3 (A_method V k r m q).2 := by
  unfold A_method
  split
  · split
    · exact h
    · rename_i hne
      have ny := inc1 h0 h1 (by decide)
      have n0 := ixn h0
      show AI3 (sI (sI (sI (sI (sI V 9 (V 0 3).toNatClampNeg k) 10 (V 0 3).toNatClampNeg r) 11 (V 0 3).toNatClampNeg m) 12 (V 0 3).toNatClampNeg q) 0 3 (V 0 3 + 1))
      generalize hW : sI (sI (sI (sI (sI V 9 (V 0 3).toNatClampNeg k) 10 (V 0 3).toNatClampNeg r) 11 (V 0 3).toNatClampNeg m) 12 (V 0 3).toNatClampNeg q) 0 3 (V 0 3 + 1) = W
      have n : ∀ c, (c = 1 ∨ c = 4 ∨ c = 5 ∨ c = 13) → W c = V c := fun c hc => by rw [← hW, sI_n _ _ _ (by omega), sI_n _ _ _ (by omega), sI_n _ _ _ (by omega), sI_n _ _ _ (by omega), sI_n _ _ _ (by omega)]
      have z0 : W 0 0 = V 0 0 := by rw [← hW, sI_at, if_neg (by decide), sI_n _ _ _ (by decide), sI_n _ _ _ (by decide), sI_n _ _ _ (by decide), sI_n _ _ _ (by decide)]
      have z3 : W 0 3 = V 0 3 + 1 := by rw [← hW, sI_at, if_pos ⟨rfl, rfl⟩]
      have z9 : ∀ i, W 9 i = if i = (V 0 3).toNatClampNeg then k else V 9 i := fun i => by rw [← hW, sI_n _ _ _ (by decide), sI_n _ _ _ (by decide), sI_n _ _ _ (by decide), sI_n _ _ _ (by decide), sI_k]; rfl
      obtain ⟨a1, a2, a3⟩ := h
      refine ⟨by rw [z0, n 1 (by decide)]; exact a1, by rw [z0, n 4 (by decide), n 5 (by decide)]; exact a2, ?_⟩
      intro i hi
      rw [n 13 (by decide)] at hi
      have h9 := a3 i hi
      rw [z9, z3, ny, if_neg (by omega)]
      exact ⟨h9.1, by omega⟩
  · exact h
def PK8 (V : VW) (B : Nat → Int32) : Prop := ∀ m : Nat, (B m).toInt = 1 → (V 9 m).toInt ≠ 8 ∧ (m : Int) < (V 0 3).toInt
theorem stB_K8 {V : VW} (hN : NOv V) : ∀ (f : Nat) (m : Int32) (B : Nat → Int32), (m.toInt = -9 ∨ hasM V m) → PK8 V B → PK8 V (stB V f m B) := by
  intro f
  induction f with
  | zero => intro m B _ h; exact h
  | succ f ih =>
    intro m B hm h
    unfold stB
    split
    · exact h
    · rename_i hc
      have hm2 : hasM V m := hm.elim (fun e => absurd (Or.inl e) hc) id
      have nm := ixn hm2.1
      have hm3 := hm2.2
      have hn := hN m.toNatClampNeg (by omega)
      have q := ih (V 12 m.toNatClampNeg) B (hn.elim Or.inl (fun z => Or.inr ⟨z.1, by have := z.2; omega⟩)) h
      intro i hi
      rw [upd_at] at hi
      by_cases e : i = m.toNatClampNeg
      · rw [if_pos e] at hi
        by_cases e2 : ((V 12 m.toNatClampNeg).toInt ≠ -9 ∧ (stB V f (V 12 m.toNatClampNeg) B ((V 12 m.toNatClampNeg).toNatClampNeg)).toInt = 2) ∨ (V 9 m.toNatClampNeg).toInt = 8
        · rw [if_pos e2] at hi; exact absurd hi (by decide)
        · rw [e]; exact ⟨fun z => e2 (Or.inr z), by omega⟩
      · rw [if_neg e] at hi; exact q i hi
theorem AI3_13 {V W : VW} (h : AI3 V) (n : ∀ c, c ≠ 13 → W c = V c) (hb : PK8 V (W 13)) : AI3 W := by
  obtain ⟨a1, a2, a3⟩ := h
  exact ⟨by rw [n 0 (by decide), n 1 (by decide)]; exact a1, by rw [n 0 (by decide), n 4 (by decide), n 5 (by decide)]; exact a2, by rw [n 9 (by decide), n 0 (by decide)]; exact hb⟩
theorem AI3_startV {V : VW} (h : AI3 V) (hN : NOv V) {m : Int32} (hm : hasM V m) : AI3 (startV V m) := AI3_13 h (fun c hc => if_neg hc) (by rw [show startV V m 13 = stB V 20 m (V 13) from if_pos rfl]; exact stB_K8 hN 20 m _ (Or.inr hm) h.2.2)
theorem AI3_start {V : VW} (h : AI3 V) (hN : NOv V) (m : Int32) : AI3 (A_start V m).2 := by
  unfold A_start
  split
  · rename_i hm; exact AI3_startV h hN hm
  · exact h
theorem bestF_in {V : VW} {B : Nat → Int32} {mark : Int32} (h0 : 0 ≤ (V 0 3).toInt) : (bestF V B mark (V 0 3).toNatClampNeg).toInt = -9 ∨ hasM V (bestF V B mark (V 0 3).toNatClampNeg) := by
  have n0 := ixn h0
  have hl := Int32.toInt_lt (V 0 3)
  rw [bestF_bG]
  rcases bG_all (fun i => mkd V mark i ∧ (B i).toInt ≠ 2) (V 10) (V 0 3).toNatClampNeg (by omega) with a | a
  · exact Or.inl a.1
  · exact Or.inr ⟨a.1, by omega⟩
theorem findF_K8 {V : VW} {mark : Int32} (hN : NOv V) (h0 : 0 ≤ (V 0 3).toInt) : ∀ (f : Nat) (B : Nat → Int32), PK8 V B → PK8 V (findF V mark f B).2 := by
  intro f
  induction f with
  | zero => intro B h; exact h
  | succ f ih =>
    intro B h
    unfold findF
    split
    · exact h
    · split
      · exact stB_K8 hN 20 _ _ (bestF_in h0) h
      · exact ih _ (stB_K8 hN 20 _ _ (bestF_in h0) h)
theorem AI3_find {V : VW} (h : AI3 V) (hN : NOv V) (h0 : 0 ≤ (V 0 3).toInt) (m : Int32) : AI3 (A_find V m).2 := by
  unfold A_find
  split
  · refine AI3_13 (V := V) h (fun c hc => ?_) ?_
    · show (if c = 13 then _ else V c) = _
      rw [if_neg hc]
    · show PK8 V (if 13 = 13 then _ else _)
      rw [if_pos rfl]; exact findF_K8 hN h0 _ _ h.2.2
  · exact h
theorem AI3_count {V : VW} (h : AI3 V) (hN : NOv V) (m x k : Int32) : AI3 (A_count V m x k).2 := by
  unfold A_count
  split
  · rename_i hc
    split
    · split
      · exact AI3_05 (AI3_startV h hN hc.1) (by decide) _
      · exact AI3_meets (AI3_05 (AI3_startV h hN hc.1) (by decide) _) 3
    · exact AI3_05 (AI3_startV h hN hc.1) (by decide) _
  · exact AI3_05 h (by decide) _
/-- no more on a ballot than there are candidates -/
theorem AI3_on {V : VW} (h : AI3 V) (hA : AI V) (h0 : 0 ≤ (V 0 0).toInt) (hm : ∀ i, 0 ≤ (V 5 i).toInt ∧ (V 5 i).toInt ≤ 9) (b : Nat) (hb : b < 60) : (V 4 b).toInt ≤ (V 0 0).toInt := by
  by_cases e : (V 4 b).toInt ≤ (V 0 0).toInt
  · exact e
  · exfalso
    obtain ⟨i, j, hij, hj, he⟩ := pigeon (V 0 0).toInt.toNat (fun i => (V 5 (10 * b + i)).toInt.toNat) (fun i hi => by
      have := h.2.1 b hb i (by omega)
      have := hm (10 * b + i)
      show (V 5 (10 * b + i)).toInt.toNat < _
      omega)
    have hd := hA.2.2.2.2.2.1 b hb i j hij (by omega)
    have m1 := hm (10 * b + i)
    have m2 := hm (10 * b + j)
    have he : (V 5 (10 * b + i)).toInt.toNat = (V 5 (10 * b + j)).toInt.toNat := he
    omega
theorem AI3_8 {V : VW} (h : AI3 V) (hN : NOv V) {x : Int32} (hs : (startV V x 13 x.toNatClampNeg).toInt = 1) (hx : hasM V x) : (V 9 x.toNatClampNeg).toInt ≠ 8 := by
  have := (AI3_startV h hN hx).2.2 x.toNatClampNeg hs
  exact this.1
