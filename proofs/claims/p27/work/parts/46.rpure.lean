/-! starting along the needs -/
def NOv (V : VW) : Prop := ∀ i : Nat, (i : Int) < (V 0 3).toInt → (V 12 i).toInt = -9 ∨ (0 ≤ (V 12 i).toInt ∧ (V 12 i).toInt < i)
def tr01 (B T : Nat → Int32) : Prop := ∀ i, T i = if (B i).toInt = 0 then 0 else 1
def trF (V : VW) : Nat → Int32 → (Nat → Int32) → (Nat → Int32) → (Nat → Int32)
  | 0, _, _, T => T
  | f + 1, m, B, T => if m.toInt = -9 ∨ (B m.toNatClampNeg).toInt ≠ 0 then T else trF V f (V 12 m.toNatClampNeg) B (upd T m.toNatClampNeg (T m.toNatClampNeg + 1))
/-- -9, or a method below f -/
def lowM (V : VW) (m : Int32) (f : Nat) : Prop := m.toInt = -9 ∨ (0 ≤ m.toInt ∧ m.toInt < (V 0 3).toInt ∧ m.toInt < (f : Int))
theorem lowM_need {V : VW} (hN : NOv V) {m : Int32} {f : Nat} (h : lowM V m (f + 1)) (h0 : ¬ m.toInt = -9) : lowM V (V 12 m.toNatClampNeg) f := by
  rcases h with h | h
  · exact absurd h h0
  · have e := ixn h.1
    rcases hN m.toNatClampNeg (by omega) with q | q
    · exact Or.inl q
    · exact Or.inr ⟨q.1, by omega, by omega⟩
theorem stB_fuel {V : VW} (hN : NOv V) (B : Nat → Int32) : ∀ (f g : Nat) (m : Int32), lowM V m f → lowM V m g → stB V f m B = stB V g m B := by
  intro f
  induction f with
  | zero =>
    intro g m hf hg
    rcases hf with h | h
    · cases g with
      | zero => rfl
      | succ g => show B = (if _ then _ else _); rw [if_pos (Or.inl h)]
    · omega
  | succ f ih =>
    intro g m hf hg
    cases g with
    | zero =>
      rcases hg with h | h
      · show (if _ then _ else _) = B; rw [if_pos (Or.inl h)]
      · omega
    | succ g =>
      by_cases hs : m.toInt = -9 ∨ (B m.toNatClampNeg).toInt ≠ 0
      · show (if _ then _ else _) = (if _ then _ else _)
        rw [if_pos hs, if_pos hs]
      · have h0 : ¬ m.toInt = -9 := fun q => hs (Or.inl q)
        show (if _ then _ else _) = (if _ then _ else _)
        rw [if_neg hs, if_neg hs, ih g _ (lowM_need hN hf h0) (lowM_need hN hg h0)]
theorem trF_fuel {V : VW} (hN : NOv V) (B : Nat → Int32) : ∀ (f g : Nat) (m : Int32) (T : Nat → Int32), lowM V m f → lowM V m g → trF V f m B T = trF V g m B T := by
  intro f
  induction f with
  | zero =>
    intro g m T hf hg
    rcases hf with h | h
    · cases g with
      | zero => rfl
      | succ g => show T = (if _ then _ else _); rw [if_pos (Or.inl h)]
    · omega
  | succ f ih =>
    intro g m T hf hg
    cases g with
    | zero =>
      rcases hg with h | h
      · show (if _ then _ else _) = T; rw [if_pos (Or.inl h)]
      · omega
    | succ g =>
      by_cases hs : m.toInt = -9 ∨ (B m.toNatClampNeg).toInt ≠ 0
      · show (if _ then _ else _) = (if _ then _ else _)
        rw [if_pos hs, if_pos hs]
      · have h0 : ¬ m.toInt = -9 := fun q => hs (Or.inl q)
        show (if _ then _ else _) = (if _ then _ else _)
        rw [if_neg hs, if_neg hs, ih g _ _ (lowM_need hN hf h0) (lowM_need hN hg h0)]
theorem stB_stop {V : VW} {B : Nat → Int32} {m : Int32} (h : m.toInt = -9 ∨ (B m.toNatClampNeg).toInt ≠ 0) : stB V 20 m B = B := by
  show (if _ then _ else _) = _
  rw [if_pos h]
theorem trF_stop {V : VW} {B T : Nat → Int32} {m : Int32} (h : m.toInt = -9 ∨ (B m.toNatClampNeg).toInt ≠ 0) : trF V 20 m B T = T := by
  show (if _ then _ else _) = _
  rw [if_pos h]
theorem low20 {V : VW} (h20 : (V 0 3).toInt ≤ 20) {m : Int32} (h : 0 ≤ m.toInt) (h2 : m.toInt < (V 0 3).toInt) : lowM V m 20 := Or.inr ⟨h, h2, by omega⟩
theorem lowS {V : VW} {m : Int32} {f : Nat} (h : lowM V m f) : lowM V m (f + 1) := by
  rcases h with h | h
  · exact Or.inl h
  · exact Or.inr ⟨h.1, h.2.1, by omega⟩
theorem stB_step {V : VW} (hN : NOv V) (h20 : (V 0 3).toInt ≤ 20) {B : Nat → Int32} {m : Int32} (h : 0 ≤ m.toInt) (h2 : m.toInt < (V 0 3).toInt) (hB : (B m.toNatClampNeg).toInt = 0) : stB V 20 m B = upd (stB V 20 (V 12 m.toNatClampNeg) B) m.toNatClampNeg (if ((V 12 m.toNatClampNeg).toInt ≠ -9 ∧ (stB V 20 (V 12 m.toNatClampNeg) B (V 12 m.toNatClampNeg).toNatClampNeg).toInt = 2) ∨ (V 9 m.toNatClampNeg).toInt = 8 then 2 else 1) := by
  have hl : lowM V (V 12 m.toNatClampNeg) 19 := lowM_need hN (low20 h20 h h2) (by omega)
  have e := stB_fuel hN B 19 20 _ hl (lowS hl)
  show (if _ then _ else upd (stB V 19 (V 12 m.toNatClampNeg) B) m.toNatClampNeg (if ((V 12 m.toNatClampNeg).toInt ≠ -9 ∧ (stB V 19 (V 12 m.toNatClampNeg) B (V 12 m.toNatClampNeg).toNatClampNeg).toInt = 2) ∨ (V 9 m.toNatClampNeg).toInt = 8 then 2 else 1)) = _
  rw [if_neg (by omega), e]
theorem trF_step {V : VW} (hN : NOv V) (h20 : (V 0 3).toInt ≤ 20) {B T : Nat → Int32} {m : Int32} (h : 0 ≤ m.toInt) (h2 : m.toInt < (V 0 3).toInt) (hB : (B m.toNatClampNeg).toInt = 0) : trF V 20 m B T = trF V 20 (V 12 m.toNatClampNeg) B (upd T m.toNatClampNeg (T m.toNatClampNeg + 1)) := by
  have hl : lowM V (V 12 m.toNatClampNeg) 19 := lowM_need hN (low20 h20 h h2) (by omega)
  have e := trF_fuel hN B 19 20 (V 12 m.toNatClampNeg) (upd T m.toNatClampNeg (T m.toNatClampNeg + 1)) hl (lowS hl)
  show (if _ then _ else trF V 19 (V 12 m.toNatClampNeg) B (upd T m.toNatClampNeg (T m.toNatClampNeg + 1))) = _
  rw [if_neg (by omega), e]
theorem upd_at (f : Nat → Int32) (k : Nat) (x : Int32) (i : Nat) : upd f k x i = if i = k then x else f i := rfl
theorem trF_above {V : VW} (hN : NOv V) (B : Nat → Int32) : ∀ (f : Nat) (m : Int32) (i : Nat) (T : Nat → Int32) (y : Int32), lowM V m f → m.toInt < (i : Int) → trF V f m B (upd T i y) = upd (trF V f m B T) i y := by
  intro f
  induction f with
  | zero => intro m i T y _ _; rfl
  | succ f ih =>
    intro m i T y hm hi
    by_cases hs : m.toInt = -9 ∨ (B m.toNatClampNeg).toInt ≠ 0
    · show (if _ then _ else _ : Nat → Int32) = upd (if _ then _ else _) i y
      rw [if_pos hs, if_pos hs]
    · have h0 : ¬ m.toInt = -9 := fun q => hs (Or.inl q)
      have hl := lowM_need hN hm h0
      rcases hm with q | q
      · exact absurd q h0
      · have e := ixn q.1
        have hlt : (V 12 m.toNatClampNeg).toInt < (i : Int) := by rcases hN m.toNatClampNeg (by omega) with w | w <;> omega
        show (if _ then _ else trF V f (V 12 m.toNatClampNeg) B (upd (upd T i y) m.toNatClampNeg (upd T i y m.toNatClampNeg + 1))) = upd (if _ then _ else trF V f (V 12 m.toNatClampNeg) B (upd T m.toNatClampNeg (T m.toNatClampNeg + 1))) i y
        rw [if_neg hs, if_neg hs, ← ih _ i _ y hl hlt]
        congr 1
        funext j
        simp only [upd_at]
        have hmi : m.toNatClampNeg ≠ i := by omega
        grind
theorem tr_st {V : VW} (hN : NOv V) (h20 : (V 0 3).toInt ≤ 20) (B : Nat → Int32) : ∀ (f : Nat) (m : Int32) (T : Nat → Int32), lowM V m f → tr01 B T → tr01 (stB V f m B) (trF V f m B T) := by
  intro f
  induction f with
  | zero => intro m T _ h; exact h
  | succ f ih =>
    intro m T hm hT
    by_cases hs : m.toInt = -9 ∨ (B m.toNatClampNeg).toInt ≠ 0
    · show tr01 (if _ then _ else _ : Nat → Int32) (if _ then _ else _ : Nat → Int32)
      rw [if_pos hs, if_pos hs]
      exact hT
    · have h0 : ¬ m.toInt = -9 := fun q => hs (Or.inl q)
      have hl := lowM_need hN hm h0
      rcases hm with q | q
      · exact absurd q h0
      · have e := ixn q.1
        have hlt : (V 12 m.toNatClampNeg).toInt < (m.toNatClampNeg : Int) := by rcases hN m.toNatClampNeg (by omega) with w | w <;> omega
        have hm0 : T m.toNatClampNeg = 0 := by rw [hT, if_pos (by omega)]
        show tr01 (if _ then _ else upd (stB V f (V 12 m.toNatClampNeg) B) m.toNatClampNeg _ : Nat → Int32) (if _ then _ else trF V f (V 12 m.toNatClampNeg) B (upd T m.toNatClampNeg (T m.toNatClampNeg + 1)) : Nat → Int32)
        rw [if_neg hs, if_neg hs, trF_above hN B f _ _ _ _ hl hlt, hm0]
        intro i
        by_cases h1 : i = m.toNatClampNeg
        · rw [show ∀ (F : Nat → Int32) (y : Int32), upd F m.toNatClampNeg y i = y from fun F y => if_pos h1, show ∀ (F : Nat → Int32) (y : Int32), upd F m.toNatClampNeg y i = y from fun F y => if_pos h1, if_neg]
          · rfl
          · split <;> decide
        · rw [show ∀ (F : Nat → Int32) (y : Int32), upd F m.toNatClampNeg y i = F i from fun F y => if_neg h1, show ∀ (F : Nat → Int32) (y : Int32), upd F m.toNatClampNeg y i = F i from fun F y => if_neg h1]
          exact ih _ T hl hT i
