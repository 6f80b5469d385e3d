/-! the best of those with a property, and finding -/
theorem on31 {n : Nat} (h : n < 2147483648) : (Int32.ofNat n).toInt = (n : Int) := by
  rw [Int32.toInt_ofNat']
  exact Int.bmod_eq_of_le (by omega) (by show (n : Int) < (4294967296 + 1) / 2; omega)
theorem ixo {n : Nat} (h : n < 2147483648) : (Int32.ofNat n).toNatClampNeg = n := by
  have h1 := on31 h
  have h2 := ixn (x := Int32.ofNat n) (by omega)
  omega
def bG (P : Nat → Prop) [DecidablePred P] (rk : Nat → Int32) : Nat → Int32
  | 0 => -9
  | n + 1 => if P n ∧ ((bG P rk n).toInt = -9 ∨ (rk (bG P rk n).toNatClampNeg).toInt < (rk n).toInt) then Int32.ofNat n else bG P rk n
theorem bG_all (P : Nat → Prop) [DecidablePred P] (rk : Nat → Int32) : ∀ n : Nat, n < 2147483648 → ((bG P rk n).toInt = -9 ∧ ∀ i, i < n → ¬ P i) ∨ (0 ≤ (bG P rk n).toInt ∧ (bG P rk n).toInt < n ∧ P (bG P rk n).toNatClampNeg ∧ ∀ i, i < n → P i → (rk i).toInt ≤ (rk (bG P rk n).toNatClampNeg).toInt ∧ ((rk i).toInt = (rk (bG P rk n).toNatClampNeg).toInt → (bG P rk n).toNatClampNeg ≤ i)) := by
  intro n
  induction n with
  | zero => intro _; exact Or.inl ⟨(by decide : (-9 : Int32).toInt = -9), fun i hi => absurd hi (by omega)⟩
  | succ n ih =>
    intro hn
    by_cases hc : P n ∧ ((bG P rk n).toInt = -9 ∨ (rk (bG P rk n).toNatClampNeg).toInt < (rk n).toInt)
    · have e : bG P rk (n + 1) = Int32.ofNat n := if_pos hc
      rw [e, on31 (by omega), ixo (by omega)]
      refine Or.inr ⟨by omega, by omega, hc.1, fun i hi hp => ?_⟩
      by_cases hin : i = n
      · rw [hin]; exact ⟨by omega, by omega⟩
      · rcases ih (by omega) with q | q
        · exact absurd hp (q.2 i (by omega))
        · have w := q.2.2.2 i (by omega) hp
          rcases hc.2 with z | z
          · omega
          · exact ⟨by omega, by omega⟩
    · have e : bG P rk (n + 1) = bG P rk n := if_neg hc
      rw [e]
      rcases ih (by omega) with q | q
      · refine Or.inl ⟨q.1, fun i hi hp => ?_⟩
        by_cases hin : i = n
        · rw [hin] at hp; exact hc ⟨hp, Or.inl q.1⟩
        · exact q.2 i (by omega) hp
      · have eb := ixn q.1
        refine Or.inr ⟨q.1, by omega, q.2.2.1, fun i hi hp => ?_⟩
        by_cases hin : i = n
        · rw [hin] at hp ⊢
          have z : ¬ (rk (bG P rk n).toNatClampNeg).toInt < (rk n).toInt := fun z => hc ⟨hp, Or.inr z⟩
          exact ⟨by omega, by omega⟩
        · exact q.2.2.2 i (by omega) hp
theorem bG_sub {P Q : Nat → Prop} [DecidablePred P] [DecidablePred Q] {rk : Nat → Int32} {n : Nat} (hn : n < 2147483648) (hs : ∀ i, i < n → Q i → P i) (h0 : 0 ≤ (bG P rk n).toInt) (hq : Q (bG P rk n).toNatClampNeg) : bG Q rk n = bG P rk n := by
  have eb := ixn h0
  rcases bG_all P rk n hn with a | a
  · omega
  · rcases bG_all Q rk n hn with b | b
    · exact absurd hq (b.2 _ (by omega))
    · have ec := ixn b.1
      have w1 := b.2.2.2 _ (by omega) hq
      have w2 := a.2.2.2 _ (by omega) (hs _ (by omega) b.2.2.1)
      apply Int32.toInt_inj.mp
      have h1 := w1.2
      have h2 := w2.2
      omega
/-- the mark is borne -/
abbrev mkd (V : VW) (mark : Int32) (i : Nat) : Prop := ((V 11 i >>> (mark &&& 31)) &&& 1).toInt = 1
theorem bestF_bG (V : VW) (B : Nat → Int32) (mark : Int32) : ∀ n, bestF V B mark n = bG (fun i => mkd V mark i ∧ (B i).toInt ≠ 2) (V 10) n := by
  intro n
  induction n with
  | zero => rfl
  | succ n ih =>
    show (if _ then _ else _) = (if _ then _ else _)
    rw [ih]
    by_cases hc : mkd V mark n ∧ (B n).toInt ≠ 2 ∧ ((bG (fun i => mkd V mark i ∧ (B i).toInt ≠ 2) (V 10) n).toInt = -9 ∨ (V 10 (bG (fun i => mkd V mark i ∧ (B i).toInt ≠ 2) (V 10) n).toNatClampNeg).toInt < (V 10 n).toInt)
    · rw [if_pos hc, if_pos ⟨⟨hc.1, hc.2.1⟩, hc.2.2⟩]
    · rw [if_neg hc, if_neg (fun q => hc ⟨q.1.1, q.1.2, q.2⟩)]
def b012 (B : Nat → Int32) : Prop := ∀ i, 0 ≤ (B i).toInt ∧ (B i).toInt ≤ 2
theorem stB_b {V : VW} {B : Nat → Int32} (h : b012 B) : ∀ (f : Nat) (m : Int32), b012 (stB V f m B) := by
  intro f
  induction f with
  | zero => intro m; exact h
  | succ f ih =>
    intro m i
    show 0 ≤ ((if _ then _ else _ : Nat → Int32) i).toInt ∧ ((if _ then _ else _ : Nat → Int32) i).toInt ≤ 2
    by_cases hs : m.toInt = -9 ∨ (B m.toNatClampNeg).toInt ≠ 0
    · rw [if_pos hs]; exact h i
    · rw [if_neg hs]
      by_cases h1 : i = m.toNatClampNeg
      · rw [show ∀ (F : Nat → Int32) (y : Int32), upd F m.toNatClampNeg y i = y from fun F y => if_pos h1]
        split <;> exact ⟨by decide, by decide⟩
      · rw [show ∀ (F : Nat → Int32) (y : Int32), upd F m.toNatClampNeg y i = F i from fun F y => if_neg h1]
        exact ih _ i
theorem stB_keep {V : VW} {B : Nat → Int32} {i : Nat} (h : (B i).toInt ≠ 0) : ∀ (f : Nat) (m : Int32), stB V f m B i = B i := by
  intro f
  induction f with
  | zero => intro m; rfl
  | succ f ih =>
    intro m
    show (if _ then _ else _ : Nat → Int32) i = _
    by_cases hs : m.toInt = -9 ∨ (B m.toNatClampNeg).toInt ≠ 0
    · rw [if_pos hs]
    · rw [if_neg hs]
      have h1 : ¬ i = m.toNatClampNeg := fun e => by rw [e] at h; exact hs (Or.inr h)
      rw [show ∀ (F : Nat → Int32) (y : Int32), upd F m.toNatClampNeg y i = F i from fun F y => if_neg h1]
      exact ih _
theorem stB_at {V : VW} {B : Nat → Int32} {m : Int32} (h0 : 0 ≤ m.toInt) : (stB V 20 m B m.toNatClampNeg).toInt ≠ 0 := by
  show ((if _ then _ else _ : Nat → Int32) m.toNatClampNeg).toInt ≠ 0
  by_cases hs : m.toInt = -9 ∨ (B m.toNatClampNeg).toInt ≠ 0
  · rw [if_pos hs]; rcases hs with h | h
    · omega
    · exact h
  · rw [if_neg hs, show ∀ (F : Nat → Int32) (y : Int32), upd F m.toNatClampNeg y m.toNatClampNeg = y from fun F y => if_pos rfl]
    split <;> decide
/-- how many bear the mark and have not failed -/
def cN (V : VW) (B : Nat → Int32) (mark : Int32) : Nat → Nat
  | 0 => 0
  | n + 1 => cN V B mark n + (if mkd V mark n ∧ (B n).toInt ≠ 2 then 1 else 0)
theorem cN_le (V : VW) (B : Nat → Int32) (mark : Int32) : ∀ n, cN V B mark n ≤ n := by
  intro n
  induction n with
  | zero => exact Nat.le_refl _
  | succ n ih => show cN V B mark n + (if _ then 1 else 0) ≤ n + 1; split <;> omega
theorem cN_mono {V : VW} {B B1 : Nat → Int32} {mark : Int32} (h : ∀ i, (B i).toInt = 2 → (B1 i).toInt = 2) : ∀ n, cN V B1 mark n ≤ cN V B mark n := by
  intro n
  induction n with
  | zero => exact Nat.le_refl _
  | succ n ih =>
    show cN V B1 mark n + (if _ then 1 else 0) ≤ cN V B mark n + (if _ then 1 else 0)
    by_cases h1 : mkd V mark n ∧ (B1 n).toInt ≠ 2
    · rw [if_pos h1, if_pos ⟨h1.1, fun q => h1.2 (h n q)⟩]; omega
    · rw [if_neg h1]; omega
theorem cN_lt {V : VW} {B B1 : Nat → Int32} {mark : Int32} (h : ∀ i, (B i).toInt = 2 → (B1 i).toInt = 2) {b : Nat} (hb : mkd V mark b ∧ (B b).toInt ≠ 2) (hb1 : (B1 b).toInt = 2) : ∀ n, b < n → cN V B1 mark n < cN V B mark n := by
  intro n
  induction n with
  | zero => intro h; omega
  | succ n ih =>
    intro hn
    show cN V B1 mark n + (if _ then 1 else 0) < cN V B mark n + (if _ then 1 else 0)
    by_cases e : b = n
    · rw [← e, if_pos hb, if_neg (fun q => q.2 hb1)]
      have := cN_mono (V := V) (mark := mark) h b
      omega
    · have := ih (by omega)
      by_cases h1 : mkd V mark n ∧ (B1 n).toInt ≠ 2
      · rw [if_pos h1, if_pos ⟨h1.1, fun q => h1.2 (h n q)⟩]; omega
      · rw [if_neg h1]; omega
theorem cN_0 {V : VW} {B : Nat → Int32} {mark : Int32} {i : Nat} (h : mkd V mark i ∧ (B i).toInt ≠ 2) : ∀ n, i < n → 0 < cN V B mark n := by
  intro n
  induction n with
  | zero => intro h; omega
  | succ n ih =>
    intro hn
    show 0 < cN V B mark n + (if _ then 1 else 0)
    by_cases e : i = n
    · rw [← e, if_pos h]; omega
    · have := ih (by omega); omega
/-- one round of finding -/
theorem find_step {V : VW} {B : Nat → Int32} {mark : Int32} {n : Nat} (hn : n < 2147483648) (hb : b012 B) (h9 : ¬ (bestF V B mark n).toInt = -9) (h1 : ¬ (stB V 20 (bestF V B mark n) B (bestF V B mark n).toNatClampNeg).toInt = 1) : cN V (stB V 20 (bestF V B mark n) B) mark n < cN V B mark n ∧ (stB V 20 (bestF V B mark n) B (bestF V B mark n).toNatClampNeg).toInt = 2 := by
  have hall := bG_all (fun i => mkd V mark i ∧ (B i).toInt ≠ 2) (V 10) n hn
  rw [← bestF_bG] at hall
  rcases hall with q | q
  · exact absurd q.1 h9
  · have e2 : (stB V 20 (bestF V B mark n) B (bestF V B mark n).toNatClampNeg).toInt = 2 := by
      have w1 := stB_at (V := V) (B := B) q.1
      have w2 := stB_b hb 20 (V := V) (bestF V B mark n) (bestF V B mark n).toNatClampNeg
      omega
    have eb := ixn q.1
    exact ⟨cN_lt (fun i hi => by rw [stB_keep (by omega)]; exact hi) q.2.2.1 e2 n (by omega), e2⟩
theorem findF_fuel {V : VW} {mark : Int32} (hn : (V 0 3).toNatClampNeg < 2147483648) : ∀ (f g : Nat) (B : Nat → Int32), b012 B → cN V B mark (V 0 3).toNatClampNeg ≤ f → cN V B mark (V 0 3).toNatClampNeg ≤ g → findF V mark f B = findF V mark g B := by
  intro f
  induction f with
  | zero =>
    intro g B hb hf hg
    cases g with
    | zero => rfl
    | succ g =>
      show _ = (if _ then _ else _)
      rw [if_pos]
      · rfl
      · rcases bG_all (fun i => mkd V mark i ∧ (B i).toInt ≠ 2) (V 10) _ hn with q | q
        · rw [bestF_bG]; exact q.1
        · have eb := ixn q.1
          have := cN_0 q.2.2.1 (V 0 3).toNatClampNeg (by omega)
          omega
  | succ f ih =>
    intro g B hb hf hg
    by_cases h9 : (bestF V B mark (V 0 3).toNatClampNeg).toInt = -9
    · cases g with
      | zero => show (if _ then _ else _) = _; rw [if_pos h9]; rfl
      | succ g => show (if _ then _ else _) = (if _ then _ else _); rw [if_pos h9, if_pos h9]
    · have hall := bG_all (fun i => mkd V mark i ∧ (B i).toInt ≠ 2) (V 10) _ hn
      rw [← bestF_bG] at hall
      rcases hall with q | q
      · exact absurd q.1 h9
      · have eb := ixn q.1
        have h0 := cN_0 q.2.2.1 (V 0 3).toNatClampNeg (by omega)
        cases g with
        | zero => omega
        | succ g =>
          show (if _ then _ else (if _ then _ else _)) = (if _ then _ else (if _ then _ else _))
          rw [if_neg h9, if_neg h9]
          by_cases h1 : (stB V 20 (bestF V B mark (V 0 3).toNatClampNeg) B (bestF V B mark (V 0 3).toNatClampNeg).toNatClampNeg).toInt = 1
          · rw [if_pos h1, if_pos h1]
          · rw [if_neg h1, if_neg h1]
            have hs := (find_step hn hb h9 h1).1
            exact ih g _ (stB_b hb 20 _) (by omega) (by omega)
/-- how many are not tried -/
def cT (T : Nat → Int32) : Nat → Nat
  | 0 => 0
  | n + 1 => cT T n + (if (T n).toInt = 0 then 1 else 0)
theorem cT_upd {T : Nat → Int32} {b : Nat} {y : Int32} (hy : ¬ y.toInt = 0) (hb : (T b).toInt = 0) : ∀ n, cT (upd T b y) n + (if b < n then 1 else 0) = cT T n := by
  intro n
  induction n with
  | zero => rfl
  | succ n ih =>
    show cT (upd T b y) n + (if (upd T b y n).toInt = 0 then 1 else 0) + (if b < n + 1 then 1 else 0) = cT T n + (if (T n).toInt = 0 then 1 else 0)
    by_cases e : n = b
    · rw [show upd T b y n = y from if_pos e, if_neg hy, e, if_pos hb, if_pos (Nat.lt_succ_self b)]
      rw [e, if_neg (Nat.lt_irrefl b)] at ih
      omega
    · rw [show upd T b y n = T n from if_neg e]
      by_cases h1 : b < n
      · rw [if_pos h1] at ih; rw [if_pos (show b < n + 1 by omega)]; omega
      · rw [if_neg h1] at ih; rw [if_neg (show ¬ b < n + 1 by omega)]; omega
theorem stB_ext {V W : VW} (h12 : V 12 = W 12) (h9 : V 9 = W 9) : ∀ (f : Nat) (m : Int32) (B : Nat → Int32), stB V f m B = stB W f m B := by
  intro f
  induction f with
  | zero => intro m B; rfl
  | succ f ih =>
    intro m B
    show (if _ then _ else _) = (if _ then _ else _)
    rw [h12, h9, ih]
theorem and1 (x : Int32) : (x &&& 1).toInt = 0 ∨ (x &&& 1).toInt = 1 := by
  have h : (x &&& 1).toBitVec.toNat = x.toBitVec.toNat % 2 := by
    rw [Int32.toBitVec_and]
    show (x.toBitVec &&& 1#32).toNat = _
    rw [BitVec.toNat_and]
    exact Nat.and_one_is_mod _
  have h2 : (x &&& 1).toBitVec.toInt = (x &&& 1).toBitVec.toNat := by
    rw [BitVec.toInt_eq_toNat_cond, if_pos (by omega)]
  show (x &&& 1).toBitVec.toInt = 0 ∨ (x &&& 1).toBitVec.toInt = 1
  omega
theorem find_none {V : VW} {B : Nat → Int32} {x : Int32} (hn : (V 0 3).toNatClampNeg < 2147483648) (h : ∀ i, i < (V 0 3).toNatClampNeg → ¬ (mkd V x i ∧ (B i).toInt ≠ 2)) : findF V x (V 0 3).toNatClampNeg B = (-9, B) := by
  have e : (bestF V B x (V 0 3).toNatClampNeg).toInt = -9 := by
    rw [bestF_bG]
    rcases bG_all (fun i => mkd V x i ∧ (B i).toInt ≠ 2) (V 10) _ hn with q | q
    · exact q.1
    · have eb := ixn q.1
      exact absurd q.2.2.1 (h _ (by omega))
  cases hz : (V 0 3).toNatClampNeg with
  | zero => rfl
  | succ n =>
    show (if _ then _ else _) = _
    rw [if_pos e]
theorem find_hit {V : VW} {B : Nat → Int32} {x b : Int32} (h : bestF V B x (V 0 3).toNatClampNeg = b) (h0 : 0 ≤ b.toInt) (h1 : b.toInt < ((V 0 3).toNatClampNeg : Int)) (hs : (stB V 20 b B b.toNatClampNeg).toInt = 1) : findF V x (V 0 3).toNatClampNeg B = (b, stB V 20 b B) := by
  have e : ∃ n, (V 0 3).toNatClampNeg = n + 1 := ⟨(V 0 3).toNatClampNeg - 1, by omega⟩
  obtain ⟨n, e⟩ := e
  have e2 : findF V x (V 0 3).toNatClampNeg B = findF V x (n + 1) B := by rw [e]
  rw [e2]
  show (if _ then _ else (if _ then _ else _)) = _
  rw [h, if_neg (by omega), if_pos hs]
theorem find_go {V : VW} {B : Nat → Int32} {x b : Int32} (hn : (V 0 3).toNatClampNeg < 2147483648) (hb : b012 B) (h : bestF V B x (V 0 3).toNatClampNeg = b) (h0 : 0 ≤ b.toInt) (h1 : b.toInt < ((V 0 3).toNatClampNeg : Int)) (hs : ¬ (stB V 20 b B b.toNatClampNeg).toInt = 1) : findF V x (V 0 3).toNatClampNeg (stB V 20 b B) = findF V x (V 0 3).toNatClampNeg B := by
  have e : ∃ n, (V 0 3).toNatClampNeg = n + 1 := ⟨(V 0 3).toNatClampNeg - 1, by omega⟩
  obtain ⟨n, e⟩ := e
  have e2 : findF V x (V 0 3).toNatClampNeg B = findF V x n (stB V 20 b B) := by
    rw [show findF V x (V 0 3).toNatClampNeg B = findF V x (n + 1) B by rw [e]]
    show (if _ then _ else (if _ then _ else _)) = _
    rw [h, if_neg (by omega), if_neg hs]
  rw [e2]
  have w := (find_step (V := V) (mark := x) hn hb (by rw [h]; omega) (by rw [h]; exact hs)).1
  rw [h] at w
  have w2 := cN_le V B x (V 0 3).toNatClampNeg
  exact findF_fuel hn _ _ _ (stB_b hb 20 _) (by omega) (by omega)
theorem best_of {V : VW} {B T : Nat → Int32} {x b : Int32} (hn : (V 0 3).toNatClampNeg < 2147483648) (e : b = bG (fun i => (T i).toInt = 0) (V 10) (V 0 3).toNatClampNeg) (hT : ∀ i, i < (V 0 3).toNatClampNeg → mkd V x i → ¬ (T i).toInt = 0 → (B i).toInt = 2) (h0 : 0 ≤ b.toInt) (hm : mkd V x b.toNatClampNeg) (h2 : ¬ (B b.toNatClampNeg).toInt = 2) : bestF V B x (V 0 3).toNatClampNeg = b := by
  rw [bestF_bG, e]
  rw [e] at h0 hm h2
  refine bG_sub (P := fun i => (T i).toInt = 0) hn (fun i hi q => ?_) h0 ⟨hm, h2⟩
  by_cases hz : (T i).toInt = 0
  · exact hz
  · exact absurd (hT i hi q.1 hz) q.2
