/-! counting: fractions in lowest terms -/
def frG (x y : Int64) : Int := (Int.gcd x.toInt y.toInt : Int)
def frU (x y : Int64) : Int64 := Int64.ofInt (x.toInt / frG x y)
def frD (x y : Int64) : Int64 := Int64.ofInt (y.toInt / frG x y)
abbrev fitF (u d : Int64) : Prop := u.toInt ≤ 1000000000 ∧ d.toInt ≤ 1000000000
theorem frG_pos {x y : Int64} (hy : 1 ≤ y.toInt) : 1 ≤ frG x y := by
  unfold frG
  have h : Int.gcd x.toInt y.toInt ≠ 0 := fun e => by
    have := (Int.gcd_eq_zero_iff.mp e).2
    omega
  omega
theorem frG_of {x y : Int64} {g : Int} (h1 : g ∣ x.toInt) (h2 : g ∣ y.toInt) (h3 : ∀ t : Int, t ∣ x.toInt → t ∣ y.toInt → t ∣ g) (h4 : 0 ≤ g) : g = frG x y := by
  unfold frG
  have a : g ∣ (Int.gcd x.toInt y.toInt : Int) := Int.dvd_coe_gcd h1 h2
  have b : (Int.gcd x.toInt y.toInt : Int) ∣ g := h3 _ (Int.gcd_dvd_left ..) (Int.gcd_dvd_right ..)
  exact Int.dvd_antisymm h4 (by omega) a b
theorem ofI64 {a : Int} (h0 : 0 ≤ a) (h1 : a ≤ 9223372036854775807) : (Int64.ofInt a).toInt = a := by
  rw [Int64.toInt_ofInt]
  show a.bmod 18446744073709551616 = a
  exact bmod_id (by omega) (by omega)
theorem frU_i {x y : Int64} (hx : 0 ≤ x.toInt) (hy : 1 ≤ y.toInt) : (frU x y).toInt = x.toInt / frG x y := by
  have g := frG_pos (x := x) hy
  have b := Int64.toInt_lt x
  have q1 : 0 ≤ x.toInt / frG x y := Int.ediv_nonneg hx (by omega)
  have q2 := Int.ediv_le_self (frG x y) hx
  exact ofI64 q1 (by omega)
theorem frD_i {x y : Int64} (hy : 1 ≤ y.toInt) : (frD x y).toInt = y.toInt / frG x y ∧ 1 ≤ (frD x y).toInt := by
  have g := frG_pos (x := x) hy
  have b := Int64.toInt_lt y
  have q1 : 0 ≤ y.toInt / frG x y := Int.ediv_nonneg (by omega) (by omega)
  have q2 := Int.ediv_le_self (frG x y) (show 0 ≤ y.toInt by omega)
  have e : (frD x y).toInt = y.toInt / frG x y := ofI64 q1 (by omega)
  refine ⟨e, ?_⟩
  rw [e]
  have hd : frG x y ∣ y.toInt := Int.gcd_dvd_right ..
  exact (Int.le_ediv_iff_mul_le (by omega)).mpr (by have := Int.le_of_dvd (by omega) hd; omega)
theorem frU_1 {x : Int64} (hx : 0 ≤ x.toInt) : frU x 1 = x ∧ frD x 1 = 1 := by
  have e1 : (1 : Int64).toInt = 1 := by decide
  have g : frG x 1 = 1 := by unfold frG; rw [e1, Int.gcd_one]; rfl
  constructor
  · apply Int64.toInt_inj.mp
    rw [frU_i hx (by omega), g, Int.ediv_one]
  · apply Int64.toInt_inj.mp
    rw [(frD_i (x := x) (by omega)).1, g, e1]; rfl
theorem frU_t {x y v : Int64} {g : Int} (hx : 0 ≤ x.toInt) (hy : 1 ≤ y.toInt) (hg : g = frG x y) (h : v.toInt = (x.toInt.tdiv g).bmod 18446744073709551616) : v = frU x y := by
  apply Int64.toInt_inj.mp
  have gp := frG_pos (x := x) hy
  have b := Int64.toInt_lt x
  have q1 : 0 ≤ x.toInt / frG x y := Int.ediv_nonneg hx (by omega)
  have q2 := Int.ediv_le_self (frG x y) hx
  rw [h, frU_i hx hy, hg, Int.tdiv_eq_ediv_of_nonneg hx, bmod_id (by omega) (by omega)]
theorem frD_t {x y v : Int64} {g : Int} (hy : 1 ≤ y.toInt) (hg : g = frG x y) (h : v.toInt = (y.toInt.tdiv g).bmod 18446744073709551616) : v = frD x y := by
  apply Int64.toInt_inj.mp
  have gp := frG_pos (x := x) hy
  have b := Int64.toInt_lt y
  have q1 : 0 ≤ y.toInt / frG x y := Int.ediv_nonneg (by omega) (by omega)
  have q2 := Int.ediv_le_self (frG x y) (show 0 ≤ y.toInt by omega)
  rw [h, (frD_i hy).1, hg, Int.tdiv_eq_ediv_of_nonneg (by omega), bmod_id (by omega) (by omega)]
/-! counting: the first on a ballot that is in; folding over the ballots of a box -/
def fiF (V : VW) (I : Nat → Int32) (b : Nat) : Nat → Nat → Int32
  | 0, _ => -9
  | n + 1, k => if (I (V 5 (10 * b + k)).toNatClampNeg).toInt ≠ 0 then V 5 (10 * b + k) else fiF V I b n (k + 1)
abbrev fiV (V : VW) (I : Nat → Int32) (b : Nat) : Int32 := fiF V I b (V 4 b).toNatClampNeg 0
theorem fiF_end {V : VW} {I : Nat → Int32} {b n k : Nat} (h : n ≤ k) : fiF V I b (n - k) k = -9 := by
  rw [Nat.sub_eq_zero_of_le h]; rfl
theorem fiF_hit {V : VW} {I : Nat → Int32} {b n k : Nat} (h : k < n) (e : (I (V 5 (10 * b + k)).toNatClampNeg).toInt ≠ 0) : fiF V I b (n - k) k = V 5 (10 * b + k) := by
  rw [show n - k = (n - k - 1) + 1 by omega]
  show (if (I (V 5 (10 * b + k)).toNatClampNeg).toInt ≠ 0 then _ else _) = _
  rw [if_pos e]
theorem fiF_go {V : VW} {I : Nat → Int32} {b n k : Nat} (h : k < n) (e : ¬ (I (V 5 (10 * b + k)).toNatClampNeg).toInt ≠ 0) : fiF V I b (n - k) k = fiF V I b (n - (k + 1)) (k + 1) := by
  rw [show n - k = (n - (k + 1)) + 1 by omega]
  show (if (I (V 5 (10 * b + k)).toNatClampNeg).toInt ≠ 0 then _ else _) = _
  rw [if_neg e]
theorem fiF_in {V : VW} {I : Nat → Int32} {b : Nat} (hm : ∀ i, 0 ≤ (V 5 i).toInt ∧ (V 5 i).toInt ≤ 9) : ∀ n k, (fiF V I b n k).toInt = -9 ∨ (0 ≤ (fiF V I b n k).toInt ∧ (fiF V I b n k).toInt ≤ 9 ∧ (I (fiF V I b n k).toNatClampNeg).toInt ≠ 0) := by
  intro n
  induction n with
  | zero => intro k; exact Or.inl (by show (-9 : Int32).toInt = -9; decide)
  | succ n ih =>
    intro k
    by_cases e : (I (V 5 (10 * b + k)).toNatClampNeg).toInt ≠ 0
    · have h : fiF V I b (n + 1) k = V 5 (10 * b + k) := if_pos e
      rw [h]
      exact Or.inr ⟨(hm _).1, (hm _).2, e⟩
    · have h : fiF V I b (n + 1) k = fiF V I b n (k + 1) := if_neg e
      rw [h]
      exact ih (k + 1)
/-- those in are the same where it matters -/
theorem fiF_ext {V : VW} {I J : Nat → Int32} {b : Nat} (hm : ∀ i, 0 ≤ (V 5 i).toInt ∧ (V 5 i).toInt ≤ 9) (h : ∀ c, c < 10 → I c = J c) : ∀ n k, fiF V I b n k = fiF V J b n k := by
  intro n
  induction n with
  | zero => intro k; rfl
  | succ n ih =>
    intro k
    have a := hm (10 * b + k)
    have na := ixn a.1
    show (if (I (V 5 (10 * b + k)).toNatClampNeg).toInt ≠ 0 then _ else _) = (if (J (V 5 (10 * b + k)).toNatClampNeg).toInt ≠ 0 then _ else _)
    rw [h _ (by omega), ih]
/-- over the places of a box, passing empty ones -/
def foP {α : Type} (st : Nat → Nat → α → α) (p : Nat → Int32) : Nat → α → α
  | 0, a => a
  | i + 1, a => if (p i).toInt = -9 then foP st p i a else st i (p i).toNatClampNeg (foP st p i a)
/-- over ballots that lie in a row -/
def foK {α : Type} (st : Nat → Nat → α → α) (ly : Nat → Int32) : Nat → α → α
  | 0, a => a
  | k + 1, a => st k (ly k).toNatClampNeg (foK st ly k a)
/-- how many of the first places are not empty -/
def cnP (p : Nat → Int32) : Nat → Nat
  | 0 => 0
  | i + 1 => cnP p i + (if (p i).toInt = -9 then 0 else 1)
def LY (p ly : Nat → Int32) (n : Nat) : Prop := ∀ i, i < n → (p i).toInt ≠ -9 → ly (cnP p i) = p i
theorem foK_P {α : Type} {st st' : Nat → Nat → α → α} {p ly : Nat → Int32} {a : α} : ∀ n, LY p ly n → (∀ i, i < n → (p i).toInt ≠ -9 → ∀ b, st' (cnP p i) b = st i b) → foK st' ly (cnP p n) a = foP st p n a := by
  intro n
  induction n with
  | zero => intro _ _; rfl
  | succ n ih =>
    intro h hs
    have ih' := ih (fun i hi => h i (by omega)) (fun i hi => hs i (by omega))
    by_cases e : (p n).toInt = -9
    · have e1 : cnP p (n + 1) = cnP p n := by show cnP p n + (if (p n).toInt = -9 then 0 else 1) = _; rw [if_pos e]; rfl
      have e2 : foP st p (n + 1) a = foP st p n a := if_pos e
      rw [e1, e2, ih']
    · have e1 : cnP p (n + 1) = cnP p n + 1 := by show cnP p n + (if (p n).toInt = -9 then 0 else 1) = _; rw [if_neg e]
      have e2 : foP st p (n + 1) a = st n (p n).toNatClampNeg (foP st p n a) := if_neg e
      rw [e1, e2]
      show st' (cnP p n) (ly (cnP p n)).toNatClampNeg (foK st' ly (cnP p n) a) = _
      rw [h n (by omega) e, hs n (by omega) e, ih']
theorem cnP_le (p : Nat → Int32) : ∀ n, cnP p n ≤ n := by
  intro n
  induction n with
  | zero => exact Nat.le_refl _
  | succ n ih => show cnP p n + (if _ then 0 else 1) ≤ n + 1; split <;> omega
theorem cnP_mono (p : Nat → Int32) {i n : Nat} (h : i ≤ n) : cnP p i ≤ cnP p n := by
  induction n with
  | zero => rw [show i = 0 by omega]; exact Nat.le_refl _
  | succ n ih =>
    by_cases e : i = n + 1
    · rw [e]; exact Nat.le_refl _
    · have := ih (by omega)
      show _ ≤ cnP p n + (if _ then 0 else 1)
      split <;> omega
/-- tallies (above, below; none is too great) -/
abbrev TS : Type := (Nat → Int64) × (Nat → Int64) × Bool
def addS (s : TS) (c : Nat) (y z : Int64) : TS := (vp_updL s.1 c (frU (s.1 c * z + y * s.2.1 c) (s.2.1 c * z)), vp_updL s.2.1 c (frD (s.1 c * z + y * s.2.1 c) (s.2.1 c * z)), decide (fitF (frU (s.1 c * z + y * s.2.1 c) (s.2.1 c * z)) (frD (s.1 c * z + y * s.2.1 c) (s.2.1 c * z))))
def stW (V : VW) (I : Nat → Int32) (wu wd : Nat → Int64) (j b : Nat) (s : TS) : TS := if (fiV V I b).toInt = -9 ∨ s.2.2 = false then s else addS s (fiV V I b).toNatClampNeg (wu j) (wd j)
def ts0 : TS := (fun _ => 0, fun _ => 1, true)
/-- whole papers -/
def stF (V : VW) (I : Nat → Int32) (_j b : Nat) (U : Nat → Int64) : Nat → Int64 := if (fiV V I b).toInt = -9 then U else vp_updL U (fiV V I b).toNatClampNeg (U (fiV V I b).toNatClampNeg + (V 3 b).toInt64)
theorem i64_le {a b : Int64} {m n : Int} (ha : 0 ≤ a.toInt) (hm : a.toInt ≤ m) (hb : 0 ≤ b.toInt) (hn : b.toInt ≤ n) (h : m + n ≤ 9000000000000000000) : (a + b).toInt = a.toInt + b.toInt := by
  rw [Int64.toInt_add]
  exact bmod_id (by omega) (by omega)
theorem i32_64 (x : Int32) : x.toInt64.toInt = x.toInt := Int32.toInt_toInt64 x
theorem stF_b {V : VW} {I : Nat → Int32} {p : Nat → Int32} (hp : ∀ b, 0 ≤ (V 3 b).toInt ∧ (V 3 b).toInt ≤ 100000) : ∀ n, n ≤ 40 → ∀ c, 0 ≤ (foP (stF V I) p n (fun _ => 0) c).toInt ∧ (foP (stF V I) p n (fun _ => 0) c).toInt ≤ 100000 * (n : Int) := by
  intro n
  induction n with
  | zero => intro _ c; show 0 ≤ (0 : Int64).toInt ∧ (0 : Int64).toInt ≤ _; rw [show (0 : Int64).toInt = 0 by decide]; omega
  | succ n ih =>
    intro hn c
    have a := ih (by omega)
    by_cases e : (p n).toInt = -9
    · have e2 : foP (stF V I) p (n + 1) (fun _ => 0) = foP (stF V I) p n (fun _ => 0) := if_pos e
      rw [e2]
      have := a c
      omega
    · have e2 : foP (stF V I) p (n + 1) (fun _ => 0) = stF V I n (p n).toNatClampNeg (foP (stF V I) p n (fun _ => 0)) := if_neg e
      rw [e2]
      generalize foP (stF V I) p n (fun _ => 0) = U at a ⊢
      unfold stF
      by_cases e3 : (fiV V I (p n).toNatClampNeg).toInt = -9
      · rw [if_pos e3]
        have := a c
        omega
      · rw [if_neg e3]
        by_cases e4 : c = (fiV V I (p n).toNatClampNeg).toNatClampNeg
        · rw [show ∀ (U : Nat → Int64) (x : Int64), vp_updL U (fiV V I (p n).toNatClampNeg).toNatClampNeg x c = x from fun U x => if_pos e4]
          have b := a (fiV V I (p n).toNatClampNeg).toNatClampNeg
          have d := hp (p n).toNatClampNeg
          rw [i64_le (m := 4000000) (n := 100000) b.1 (by omega) (by rw [i32_64]; exact d.1) (by rw [i32_64]; exact d.2) (by decide), i32_64]
          omega
        · rw [show ∀ (U : Nat → Int64) (x : Int64), vp_updL U (fiV V I (p n).toNatClampNeg).toNatClampNeg x c = U c from fun U x => if_neg e4]
          have := a c
          omega
/-- with whole papers the tallies are whole papers -/
theorem stW_F {V : VW} {I : Nat → Int32} {p : Nat → Int32} {wu wd : Nat → Int64} (hp : ∀ b, 0 ≤ (V 3 b).toInt ∧ (V 3 b).toInt ≤ 100000) (hw : ∀ i, i < 40 → (p i).toInt ≠ -9 → wu i = (V 3 (p i).toNatClampNeg).toInt64 ∧ wd i = 1) : ∀ n, n ≤ 40 → foP (stW V I wu wd) p n ts0 = (foP (stF V I) p n (fun _ => 0), fun _ => 1, true) := by
  intro n
  induction n with
  | zero => intro _; rfl
  | succ n ih =>
    intro hn
    have ih' := ih (by omega)
    by_cases e : (p n).toInt = -9
    · have e1 : foP (stW V I wu wd) p (n + 1) ts0 = foP (stW V I wu wd) p n ts0 := if_pos e
      have e2 : foP (stF V I) p (n + 1) (fun _ => 0) = foP (stF V I) p n (fun _ => 0) := if_pos e
      rw [e1, e2, ih']
    · have e1 : foP (stW V I wu wd) p (n + 1) ts0 = stW V I wu wd n (p n).toNatClampNeg (foP (stW V I wu wd) p n ts0) := if_neg e
      have e2 : foP (stF V I) p (n + 1) (fun _ => 0) = stF V I n (p n).toNatClampNeg (foP (stF V I) p n (fun _ => 0)) := if_neg e
      rw [e1, e2, ih']
      have bb := stF_b (I := I) (p := p) hp n (by omega)
      generalize foP (stF V I) p n (fun _ => 0) = U at bb ⊢
      unfold stW stF
      by_cases e3 : (fiV V I (p n).toNatClampNeg).toInt = -9
      · rw [if_pos (Or.inl e3), if_pos e3]
      · rw [if_neg (fun h => h.elim e3 (fun h => Bool.noConfusion h)), if_neg e3]
        obtain ⟨w1, w2⟩ := hw n (by omega) e
        have b := bb (fiV V I (p n).toNatClampNeg).toNatClampNeg
        have d := hp (p n).toNatClampNeg
        have s := i64_le (a := U (fiV V I (p n).toNatClampNeg).toNatClampNeg) (b := (V 3 (p n).toNatClampNeg).toInt64) (m := 4000000) (n := 100000) b.1 (by omega) (by rw [i32_64]; exact d.1) (by rw [i32_64]; exact d.2) (by decide)
        rw [i32_64] at s
        have f := frU_1 (x := U (fiV V I (p n).toNatClampNeg).toNatClampNeg + (V 3 (p n).toNatClampNeg).toInt64) (by rw [s]; omega)
        unfold addS
        rw [w1, w2]
        dsimp only
        simp only [Int64.mul_one, f.1, f.2]
        refine Prod.ext rfl (Prod.ext ?_ ?_)
        · funext c
          show vp_updL (fun _ => 1) _ 1 c = 1
          unfold vp_updL
          split <;> rfl
        · show decide (fitF _ 1) = true
          apply decide_eq_true
          dsimp only [fitF]
          rw [s, show (1 : Int64).toInt = 1 by decide]
          omega
theorem okF_fr {u d y z : Int64} (h : okF u d) (hy : okF y z) : 0 ≤ (u * z + y * d).toInt ∧ 1 ≤ (d * z).toInt ∧ 0 ≤ (frU (u * z + y * d) (d * z)).toInt ∧ 1 ≤ (frD (u * z + y * d) (d * z)).toInt := by
  unfold okF at h hy
  have e1 : (u * z + y * d).toInt = (u.toInt * z.toInt + y.toInt * d.toInt).bmod 18446744073709551616 := by
    rw [Int64.toInt_add, Int64.toInt_mul, Int64.toInt_mul]
    exact Int.add_bmod_bmod .. |>.trans (by rw [Int.bmod_add_bmod])
  have e2 : (d * z).toInt = (d.toInt * z.toInt).bmod 18446744073709551616 := Int64.toInt_mul ..
  have h3 := add_ok e1 e2 (by omega) (by omega) ⟨by omega, by omega⟩
  refine ⟨h3.1, by omega, ?_, (frD_i (by omega)).2⟩
  rw [frU_i h3.1 (by omega)]
  exact Int.ediv_nonneg h3.1 (by have := frG_pos (x := u * z + y * d) (y := d * z) (by omega); omega)
theorem tw_step {S : TS} {c : Nat} {U D U1 D1 : Nat → Int64} {y z : Int64} {s s1 : Int32} (hc : c < 10) (hS : s.toInt = 0 ↔ S.2.2 = true) (hE : S.2.2 = true → ∀ c, c < 10 → U c = S.1 c ∧ D c = S.2.1 c ∧ okF (U c) (D c)) (hy : okF y z) (hA : okF (U c) (D c) → U1 = vp_updL U c (frU (U c * z + y * D c) (D c * z)) ∧ D1 = vp_updL D c (frD (U c * z + y * D c) (D c * z)) ∧ (s1.toInt = 0 ↔ s.toInt = 0 ∧ fitF (frU (U c * z + y * D c) (D c * z)) (frD (U c * z + y * D c) (D c * z)))) (hm : s1.toInt = 0 → s.toInt = 0) : (s1.toInt = 0 ↔ (if S.2.2 = false then S else addS S c y z).2.2 = true) ∧ ((if S.2.2 = false then S else addS S c y z).2.2 = true → ∀ c', c' < 10 → U1 c' = (if S.2.2 = false then S else addS S c y z).1 c' ∧ D1 c' = (if S.2.2 = false then S else addS S c y z).2.1 c' ∧ okF (U1 c') (D1 c')) := by
  by_cases e : S.2.2 = false
  · rw [if_pos e]
    refine ⟨⟨fun h => absurd (hS.mp (hm h)) (by rw [e]; decide), fun h => absurd h (by rw [e]; decide)⟩, fun h => absurd h (by rw [e]; decide)⟩
  · rw [if_neg e]
    have e1 : S.2.2 = true := by cases h : S.2.2 with
      | true => rfl
      | false => exact absurd h e
    have hk := hE e1 c hc
    obtain ⟨a1, a2, a3⟩ := hA hk.2.2
    have eU : U c = S.1 c := hk.1
    have eD : D c = S.2.1 c := hk.2.1
    have hf := okF_fr hk.2.2 hy
    rw [eU, eD] at a1 a2 a3 hf
    have hdec : (addS S c y z).2.2 = decide (fitF (frU (S.1 c * z + y * S.2.1 c) (S.2.1 c * z)) (frD (S.1 c * z + y * S.2.1 c) (S.2.1 c * z))) := rfl
    have h1 : (addS S c y z).1 = vp_updL S.1 c (frU (S.1 c * z + y * S.2.1 c) (S.2.1 c * z)) := rfl
    have h2 : (addS S c y z).2.1 = vp_updL S.2.1 c (frD (S.1 c * z + y * S.2.1 c) (S.2.1 c * z)) := rfl
    rw [hdec, h1, h2]
    refine ⟨?_, fun h => ?_⟩
    · rw [a3, decide_eq_true_iff]
      exact ⟨fun q => q.2, fun q => ⟨hS.mpr e1, q⟩⟩
    · have hfit := decide_eq_true_iff.mp h
      intro c' hc'
      rw [a1, a2]
      by_cases e9 : c' = c
      · rw [show ∀ (F : Nat → Int64) (v : Int64), vp_updL F c v c' = v from fun F v => if_pos e9, show ∀ (F : Nat → Int64) (v : Int64), vp_updL F c v c' = v from fun F v => if_pos e9, show ∀ (F : Nat → Int64) (v : Int64), vp_updL F c v c' = v from fun F v => if_pos e9, show ∀ (F : Nat → Int64) (v : Int64), vp_updL F c v c' = v from fun F v => if_pos e9]
        refine ⟨rfl, rfl, ?_⟩
        unfold okF
        dsimp only [fitF] at hfit
        omega
      · rw [show ∀ (F : Nat → Int64) (v : Int64), vp_updL F c v c' = F c' from fun F v => if_neg e9, show ∀ (F : Nat → Int64) (v : Int64), vp_updL F c v c' = F c' from fun F v => if_neg e9, show ∀ (F : Nat → Int64) (v : Int64), vp_updL F c v c' = F c' from fun F v => if_neg e9, show ∀ (F : Nat → Int64) (v : Int64), vp_updL F c v c' = F c' from fun F v => if_neg e9]
        exact hE e1 c' hc'
theorem stW_n {V : VW} {I : Nat → Int32} {wu wd : Nat → Int64} {j b : Nat} {s : TS} (h : ¬ (fiV V I b).toInt = -9) : stW V I wu wd j b s = if s.2.2 = false then s else addS s (fiV V I b).toNatClampNeg (wu j) (wd j) := by
  unfold stW
  by_cases e : s.2.2 = false
  · rw [if_pos (Or.inr e), if_pos e]
  · rw [if_neg (fun q => q.elim h e), if_neg e]
theorem stW_e {V : VW} {I : Nat → Int32} {wu wd : Nat → Int64} {j b : Nat} {s : TS} (h : (fiV V I b).toInt = -9) : stW V I wu wd j b s = s := by
  unfold stW
  rw [if_pos (Or.inl h)]
theorem foP_e {α : Type} {st : Nat → Nat → α → α} {p : Nat → Int32} {i : Nat} {a : α} (h : (p i).toInt = -9) : foP st p (i + 1) a = foP st p i a := if_pos h
theorem foP_s {α : Type} {st : Nat → Nat → α → α} {p : Nat → Int32} {i : Nat} {a : α} (h : ¬ (p i).toInt = -9) : foP st p (i + 1) a = st i (p i).toNatClampNeg (foP st p i a) := if_neg h
/-! counting: the greatest and the least of those in, by the row of the draw -/
def grF (row I : Nat → Int32) (U D : Nat → Int64) : Nat → Int32
  | 0 => -9
  | i + 1 => if (I (row i).toNatClampNeg).toInt ≠ 0 ∧ ((grF row I U D i).toInt = -9 ∨ (U (grF row I U D i).toNatClampNeg * D (row i).toNatClampNeg).toInt < (U (row i).toNatClampNeg * D (grF row I U D i).toNatClampNeg).toInt) then row i else grF row I U D i
def leF (row I : Nat → Int32) (U D : Nat → Int64) : Nat → Int32
  | 0 => -9
  | i + 1 => if (I (row i).toNatClampNeg).toInt ≠ 0 ∧ ((leF row I U D i).toInt = -9 ∨ ¬ (U (leF row I U D i).toNatClampNeg * D (row i).toNatClampNeg).toInt < (U (row i).toNatClampNeg * D (leF row I U D i).toNatClampNeg).toInt) then row i else leF row I U D i
theorem grF_ext {row I J : Nat → Int32} {U D U1 D1 : Nat → Int64} (hr : ∀ i, 0 ≤ (row i).toInt ∧ (row i).toInt ≤ 9) (hI : ∀ c, c < 10 → I c = J c) (hU : ∀ c, c < 10 → U c = U1 c) (hD : ∀ c, c < 10 → D c = D1 c) : ∀ n, grF row I U D n = grF row J U1 D1 n ∧ ((grF row I U D n).toInt = -9 ∨ (0 ≤ (grF row I U D n).toInt ∧ (grF row I U D n).toInt ≤ 9)) := by
  intro n
  induction n with
  | zero => exact ⟨rfl, Or.inl (by show (-9 : Int32).toInt = -9; decide)⟩
  | succ n ih =>
    obtain ⟨e, hb⟩ := ih
    have a := hr n
    have na := ixn a.1
    have key : ((I (row n).toNatClampNeg).toInt ≠ 0 ∧ ((grF row I U D n).toInt = -9 ∨ (U (grF row I U D n).toNatClampNeg * D (row n).toNatClampNeg).toInt < (U (row n).toNatClampNeg * D (grF row I U D n).toNatClampNeg).toInt)) ↔ ((J (row n).toNatClampNeg).toInt ≠ 0 ∧ ((grF row J U1 D1 n).toInt = -9 ∨ (U1 (grF row J U1 D1 n).toNatClampNeg * D1 (row n).toNatClampNeg).toInt < (U1 (row n).toNatClampNeg * D1 (grF row J U1 D1 n).toNatClampNeg).toInt)) := by
      rw [← e, hI _ (by omega), hU (row n).toNatClampNeg (by omega), hD (row n).toNatClampNeg (by omega)]
      rcases hb with q | q
      · exact ⟨fun h => ⟨h.1, Or.inl q⟩, fun h => ⟨h.1, Or.inl q⟩⟩
      · have nq := ixn q.1
        rw [hU (grF row I U D n).toNatClampNeg (by omega), hD (grF row I U D n).toNatClampNeg (by omega)]
    by_cases hc : (I (row n).toNatClampNeg).toInt ≠ 0 ∧ ((grF row I U D n).toInt = -9 ∨ (U (grF row I U D n).toNatClampNeg * D (row n).toNatClampNeg).toInt < (U (row n).toNatClampNeg * D (grF row I U D n).toNatClampNeg).toInt)
    · have e1 : grF row I U D (n + 1) = row n := if_pos hc
      have e2 : grF row J U1 D1 (n + 1) = row n := if_pos (key.mp hc)
      rw [e1, e2]
      exact ⟨rfl, Or.inr a⟩
    · have e1 : grF row I U D (n + 1) = grF row I U D n := if_neg hc
      have e2 : grF row J U1 D1 (n + 1) = grF row J U1 D1 n := if_neg (fun h => hc (key.mpr h))
      rw [e1, e2]
      exact ⟨e, hb⟩
theorem leF_ext {row I J : Nat → Int32} {U D U1 D1 : Nat → Int64} (hr : ∀ i, 0 ≤ (row i).toInt ∧ (row i).toInt ≤ 9) (hI : ∀ c, c < 10 → I c = J c) (hU : ∀ c, c < 10 → U c = U1 c) (hD : ∀ c, c < 10 → D c = D1 c) : ∀ n, leF row I U D n = leF row J U1 D1 n ∧ ((leF row I U D n).toInt = -9 ∨ (0 ≤ (leF row I U D n).toInt ∧ (leF row I U D n).toInt ≤ 9)) := by
  intro n
  induction n with
  | zero => exact ⟨rfl, Or.inl (by show (-9 : Int32).toInt = -9; decide)⟩
  | succ n ih =>
    obtain ⟨e, hb⟩ := ih
    have a := hr n
    have na := ixn a.1
    have key : ((I (row n).toNatClampNeg).toInt ≠ 0 ∧ ((leF row I U D n).toInt = -9 ∨ ¬ (U (leF row I U D n).toNatClampNeg * D (row n).toNatClampNeg).toInt < (U (row n).toNatClampNeg * D (leF row I U D n).toNatClampNeg).toInt)) ↔ ((J (row n).toNatClampNeg).toInt ≠ 0 ∧ ((leF row J U1 D1 n).toInt = -9 ∨ ¬ (U1 (leF row J U1 D1 n).toNatClampNeg * D1 (row n).toNatClampNeg).toInt < (U1 (row n).toNatClampNeg * D1 (leF row J U1 D1 n).toNatClampNeg).toInt)) := by
      rw [← e, hI _ (by omega), hU (row n).toNatClampNeg (by omega), hD (row n).toNatClampNeg (by omega)]
      rcases hb with q | q
      · exact ⟨fun h => ⟨h.1, Or.inl q⟩, fun h => ⟨h.1, Or.inl q⟩⟩
      · have nq := ixn q.1
        rw [hU (leF row I U D n).toNatClampNeg (by omega), hD (leF row I U D n).toNatClampNeg (by omega)]
    by_cases hc : (I (row n).toNatClampNeg).toInt ≠ 0 ∧ ((leF row I U D n).toInt = -9 ∨ ¬ (U (leF row I U D n).toNatClampNeg * D (row n).toNatClampNeg).toInt < (U (row n).toNatClampNeg * D (leF row I U D n).toNatClampNeg).toInt)
    · have e1 : leF row I U D (n + 1) = row n := if_pos hc
      have e2 : leF row J U1 D1 (n + 1) = row n := if_pos (key.mp hc)
      rw [e1, e2]
      exact ⟨rfl, Or.inr a⟩
    · have e1 : leF row I U D (n + 1) = leF row I U D n := if_neg hc
      have e2 : leF row J U1 D1 (n + 1) = leF row J U1 D1 n := if_neg (fun h => hc (key.mpr h))
      rw [e1, e2]
      exact ⟨e, hb⟩
/-! counting: seats and rounds as lists -/
def RP (g : Int32) (fs : Nat → Int32) (n : Int32) (fw fh : Nat → Int32) (S : List Int32) (R : List (Int32 × Int32)) : Prop :=
  g.toInt = (S.length : Int) ∧ (∀ i, i < S.length → fs i = S.getD i 0) ∧ n.toInt = (R.length : Int) ∧ (∀ i, i < R.length → fw i = (R.getD i (0, 0)).1 ∧ fh i = (R.getD i (0, 0)).2)
theorem RP_give {g g1 n c : Int32} {fs fs1 fw fh : Nat → Int32} {S : List Int32} {R : List (Int32 × Int32)} (h : RP g fs n fw fh S R) (hg : g1.toInt = g.toInt + 1) (hf : fs1 = upd fs g.toNatClampNeg c) : RP g1 fs1 n fw fh (S ++ [c]) R := by
  obtain ⟨h1, h2, h3, h4⟩ := h
  have ng := ixn (x := g) (by omega)
  refine ⟨by rw [hg, h1, List.length_append]; rfl, fun i hi => ?_, h3, h4⟩
  rw [List.length_append] at hi
  have hi2 : i < S.length + 1 := hi
  rw [hf, upd_at]
  by_cases e : i = g.toNatClampNeg
  · rw [if_pos e, List.getD_eq_getElem?_getD, List.getElem?_append_right (by omega), show i - S.length = 0 by omega]; rfl
  · rw [if_neg e, h2 i (by omega), List.getD_eq_getElem?_getD, List.getD_eq_getElem?_getD, List.getElem?_append_left (by omega)]
theorem RP_note {g n n1 w c : Int32} {fs fw fh fw1 fh1 : Nat → Int32} {S : List Int32} {R : List (Int32 × Int32)} (h : RP g fs n fw fh S R) (hn : n1.toInt = n.toInt + 1) (hw : fw1 = upd fw n.toNatClampNeg w) (hh : fh1 = upd fh n.toNatClampNeg c) : RP g fs n1 fw1 fh1 S (R ++ [(w, c)]) := by
  obtain ⟨h1, h2, h3, h4⟩ := h
  have nn := ixn (x := n) (by omega)
  refine ⟨h1, h2, by rw [hn, h3, List.length_append]; rfl, fun i hi => ?_⟩
  rw [List.length_append] at hi
  have hi2 : i < R.length + 1 := hi
  rw [hw, hh, upd_at, upd_at]
  by_cases e : i = n.toNatClampNeg
  · rw [if_pos e, if_pos e, List.getD_eq_getElem?_getD, List.getElem?_append_right (by omega), show i - R.length = 0 by omega]; exact ⟨rfl, rfl⟩
  · rw [if_neg e, if_neg e, (h4 i (by omega)).1, (h4 i (by omega)).2, List.getD_eq_getElem?_getD, List.getD_eq_getElem?_getD, List.getElem?_append_left (by omega)]; exact ⟨rfl, rfl⟩
theorem RP_0 {fs fw fh : Nat → Int32} {g n : Int32} (hg : g.toInt = 0) (hn : n.toInt = 0) : RP g fs n fw fh [] [] := ⟨hg, fun i hi => absurd hi (Nat.not_lt_zero i), hn, fun i hi => absurd hi (Nat.not_lt_zero i)⟩
/-- seats one after the other by the greatest tally -/
def btI (row I : Nat → Int32) (U D : Nat → Int64) (n : Nat) : Nat → (Nat → Int32)
  | 0 => I
  | s + 1 => upd (btI row I U D n s) (grF row (btI row I U D n s) U D n).toNatClampNeg 0
def btS (row I : Nat → Int32) (U D : Nat → Int64) (n : Nat) : Nat → List Int32
  | 0 => []
  | s + 1 => btS row I U D n s ++ [grF row (btI row I U D n s) U D n]
def oneR (S : List Int32) : List (Int32 × Int32) := S.map (fun c => (1, c))
theorem oneR_app (S : List Int32) (c : Int32) : oneR (S ++ [c]) = oneR S ++ [(1, c)] := by unfold oneR; rw [List.map_append]; rfl
abbrev RR (M : MI) (S : List Int32) (R : List (Int32 × Int32)) : Prop := RP (M 258 29) (M 277) (M 258 31) (M 278) (M 279) S R
/-! counting: points, and points by places -/
def stP (V : VW) (pts : Nat → Nat → Int32) (n : Nat) (_j b : Nat) (U : Nat → Int64) : Nat → Int64 := fun c => if c < n then U c + (V 3 b).toInt64 * (pts b c).toInt64 else U c
def ptsV (V : VW) (b c : Nat) : Int32 := V 5 (10 * b + c)
def plcV (V : VW) (b c : Nat) : Int32 := if (pF (mk V b) (Int32.ofNat c) (V 4 b).toNatClampNeg 0).toInt = -9 then 0 else V 0 0 - 1 - pF (mk V b) (Int32.ofNat c) (V 4 b).toNatClampNeg 0
theorem mul64 {a b : Int32} (ha : 0 ≤ a.toInt ∧ a.toInt ≤ 100000) (hb : 0 ≤ b.toInt ∧ b.toInt ≤ 9) : (a.toInt64 * b.toInt64).toInt = a.toInt * b.toInt ∧ 0 ≤ a.toInt * b.toInt ∧ a.toInt * b.toInt ≤ 900000 := by
  have h1 : 0 ≤ a.toInt * b.toInt := Int.mul_nonneg ha.1 hb.1
  have h2 : a.toInt * b.toInt ≤ 100000 * 9 := Int.mul_le_mul ha.2 hb.2 hb.1 (by decide)
  refine ⟨?_, h1, by omega⟩
  rw [Int64.toInt_mul, i32_64, i32_64]
  exact bmod_id (by omega) (by omega)
theorem stP_b {V : VW} {pts : Nat → Nat → Int32} {p : Nat → Int32} {n : Nat} (hp : ∀ b, 0 ≤ (V 3 b).toInt ∧ (V 3 b).toInt ≤ 100000) (hq : ∀ b c, b < 60 → c < 10 → 0 ≤ (pts b c).toInt ∧ (pts b c).toInt ≤ 9) (hb : ∀ i, (p i).toInt = -9 ∨ (0 ≤ (p i).toInt ∧ (p i).toInt ≤ 59)) (hn : n ≤ 10) : ∀ m, m ≤ 40 → ∀ c, 0 ≤ (foP (stP V pts n) p m (fun _ => 0) c).toInt ∧ (foP (stP V pts n) p m (fun _ => 0) c).toInt ≤ 900000 * (m : Int) := by
  intro m
  induction m with
  | zero => intro _ c; show 0 ≤ (0 : Int64).toInt ∧ (0 : Int64).toInt ≤ _; rw [show (0 : Int64).toInt = 0 by decide]; omega
  | succ m ih =>
    intro hm c
    have a := ih (by omega)
    by_cases e : (p m).toInt = -9
    · rw [foP_e e]
      have := a c
      omega
    · rw [foP_s e]
      generalize foP (stP V pts n) p m (fun _ => 0) = U at a ⊢
      unfold stP
      have b := a c
      have hb9 := hb m
      have nb9 := ixn (x := p m) (by omega)
      by_cases e3 : c < n
      · have d := mul64 (hp (p m).toNatClampNeg) (hq (p m).toNatClampNeg c (by omega) (by omega))
        rw [if_pos e3, i64_le (m := 36000000) (n := 900000) b.1 (by omega) (by rw [d.1]; exact d.2.1) (by rw [d.1]; exact d.2.2) (by decide), d.1]
        omega
      · rw [if_neg e3]
        omega
theorem pt_step {u y : Int64} (hu : 0 ≤ u.toInt ∧ u.toInt ≤ 36000000) (hy : 0 ≤ y.toInt ∧ y.toInt ≤ 900000) : frU (u * 1 + y * 1) (1 * 1) = u + y ∧ frD (u * 1 + y * 1) (1 * 1) = 1 ∧ fitF (u + y) 1 := by
  have s := i64_le (a := u) (b := y) (m := 36000000) (n := 900000) hu.1 hu.2 hy.1 hy.2 (by decide)
  have f := frU_1 (x := u + y) (by rw [s]; omega)
  simp only [Int64.mul_one]
  refine ⟨f.1, f.2, ?_⟩
  dsimp only [fitF]
  rw [s, show (1 : Int64).toInt = 1 by decide]
  omega
theorem pF_b {f : Nat → Int32} {c : Int32} : ∀ n k, k + n ≤ 10 → (pF f c n k).toInt = -9 ∨ ((k : Int) ≤ (pF f c n k).toInt ∧ (pF f c n k).toInt < ((k + n : Nat) : Int)) := by
  intro n
  induction n with
  | zero => intro k _; exact Or.inl (by show (-9 : Int32).toInt = -9; decide)
  | succ n ih =>
    intro k hk
    by_cases e : (f k).toInt = c.toInt
    · have h3 : pF f c (n + 1) k = Int32.ofNat k := if_pos e
      rw [h3, on31 (by omega)]
      exact Or.inr ⟨by omega, by omega⟩
    · have h3 : pF f c (n + 1) k = pF f c n (k + 1) := if_neg e
      rw [h3]
      rcases ih (k + 1) (by omega) with q | q
      · exact Or.inl q
      · exact Or.inr ⟨by omega, by omega⟩
def ptX (V : VW) (x : Int32) : Nat → Nat → Int32 := if x.toInt = 0 then ptsV V else plcV V
theorem ptX_b {V : VW} {x : Int32} (hm : ∀ i, 0 ≤ (V 5 i).toInt ∧ (V 5 i).toInt ≤ 9) (ho : ∀ b, 0 ≤ (V 4 b).toInt ∧ (V 4 b).toInt ≤ 10) (h0 : 0 ≤ (V 0 0).toInt ∧ (V 0 0).toInt ≤ 10) (hl : ∀ b, b < 60 → (V 4 b).toInt ≤ (V 0 0).toInt) : ∀ b c, b < 60 → c < 10 → 0 ≤ (ptX V x b c).toInt ∧ (ptX V x b c).toInt ≤ 9 := by
  intro b c hb hc
  unfold ptX
  by_cases e : x.toInt = 0
  · rw [if_pos e]; exact hm _
  · rw [if_neg e]
    unfold plcV
    have o := ho b
    have no := ixn o.1
    have l := hl b hb
    by_cases e2 : (pF (mk V b) (Int32.ofNat c) (V 4 b).toNatClampNeg 0).toInt = -9
    · rw [if_pos e2]; decide
    · rw [if_neg e2]
      rcases pF_b (f := mk V b) (c := Int32.ofNat c) (V 4 b).toNatClampNeg 0 (by omega) with q | q
      · exact absurd q e2
      · have f1 := fsub (x := V 0 0) (y := 1) rfl (by decide : (1 : Int32).toInt = 1) rfl (by omega) (by omega)
        have f2 := fsub (x := V 0 0 - 1) (y := pF (mk V b) (Int32.ofNat c) (V 4 b).toNatClampNeg 0) f1 rfl rfl (by omega) (by omega)
        rw [f2]
        omega
/-! counting: divisors; run-off -/
def dvF (row : Nat → Int32) (U : Nat → Int64) (H : Nat → Int32) (t : Int32) : Nat → Int32
  | 0 => -9
  | i + 1 => if (dvF row U H t i).toInt = -9 ∨ (U (dvF row U H t i).toNatClampNeg * (1 + t * H (row i).toNatClampNeg).toInt64).toInt < (U (row i).toNatClampNeg * (1 + t * H (dvF row U H t i).toNatClampNeg).toInt64).toInt then row i else dvF row U H t i
theorem dvF_ext {row H H1 : Nat → Int32} {U U1 : Nat → Int64} {t : Int32} (hr : ∀ i, 0 ≤ (row i).toInt ∧ (row i).toInt ≤ 9) (hH : ∀ c, c < 10 → H c = H1 c) (hU : ∀ c, c < 10 → U c = U1 c) : ∀ n, dvF row U H t n = dvF row U1 H1 t n ∧ (((dvF row U H t n).toInt = -9 ∧ n = 0) ∨ (0 ≤ (dvF row U H t n).toInt ∧ (dvF row U H t n).toInt ≤ 9)) := by
  intro n
  induction n with
  | zero => exact ⟨rfl, Or.inl ⟨by show (-9 : Int32).toInt = -9; decide, rfl⟩⟩
  | succ n ih =>
    obtain ⟨e, hb⟩ := ih
    have a := hr n
    have na := ixn a.1
    have key : ((dvF row U H t n).toInt = -9 ∨ (U (dvF row U H t n).toNatClampNeg * (1 + t * H (row n).toNatClampNeg).toInt64).toInt < (U (row n).toNatClampNeg * (1 + t * H (dvF row U H t n).toNatClampNeg).toInt64).toInt) ↔ ((dvF row U1 H1 t n).toInt = -9 ∨ (U1 (dvF row U1 H1 t n).toNatClampNeg * (1 + t * H1 (row n).toNatClampNeg).toInt64).toInt < (U1 (row n).toNatClampNeg * (1 + t * H1 (dvF row U1 H1 t n).toNatClampNeg).toInt64).toInt) := by
      rw [← e, hH (row n).toNatClampNeg (by omega), hU (row n).toNatClampNeg (by omega)]
      rcases hb with q | q
      · exact ⟨fun _ => Or.inl q.1, fun _ => Or.inl q.1⟩
      · have nq := ixn q.1
        rw [hU (dvF row U H t n).toNatClampNeg (by omega), hH (dvF row U H t n).toNatClampNeg (by omega)]
    by_cases hc : (dvF row U H t n).toInt = -9 ∨ (U (dvF row U H t n).toNatClampNeg * (1 + t * H (row n).toNatClampNeg).toInt64).toInt < (U (row n).toNatClampNeg * (1 + t * H (dvF row U H t n).toNatClampNeg).toInt64).toInt
    · have e1 : dvF row U H t (n + 1) = row n := if_pos hc
      have e2 : dvF row U1 H1 t (n + 1) = row n := if_pos (key.mp hc)
      rw [e1, e2]
      exact ⟨rfl, Or.inr a⟩
    · have e1 : dvF row U H t (n + 1) = dvF row U H t n := if_neg hc
      have e2 : dvF row U1 H1 t (n + 1) = dvF row U1 H1 t n := if_neg (fun h => hc (key.mpr h))
      rw [e1, e2]
      refine ⟨e, ?_⟩
      rcases hb with q | q
      · exact absurd (Or.inl q.1) hc
      · exact Or.inr q
def dvH (row : Nat → Int32) (U : Nat → Int64) (t : Int32) (n : Nat) : Nat → (Nat → Int32)
  | 0 => fun _ => 0
  | s + 1 => upd (dvH row U t n s) (dvF row U (dvH row U t n s) t n).toNatClampNeg (dvH row U t n s (dvF row U (dvH row U t n s) t n).toNatClampNeg + 1)
def dvS (row : Nat → Int32) (U : Nat → Int64) (t : Int32) (n : Nat) : Nat → List Int32
  | 0 => []
  | s + 1 => dvS row U t n s ++ [dvF row U (dvH row U t n s) t n]
/-- whole papers by first choices among those in -/
abbrev tfV (V : VW) (I : Nat → Int32) (p : Nat → Int32) (m : Nat) : Nat → Int64 := foP (stF V I) p m (fun _ => 0)
theorem tfV_ext {V : VW} {I J p : Nat → Int32} (hm : ∀ i, 0 ≤ (V 5 i).toInt ∧ (V 5 i).toInt ≤ 9) (h : ∀ c, c < 10 → I c = J c) : ∀ m, tfV V I p m = tfV V J p m := by
  have e : stF V I = stF V J := by
    funext j b U
    unfold stF fiV
    rw [fiF_ext hm h]
  intro m
  unfold tfV
  rw [e]
/-- run-off: who is in, who went out, after r rounds -/
def roI (V : VW) (row I p : Nat → Int32) (m n : Nat) : Nat → (Nat → Int32)
  | 0 => I
  | r + 1 => upd (roI V row I p m n r) (leF row (roI V row I p m n r) (tfV V (roI V row I p m n r) p m) (fun _ => 1) n).toNatClampNeg 0
def roC (V : VW) (row I p : Nat → Int32) (m n r : Nat) : Int32 := leF row (roI V row I p m n r) (tfV V (roI V row I p m n r) p m) (fun _ => 1) n
def roO (V : VW) (row I p : Nat → Int32) (m n : Nat) : Nat → List Int32
  | 0 => []
  | r + 1 => roO V row I p m n r ++ [roC V row I p m n r]
def twoR (S : List Int32) : List (Int32 × Int32) := S.map (fun c => (2, c))
theorem twoR_app (S : List Int32) (c : Int32) : twoR (S ++ [c]) = twoR S ++ [(2, c)] := by unfold twoR; rw [List.map_append]; rfl
def roW (V : VW) (row I p : Nat → Int32) (m n r : Nat) : Int32 := grF row (roI V row I p m n r) (tfV V (roI V row I p m n r) p m) (fun _ => 1) n
/-- behind the one that remains, those that went out, the last first: j of them -/
def roT (V : VW) (row I p : Nat → Int32) (m n r : Nat) : Nat → List Int32
  | 0 => [roW V row I p m n r]
  | j + 1 => roT V row I p m n r j ++ [roC V row I p m n (r - 1 - j)]
/-! counting: ways -/
abbrev plN (V : VW) (bl c : Nat) : Int := (pF (mk V bl) (Int32.ofNat c) (V 4 bl).toNatClampNeg 0).toInt
abbrev ahV (V : VW) (bl a b : Nat) : Prop := plN V bl a ≠ -9 ∧ (plN V bl b = -9 ∨ plN V bl a < plN V bl b)
def bwP (V : VW) (a b : Nat) (_j bl : Nat) (u : Int64) : Int64 := if ahV V bl a b then u + (V 3 bl).toInt64 else u
def beV (V : VW) (p : Nat → Int32) (m a b : Nat) : Int64 := foP (bwP V a b) p m 0
def wS (V : VW) (p : Nat → Int32) (m : Nat) : Nat → Nat → Nat → Int
  | 0, a, b => if (beV V p m b a).toInt < (beV V p m a b).toInt then (beV V p m a b).toInt else 0
  | k + 1, a, b => if a = b then wS V p m k a b else max (wS V p m k a b) (min (wS V p m k a k) (wS V p m k k b))
theorem FW_eq {w w1 : Nat → Nat → Int} {n m a b : Nat} (h : FW w w1 n m (fun _ _ => True)) (ha : a < n) (hb : b < n) : w1 a b = if a = b then w a b else max (w a b) (min (w a m) (w m b)) := by
  have h1 := h a ha b hb
  by_cases e : a = b
  · rw [if_pos e]
    have p := (h1 (w1 a b)).mp (Int.le_refl _)
    have q := (h1 (w a b)).mpr (Or.inl (Int.le_refl _))
    rcases p with p | p
    · omega
    · exact absurd e p.2.1
  · rw [if_neg e]
    have p := (h1 (w1 a b)).mp (Int.le_refl _)
    have q := (h1 (w a b)).mpr (Or.inl (Int.le_refl _))
    have r := (h1 (min (w a m) (w m b))).mpr (Or.inr ⟨trivial, e, by omega, by omega⟩)
    omega
/-- the first in the row that is in and unbeaten -/
abbrev unb (I : Nat → Int32) (W : Nat → Nat → Int) (n c : Nat) : Prop := ∀ y, y < n → y ≠ c → ¬ (I y).toInt = 0 → ¬ W c y < W y c
/-- c is the one that the row gives first -/
def fuP (row I : Nat → Int32) (W : Nat → Nat → Int) (n : Nat) (c : Int32) : Prop := ∃ i, i < n ∧ c = row i ∧ ¬ (I (row i).toNatClampNeg).toInt = 0 ∧ unb I W n (row i).toNatClampNeg ∧ ∀ j, j < i → (I (row j).toNatClampNeg).toInt = 0 ∨ ¬ unb I W n (row j).toNatClampNeg
theorem fuP_u {row I : Nat → Int32} {W : Nat → Nat → Int} {n : Nat} {c d : Int32} (h1 : fuP row I W n c) (h2 : fuP row I W n d) : c = d := by
  obtain ⟨i, a1, a2, a3, a4, a5⟩ := h1
  obtain ⟨j, b1, b2, b3, b4, b5⟩ := h2
  rcases Nat.lt_trichotomy i j with q | q | q
  · rcases b5 i q with z | z
    · exact absurd z a3
    · exact absurd a4 z
  · rw [a2, b2, q]
  · rcases a5 j q with z | z
    · exact absurd z b3
    · exact absurd b4 z
/-- seats by ways: a row of those that follow each other so -/
def wyP (row : Nat → Int32) (W : Nat → Nat → Int) (n : Nat) : (Nat → Int32) → List Int32 → (Nat → Int32) → Prop
  | I, [], J => ∀ c, c < 10 → I c = J c
  | I, c :: S, J => fuP row I W n c ∧ wyP row W n (upd I c.toNatClampNeg 0) S J
theorem fuP_ext {row I J : Nat → Int32} {W X : Nat → Nat → Int} {n : Nat} {c : Int32} (hr : ∀ i, 0 ≤ (row i).toInt ∧ (row i).toInt ≤ 9) (hn : n ≤ 10) (hI : ∀ c, c < 10 → I c = J c) (hlt : ∀ i, i < n → ((row i).toInt < (n : Int))) (hW : ∀ a, a < n → ∀ b, b < n → a ≠ b → W a b = X a b) (h : fuP row I W n c) : fuP row J X n c := by
  obtain ⟨i, a1, a2, a3, a4, a5⟩ := h
  have key : ∀ j, j < n → (unb I W n (row j).toNatClampNeg ↔ unb J X n (row j).toNatClampNeg) := by
    intro j hj
    have r := hr j
    have nr := ixn r.1
    have l := hlt j hj
    constructor
    · intro q y hy hne hin
      rw [← hW _ (by omega) y hy (fun e => hne e.symm), ← hW y hy _ (by omega) hne]
      exact q y hy hne (by rw [hI y (by omega)]; exact hin)
    · intro q y hy hne hin
      rw [hW _ (by omega) y hy (fun e => hne e.symm), hW y hy _ (by omega) hne]
      exact q y hy hne (by rw [← hI y (by omega)]; exact hin)
  have ri := hr i
  have nri := ixn ri.1
  refine ⟨i, a1, a2, by rw [← hI _ (by omega)]; exact a3, (key i a1).mp a4, fun j hj => ?_⟩
  have rj := hr j
  have nrj := ixn rj.1
  rcases a5 j hj with z | z
  · exact Or.inl (by rw [← hI _ (by omega)]; exact z)
  · exact Or.inr (fun q => z ((key j (by omega)).mpr q))
theorem wyP_u {row : Nat → Int32} {W : Nat → Nat → Int} {n : Nat} : ∀ {S T : List Int32} {I J K : Nat → Int32}, wyP row W n I S J → wyP row W n I T K → S.length = T.length → S = T := by
  intro S
  induction S with
  | nil => intro T I J K _ _ h; cases T with
    | nil => rfl
    | cons a t => exact absurd h (by simp)
  | cons a s ih => intro T I J K h1 h2 h; cases T with
    | nil => exact absurd h (by simp)
    | cons b t =>
      have e := fuP_u h1.1 h2.1
      subst e
      rw [ih h1.2 h2.2 (by simpa using h)]
theorem wyP_app {row : Nat → Int32} {W : Nat → Nat → Int} {n : Nat} {c : Int32} : ∀ {S : List Int32} {I J : Nat → Int32}, wyP row W n I S J → (∀ K, (∀ c, c < 10 → J c = K c) → fuP row K W n c) → wyP row W n I (S ++ [c]) (upd J c.toNatClampNeg 0) := by
  intro S
  induction S with
  | nil =>
    intro I J h hf
    refine ⟨hf I (fun c hc => (h c hc).symm), fun d hd => ?_⟩
    rw [upd_at, upd_at, h d hd]
  | cons a s ih => intro I J h hf; exact ⟨h.1, ih h.2 hf⟩
theorem BT_unb {I : Nat → Int32} {f : Nat → Int64} {W : Nat → Nat → Int} {n c : Nat} (hc : c < n) (hW : ∀ a, a < n → ∀ b, b < n → wv f a b = W a b) : ¬ BT I f c n ↔ unb I W n c := by
  constructor
  · intro h y hy hne hin hlt
    exact h ⟨y, hy, hne, hin, by rw [hW c hc y hy, hW y hy c hc]; exact hlt⟩
  · rintro h ⟨y, hy, hne, hin, hlt⟩
    rw [hW c hc y hy, hW y hy c hc] at hlt
    exact h y hy hne hin hlt
/-! counting: what is above the quota goes on -/
def ltS (V : VW) (I : Nat → Int32) (c : Int32) (a b : Int64) (j bl : Nat) (s : TS) : TS := if (fiV V I bl).toInt = c.toInt ∧ s.2.2 = true then (vp_updL s.1 j (frU (s.1 j * a) (s.2.1 j * b)), vp_updL s.2.1 j (frD (s.1 j * a) (s.2.1 j * b)), decide (fitF (frU (s.1 j * a) (s.2.1 j * b)) (frD (s.1 j * a) (s.2.1 j * b)))) else s
def lgU (u d q : Int64) : Int64 := frU (u - q * d) d
def lgV (u d q : Int64) : Int64 := frD (u - q * d) d
def lgA (u d q : Int64) : Int64 := frU (lgU u d q * d) (lgV u d q * u)
def lgB (u d q : Int64) : Int64 := frD (lgU u d q * d) (lgV u d q * u)
abbrev lg2 (u d q : Int64) : Prop := fitF (lgU u d q) (lgV u d q) ∧ fitF (lgA u d q) (lgB u d q)
def lgW (V : VW) (I : Nat → Int32) (c : Int32) (u d q : Int64) (p : Nat → Int32) (wu wd : Nat → Int64) (m : Nat) : TS := foP (ltS V I c (lgA u d q) (lgB u d q)) p m (wu, wd, true)
theorem ltS_f {V : VW} {I : Nat → Int32} {c : Int32} {a b : Int64} {j bl : Nat} {s : TS} (h : ¬ ((fiV V I bl).toInt = c.toInt ∧ s.2.2 = true)) : ltS V I c a b j bl s = s := if_neg h
theorem lgW_stay {V : VW} {I : Nat → Int32} {c : Int32} {u d q : Int64} {p : Nat → Int32} {wu wd : Nat → Int64} {i : Nat} (h : (lgW V I c u d q p wu wd i).2.2 = false) : ∀ k, (lgW V I c u d q p wu wd (i + k)).2.2 = false := by
  intro k
  induction k with
  | zero => exact h
  | succ k ih =>
    show (lgW V I c u d q p wu wd ((i + k) + 1)).2.2 = false
    unfold lgW at ih ⊢
    by_cases e : (p (i + k)).toInt = -9
    · rw [foP_e e]; exact ih
    · rw [foP_s e, ltS_f (fun q => by rw [ih] at q; exact Bool.noConfusion q.2)]; exact ih
theorem bt_true {b : Bool} (h : ¬ b = false) : b = true := by cases b with
  | true => rfl
  | false => exact absurd rfl h
/-- one more of the weights -/
theorem lt_step {S : TS} {j : Nat} {U D U1 D1 : Nat → Int64} {a b : Int64} {s s1 : Int32} {F : Prop} (hF : F) (h0 : s.toInt = 0) (hE : U = S.1 ∧ D = S.2.1) (hA : U1 = vp_updL U j (frU (U j * a) (D j * b)) ∧ D1 = vp_updL D j (frD (U j * a) (D j * b)) ∧ (s1.toInt = 0 ↔ s.toInt = 0 ∧ fitF (frU (U j * a) (D j * b)) (frD (U j * a) (D j * b)))) {T : TS} (hT : T = (vp_updL S.1 j (frU (S.1 j * a) (S.2.1 j * b)), vp_updL S.2.1 j (frD (S.1 j * a) (S.2.1 j * b)), decide (fitF (frU (S.1 j * a) (S.2.1 j * b)) (frD (S.1 j * a) (S.2.1 j * b))))) : (s1.toInt = 0 ↔ F ∧ T.2.2 = true) ∧ U1 = T.1 ∧ D1 = T.2.1 := by
  obtain ⟨a1, a2, a3⟩ := hA
  rw [hE.1, hE.2] at a1 a2 a3
  rw [hT]
  refine ⟨?_, a1, a2⟩
  show s1.toInt = 0 ↔ F ∧ decide _ = true
  rw [a3, decide_eq_true_iff]
  exact ⟨fun q => ⟨hF, q.2⟩, fun q => ⟨h0, q.2⟩⟩
/-! a count by a quota: who is in, the weights, seats, rounds, none is too great -/
abbrev TR : Type := (Nat → Int32) × ((Nat → Int64) × (Nat → Int64)) × List Int32 × List (Int32 × Int32) × Bool
def qrT (V : VW) (p : Nat → Int32) (m : Nat) (s : TR) : TS := foP (stW V s.1 s.2.1.1 s.2.1.2) p m ts0
def qrC (V : VW) (row p : Nat → Int32) (m n : Nat) (s : TR) : Int32 := grF row s.1 (qrT V p m s).1 (qrT V p m s).2.1 n
def qrL (V : VW) (row p : Nat → Int32) (m n : Nat) (s : TR) : Int32 := leF row s.1 (qrT V p m s).1 (qrT V p m s).2.1 n
def qrU (V : VW) (row p : Nat → Int32) (m n : Nat) (s : TR) : Int64 := (qrT V p m s).1 (qrC V row p m n s).toNatClampNeg
def qrV (V : VW) (row p : Nat → Int32) (m n : Nat) (s : TR) : Int64 := (qrT V p m s).2.1 (qrC V row p m n s).toNatClampNeg
def qrW (V : VW) (row p : Nat → Int32) (m n : Nat) (q : Int64) (s : TR) : TS := lgW V s.1 (qrC V row p m n s) (qrU V row p m n s) (qrV V row p m n s) q p s.2.1.1 s.2.1.2 m
def qrF (V : VW) (row p : Nat → Int32) (m n sd : Nat) (q : Int64) (s : TR) : TR :=
  if (qrT V p m s).2.2 = false then (s.1, s.2.1, s.2.2.1, s.2.2.2.1, false)
  else if cI s.1 n + s.2.2.1.length ≤ sd then (upd s.1 (qrC V row p m n s).toNatClampNeg 0, s.2.1, s.2.2.1 ++ [qrC V row p m n s], s.2.2.2.1 ++ [(1, qrC V row p m n s)], true)
  else if (q * qrV V row p m n s).toInt ≤ (qrU V row p m n s).toInt then
    (if lg2 (qrU V row p m n s) (qrV V row p m n s) q ∧ (qrW V row p m n q s).2.2 = true then (upd s.1 (qrC V row p m n s).toNatClampNeg 0, ((qrW V row p m n q s).1, (qrW V row p m n q s).2.1), s.2.2.1 ++ [qrC V row p m n s], s.2.2.2.1 ++ [(1, qrC V row p m n s)], true) else (s.1, s.2.1, s.2.2.1, s.2.2.2.1, false))
  else (upd s.1 (qrL V row p m n s).toNatClampNeg 0, s.2.1, s.2.2.1, s.2.2.2.1 ++ [(2, qrL V row p m n s)], true)
def qrD (n sd : Nat) (s : TR) : Prop := s.2.2.2.2 = false ∨ sd ≤ s.2.2.1.length ∨ cI s.1 n = 0
def qrN (V : VW) (row p : Nat → Int32) (m n sd : Nat) (q : Int64) (s : TR) : Nat → TR
  | 0 => s
  | k + 1 => qrF V row p m n sd q (qrN V row p m n sd q s k)
theorem qrN_u {V : VW} {row p : Nat → Int32} {m n sd : Nat} {q : Int64} {s : TR} {k l : Nat} (h1 : ∀ j, j < k → ¬ qrD n sd (qrN V row p m n sd q s j)) (h2 : qrD n sd (qrN V row p m n sd q s k)) (h3 : ∀ j, j < l → ¬ qrD n sd (qrN V row p m n sd q s j)) (h4 : qrD n sd (qrN V row p m n sd q s l)) : k = l := by
  rcases Nat.lt_trichotomy k l with z | z | z
  · exact absurd h2 (h3 k z)
  · exact z
  · exact absurd h4 (h1 l z)
theorem mul_nn9 {a b : Int} (ha : 0 ≤ a) (hb : 0 ≤ b) : 0 ≤ a * b := Int.mul_nonneg ha hb
theorem okF_of {x y : Int64} (h : fitF (frU x y) (frD x y)) (hx : 0 ≤ x.toInt) (hy : 1 ≤ y.toInt) : okF (frU x y) (frD x y) := by
  dsimp only [fitF] at h
  have g := frG_pos (x := x) hy
  have q1 : 0 ≤ (frU x y).toInt := by rw [frU_i hx hy]; exact Int.ediv_nonneg hx (by omega)
  have q2 := (frD_i (x := x) hy).2
  unfold okF
  omega
theorem lgAB {u d q : Int64} (hd : 1 ≤ d.toInt ∧ d.toInt ≤ 1000000000) (hu : 0 ≤ u.toInt ∧ u.toInt ≤ 1000000000) (hu1 : 1 ≤ u.toInt) (hf : fitF (lgU u d q) (lgV u d q)) (h0 : 0 ≤ (lgU u d q).toInt) (h1 : 1 ≤ (lgV u d q).toInt) : 0 ≤ (lgA u d q).toInt ∧ 1 ≤ (lgB u d q).toInt := by
  dsimp only [fitF] at hf
  have m1 := mul_le9 (a := (lgU u d q).toInt) (b := d.toInt) h0 hf.1 (by omega) hd.2
  have m2 := mul_le9 (a := (lgV u d q).toInt) (b := u.toInt) (by omega) hf.2 (by omega) hu.2
  have m3 := mul_pos9 (a := (lgV u d q).toInt) (b := u.toInt) h1 hu1
  have m4 := mul_nn9 (a := (lgU u d q).toInt) (b := d.toInt) h0 (by omega)
  have e1 : (lgU u d q * d).toInt = (lgU u d q).toInt * d.toInt := by rw [Int64.toInt_mul]; exact bmod_id (by omega) (by omega)
  have e2 : (lgV u d q * u).toInt = (lgV u d q).toInt * u.toInt := by rw [Int64.toInt_mul]; exact bmod_id (by omega) (by omega)
  constructor
  · show 0 ≤ (frU (lgU u d q * d) (lgV u d q * u)).toInt
    rw [frU_i (by omega) (by omega)]
    exact Int.ediv_nonneg (by omega) (by have := frG_pos (x := lgU u d q * d) (y := lgV u d q * u) (by omega); omega)
  · exact (frD_i (by omega)).2
/-! counting: what the outcome hangs on -/
theorem bt_ext {row I J : Nat → Int32} {U D U1 D1 : Nat → Int64} {n : Nat} (hr : ∀ i, 0 ≤ (row i).toInt ∧ (row i).toInt ≤ 9) (hI : ∀ c, c < 10 → I c = J c) (hU : ∀ c, c < 10 → U c = U1 c) (hD : ∀ c, c < 10 → D c = D1 c) : ∀ s, (∀ c, c < 10 → btI row I U D n s c = btI row J U1 D1 n s c) ∧ btS row I U D n s = btS row J U1 D1 n s := by
  intro s
  induction s with
  | zero => exact ⟨hI, rfl⟩
  | succ s ih =>
    have e := (grF_ext hr ih.1 hU hD n).1
    constructor
    · intro c hc
      show upd (btI row I U D n s) (grF row (btI row I U D n s) U D n).toNatClampNeg 0 c = upd (btI row J U1 D1 n s) (grF row (btI row J U1 D1 n s) U1 D1 n).toNatClampNeg 0 c
      rw [e, upd_at, upd_at, ih.1 c hc]
    · show btS row I U D n s ++ [grF row (btI row I U D n s) U D n] = btS row J U1 D1 n s ++ [grF row (btI row J U1 D1 n s) U1 D1 n]
      rw [e, ih.2]
theorem ro_ext {V : VW} {row I J p : Nat → Int32} {m n : Nat} (hm : ∀ i, 0 ≤ (V 5 i).toInt ∧ (V 5 i).toInt ≤ 9) (hr : ∀ i, 0 ≤ (row i).toInt ∧ (row i).toInt ≤ 9) (hI : ∀ c, c < 10 → I c = J c) : ∀ r, (∀ c, c < 10 → roI V row I p m n r c = roI V row J p m n r c) ∧ roC V row I p m n r = roC V row J p m n r ∧ roW V row I p m n r = roW V row J p m n r := by
  have key : ∀ r, (∀ c, c < 10 → roI V row I p m n r c = roI V row J p m n r c) → roC V row I p m n r = roC V row J p m n r ∧ roW V row I p m n r = roW V row J p m n r := by
    intro r h
    have t := tfV_ext (p := p) hm h m
    unfold roC roW
    rw [t]
    exact ⟨(leF_ext hr h (fun _ _ => rfl) (fun _ _ => rfl) n).1, (grF_ext hr h (fun _ _ => rfl) (fun _ _ => rfl) n).1⟩
  intro r
  induction r with
  | zero => exact ⟨hI, key 0 hI⟩
  | succ r ih =>
    have h : ∀ c, c < 10 → roI V row I p m n (r + 1) c = roI V row J p m n (r + 1) c := by
      intro c hc
      show upd (roI V row I p m n r) (roC V row I p m n r).toNatClampNeg 0 c = upd (roI V row J p m n r) (roC V row J p m n r).toNatClampNeg 0 c
      rw [ih.2.1, upd_at, upd_at, ih.1 c hc]
    exact ⟨h, key _ h⟩
theorem roO_ext {V : VW} {row I J p : Nat → Int32} {m n : Nat} (h : ∀ r, roC V row I p m n r = roC V row J p m n r) : ∀ r, roO V row I p m n r = roO V row J p m n r := by
  intro r
  induction r with
  | zero => rfl
  | succ r ih => show roO V row I p m n r ++ [_] = roO V row J p m n r ++ [_]; rw [ih, h]
theorem roT_ext {V : VW} {row I J p : Nat → Int32} {m n r : Nat} (h : ∀ r, roC V row I p m n r = roC V row J p m n r) (hw : roW V row I p m n r = roW V row J p m n r) : ∀ j, roT V row I p m n r j = roT V row J p m n r j := by
  intro j
  induction j with
  | zero => show [_] = [_]; rw [hw]
  | succ j ih => show roT V row I p m n r j ++ [_] = roT V row J p m n r j ++ [_]; rw [ih, h]
theorem cI_ext {I J : Nat → Int32} (h : ∀ c, c < 10 → I c = J c) : ∀ n, n ≤ 10 → cI I n = cI J n := by
  intro n
  induction n with
  | zero => intro _; rfl
  | succ n ih => intro hn; show cI I n + _ = cI J n + _; rw [ih (by omega), h n (by omega)]
theorem wyP_ext {row : Nat → Int32} {W X : Nat → Nat → Int} {n : Nat} (hr : ∀ i, 0 ≤ (row i).toInt ∧ (row i).toInt ≤ 9) (hn : n ≤ 10) (hlt : ∀ i, i < n → ((row i).toInt < (n : Int))) (hW : ∀ a, a < n → ∀ b, b < n → a ≠ b → W a b = X a b) : ∀ {S : List Int32} {I J K : Nat → Int32}, (∀ c, c < 10 → I c = J c) → wyP row W n I S K → ∃ K1, wyP row X n J S K1 := by
  intro S
  induction S with
  | nil => intro I J K h _; exact ⟨J, fun _ _ => rfl⟩
  | cons a s ih =>
    intro I J K h hw
    obtain ⟨K1, h1⟩ := ih (J := upd J a.toNatClampNeg 0) (fun c hc => by rw [upd_at, upd_at, h c hc]) hw.2
    exact ⟨K1, fuP_ext hr hn h hlt hW hw.1, h1⟩
theorem foP_congr {α : Type} {st st' : Nat → Nat → α → α} {p : Nat → Int32} {a : α} : ∀ m, (∀ i, i < m → (p i).toInt ≠ -9 → st i (p i).toNatClampNeg = st' i (p i).toNatClampNeg) → foP st p m a = foP st' p m a := by
  intro m
  induction m with
  | zero => intro _; rfl
  | succ m ih =>
    intro h
    have e := ih (fun i hi => h i (by omega))
    by_cases q : (p m).toInt = -9
    · rw [foP_e q, foP_e q, e]
    · rw [foP_s q, foP_s q, e, h m (by omega) q]
def QE (p : Nat → Int32) (m : Nat) (s t : TR) : Prop := (∀ c, c < 10 → s.1 c = t.1 c) ∧ (∀ i, i < m → (p i).toInt ≠ -9 → s.2.1.1 i = t.2.1.1 i ∧ s.2.1.2 i = t.2.1.2 i) ∧ s.2.2 = t.2.2
theorem qrT_ext {V : VW} {p : Nat → Int32} {m : Nat} {s t : TR} (hm : ∀ i, 0 ≤ (V 5 i).toInt ∧ (V 5 i).toInt ≤ 9) (h : QE p m s t) : qrT V p m s = qrT V p m t := by
  unfold qrT
  refine foP_congr m (fun i hi q => ?_)
  funext x
  unfold stW fiV
  rw [fiF_ext hm h.1, (h.2.1 i hi q).1, (h.2.1 i hi q).2]
theorem lgW_ext {V : VW} {I J : Nat → Int32} {c : Int32} {u d q : Int64} {p : Nat → Int32} {wu wd wu1 wd1 : Nat → Int64} {m : Nat} (hm : ∀ i, 0 ≤ (V 5 i).toInt ∧ (V 5 i).toInt ≤ 9) (hI : ∀ c, c < 10 → I c = J c) (hw : ∀ i, i < m → (p i).toInt ≠ -9 → wu i = wu1 i ∧ wd i = wd1 i) : ∀ k, k ≤ m → (∀ i, i < m → (p i).toInt ≠ -9 → (lgW V I c u d q p wu wd k).1 i = (lgW V J c u d q p wu1 wd1 k).1 i ∧ (lgW V I c u d q p wu wd k).2.1 i = (lgW V J c u d q p wu1 wd1 k).2.1 i) ∧ (lgW V I c u d q p wu wd k).2.2 = (lgW V J c u d q p wu1 wd1 k).2.2 := by
  intro k
  induction k with
  | zero => intro _; exact ⟨hw, rfl⟩
  | succ k ih =>
    intro hk
    obtain ⟨a, b⟩ := ih (by omega)
    unfold lgW at a b ⊢
    by_cases e : (p k).toInt = -9
    · rw [foP_e e, foP_e e]; exact ⟨a, b⟩
    · rw [foP_s e, foP_s e]
      generalize foP (ltS V I c (lgA u d q) (lgB u d q)) p k (wu, wd, true) = s at a b ⊢
      generalize foP (ltS V J c (lgA u d q) (lgB u d q)) p k (wu1, wd1, true) = t at a b ⊢
      have ea := a k (by omega) e
      unfold ltS
      rw [show fiV V I (p k).toNatClampNeg = fiV V J (p k).toNatClampNeg from fiF_ext hm hI _ _, b]
      by_cases hc : (fiV V J (p k).toNatClampNeg).toInt = c.toInt ∧ t.2.2 = true
      · rw [if_pos hc, if_pos hc, ea.1, ea.2]
        refine ⟨fun i hi hp => ?_, rfl⟩
        show vp_updL s.1 k _ i = vp_updL t.1 k _ i ∧ vp_updL s.2.1 k _ i = vp_updL t.2.1 k _ i
        by_cases e9 : i = k
        · rw [show ∀ (G : Nat → Int64) (v : Int64), vp_updL G k v i = v from fun G v => if_pos e9, show ∀ (G : Nat → Int64) (v : Int64), vp_updL G k v i = v from fun G v => if_pos e9, show ∀ (G : Nat → Int64) (v : Int64), vp_updL G k v i = v from fun G v => if_pos e9, show ∀ (G : Nat → Int64) (v : Int64), vp_updL G k v i = v from fun G v => if_pos e9]
          exact ⟨rfl, rfl⟩
        · rw [show ∀ (G : Nat → Int64) (v : Int64), vp_updL G k v i = G i from fun G v => if_neg e9, show ∀ (G : Nat → Int64) (v : Int64), vp_updL G k v i = G i from fun G v => if_neg e9, show ∀ (G : Nat → Int64) (v : Int64), vp_updL G k v i = G i from fun G v => if_neg e9, show ∀ (G : Nat → Int64) (v : Int64), vp_updL G k v i = G i from fun G v => if_neg e9]
          exact a i hi hp
      · rw [if_neg hc, if_neg hc]
        exact ⟨a, b⟩
theorem qrF_ext {V : VW} {row p : Nat → Int32} {m n sd : Nat} {q : Int64} {s t : TR} (hm : ∀ i, 0 ≤ (V 5 i).toInt ∧ (V 5 i).toInt ≤ 9) (hr : ∀ i, 0 ≤ (row i).toInt ∧ (row i).toInt ≤ 9) (hn : n ≤ 10) (h : QE p m s t) : QE p m (qrF V row p m n sd q s) (qrF V row p m n sd q t) := by
  have hT := qrT_ext (V := V) hm h
  have hC : qrC V row p m n s = qrC V row p m n t := by unfold qrC; rw [hT]; exact (grF_ext hr h.1 (fun _ _ => rfl) (fun _ _ => rfl) n).1
  have hL : qrL V row p m n s = qrL V row p m n t := by unfold qrL; rw [hT]; exact (leF_ext hr h.1 (fun _ _ => rfl) (fun _ _ => rfl) n).1
  have hU : qrU V row p m n s = qrU V row p m n t := by unfold qrU; rw [hT, hC]
  have hV : qrV V row p m n s = qrV V row p m n t := by unfold qrV; rw [hT, hC]
  have hW : (∀ i, i < m → (p i).toInt ≠ -9 → (qrW V row p m n q s).1 i = (qrW V row p m n q t).1 i ∧ (qrW V row p m n q s).2.1 i = (qrW V row p m n q t).2.1 i) ∧ (qrW V row p m n q s).2.2 = (qrW V row p m n q t).2.2 := by
    unfold qrW
    rw [hC, hU, hV]
    exact lgW_ext hm h.1 h.2.1 m (Nat.le_refl m)
  have hc := cI_ext h.1 n hn
  have e3 : s.2.2.1 = t.2.2.1 := by rw [h.2.2]
  have e4 : s.2.2.2.1 = t.2.2.2.1 := by rw [h.2.2]
  unfold qrF
  rw [hT, hC, hL, hU, hV, hc, e3, e4, hW.2]
  by_cases c1 : (qrT V p m t).2.2 = false
  · rw [if_pos c1, if_pos c1]
    exact ⟨h.1, h.2.1, rfl⟩
  · rw [if_neg c1, if_neg c1]
    by_cases c2 : cI t.1 n + t.2.2.1.length ≤ sd
    · rw [if_pos c2, if_pos c2]
      exact ⟨fun c hc => by show upd s.1 _ 0 c = upd t.1 _ 0 c; rw [upd_at, upd_at, h.1 c hc], h.2.1, rfl⟩
    · rw [if_neg c2, if_neg c2]
      by_cases c3 : (q * qrV V row p m n t).toInt ≤ (qrU V row p m n t).toInt
      · rw [if_pos c3, if_pos c3]
        by_cases c4 : lg2 (qrU V row p m n t) (qrV V row p m n t) q ∧ (qrW V row p m n q t).2.2 = true
        · rw [if_pos c4, if_pos c4]
          exact ⟨fun c hc => by show upd s.1 _ 0 c = upd t.1 _ 0 c; rw [upd_at, upd_at, h.1 c hc], hW.1, rfl⟩
        · rw [if_neg c4, if_neg c4]
          exact ⟨h.1, h.2.1, rfl⟩
      · rw [if_neg c3, if_neg c3]
        exact ⟨fun c hc => by show upd s.1 _ 0 c = upd t.1 _ 0 c; rw [upd_at, upd_at, h.1 c hc], h.2.1, rfl⟩
theorem qrN_ext {V : VW} {row p : Nat → Int32} {m n sd : Nat} {q : Int64} {s t : TR} (hm : ∀ i, 0 ≤ (V 5 i).toInt ∧ (V 5 i).toInt ≤ 9) (hr : ∀ i, 0 ≤ (row i).toInt ∧ (row i).toInt ≤ 9) (hn : n ≤ 10) (h : QE p m s t) : ∀ k, QE p m (qrN V row p m n sd q s k) (qrN V row p m n sd q t k) := by
  intro k
  induction k with
  | zero => exact h
  | succ k ih => exact qrF_ext hm hr hn ih
theorem qrD_ext {p : Nat → Int32} {m n sd : Nat} {s t : TR} (hn : n ≤ 10) (h : QE p m s t) : qrD n sd s ↔ qrD n sd t := by
  unfold qrD
  rw [h.2.2, cI_ext h.1 n hn]
/-- the outcome of a count -/
def CRo (V : VW) (row I p : Nat → Int32) (m n sd : Nat) (kind : Int32) (wu wd : Nat → Int64) (q : Int64) (ok : Bool) (S : List Int32) (R : List (Int32 × Int32)) : Prop :=
  if kind.toInt = 0 then ok = true ∧ S = btS row I (tfV V I p m) (fun _ => 1) n sd ∧ R = oneR S
  else if kind.toInt = 1 then ok = true ∧ S = btS row I (foP (stP V (ptX V 0) n) p m (fun _ => 0)) (fun _ => 1) n sd ∧ R = oneR S
  else if kind.toInt = 2 then ok = true ∧ S = btS row I (foP (stP V (ptX V 1) n) p m (fun _ => 0)) (fun _ => 1) n sd ∧ R = oneR S
  else if kind.toInt = 3 then ok = true ∧ S = roT V row I p m n (cI I n - 1) (min (cI I n - 1) (sd - 1)) ∧ R = twoR (roO V row I p m n (cI I n - 1)) ++ [(1, roW V row I p m n (cI I n - 1))]
  else if kind.toInt = 4 then ok = true ∧ (∃ J, wyP row (wS V p m n) n I S J) ∧ S.length = sd ∧ R = oneR S
  else if kind.toInt = 5 then ∃ k, (∀ j, j < k → ¬ qrD n sd (qrN V row p m n sd q (I, (wu, wd), [], [], true) j)) ∧ qrD n sd (qrN V row p m n sd q (I, (wu, wd), [], [], true) k) ∧ ok = (qrN V row p m n sd q (I, (wu, wd), [], [], true) k).2.2.2.2 ∧ (ok = true → S = (qrN V row p m n sd q (I, (wu, wd), [], [], true) k).2.2.1 ∧ R = (qrN V row p m n sd q (I, (wu, wd), [], [], true) k).2.2.2.1)
  else ok = true ∧ S = dvS row (tfV V I p m) (if kind.toInt = 7 then 2 else 1) n sd ∧ R = oneR S
theorem CRo_u {V : VW} {row I J p : Nat → Int32} {m n sd : Nat} {kind : Int32} {wu wd wu1 wd1 : Nat → Int64} {q : Int64} {ok ok1 : Bool} {S S1 : List Int32} {R R1 : List (Int32 × Int32)} (hm : ∀ i, 0 ≤ (V 5 i).toInt ∧ (V 5 i).toInt ≤ 9) (hr : ∀ i, 0 ≤ (row i).toInt ∧ (row i).toInt ≤ 9) (hn : n ≤ 10) (hlt : ∀ i, i < n → ((row i).toInt < (n : Int))) (hI : ∀ c, c < 10 → I c = J c) (hw : ∀ i, i < m → (p i).toInt ≠ -9 → wu i = wu1 i ∧ wd i = wd1 i) (h : CRo V row I p m n sd kind wu wd q ok S R) (h1 : CRo V row J p m n sd kind wu1 wd1 q ok1 S1 R1) : ok = ok1 ∧ (ok = true → S = S1 ∧ R = R1) := by
  unfold CRo at h h1
  have ht := tfV_ext (p := p) hm hI m
  by_cases c0 : kind.toInt = 0
  · rw [if_pos c0] at h h1
    have e := (bt_ext (n := n) hr hI (U := tfV V I p m) (U1 := tfV V J p m) (D := fun _ => 1) (D1 := fun _ => 1) (fun c _ => by rw [ht]) (fun _ _ => rfl) sd).2
    have eS : S = S1 := by rw [h.2.1, h1.2.1, e]
    exact ⟨h.1.trans h1.1.symm, fun _ => ⟨eS, by rw [h.2.2, h1.2.2, eS]⟩⟩
  · rw [if_neg c0] at h h1
    by_cases c1 : kind.toInt = 1
    · rw [if_pos c1] at h h1
      have e := (bt_ext (n := n) hr hI (U := foP (stP V (ptX V 0) n) p m (fun _ => 0)) (D := fun _ => 1) (fun _ _ => rfl) (fun _ _ => rfl) sd).2
      have eS : S = S1 := by rw [h.2.1, h1.2.1, e]
      exact ⟨h.1.trans h1.1.symm, fun _ => ⟨eS, by rw [h.2.2, h1.2.2, eS]⟩⟩
    · rw [if_neg c1] at h h1
      by_cases c2 : kind.toInt = 2
      · rw [if_pos c2] at h h1
        have e := (bt_ext (n := n) hr hI (U := foP (stP V (ptX V 1) n) p m (fun _ => 0)) (D := fun _ => 1) (fun _ _ => rfl) (fun _ _ => rfl) sd).2
        have eS : S = S1 := by rw [h.2.1, h1.2.1, e]
        exact ⟨h.1.trans h1.1.symm, fun _ => ⟨eS, by rw [h.2.2, h1.2.2, eS]⟩⟩
      · rw [if_neg c2] at h h1
        by_cases c3 : kind.toInt = 3
        · rw [if_pos c3] at h h1
          have hro := ro_ext (V := V) (p := p) (m := m) (n := n) hm hr hI
          have hc := cI_ext hI n hn
          refine ⟨h.1.trans h1.1.symm, fun _ => ⟨?_, ?_⟩⟩
          · rw [h.2.1, h1.2.1, hc, roT_ext (fun r => (hro r).2.1) (hro _).2.2]
          · rw [h.2.2, h1.2.2, hc, roO_ext (fun r => (hro r).2.1), (hro _).2.2]
        · rw [if_neg c3] at h h1
          by_cases c4 : kind.toInt = 4
          · rw [if_pos c4] at h h1
            obtain ⟨a1, ⟨K, a2⟩, a3, a4⟩ := h
            obtain ⟨b1, ⟨K1, b2⟩, b3, b4⟩ := h1
            obtain ⟨K2, a5⟩ := wyP_ext (X := wS V p m n) hr hn hlt (fun _ _ _ _ _ => rfl) hI a2
            have eS := wyP_u a5 b2 (by rw [a3, b3])
            exact ⟨a1.trans b1.symm, fun _ => ⟨eS, by rw [a4, b4, eS]⟩⟩
          · rw [if_neg c4] at h h1
            by_cases c5 : kind.toInt = 5
            · rw [if_pos c5] at h h1
              obtain ⟨k, a1, a2, a3, a4⟩ := h
              obtain ⟨l, b1, b2, b3, b4⟩ := h1
              have hq := qrN_ext (V := V) (row := row) (p := p) (m := m) (sd := sd) (q := q) (s := (I, (wu, wd), [], [], true)) (t := (J, (wu1, wd1), [], [], true)) hm hr hn ⟨hI, hw, rfl⟩
              have hkl : k = l := by
                refine qrN_u a1 a2 (fun j hj hd => b1 j hj ((qrD_ext hn (hq j)).mp hd)) ((qrD_ext hn (hq l)).mpr b2)
              subst hkl
              have e := (hq k).2.2
              refine ⟨?_, fun ho => ?_⟩
              · rw [a3, b3, e]
              · have ho1 : ok1 = true := by rw [b3, ← e, ← a3]; exact ho
                rw [(a4 ho).1, (a4 ho).2, (b4 ho1).1, (b4 ho1).2, e]
                exact ⟨rfl, rfl⟩
            · rw [if_neg c5] at h h1
              have eS : S = S1 := by rw [h.2.1, h1.2.1, ht]
              exact ⟨h.1.trans h1.1.symm, fun _ => ⟨eS, by rw [h.2.2, h1.2.2, eS]⟩⟩
/-! counting: the outcome by the view -/
def OUT (V : VW) (kind y z : Int32) (ok : Bool) (S : List Int32) (R : List (Int32 × Int32)) : Prop :=
  ∃ (I : Nat → Int32) (wu wd : Nat → Int64), (∀ c : Nat, c < 10 → I c = if (c : Int) < (V 0 0).toInt then 1 else 0) ∧ (∀ i : Nat, i < (V 7 y.toNatClampNeg).toNatClampNeg → (V 8 (40 * y.toNatClampNeg + i)).toInt ≠ -9 → wu i = (V 3 (V 8 (40 * y.toNatClampNeg + i)).toNatClampNeg).toInt64 ∧ wd i = 1) ∧
    CRo V (V 1) I (fun i => V 8 (40 * y.toNatClampNeg + i)) (V 7 y.toNatClampNeg).toNatClampNeg (V 0 0).toNatClampNeg z.toNatClampNeg kind wu wd ((sumP V y.toNatClampNeg (V 7 y.toNatClampNeg).toNatClampNeg / (z + 1)).toInt64 + 1) ok S R
theorem OUT_u {V : VW} {kind y z : Int32} {ok ok1 : Bool} {S S1 : List Int32} {R R1 : List (Int32 × Int32)} (hm : ∀ i, 0 ≤ (V 5 i).toInt ∧ (V 5 i).toInt ≤ 9) (hr : ∀ i, 0 ≤ (V 1 i).toInt ∧ (V 1 i).toInt ≤ 9) (hn : 0 ≤ (V 0 0).toInt ∧ (V 0 0).toInt ≤ 10) (hlt : ∀ i : Nat, (i : Int) < (V 0 0).toInt → (V 1 i).toInt < (V 0 0).toInt) (h : OUT V kind y z ok S R) (h1 : OUT V kind y z ok1 S1 R1) : ok = ok1 ∧ (ok = true → S = S1 ∧ R = R1) := by
  obtain ⟨I, wu, wd, a1, a2, a3⟩ := h
  obtain ⟨J, wu1, wd1, b1, b2, b3⟩ := h1
  have n0 := ixn hn.1
  exact CRo_u hm hr (by omega) (fun i hi => by have := hlt i (by omega); omega) (fun c hc => by rw [a1 c hc, b1 c hc]) (fun i hi hp => by have := a2 i hi hp; have := b2 i hi hp; exact ⟨by rw [(a2 i hi hp).1, (b2 i hi hp).1], by rw [(a2 i hi hp).2, (b2 i hi hp).2]⟩) a3 b3
/-- what is told of the latest count that was not refused -/
abbrev TD (M : MI) (S : List Int32) (R : List (Int32 × Int32)) : Prop := RP (M 258 42) (M 288) (M 258 44) (M 289) (M 290) S R
def TDs (M M1 : MI) : Prop := M1 258 42 = M 258 42 ∧ M1 258 44 = M 258 44 ∧ M1 288 = M 288 ∧ M1 289 = M 289 ∧ M1 290 = M 290
theorem TD_of {M M1 : MI} {S : List Int32} {R : List (Int32 × Int32)} (h : RR M S R) (hl : S.length ≤ 30) (hr : R.length ≤ 40) (e1 : M1 258 42 = M 258 29) (e2 : M1 258 44 = M 258 31) (e3 : ∀ j : Nat, j < 30 → M1 288 j = M 277 j) (e4 : ∀ j : Nat, j < 40 → M1 289 j = M 278 j ∧ M1 290 j = M 279 j) : TD M1 S R := by
  obtain ⟨h1, h2, h3, h4⟩ := h
  refine ⟨by rw [e1]; exact h1, fun i hi => by rw [e3 i (by omega)]; exact h2 i hi, by rw [e2]; exact h3, fun i hi => ?_⟩
  rw [(e4 i (by omega)).1, (e4 i (by omega)).2]
  exact h4 i hi
theorem cnP_s {p : Nat → Int32} {n : Nat} (h : ¬ (p n).toInt = -9) : cnP p (n + 1) = cnP p n + 1 := by
  show cnP p n + (if (p n).toInt = -9 then 0 else 1) = _
  rw [if_neg h]
theorem cnP_e {p : Nat → Int32} {n : Nat} (h : (p n).toInt = -9) : cnP p (n + 1) = cnP p n := by
  show cnP p n + (if (p n).toInt = -9 then 0 else 1) = _
  rw [if_pos h]; rfl
theorem cnP_lt {p : Nat → Int32} {i n : Nat} (h : i < n) (hi : ¬ (p i).toInt = -9) : cnP p i < cnP p n := by
  have a := cnP_mono p (show i + 1 ≤ n by omega)
  rw [cnP_s hi] at a
  omega
theorem LY_s {p ly : Nat → Int32} {n : Nat} (h : LY p ly n) (hn : ¬ (p n).toInt = -9) : LY p (upd ly (cnP p n) (p n)) (n + 1) := by
  intro i hi hp
  rw [upd_at]
  by_cases e : i = n
  · rw [e, if_pos rfl]
  · have l := cnP_lt (p := p) (show i < n by omega) hp
    rw [if_neg (by omega)]
    exact h i (by omega) hp
theorem LY_e {p ly : Nat → Int32} {n : Nat} (h : LY p ly n) (hn : (p n).toInt = -9) : LY p ly (n + 1) := by
  intro i hi hp
  by_cases e : i = n
  · rw [e] at hp; exact absurd hn hp
  · exact h i (by omega) hp
theorem foKP {V : VW} {I p ly : Nat → Int32} {m k : Nat} (h : LY p ly m) (hk : k = cnP p m) : foK (stF V I) ly k (fun _ => 0) = tfV V I p m := by
  rw [hk]
  exact foK_P m h (fun _ _ _ _ => rfl)
theorem m32_64 {a b : Int32} (ha : 0 ≤ a.toInt ∧ a.toInt ≤ 100000) (hb : 0 ≤ b.toInt ∧ b.toInt ≤ 9) : (a * b).toInt64 = a.toInt64 * b.toInt64 := by
  apply Int64.toInt_inj.mp
  have h := mul64 ha hb
  rw [h.1, i32_64, Int32.toInt_mul]
  exact Int.bmod_eq_of_le (by omega) (by omega)
/-- places one by one -/
theorem pF_snoc {f : Nat → Int32} {c : Int32} : ∀ n k, k + n < 2147483648 → pF f c (n + 1) k = if (pF f c n k).toInt = -9 then (if (f (k + n)).toInt = c.toInt then Int32.ofNat (k + n) else -9) else pF f c n k := by
  intro n
  induction n with
  | zero =>
    intro k _
    show (if (f k).toInt = c.toInt then Int32.ofNat k else -9) = if (-9 : Int32).toInt = -9 then (if (f (k + 0)).toInt = c.toInt then Int32.ofNat (k + 0) else -9) else -9
    rw [if_pos (show (-9 : Int32).toInt = -9 by decide)]
    rfl
  | succ n ih =>
    intro k hk
    by_cases e : (f k).toInt = c.toInt
    · have h1 : pF f c (n + 1 + 1) k = Int32.ofNat k := if_pos e
      have h2 : pF f c (n + 1) k = Int32.ofNat k := if_pos e
      rw [h1, h2, if_neg (by rw [on31 (by omega)]; omega)]
    · have h1 : pF f c (n + 1 + 1) k = pF f c (n + 1) (k + 1) := if_neg e
      have h2 : pF f c (n + 1) k = pF f c n (k + 1) := if_neg e
      rw [h1, h2, ih (k + 1) (by omega), show k + 1 + n = k + (n + 1) by omega]
/-- points by the first i places of a ballot -/
def plcN (V : VW) (b c i : Nat) : Int32 := if (pF (mk V b) (Int32.ofNat c) i 0).toInt = -9 then 0 else V 0 0 - 1 - pF (mk V b) (Int32.ofNat c) i 0
theorem plcN_s {V : VW} {b c i : Nat} (hc : c < 10) (hi : i < 10) (hd : ∀ j, j < i → (V 5 (10 * b + j)).toInt ≠ (V 5 (10 * b + i)).toInt) : plcN V b c (i + 1) = if (V 5 (10 * b + i)).toInt = (c : Int) then V 0 0 - 1 - Int32.ofNat i else plcN V b c i := by
  have oc := on31 (show c < 2147483648 by omega)
  unfold plcN
  rw [pF_snoc i 0 (by omega), Nat.zero_add]
  by_cases e : (pF (mk V b) (Int32.ofNat c) i 0).toInt = -9
  · rw [if_pos e]
    by_cases e2 : (V 5 (10 * b + i)).toInt = (c : Int)
    · have e3 : (mk V b i).toInt = (Int32.ofNat c).toInt := by rw [oc]; exact e2
      rw [if_pos e3, if_pos e2, if_neg (by rw [on31 (by omega)]; omega)]
    · have e3 : ¬ (mk V b i).toInt = (Int32.ofNat c).toInt := by rw [oc]; exact e2
      rw [if_neg e3, if_neg e2, if_pos (by decide), if_pos e]
  · rw [if_neg e, if_neg e]
    by_cases e2 : (V 5 (10 * b + i)).toInt = (c : Int)
    · exfalso
      -- it stands among the first i already
      have key : ∀ n k, k + n ≤ 10 → ¬ (pF (mk V b) (Int32.ofNat c) n k).toInt = -9 → ∃ j, k ≤ j ∧ j < k + n ∧ (V 5 (10 * b + j)).toInt = (c : Int) := by
        intro n
        induction n with
        | zero => intro k _ h; exact absurd (show (-9 : Int32).toInt = -9 by decide) h
        | succ n ih =>
          intro k hk h
          by_cases q : (mk V b k).toInt = (Int32.ofNat c).toInt
          · exact ⟨k, Nat.le_refl k, by omega, by rw [← oc]; exact q⟩
          · have h2 : pF (mk V b) (Int32.ofNat c) (n + 1) k = pF (mk V b) (Int32.ofNat c) n (k + 1) := if_neg q
            rw [h2] at h
            obtain ⟨j, a1, a2, a3⟩ := ih (k + 1) (by omega) h
            exact ⟨j, by omega, by omega, a3⟩
      obtain ⟨j, a1, a2, a3⟩ := key i 0 (by omega) e
      exact hd j (by omega) (by rw [a3, e2])
    · rw [if_neg e2]
theorem plcN_V {V : VW} {b c : Nat} : plcN V b c (V 4 b).toNatClampNeg = plcV V b c := rfl
theorem plcN_0 {V : VW} {b c i : Nat} (hc : c < 10) (hi : i < 11) (hd : ∀ j, j < i → (V 5 (10 * b + j)).toInt ≠ (c : Int)) : plcN V b c i = 0 := by
  have oc := on31 (show c < 2147483648 by omega)
  have key : ∀ n k, k + n ≤ i → (pF (mk V b) (Int32.ofNat c) n k).toInt = -9 := by
    intro n
    induction n with
    | zero => intro k _; show (-9 : Int32).toInt = -9; decide
    | succ n ih =>
      intro k hk
      have h2 : pF (mk V b) (Int32.ofNat c) (n + 1) k = pF (mk V b) (Int32.ofNat c) n (k + 1) := if_neg (by rw [oc]; exact hd k (by omega))
      rw [h2]
      exact ih (k + 1) (by omega)
  unfold plcN
  rw [if_pos (key i 0 (by omega))]
/-- the tallies of the counts whose seats go by tallies -/
def tyU (V : VW) (I ly : Nat → Int32) (k n : Nat) (x : Int32) : Nat → Int64 := if x.toInt = 1 then foK (stP V (ptX V 0) n) ly k (fun _ => 0) else if x.toInt = 2 then foK (stP V (ptX V 1) n) ly k (fun _ => 0) else foK (stF V I) ly k (fun _ => 0)
def wC (M : MI) (a b : Nat) : Int := (M (110 + a) b).toInt
/-! Euclid's steps are few -/
theorem eu_half {c r : Nat} (hr : 0 < r) (h : r ≤ c) : 2 * (c % r) ≤ c := by
  have h1 := Nat.mod_lt c hr
  have h2 := Nat.div_add_mod c r
  have h3 : 1 ≤ c / r := (Nat.le_div_iff_mul_le hr).mpr (by omega)
  have h4 : r * 1 ≤ r * (c / r) := Nat.mul_le_mul_left r h3
  omega
theorem eu_step {c r k : Nat} (hr : 0 < r) (hc : k = 0 ∨ r ≤ c) (hb : r < 9223372036854775808) (h : c * r * 2 ^ k ≤ 2 ^ 127) : r * (c % r) * 2 ^ (k + 1) ≤ 2 ^ 127 := by
  rcases hc with e | e
  · subst e
    have h1 := Nat.mod_lt c hr
    have h2 : r * (c % r) ≤ 9223372036854775808 * 9223372036854775808 := Nat.mul_le_mul (by omega) (by omega)
    have h3 : r * (c % r) * 2 ^ (0 + 1) ≤ 9223372036854775808 * 9223372036854775808 * 2 := by
      rw [show 2 ^ (0 + 1) = 2 by decide]
      exact Nat.mul_le_mul_right 2 h2
    exact Nat.le_trans h3 (by decide)
  · have h1 := eu_half hr e
    have h2 : r * (c % r) * 2 ^ (k + 1) = r * (2 * (c % r)) * 2 ^ k := by
      rw [Nat.pow_succ]
      simp only [Nat.mul_assoc, Nat.mul_comm, Nat.mul_left_comm]
    rw [h2]
    have h3 : r * (2 * (c % r)) * 2 ^ k ≤ r * c * 2 ^ k := Nat.mul_le_mul_right _ (Nat.mul_le_mul_left r h1)
    rw [Nat.mul_comm r c] at h3
    exact Nat.le_trans h3 h
theorem eu_end {c r k : Nat} (h : c * r * 2 ^ k ≤ 2 ^ 127) (hk : 1000 ≤ k) (hc : 0 < c) : r = 0 := by
  rcases Nat.eq_zero_or_pos r with q | q
  · exact q
  · exfalso
    have h1 : 1 * 2 ^ k ≤ c * r * 2 ^ k := Nat.mul_le_mul_right _ (Nat.mul_pos hc q)
    rw [Nat.one_mul] at h1
    have h2 : 2 ^ k ≤ 2 ^ 127 := Nat.le_trans h1 h
    have h3 := (Nat.pow_le_pow_iff_right (show 1 < 2 by decide)).mp h2
    omega
theorem tmod_nat {a b : Int} (ha : 0 ≤ a) (hb : 0 ≤ b) : (a.tmod b).toNat = a.toNat % b.toNat := by
  obtain ⟨m, rfl⟩ := Int.eq_ofNat_of_zero_le ha
  obtain ⟨n, rfl⟩ := Int.eq_ofNat_of_zero_le hb
  rfl
/-! in lowest terms -/
theorem fr_low {x y : Int64} (hx : 0 ≤ x.toInt) (hy : 1 ≤ y.toInt) : frU (frU x y) (frD x y) = frU x y ∧ frD (frU x y) (frD x y) = frD x y := by
  have g := frG_pos (x := x) hy
  have u := frU_i hx hy
  have d := frD_i (x := x) hy
  have u0 : 0 ≤ (frU x y).toInt := by rw [u]; exact Int.ediv_nonneg hx (by omega)
  have e : frG (frU x y) (frD x y) = 1 := by
    show (Int.gcd (frU x y).toInt (frD x y).toInt : Int) = 1
    rw [u, d.1]
    unfold frG
    have h := Int.gcd_ediv_gcd_ediv_gcd (i := x.toInt) (j := y.toInt) (by unfold frG at g; omega)
    rw [h]; rfl
  constructor
  · apply Int64.toInt_inj.mp
    rw [frU_i u0 d.2, e, Int.ediv_one]
  · apply Int64.toInt_inj.mp
    rw [(frD_i (x := frU x y) d.2).1, e, Int.ediv_one]
/-! ways: whole numbers of papers that fit; the class takes the diagonal along -/
def bwK (V : VW) (a b : Nat) (_j bl : Nat) (u : Int32) : Int32 := if ahV V bl a b then u + V 3 bl else u
theorem bwK_beV {V : VW} {p ly : Nat → Int32} {a b : Nat} (hp : ∀ b, 0 ≤ (V 3 b).toInt ∧ (V 3 b).toInt ≤ 100000) : ∀ m, m ≤ 40 → LY p ly m → (foK (bwK V a b) ly (cnP p m) 0).toInt = (beV V p m a b).toInt ∧ 0 ≤ (beV V p m a b).toInt ∧ (beV V p m a b).toInt ≤ 100000 * (m : Int) := by
  intro m
  induction m with
  | zero => intro _ _; show (0 : Int32).toInt = (0 : Int64).toInt ∧ 0 ≤ (0 : Int64).toInt ∧ (0 : Int64).toInt ≤ _; rw [show (0 : Int64).toInt = 0 by decide, show (0 : Int32).toInt = 0 by decide]; omega
  | succ m ih =>
    intro hm hl
    obtain ⟨e, e1, e2⟩ := ih (by omega) (fun i hi => hl i (by omega))
    unfold beV at e e1 e2 ⊢
    by_cases z : (p m).toInt = -9
    · rw [cnP_e z, foP_e z]
      exact ⟨e, e1, by omega⟩
    · rw [cnP_s z, foP_s z]
      show (bwK V a b (cnP p m) (ly (cnP p m)).toNatClampNeg (foK (bwK V a b) ly (cnP p m) 0)).toInt = _ ∧ _
      rw [hl m (by omega) z]
      generalize foK (bwK V a b) ly (cnP p m) 0 = u9 at e ⊢
      generalize foP (bwP V a b) p m 0 = t9 at e e1 e2 ⊢
      unfold bwK bwP
      by_cases q : ahV V (p m).toNatClampNeg a b
      · rw [if_pos q, if_pos q]
        have h3 := hp (p m).toNatClampNeg
        have s6 := i64_le (a := t9) (b := (V 3 (p m).toNatClampNeg).toInt64) (m := 4000000) (n := 100000) e1 (by omega) (by rw [i32_64]; exact h3.1) (by rw [i32_64]; exact h3.2) (by decide)
        rw [i32_64] at s6
        rw [s6, fadd (x := u9) (y := V 3 (p m).toNatClampNeg) rfl rfl rfl (by omega) (by omega)]
        omega
      · rw [if_neg q, if_neg q]
        exact ⟨e, e1, by omega⟩
/-- all ways through the first k, the diagonal too -/
def wX (w : Nat → Nat → Int) : Nat → Nat → Nat → Int
  | 0, a, b => w a b
  | k + 1, a, b => max (wX w k a b) (min (wX w k a k) (wX w k k b))
theorem wX_S {V : VW} {p : Nat → Int32} {m n : Nat} {w : Nat → Nat → Int} (h0 : ∀ a, a < n → ∀ b, b < n → a ≠ b → w a b = wS V p m 0 a b) : ∀ k, k ≤ n → ∀ a, a < n → ∀ b, b < n → a ≠ b → wX w k a b = wS V p m k a b := by
  intro k
  induction k with
  | zero => intro _ a ha b hb hne; exact h0 a ha b hb hne
  | succ k ih =>
    intro hk a ha b hb hne
    have i1 := ih (by omega) a ha b hb hne
    show max (wX w k a b) (min (wX w k a k) (wX w k k b)) = if a = b then _ else max (wS V p m k a b) (min (wS V p m k a k) (wS V p m k k b))
    rw [if_neg hne, i1]
    by_cases e1 : a = k
    · subst e1; rw [i1]; omega
    · by_cases e2 : b = k
      · subst e2; rw [i1]; omega
      · rw [ih (by omega) a ha k (by omega) e1, ih (by omega) k (by omega) b hb (fun h => e2 h.symm)]
theorem FW_wS {V : VW} {p : Nat → Int32} {m n k : Nat} : FW (wS V p m k) (wS V p m (k + 1)) n k (fun _ _ => True) := by
  intro a _ b _ t
  show t ≤ (if a = b then wS V p m k a b else max (wS V p m k a b) (min (wS V p m k a k) (wS V p m k k b))) ↔ _
  by_cases e : a = b
  · rw [if_pos e]; exact ⟨Or.inl, fun h => h.elim id (fun q => absurd e q.2.1)⟩
  · rw [if_neg e]
    constructor
    · intro h
      by_cases q : t ≤ wS V p m k a b
      · exact Or.inl q
      · exact Or.inr ⟨trivial, e, by omega, by omega⟩
    · rintro (h | ⟨_, _, h1, h2⟩)
      · omega
      · omega
theorem CL_wS {V : VW} {p : Nat → Int32} {m n : Nat} : ∀ k, k ≤ n → CL n k (wS V p m k) := by
  intro k
  induction k with
  | zero => intro _ j hj; exact absurd hj (Nat.not_lt_zero _)
  | succ k ih => intro hk; exact CL_step (ih (by omega)) (by omega) FW_wS
theorem unb_exS {I : Nat → Int32} {W X : Nat → Nat → Int} {n : Nat} (h : CL n n X) (hW : ∀ a, a < n → ∀ b, b < n → a ≠ b → W a b = X a b) (hp : 0 < cI I n) : ∃ c, c < n ∧ ¬ (I c).toInt = 0 ∧ unb I W n c := by
  obtain ⟨c0, hc0, hi0⟩ := cI_ex _ hp
  obtain ⟨c, hc, hi, ha⟩ := max_ex h (fun c => ¬ (I c).toInt = 0) n (Nat.le_refl _) ⟨c0, hc0, hi0⟩
  refine ⟨c, hc, hi, fun y hy hne hin => ?_⟩
  rw [hW c hc y hy (fun e => hne e.symm), hW y hy c hc hne]
  exact ha y hy hin
theorem mmaxI {x y v : Int32} (h : v = if x < y then y else x) : v.toInt = max x.toInt y.toInt := by
  rw [h]
  by_cases e : x < y
  · rw [if_pos e]; have := Int32.lt_iff_toInt_lt.mp e; omega
  · rw [if_neg e]; have : ¬ x.toInt < y.toInt := fun q => e (Int32.lt_iff_toInt_lt.mpr q); omega
theorem mminI {x y v : Int32} (h : v = if y < x then y else x) : v.toInt = min x.toInt y.toInt := by
  rw [h]
  by_cases e : y < x
  · rw [if_pos e]; have := Int32.lt_iff_toInt_lt.mp e; omega
  · rw [if_neg e]; have : ¬ y.toInt < x.toInt := fun q => e (Int32.lt_iff_toInt_lt.mpr q); omega
def plQ (V : VW) (bl c : Nat) (v : Int32) : Prop := (v.toInt = 10 ∧ plN V bl c = -9) ∨ (v.toInt = plN V bl c ∧ 0 ≤ v.toInt ∧ v.toInt < 10)
theorem plQ_ah {V : VW} {bl a b : Nat} {u v : Int32} (h1 : plQ V bl a u) (h2 : plQ V bl b v) : u.toInt < v.toInt ↔ ahV V bl a b := by
  unfold plQ at h1 h2
  unfold ahV
  omega
/-- a grid of which the cells that D names are done -/
def GR (M0 M1 : MI) (r n : Nat) (D : Nat → Nat → Prop) (f : Nat → Nat → Int32) : Prop := ∀ a, a < n → ∀ b, b < n → (D a b → M1 (r + a) b = f a b) ∧ (¬ D a b → M1 (r + a) b = M0 (r + a) b)
theorem GR_0 {M0 M1 : MI} {r n : Nat} {D : Nat → Nat → Prop} {f : Nat → Nat → Int32} (hD : ∀ a b, a < n → b < n → ¬ D a b) (hM : ∀ a, a < n → M1 (r + a) = M0 (r + a)) : GR M0 M1 r n D f := by
  intro a ha b hb
  exact ⟨fun h => absurd h (hD a b ha hb), fun _ => by rw [hM a ha]⟩
theorem GR_congr {M0 M1 : MI} {r n : Nat} {D D2 : Nat → Nat → Prop} {f : Nat → Nat → Int32} (h : GR M0 M1 r n D f) (hD : ∀ a b, a < n → b < n → (D2 a b ↔ D a b)) : GR M0 M1 r n D2 f := by
  intro a ha b hb
  have q := hD a b ha hb
  exact ⟨fun z => (h a ha b hb).1 (q.mp z), fun z => (h a ha b hb).2 (fun y => z (q.mpr y))⟩
theorem GR_step {M0 M1 M2 : MI} {r n x y : Nat} {v : Int32} {D D2 : Nat → Nat → Prop} {f : Nat → Nat → Int32} (h : GR M0 M1 r n D f) (hM : M2 = sI M1 (r + x) y v) (hv : v = f x y) (hD : ∀ a b, a < n → b < n → (D2 a b ↔ D a b ∨ (a = x ∧ b = y))) : GR M0 M2 r n D2 f := by
  intro a ha b hb
  have q := hD a b ha hb
  rw [hM, sI_at]
  by_cases e : a = x ∧ b = y
  · rw [if_pos ⟨by omega, e.2⟩]
    exact ⟨fun _ => by rw [hv, e.1, e.2], fun z => absurd (q.mpr (Or.inr e)) z⟩
  · rw [if_neg (fun z => e ⟨by omega, z.2⟩)]
    refine ⟨fun z => (h a ha b hb).1 ((q.mp z).elim id (fun y => absurd y e)), fun z => (h a ha b hb).2 (fun y => z (q.mpr (Or.inl y)))⟩
abbrev mx32 (x y : Int32) : Int32 := if x < y then y else x
abbrev mn32 (x y : Int32) : Int32 := if y < x then y else x
def fX (M : MI) (r v a b : Nat) : Int32 := mx32 (M (r + a) b) (mn32 (M (r + a) v) (M (r + v) b))
theorem fX_t (M : MI) (r v a b : Nat) : (fX M r v a b).toInt = max (M (r + a) b).toInt (min (M (r + a) v).toInt (M (r + v) b).toInt) := by
  rw [mmaxI (x := M (r + a) b) (y := mn32 (M (r + a) v) (M (r + v) b)) (v := fX M r v a b) rfl, mminI (x := M (r + a) v) (y := M (r + v) b) (v := mn32 (M (r + a) v) (M (r + v) b)) rfl]
theorem GRX_col {M0 M1 : MI} {r n v a : Nat} {D : Nat → Nat → Prop} (h : GR M0 M1 r n D (fX M0 r v)) (ha : a < n) (hv : v < n) : M1 (r + a) v = M0 (r + a) v := by
  by_cases d : D a v
  · rw [(h a ha v hv).1 d]
    apply Int32.toInt_inj.mp
    rw [fX_t]
    omega
  · exact (h a ha v hv).2 d
theorem GRX_row {M0 M1 : MI} {r n v b : Nat} {D : Nat → Nat → Prop} (h : GR M0 M1 r n D (fX M0 r v)) (hb : b < n) (hv : v < n) : M1 (r + v) b = M0 (r + v) b := by
  by_cases d : D v b
  · rw [(h v hv b hb).1 d]
    apply Int32.toInt_inj.mp
    rw [fX_t]
    omega
  · exact (h v hv b hb).2 d
theorem wS0_of {V : VW} {p ly : Nat → Int32} {m k a b : Nat} {x : Int32} (hp : ∀ b, 0 ≤ (V 3 b).toInt ∧ (V 3 b).toInt ≤ 100000) (hm : m ≤ 40) (hl : LY p ly m) (hk : k = cnP p m) (h : x = if (foK (bwK V b a) ly k 0).toInt < (foK (bwK V a b) ly k 0).toInt then foK (bwK V a b) ly k 0 else 0) : x.toInt = wS V p m 0 a b := by
  have h1 := (bwK_beV (a := a) (b := b) hp m hm hl).1
  have h2 := (bwK_beV (a := b) (b := a) hp m hm hl).1
  subst hk
  show _ = if (beV V p m b a).toInt < (beV V p m a b).toInt then (beV V p m a b).toInt else 0
  rw [h, h1, h2]
  by_cases e : (beV V p m b a).toInt < (beV V p m a b).toInt
  · rw [if_pos e, if_pos e]; exact h1
  · rw [if_neg e, if_neg e]; decide
/-! a count by a quota, over ballots that lie in a row -/
def lowF (u d : Int64) : Prop := frU u d = u ∧ frD u d = d
def WTc (L : ML) (n : Nat) : Prop := ∀ i, i < n → okF (L 121 i) (L 122 i) ∧ lowF (L 121 i) (L 122 i)
theorem updL_at (F : Nat → Int64) (c : Nat) (v : Int64) (i : Nat) : vp_updL F c v i = if i = c then v else F i := rfl
theorem tw_c {S : TS} {c : Nat} {U D U1 D1 : Nat → Int64} {y z : Int64} (hc : c < 10) (hE : ∀ c, c < 10 → U c = S.1 c ∧ D c = S.2.1 c ∧ okF (U c) (D c) ∧ lowF (U c) (D c)) (hy : okF y z) (h1 : U1 = vp_updL U c (frU (U c * z + y * D c) (D c * z))) (h2 : D1 = vp_updL D c (frD (U c * z + y * D c) (D c * z))) : ((addS S c y z).2.2 = true ↔ fitF (frU (U c * z + y * D c) (D c * z)) (frD (U c * z + y * D c) (D c * z))) ∧ ((addS S c y z).2.2 = true → ∀ c', c' < 10 → U1 c' = (addS S c y z).1 c' ∧ D1 c' = (addS S c y z).2.1 c' ∧ okF (U1 c') (D1 c') ∧ lowF (U1 c') (D1 c')) := by
  have hk := hE c hc
  have hf := okF_fr hk.2.2.1 hy
  have e1 : (addS S c y z).1 = vp_updL S.1 c (frU (S.1 c * z + y * S.2.1 c) (S.2.1 c * z)) := rfl
  have e2 : (addS S c y z).2.1 = vp_updL S.2.1 c (frD (S.1 c * z + y * S.2.1 c) (S.2.1 c * z)) := rfl
  have e3 : (addS S c y z).2.2 = decide (fitF (frU (S.1 c * z + y * S.2.1 c) (S.2.1 c * z)) (frD (S.1 c * z + y * S.2.1 c) (S.2.1 c * z))) := rfl
  rw [← hk.1, ← hk.2.1] at e1 e2 e3
  have hd : (addS S c y z).2.2 = true ↔ fitF (frU (U c * z + y * D c) (D c * z)) (frD (U c * z + y * D c) (D c * z)) := by rw [e3, decide_eq_true_iff]
  refine ⟨hd, fun ht c' hc' => ?_⟩
  have hfit := hd.mp ht
  rw [e1, e2, h1, h2, updL_at, updL_at, updL_at, updL_at]
  by_cases e9 : c' = c
  · rw [if_pos e9, if_pos e9, if_pos e9, if_pos e9]
    refine ⟨rfl, rfl, ?_, fr_low hf.1 hf.2.1⟩
    unfold okF
    dsimp only [fitF] at hfit
    omega
  · rw [if_neg e9, if_neg e9, if_neg e9, if_neg e9]
    exact hE c' hc'
theorem stW_t {V : VW} {I : Nat → Int32} {wu wd : Nat → Int64} {j b : Nat} {s : TS} (h : ¬ (fiV V I b).toInt = -9) (ht : s.2.2 = true) : stW V I wu wd j b s = addS s (fiV V I b).toNatClampNeg (wu j) (wd j) := by
  unfold stW
  rw [if_neg (fun q => q.elim h (fun e => by rw [ht] at e; exact Bool.noConfusion e))]
theorem stW_f {V : VW} {I : Nat → Int32} {wu wd : Nat → Int64} {j b : Nat} {s : TS} (h : s.2.2 = false) : stW V I wu wd j b s = s := by
  unfold stW
  rw [if_pos (Or.inr h)]
theorem stW_stay {V : VW} {I : Nat → Int32} {wu wd : Nat → Int64} {p : Nat → Int32} {s : TS} {i : Nat} (h : (foP (stW V I wu wd) p i s).2.2 = false) : ∀ k, (foP (stW V I wu wd) p (i + k) s).2.2 = false := by
  intro k
  induction k with
  | zero => exact h
  | succ k ih =>
    show (foP (stW V I wu wd) p ((i + k) + 1) s).2.2 = false
    by_cases e : (p (i + k)).toInt = -9
    · rw [foP_e e]; exact ih
    · rw [foP_s e, stW_f ih]; exact ih
theorem stW_stay2 {V : VW} {I : Nat → Int32} {wu wd : Nat → Int64} {p : Nat → Int32} {s : TS} {i n : Nat} (h : (foP (stW V I wu wd) p i s).2.2 = false) (hn : i ≤ n) : (foP (stW V I wu wd) p n s).2.2 = false := by
  have := stW_stay h (n - i)
  rw [show i + (n - i) = n by omega] at this
  exact this
theorem lgW_stay2 {V : VW} {I : Nat → Int32} {c : Int32} {u d q : Int64} {p : Nat → Int32} {wu wd : Nat → Int64} {i n : Nat} (h : (lgW V I c u d q p wu wd i).2.2 = false) (hn : i ≤ n) : (lgW V I c u d q p wu wd n).2.2 = false := by
  have := lgW_stay h (n - i)
  rw [show i + (n - i) = n by omega] at this
  exact this
theorem bt_ff {b : Bool} (h : ¬ b = true) : b = false := by cases b with
  | true => exact absurd rfl h
  | false => rfl
theorem low_01 : lowF 0 1 := frU_1 (x := 0) (by decide)
theorem cI_10 {T : Nat → Int32} {n : Nat} (hn : n ≤ 10) (h : NIn T (n : Int)) : cI T 10 = cI T n := by
  have key : ∀ k, n + k ≤ 10 → cI T (n + k) = cI T n := by
    intro k
    induction k with
    | zero => intro _; rfl
    | succ k ih =>
      intro hk
      show cI T (n + k) + (if (T (n + k)).toInt = 0 then 0 else 1) = _
      rw [ih (by omega)]
      by_cases e : (T (n + k)).toInt = 0
      · rw [if_pos e]; rfl
      · have := h (n + k) (by omega) e
        omega
  have := key (10 - n) (by omega)
  rw [show n + (10 - n) = 10 by omega] at this
  exact this
/-- one more of the weights that are made less -/
theorem lt_c {V : VW} {I : Nat → Int32} {c : Int32} {a b : Int64} {j bl : Nat} {S : TS} {U D U1 D1 : Nat → Int64} (hc : (fiV V I bl).toInt = c.toInt) (hS : S.2.2 = true) (hE : U = S.1 ∧ D = S.2.1) (h1 : U1 = vp_updL U j (frU (U j * a) (D j * b))) (h2 : D1 = vp_updL D j (frD (U j * a) (D j * b))) : ((ltS V I c a b j bl S).2.2 = true ↔ fitF (frU (U j * a) (D j * b)) (frD (U j * a) (D j * b))) ∧ U1 = (ltS V I c a b j bl S).1 ∧ D1 = (ltS V I c a b j bl S).2.1 := by
  have e : ltS V I c a b j bl S = (vp_updL S.1 j (frU (S.1 j * a) (S.2.1 j * b)), vp_updL S.2.1 j (frD (S.1 j * a) (S.2.1 j * b)), decide (fitF (frU (S.1 j * a) (S.2.1 j * b)) (frD (S.1 j * a) (S.2.1 j * b)))) := if_pos ⟨hc, hS⟩
  rw [e, h1, h2, hE.1, hE.2]
  exact ⟨decide_eq_true_iff, rfl, rfl⟩
/-- the quota -/
theorem quo_ok {a z : Int32} (ha : 0 ≤ a.toInt ∧ a.toInt ≤ 4000000) (hz : 1 ≤ z.toInt ∧ z.toInt ≤ 30) : (a / (z + 1) + 1).toInt64 = (a / (z + 1)).toInt64 + 1 ∧ 1 ≤ ((a / (z + 1)).toInt64 + 1).toInt ∧ ((a / (z + 1)).toInt64 + 1).toInt ≤ 4000001 := by
  have h1 := fadd (x := z) (y := 1) (v := z + 1) rfl (by decide : (1 : Int32).toInt = 1) rfl (by omega) (by omega)
  have h2 := idivI (v := a / (z + 1)) rfl ha.1 (by omega)
  have h3 := fadd (x := a / (z + 1)) (y := 1) (v := a / (z + 1) + 1) rfl (by decide : (1 : Int32).toInt = 1) rfl (by omega) (by omega)
  have h4 := i64_le (a := (a / (z + 1)).toInt64) (b := 1) (m := 4000000) (n := 1) (by rw [i32_64]; omega) (by rw [i32_64]; omega) (by decide) (by decide) (by decide)
  rw [i32_64, show (1 : Int64).toInt = 1 by decide] at h4
  refine ⟨?_, by omega, by omega⟩
  apply Int64.toInt_inj.mp
  rw [h4, i32_64, h3]
theorem sumK_b {V : VW} {ly : Nat → Int32} (hp : ∀ b, 0 ≤ (V 3 b).toInt ∧ (V 3 b).toInt ≤ 100000) : ∀ k, k ≤ 40 → 0 ≤ (foK (fun _ b u => u + V 3 b) ly k (0 : Int32)).toInt ∧ (foK (fun _ b u => u + V 3 b) ly k (0 : Int32)).toInt ≤ 100000 * (k : Int) := by
  intro k
  induction k with
  | zero => intro _; show 0 ≤ (0 : Int32).toInt ∧ (0 : Int32).toInt ≤ _; rw [show (0 : Int32).toInt = 0 by decide]; omega
  | succ k ih =>
    intro hk
    obtain ⟨a1, a2⟩ := ih (by omega)
    have h3 := hp (ly k).toNatClampNeg
    have := fadd (x := foK (fun _ b u => u + V 3 b) ly k (0 : Int32)) (y := V 3 (ly k).toNatClampNeg) (v := foK (fun _ b u => u + V 3 b) ly (k + 1) (0 : Int32)) rfl rfl rfl (by omega) (by omega)
    omega
theorem sumK_P {V : VW} {ly : Nat → Int32} {x : Nat} : ∀ n, LY (fun i => V 8 (40 * x + i)) ly n → foK (fun _ b u => u + V 3 b) ly (cnP (fun i => V 8 (40 * x + i)) n) (0 : Int32) = sumP V x n := by
  intro n
  induction n with
  | zero => intro _; rfl
  | succ n ih =>
    intro h
    have ih' := ih (fun i hi => h i (by omega))
    show _ = sumP V x n + (if (V 8 (40 * x + n)).toInt = -9 then 0 else V 3 ((V 8 (40 * x + n)).toNatClampNeg))
    by_cases e : (V 8 (40 * x + n)).toInt = -9
    · rw [cnP_e (p := fun i => V 8 (40 * x + i)) e, if_pos e, ih', Int32.add_zero]
    · rw [cnP_s (p := fun i => V 8 (40 * x + i)) e, if_neg e, ← ih']
      show foK _ ly _ 0 + V 3 (ly (cnP (fun i => V 8 (40 * x + i)) n)).toNatClampNeg = _
      rw [h n (by omega) e]
theorem lg_mul {u d q : Int64} (hd : 1 ≤ d.toInt ∧ d.toInt ≤ 1000000000) (hu : 1 ≤ u.toInt ∧ u.toInt ≤ 1000000000) (hf : fitF (lgU u d q) (lgV u d q)) (h0 : 0 ≤ (lgU u d q).toInt) (h1 : 1 ≤ (lgV u d q).toInt) : 0 ≤ (lgU u d q * d).toInt ∧ 1 ≤ (lgV u d q * u).toInt := by
  dsimp only [fitF] at hf
  have m1 := mul_le9 (a := (lgU u d q).toInt) (b := d.toInt) h0 hf.1 (by omega) hd.2
  have m2 := mul_le9 (a := (lgV u d q).toInt) (b := u.toInt) (by omega) hf.2 (by omega) hu.2
  have m3 := mul_pos9 (a := (lgV u d q).toInt) (b := u.toInt) h1 hu.1
  have e1 : (lgU u d q * d).toInt = (lgU u d q).toInt * d.toInt := by rw [Int64.toInt_mul]; exact bmod_id (by omega) (by omega)
  have e2 : (lgV u d q * u).toInt = (lgV u d q).toInt * u.toInt := by rw [Int64.toInt_mul]; exact bmod_id (by omega) (by omega)
  omega
theorem ok_mul {w z a b : Int64} (hw : okF w z) (ha : 0 ≤ a.toInt ∧ a.toInt ≤ 1000000000) (hb : 1 ≤ b.toInt ∧ b.toInt ≤ 1000000000) : 0 ≤ (w * a).toInt ∧ 1 ≤ (z * b).toInt := by
  unfold okF at hw
  have m1 := mul_le9 (a := w.toInt) (b := a.toInt) (by omega) (by omega) (by omega) (by omega)
  have m2 := mul_le9 (a := z.toInt) (b := b.toInt) (by omega) (by omega) (by omega) (by omega)
  have m3 := mul_pos9 (a := z.toInt) (b := b.toInt) (by omega) (by omega)
  have e1 : (w * a).toInt = w.toInt * a.toInt := by rw [Int64.toInt_mul]; exact bmod_id (by omega) (by omega)
  have e2 : (z * b).toInt = z.toInt * b.toInt := by rw [Int64.toInt_mul]; exact bmod_id (by omega) (by omega)
  omega
theorem lt_w {L L1 : ML} {n j : Nat} {a b : Int64} (hW : WTc L n) (hj : okF (L 121 j) (L 122 j)) (ha : 0 ≤ a.toInt ∧ a.toInt ≤ 1000000000) (hb : 1 ≤ b.toInt ∧ b.toInt ≤ 1000000000) (h1 : L1 121 = vp_updL (L 121) j (frU (L 121 j * a) (L 122 j * b))) (h2 : L1 122 = vp_updL (L 122) j (frD (L 121 j * a) (L 122 j * b))) (hf : fitF (frU (L 121 j * a) (L 122 j * b)) (frD (L 121 j * a) (L 122 j * b))) : WTc L1 n := by
  intro i hi
  have m := ok_mul hj ha hb
  rw [h1, h2, updL_at, updL_at]
  by_cases e : i = j
  · rw [if_pos e, if_pos e]; exact ⟨okF_of hf m.1 m.2, fr_low m.1 m.2⟩
  · rw [if_neg e, if_neg e]; exact hW i hi
/-! the same count over a box's places and over ballots that lie in a row -/
theorem foP_ly {α : Type} {st : Nat → Nat → α → α} {ly : Nat → Int32} {a : α} : ∀ k, (∀ j, j < k → ¬ (ly j).toInt = -9) → foP st ly k a = foK st ly k a := by
  intro k
  induction k with
  | zero => intro _; rfl
  | succ k ih => intro h; rw [foP_s (h k (by omega)), ih (fun j hj => h j (by omega))]; rfl
def WE (p : Nat → Int32) (m : Nat) (wu1 wd1 wu wd : Nat → Int64) : Prop := ∀ i, i < m → (p i).toInt ≠ -9 → wu1 (cnP p i) = wu i ∧ wd1 (cnP p i) = wd i
theorem qrT_e {V : VW} {p ly : Nat → Int32} {m : Nat} {s1 s : TR} (hl : LY p ly m) (hn : ∀ j, j < cnP p m → ¬ (ly j).toInt = -9) (hI : s1.1 = s.1) (hw : WE p m s1.2.1.1 s1.2.1.2 s.2.1.1 s.2.1.2) : qrT V ly (cnP p m) s1 = qrT V p m s := by
  unfold qrT
  rw [foP_ly _ hn, hI]
  refine foK_P m hl (fun i hi hp b => ?_)
  funext t
  unfold stW
  rw [(hw i hi hp).1, (hw i hi hp).2]
theorem cnP_ne {p : Nat → Int32} {i j : Nat} (hi : (p i).toInt ≠ -9) (hj : (p j).toInt ≠ -9) (h : i ≠ j) : cnP p i ≠ cnP p j := by
  rcases Nat.lt_or_gt_of_ne h with q | q
  · have := cnP_lt q hi; omega
  · have := cnP_lt q hj; omega
theorem lgW_e {V : VW} {I p ly : Nat → Int32} {c : Int32} {u d q : Int64} {wu1 wd1 wu wd : Nat → Int64} {m : Nat} (hl : LY p ly m) (hn : ∀ j, j < cnP p m → ¬ (ly j).toInt = -9) (hw : WE p m wu1 wd1 wu wd) : ∀ k, k ≤ m → (lgW V I c u d q ly wu1 wd1 (cnP p k)).2.2 = (lgW V I c u d q p wu wd k).2.2 ∧ WE p m (lgW V I c u d q ly wu1 wd1 (cnP p k)).1 (lgW V I c u d q ly wu1 wd1 (cnP p k)).2.1 (lgW V I c u d q p wu wd k).1 (lgW V I c u d q p wu wd k).2.1 := by
  intro k
  induction k with
  | zero => intro _; exact ⟨rfl, hw⟩
  | succ k ih =>
    intro hk
    obtain ⟨e1, e2⟩ := ih (by omega)
    unfold lgW at e1 e2 ⊢
    by_cases z : (p k).toInt = -9
    · rw [cnP_e z, foP_e z]; exact ⟨e1, e2⟩
    · have hc := cnP_lt (show k < m by omega) z
      rw [cnP_s z, foP_s z, foP_s (hn _ hc), hl k (by omega) z]
      generalize foP (ltS V I c (lgA u d q) (lgB u d q)) ly (cnP p k) (wu1, wd1, true) = T1 at e1 e2 ⊢
      generalize foP (ltS V I c (lgA u d q) (lgB u d q)) p k (wu, wd, true) = T at e1 e2 ⊢
      obtain ⟨w1, w2⟩ := e2 k (by omega) z
      by_cases f : (fiV V I (p k).toNatClampNeg).toInt = c.toInt ∧ T.2.2 = true
      · have f1 : (fiV V I (p k).toNatClampNeg).toInt = c.toInt ∧ T1.2.2 = true := ⟨f.1, by rw [e1]; exact f.2⟩
        have g1 : ltS V I c (lgA u d q) (lgB u d q) (cnP p k) (p k).toNatClampNeg T1 = (vp_updL T1.1 (cnP p k) (frU (T1.1 (cnP p k) * lgA u d q) (T1.2.1 (cnP p k) * lgB u d q)), vp_updL T1.2.1 (cnP p k) (frD (T1.1 (cnP p k) * lgA u d q) (T1.2.1 (cnP p k) * lgB u d q)), decide (fitF (frU (T1.1 (cnP p k) * lgA u d q) (T1.2.1 (cnP p k) * lgB u d q)) (frD (T1.1 (cnP p k) * lgA u d q) (T1.2.1 (cnP p k) * lgB u d q)))) := if_pos f1
        have g2 : ltS V I c (lgA u d q) (lgB u d q) k (p k).toNatClampNeg T = (vp_updL T.1 k (frU (T.1 k * lgA u d q) (T.2.1 k * lgB u d q)), vp_updL T.2.1 k (frD (T.1 k * lgA u d q) (T.2.1 k * lgB u d q)), decide (fitF (frU (T.1 k * lgA u d q) (T.2.1 k * lgB u d q)) (frD (T.1 k * lgA u d q) (T.2.1 k * lgB u d q)))) := if_pos f
        rw [g1, g2, w1, w2]
        refine ⟨rfl, fun i hi hp => ?_⟩
        dsimp only
        rw [updL_at, updL_at, updL_at, updL_at]
        by_cases e : i = k
        · rw [if_pos e, if_pos e, if_pos (by rw [e]), if_pos (by rw [e])]; exact ⟨rfl, rfl⟩
        · rw [if_neg e, if_neg e, if_neg (cnP_ne hp z e), if_neg (cnP_ne hp z e)]; exact e2 i hi hp
      · rw [ltS_f f, ltS_f (fun h => f ⟨h.1, by rw [← e1]; exact h.2⟩)]
        exact ⟨e1, e2⟩
def QL (p : Nat → Int32) (m : Nat) (s1 s : TR) : Prop := s1.1 = s.1 ∧ WE p m s1.2.1.1 s1.2.1.2 s.2.1.1 s.2.1.2 ∧ s1.2.2 = s.2.2
theorem QL_F {V : VW} {row p ly : Nat → Int32} {m n sd : Nat} {q : Int64} {s1 s : TR} (hl : LY p ly m) (hn : ∀ j, j < cnP p m → ¬ (ly j).toInt = -9) (h : QL p m s1 s) : QL p m (qrF V row ly (cnP p m) n sd q s1) (qrF V row p m n sd q s) := by
  obtain ⟨h1, h2, h3⟩ := h
  have eT := qrT_e (V := V) hl hn h1 h2
  have eC : qrC V row ly (cnP p m) n s1 = qrC V row p m n s := by unfold qrC; rw [eT, h1]
  have eL : qrL V row ly (cnP p m) n s1 = qrL V row p m n s := by unfold qrL; rw [eT, h1]
  have eU : qrU V row ly (cnP p m) n s1 = qrU V row p m n s := by unfold qrU; rw [eT, eC]
  have eV : qrV V row ly (cnP p m) n s1 = qrV V row p m n s := by unfold qrV; rw [eT, eC]
  obtain ⟨w1, w2⟩ := lgW_e (V := V) (I := s.1) (c := qrC V row p m n s) (u := qrU V row p m n s) (d := qrV V row p m n s) (q := q) hl hn h2 m (Nat.le_refl _)
  have eW : qrW V row ly (cnP p m) n q s1 = lgW V s.1 (qrC V row p m n s) (qrU V row p m n s) (qrV V row p m n s) q ly s1.2.1.1 s1.2.1.2 (cnP p m) := by unfold qrW; rw [eC, eU, eV, h1]
  rw [← eW] at w1 w2
  have w1 : (qrW V row ly (cnP p m) n q s1).2.2 = (qrW V row p m n q s).2.2 := w1
  have w2 : WE p m (qrW V row ly (cnP p m) n q s1).1 (qrW V row ly (cnP p m) n q s1).2.1 (qrW V row p m n q s).1 (qrW V row p m n q s).2.1 := w2
  unfold qrF
  rw [eT, eC, eL, eU, eV, h1, h3, w1]
  by_cases c1 : (qrT V p m s).2.2 = false
  · rw [if_pos c1, if_pos c1]; exact ⟨rfl, h2, rfl⟩
  · rw [if_neg c1, if_neg c1]
    by_cases c2 : cI s.1 n + s.2.2.1.length ≤ sd
    · rw [if_pos c2, if_pos c2]; exact ⟨rfl, h2, rfl⟩
    · rw [if_neg c2, if_neg c2]
      by_cases c3 : (q * qrV V row p m n s).toInt ≤ (qrU V row p m n s).toInt
      · rw [if_pos c3, if_pos c3]
        by_cases c4 : lg2 (qrU V row p m n s) (qrV V row p m n s) q ∧ (qrW V row p m n q s).2.2 = true
        · rw [if_pos c4, if_pos c4]; exact ⟨rfl, w2, rfl⟩
        · rw [if_neg c4, if_neg c4]; exact ⟨rfl, h2, rfl⟩
      · rw [if_neg c3, if_neg c3]; exact ⟨rfl, h2, rfl⟩
theorem QL_N {V : VW} {row p ly : Nat → Int32} {m n sd : Nat} {q : Int64} {s1 s : TR} (hl : LY p ly m) (hn : ∀ j, j < cnP p m → ¬ (ly j).toInt = -9) (h : QL p m s1 s) : ∀ k, QL p m (qrN V row ly (cnP p m) n sd q s1 k) (qrN V row p m n sd q s k) := by
  intro k
  induction k with
  | zero => exact h
  | succ k ih => exact QL_F hl hn ih
theorem QL_D {p : Nat → Int32} {m n sd : Nat} {s1 s : TR} (h : QL p m s1 s) : qrD n sd s1 ↔ qrD n sd s := by
  unfold qrD
  rw [h.1, h.2.2]
theorem QL_out {V : VW} {row I p ly : Nat → Int32} {m n sd k : Nat} {q : Int64} {wu wd wu1 wd1 : Nat → Int64} (hl : LY p ly m) (hn : ∀ j, j < cnP p m → ¬ (ly j).toInt = -9) (hw : WE p m wu1 wd1 wu wd) (h1 : ∀ j, j < k → ¬ qrD n sd (qrN V row ly (cnP p m) n sd q (I, (wu1, wd1), [], [], true) j)) (h2 : qrD n sd (qrN V row ly (cnP p m) n sd q (I, (wu1, wd1), [], [], true) k)) : (∀ j, j < k → ¬ qrD n sd (qrN V row p m n sd q (I, (wu, wd), [], [], true) j)) ∧ qrD n sd (qrN V row p m n sd q (I, (wu, wd), [], [], true) k) ∧ (qrN V row ly (cnP p m) n sd q (I, (wu1, wd1), [], [], true) k).2.2 = (qrN V row p m n sd q (I, (wu, wd), [], [], true) k).2.2 := by
  have e := QL_N (V := V) (row := row) (n := n) (sd := sd) (q := q) (s1 := (I, (wu1, wd1), [], [], true)) (s := (I, (wu, wd), [], [], true)) hl hn ⟨rfl, hw, rfl⟩
  exact ⟨fun j hj h => h1 j hj ((QL_D (e j)).mpr h), (QL_D (e k)).mp h2, (e k).2.2⟩
theorem WE_of {V : VW} {p ly : Nat → Int32} {m : Nat} {wu wd wu1 wd1 : Nat → Int64} (hl : LY p ly m) (hw : ∀ i, i < m → (p i).toInt ≠ -9 → wu i = (V 3 (p i).toNatClampNeg).toInt64 ∧ wd i = 1) (h1 : ∀ j, j < cnP p m → wu1 j = (V 3 (ly j).toNatClampNeg).toInt64 ∧ wd1 j = 1) : WE p m wu1 wd1 wu wd := by
  intro i hi hp
  have a := h1 (cnP p i) (cnP_lt hi hp)
  rw [hl i hi hp] at a
  have b := hw i hi hp
  exact ⟨by rw [a.1, b.1], by rw [a.2, b.2]⟩
theorem foKP2 {V : VW} {f : Nat → Nat → Int32} {p ly : Nat → Int32} {m k n : Nat} (h : LY p ly m) (hk : k = cnP p m) : foK (stP V f n) ly k (fun _ => 0) = foP (stP V f n) p m (fun _ => 0) := by
  rw [hk]
  exact foK_P m h (fun _ _ _ _ => rfl)
/-! what the class tells of the latest count that was not refused -/
def CD (M : MI) (S : List Int32) (R : List (Int32 × Int32)) : Prop := (M 0 8 = 125 ∧ RP (M 125 0) (M 126) (M 125 2) (M 127) (M 128) S R) ∨ (M 0 8 = 191 ∧ RP (M 191 0) (M 192) (M 191 2) (M 193) (M 194) S R)
def CDs (M M1 : MI) : Prop := M1 0 8 = M 0 8 ∧ M1 0 9 = M 0 9 ∧ ∀ S R, CD M S R → CD M1 S R
def LSc (M : MI) : Prop := M 0 8 ≠ M 0 9
theorem LSc_s {M M1 : MI} (h : CDs M M1) (hl : LSc M) : LSc M1 := by
  unfold LSc
  rw [h.1, h.2.1]
  exact hl
theorem CDs_125 {M M1 : MI} (h : M 0 8 = 125) (e8 : M1 0 8 = M 0 8) (e9 : M1 0 9 = M 0 9) (q : M1 125 0 = M 125 0 ∧ M1 126 = M 126 ∧ M1 125 2 = M 125 2 ∧ M1 127 = M 127 ∧ M1 128 = M 128) : CDs M M1 := by
  refine ⟨e8, e9, fun S R hc => ?_⟩
  obtain ⟨q1, q2, q3, q4, q5⟩ := q
  rcases hc with ⟨_, c⟩ | ⟨c, _⟩
  · refine Or.inl ⟨by rw [e8, h], ?_⟩
    rw [q1, q2, q3, q4, q5]; exact c
  · rw [h] at c; exact absurd c (by decide)
theorem CDs_191 {M M1 : MI} (h : M 0 8 = 191) (e8 : M1 0 8 = M 0 8) (e9 : M1 0 9 = M 0 9) (q : M1 191 0 = M 191 0 ∧ M1 192 = M 192 ∧ M1 191 2 = M 191 2 ∧ M1 193 = M 193 ∧ M1 194 = M 194) : CDs M M1 := by
  refine ⟨e8, e9, fun S R hc => ?_⟩
  obtain ⟨q1, q2, q3, q4, q5⟩ := q
  rcases hc with ⟨c, _⟩ | ⟨_, c⟩
  · rw [h] at c; exact absurd c (by decide)
  · refine Or.inr ⟨by rw [e8, h], ?_⟩
    rw [q1, q2, q3, q4, q5]; exact c
theorem CDs_of {M M1 : MI} (h : M 0 8 = 125 ∨ M 0 8 = 191) (e8 : M1 0 8 = M 0 8) (e9 : M1 0 9 = M 0 9) (q : M1 125 0 = M 125 0 ∧ M1 126 = M 126 ∧ M1 125 2 = M 125 2 ∧ M1 127 = M 127 ∧ M1 128 = M 128) (p : M1 191 0 = M 191 0 ∧ M1 192 = M 192 ∧ M1 191 2 = M 191 2 ∧ M1 193 = M 193 ∧ M1 194 = M 194) : CDs M M1 :=
  h.elim (fun h => CDs_125 h e8 e9 q) (fun h => CDs_191 h e8 e9 p)
