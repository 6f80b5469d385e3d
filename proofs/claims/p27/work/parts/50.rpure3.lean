/-! numbers: remainders, common divisors, powers of two -/
theorem lremI {x y v : Int64} (h : v = x - x / y * y) : v.toInt = x.toInt.tmod y.toInt := by
  have e : x.toInt - x.toInt.tdiv y.toInt * y.toInt = x.toInt.tmod y.toInt := by
    have h1 := Int.tdiv_mul_add_tmod x.toInt y.toInt
    omega
  have b1 := Int64.toInt_lt x
  have b2 := Int64.le_toInt x
  have hr : x.toInt.tmod y.toInt ≤ 9223372036854775807 ∧ -9223372036854775808 ≤ x.toInt.tmod y.toInt := by
    rcases Int.le_total 0 x.toInt with q | q
    · have h1 := Int.tmod_nonneg y.toInt q
      have h2 : x.toInt.tmod y.toInt ≤ x.toInt := by
        have h3 := Int.mul_tdiv_add_tmod x.toInt y.toInt
        have h4 : 0 ≤ y.toInt * x.toInt.tdiv y.toInt := by
          rcases Int.le_total 0 y.toInt with w | w
          · exact Int.mul_nonneg w (Int.tdiv_nonneg q w)
          · exact Int.mul_nonneg_of_nonpos_of_nonpos w (Int.tdiv_nonpos_of_nonneg_of_nonpos q w)
        omega
      omega
    · have e1 : (-x.toInt).tmod y.toInt = -(x.toInt.tmod y.toInt) := Int.neg_tmod ..
      have h1 := Int.tmod_nonneg y.toInt (show 0 ≤ -x.toInt by omega)
      have h2 : (-x.toInt).tmod y.toInt ≤ -x.toInt := by
        have h3 := Int.mul_tdiv_add_tmod (-x.toInt) y.toInt
        have h4 : 0 ≤ y.toInt * (-x.toInt).tdiv y.toInt := by
          rcases Int.le_total 0 y.toInt with w | w
          · exact Int.mul_nonneg w (Int.tdiv_nonneg (by omega) w)
          · exact Int.mul_nonneg_of_nonpos_of_nonpos w (Int.tdiv_nonpos_of_nonneg_of_nonpos (by omega) w)
        omega
      omega
  rw [h, Int64.toInt_sub, Int64.toInt_mul, Int64.toInt_div]
  rw [Int.bmod_mul_bmod, Int.sub_bmod_bmod, e]
  exact Int.bmod_eq_of_le (by omega) (by omega)
theorem dvd_tmod {a b t : Int} : (t ∣ b ∧ t ∣ a.tmod b) ↔ (t ∣ a ∧ t ∣ b) := by
  have h := Int.mul_tdiv_add_tmod a b
  constructor
  · rintro ⟨h1, h2⟩
    refine ⟨?_, h1⟩
    rw [← h]
    exact Int.dvd_add (Int.dvd_mul_of_dvd_left h1) h2
  · rintro ⟨h1, h2⟩
    refine ⟨h2, ?_⟩
    rw [show a.tmod b = a - b * a.tdiv b by omega]
    exact Int.dvd_sub h1 (Int.dvd_mul_of_dvd_left h2)
theorem tmod_abs {a b : Int} (h : b ≠ 0) : (a.tmod b).natAbs < b.natAbs := by
  rw [Int.natAbs_tmod]
  exact Nat.mod_lt _ (by omega)
theorem odd_dvd : ∀ (n d w : Nat), w % 2 = 1 → 2 ^ n ∣ d * w → 2 ^ n ∣ d := by
  intro n d w hw h
  have hc : Nat.Coprime 2 w := by
    show Nat.gcd 2 w = 1
    rw [Nat.gcd_rec, hw]
    rfl
  exact Nat.Coprime.dvd_of_dvd_mul_right (Nat.Coprime.pow_left n hc) h
theorem pow2_dvd : ∀ (n k d w : Nat), 0 < w → w < 2 ^ n → 2 ^ (k + n) ∣ d * w → 2 ^ k ∣ d := by
  intro n
  induction n with
  | zero => intro k d w h1 h2 _; exact absurd h2 (by show ¬ w < 1; omega)
  | succ n ih =>
    intro k d w h1 h2 h3
    rcases Nat.mod_two_eq_zero_or_one w with e | e
    · obtain ⟨v, hv⟩ : ∃ v, w = 2 * v := ⟨w / 2, by omega⟩
      have h4 : 2 ^ (k + n) ∣ d * v := by
        have e2 : 2 ^ (k + (n + 1)) = 2 ^ (k + n) * 2 := Nat.pow_succ ..
        rw [e2, hv, show d * (2 * v) = d * v * 2 by rw [Nat.mul_assoc, Nat.mul_comm 2 v]] at h3
        exact Nat.dvd_of_mul_dvd_mul_right (by decide) h3
      have e3 : 2 ^ (n + 1) = 2 ^ n * 2 := Nat.pow_succ ..
      exact ih k d v (by omega) (by omega) h4
    · exact Nat.dvd_trans (Nat.pow_dvd_pow 2 (by omega)) (odd_dvd _ d w e h3)
/-- a sum of fractions, of numbers that wrap, is not 0 by 0 -/
theorem sum_ne {u d a w : Int} (ho : u % 2 = 1 ∨ d % 2 = 1) (hw : 0 < w) (hw2 : w ≤ 1000000000) (h1 : (18446744073709551616 : Int) ∣ d * w) (h2 : (18446744073709551616 : Int) ∣ u * w + a * d) : False := by
  have h1n : 2 ^ (34 + 30) ∣ d.natAbs * w.natAbs := by
    rw [← Int.natAbs_mul]
    exact Int.natAbs_dvd_natAbs.mpr h1
  have hd : 2 ^ 34 ∣ d.natAbs := pow2_dvd 30 34 _ _ (by omega) (by show w.natAbs < 1073741824; omega) h1n
  have hdi : (17179869184 : Int) ∣ d := Int.natAbs_dvd_natAbs.mp hd
  have hu : u % 2 = 1 := by
    rcases ho with h | h
    · exact h
    · omega
  have h3 : (17179869184 : Int) ∣ u * w := by
    have h4 : (17179869184 : Int) ∣ u * w + a * d := Int.dvd_trans (by decide) h2
    have h5 : (17179869184 : Int) ∣ a * d := Int.dvd_mul_of_dvd_right hdi
    have h6 := Int.dvd_sub h4 h5
    rwa [Int.add_sub_cancel] at h6
  have h4 : 2 ^ 34 ∣ w.natAbs * u.natAbs := by
    rw [← Int.natAbs_mul, Int.mul_comm]
    exact Int.natAbs_dvd_natAbs.mpr h3
  have h5 := odd_dvd 34 _ _ (by omega) h4
  have h6 := Nat.le_of_dvd (by omega) h5
  have h7 : (2 : Nat) ^ 34 = 17179869184 := by decide
  omega
/-- a number that wraps to 0 -/
theorem bmod0 {x : Int} (h : x.bmod 18446744073709551616 = 0) : (18446744073709551616 : Int) ∣ x := by
  have := Int.dvd_of_bmod_eq_zero h
  exact this
/-- in lowest terms not both are even -/
theorem low_odd {a b g : Int} (hg : g ≠ 0) (ha : g ∣ a) (hb : g ∣ b) (hm : ∀ t : Int, t ∣ a → t ∣ b → t ∣ g) : (a.tdiv g) % 2 = 1 ∨ (b.tdiv g) % 2 = 1 := by
  obtain ⟨p, hp⟩ := ha
  obtain ⟨q, hq⟩ := hb
  have e1 : a.tdiv g = p := by rw [hp]; exact Int.mul_tdiv_cancel_left _ hg
  have e2 : b.tdiv g = q := by rw [hq]; exact Int.mul_tdiv_cancel_left _ hg
  rw [e1, e2]
  rcases Int.emod_two_eq p with h1 | h1
  · rcases Int.emod_two_eq q with h2 | h2
    · exfalso
      obtain ⟨p', hp'⟩ : ∃ p', p = 2 * p' := ⟨p / 2, by omega⟩
      obtain ⟨q', hq'⟩ : ∃ q', q = 2 * q' := ⟨q / 2, by omega⟩
      have h3 : g * 2 ∣ g := hm _ ⟨p', by rw [hp, hp', Int.mul_assoc]⟩ ⟨q', by rw [hq, hq', Int.mul_assoc]⟩
      obtain ⟨z, hz⟩ := h3
      have h4 : g * 1 = g * (2 * z) := by rw [Int.mul_one, ← Int.mul_assoc]; exact hz
      have h5 := Int.eq_of_mul_eq_mul_left hg h4
      omega
    · exact Or.inr h2
  · exact Or.inl h1
theorem bmod_par {x : Int} : (x.bmod 18446744073709551616) % 2 = x % 2 := by
  have h : (18446744073709551616 : Int) ∣ x.bmod 18446744073709551616 - x := Int.dvd_bmod_sub_self
  omega
/-! how many are in -/
def cI (T : Nat → Int32) : Nat → Nat
  | 0 => 0
  | n + 1 => cI T n + (if (T n).toInt = 0 then 0 else 1)
theorem cI_le (T : Nat → Int32) : ∀ n, cI T n ≤ n := by
  intro n
  induction n with
  | zero => exact Nat.le_refl _
  | succ n ih => show cI T n + (if _ then 0 else 1) ≤ n + 1; split <;> omega
theorem cI_ex {T : Nat → Int32} : ∀ n, 0 < cI T n → ∃ c, c < n ∧ ¬ (T c).toInt = 0 := by
  intro n
  induction n with
  | zero => intro h; exact absurd h (Nat.lt_irrefl 0)
  | succ n ih =>
    intro h
    by_cases e : (T n).toInt = 0
    · have h2 : cI T (n + 1) = cI T n + 0 := by show cI T n + (if _ then 0 else 1) = _; rw [if_pos e]
      obtain ⟨c, h3, h4⟩ := ih (by omega)
      exact ⟨c, by omega, h4⟩
    · exact ⟨n, by omega, e⟩
theorem cI_upd {T : Nat → Int32} {b : Nat} (hb : ¬ (T b).toInt = 0) : ∀ n, cI (upd T b 0) n + (if b < n then 1 else 0) = cI T n := by
  intro n
  induction n with
  | zero => rfl
  | succ n ih =>
    show cI (upd T b 0) n + (if (upd T b 0 n).toInt = 0 then 0 else 1) + (if b < n + 1 then 1 else 0) = cI T n + (if (T n).toInt = 0 then 0 else 1)
    by_cases e : n = b
    · rw [show upd T b 0 n = 0 from if_pos e, if_pos (by decide), e, if_neg hb, if_pos (Nat.lt_succ_self b)]
      rw [e, if_neg (Nat.lt_irrefl b)] at ih
      omega
    · rw [show upd T b 0 n = T n from if_neg e]
      by_cases h1 : b < n
      · rw [if_pos h1] at ih; rw [if_pos (show b < n + 1 by omega)]; omega
      · rw [if_neg h1] at ih; rw [if_neg (show ¬ b < n + 1 by omega)]; omega
theorem cI_all {T : Nat → Int32} : ∀ n, (∀ c, c < n → ¬ (T c).toInt = 0) → cI T n = n := by
  intro n
  induction n with
  | zero => intro _; rfl
  | succ n ih =>
    intro h
    show cI T n + (if _ then 0 else 1) = n + 1
    rw [if_neg (h n (by omega)), ih (fun c hc => h c (by omega))]
/-! fractions -/
def oddF (a b : Int64) : Prop := a.toInt % 2 = 1 ∨ b.toInt % 2 = 1
def okF (a b : Int64) : Prop := 0 ≤ a.toInt ∧ a.toInt ≤ 1000000000 ∧ 1 ≤ b.toInt ∧ b.toInt ≤ 1000000000
def WT (L : ML) : Prop := ∀ i : Nat, i < 40 → okF (L 286 i) (L 287 i)
theorem lnegI {x v : Int64} (h : v = -x) : (∀ t : Int, t ∣ v.toInt ↔ t ∣ x.toInt) ∧ (-9223372036854775808 < x.toInt → v.toInt = -x.toInt) := by
  have b1 := Int64.toInt_lt x
  have b2 := Int64.le_toInt x
  by_cases hm : x.toInt = -9223372036854775808
  · have e : x = Int64.ofInt (-9223372036854775808) := by
      apply Int64.toInt_inj.mp; rw [hm]; decide
    have e2 : v.toInt = x.toInt := by rw [h, e]; decide
    exact ⟨fun t => by rw [e2], fun h => by omega⟩
  · have e2 : v.toInt = -x.toInt := by
      rw [h, Int64.toInt_neg]
      exact Int.bmod_eq_of_le (by omega) (by omega)
    exact ⟨fun t => by rw [e2]; exact Int.dvd_neg, fun _ => e2⟩
theorem sumI {u b a d p q v : Int64} (hp : p = u * b) (hq : q = a * d) (h : v = p + q) : v.toInt = (u.toInt * b.toInt + a.toInt * d.toInt).bmod 18446744073709551616 := by
  rw [h, hp, hq, Int64.toInt_add, Int64.toInt_mul, Int64.toInt_mul]
  rw [Int.add_bmod_bmod, Int.bmod_add_bmod]
theorem prodI {d b v : Int64} (h : v = d * b) : v.toInt = (d.toInt * b.toInt).bmod 18446744073709551616 := by
  rw [h, Int64.toInt_mul]
theorem quoI {a g v : Int64} (h : v = a / g) : v.toInt = (a.toInt.tdiv g.toInt).bmod 18446744073709551616 := by
  rw [h, Int64.toInt_div]
theorem mul_le9 {a b : Int} (ha : 0 ≤ a) (ha2 : a ≤ 1000000000) (hb : 0 ≤ b) (hb2 : b ≤ 1000000000) : 0 ≤ a * b ∧ a * b ≤ 1000000000000000000 := by
  constructor
  · exact Int.mul_nonneg ha hb
  · have h := Int.mul_le_mul ha2 hb2 hb (by decide)
    omega
theorem mul_pos9 {a b : Int} (ha : 1 ≤ a) (hb : 1 ≤ b) : 1 ≤ a * b := by
  have h := Int.mul_pos (show 0 < a by omega) (show 0 < b by omega)
  omega
theorem bmod_id {x : Int} (h1 : -9223372036854775808 ≤ x) (h2 : x ≤ 9223372036854775807) : x.bmod 18446744073709551616 = x := Int.bmod_eq_of_le (by omega) (by omega)
