/-! the strongest ways -/
def wv (f : Nat → Int64) (x y : Nat) : Int := (f (10 * x + y)).toInt
/-- closed under going through the first k -/
def CL (n k : Nat) (w : Nat → Nat → Int) : Prop := ∀ j, j < k → ∀ x, x < n → ∀ y, y < n → x ≠ y → x ≠ j → j ≠ y → ∀ t : Int, t ≤ w x j → t ≤ w j y → t ≤ w x y
/-- w1 is w with the ways through m taken where D says -/
def FW (w w1 : Nat → Nat → Int) (n m : Nat) (D : Nat → Nat → Prop) : Prop := ∀ a, a < n → ∀ b, b < n → ∀ t : Int, t ≤ w1 a b ↔ (t ≤ w a b ∨ (D a b ∧ a ≠ b ∧ t ≤ w a m ∧ t ≤ w m b))
theorem CL_step {n k : Nat} {w w1 : Nat → Nat → Int} (h : CL n k w) (hk : k < n) (hf : FW w w1 n k (fun _ _ => True)) : CL n (k + 1) w1 := by
  intro j hj x hx y hy hxy hxj hjy t h1 h2
  have hjn : j < n := by omega
  rw [hf x hx j hjn t] at h1
  rw [hf j hjn y hy t] at h2
  rw [hf x hx y hy t]
  by_cases e : j = k
  · subst e
    refine Or.inr ⟨trivial, hxy, ?_, ?_⟩
    · rcases h1 with q | q
      · exact q
      · exact q.2.2.1
    · rcases h2 with q | q
      · exact q
      · exact q.2.2.2
  · have hjk : j < k := by omega
    rcases h1 with a | a
    · rcases h2 with b | b
      · exact Or.inl (h j hjk x hx y hy hxy hxj hjy t a b)
      · by_cases ex : x = k
        · subst ex; exact Or.inl b.2.2.2
        · exact Or.inr ⟨trivial, hxy, h j hjk x hx k hk ex hxj e t a b.2.2.1, b.2.2.2⟩
    · rcases h2 with b | b
      · by_cases ey : y = k
        · subst ey; exact Or.inl a.2.2.1
        · exact Or.inr ⟨trivial, hxy, a.2.2.1, h j hjk k hk y hy (fun q => ey q.symm) (fun q => e q.symm) hjy t a.2.2.2 b⟩
      · exact Or.inr ⟨trivial, hxy, a.2.2.1, b.2.2.2⟩
/-- the ways to m and from m stand still -/
theorem FW_same {w w1 : Nat → Nat → Int} {n m : Nat} {D : Nat → Nat → Prop} (hf : FW w w1 n m D) (hm : m < n) {x : Nat} (hx : x < n) : w1 x m = w x m ∧ w1 m x = w m x := by
  have a := hf x hx m hm
  have b := hf m hm x hx
  have a1 := a (w1 x m)
  have a2 := a (w x m)
  have b1 := b (w1 m x)
  have b2 := b (w m x)
  constructor
  · have h1 : w1 x m ≤ w x m := by
      rcases a1.mp (Int.le_refl _) with q | q
      · exact q
      · exact q.2.2.1
    have h2 := a2.mpr (Or.inl (Int.le_refl _))
    omega
  · have h1 : w1 m x ≤ w m x := by
      rcases b1.mp (Int.le_refl _) with q | q
      · exact q
      · exact q.2.2.2
    have h2 := b2.mpr (Or.inl (Int.le_refl _))
    omega
theorem FW_step {w w1 w2 : Nat → Nat → Int} {n m x y : Nat} {D D2 : Nat → Nat → Prop} (hf : FW w w1 n m D) (hm : m < n) (hx : x < n) (hy : y < n) (hD : ∀ a b, a < n → b < n → (D2 a b ↔ D a b ∨ (a = x ∧ b = y))) (hno : ∀ a b, a < n → b < n → ¬ (a = x ∧ b = y) → w2 a b = w1 a b) (hv : ∀ t : Int, t ≤ w2 x y ↔ (t ≤ w1 x y ∨ (x ≠ y ∧ t ≤ w1 x m ∧ t ≤ w1 m y))) : FW w w2 n m D2 := by
  intro a ha b hb t
  have hs := FW_same hf hm hx
  have hs2 := FW_same hf hm hy
  rw [hD a b ha hb]
  by_cases e : a = x ∧ b = y
  · obtain ⟨rfl, rfl⟩ := e
    rw [hv t, hf a ha b hb t, hs.1, hs2.2]
    constructor
    · rintro ((q | q) | q)
      · exact Or.inl q
      · exact Or.inr ⟨Or.inl q.1, q.2⟩
      · exact Or.inr ⟨Or.inr ⟨rfl, rfl⟩, q⟩
    · rintro (q | q)
      · exact Or.inl (Or.inl q)
      · exact Or.inr q.2
  · rw [hno a b ha hb e, hf a ha b hb t]
    constructor
    · rintro (q | q)
      · exact Or.inl q
      · exact Or.inr ⟨Or.inl q.1, q.2⟩
    · rintro (q | q)
      · exact Or.inl q
      · rcases q.1 with z | z
        · exact Or.inr ⟨z, q.2⟩
        · exact absurd z e
theorem FW_congr {w w1 : Nat → Nat → Int} {n m : Nat} {D D2 : Nat → Nat → Prop} (hf : FW w w1 n m D) (h : ∀ a b, a < n → b < n → (D2 a b ↔ D a b)) : FW w w1 n m D2 := by
  intro a ha b hb t
  rw [hf a ha b hb t, h a b ha hb]
theorem FW_0 {w : Nat → Nat → Int} {n m : Nat} {D : Nat → Nat → Prop} (h : ∀ a b, a < n → b < n → ¬ D a b) : FW w w n m D := by
  intro a ha b hb t
  constructor
  · exact Or.inl
  · rintro (q | q)
    · exact q
    · exact absurd q.1 (h a b ha hb)
/-- one that is stronger than one that is stronger -/
theorem CL_tr {n : Nat} {w : Nat → Nat → Int} (h : CL n n w) {x y z : Nat} (hx : x < n) (hy : y < n) (hz : z < n) (h1 : w y x < w x y) (h2 : w z y < w y z) : w z x < w x z := by
  have hxy : x ≠ y := fun e => by subst e; omega
  have hyz : y ≠ z := fun e => by subst e; omega
  have hxz : x ≠ z := fun e => by subst e; omega
  rcases Int.lt_or_le (w z x) (w x z) with q | q
  · exact q
  · exfalso
    rcases Int.le_total (w x y) (w y z) with c | c
    · have a1 := h y hy x hx z hz hxz hxy hyz (w x y) (Int.le_refl _) c
      have a2 := h z hz y hy x hx (fun e => hxy e.symm) hyz (fun e => hxz e.symm) (w x y) c (by omega)
      omega
    · have a1 := h y hy x hx z hz hxz hxy hyz (w y z) c (Int.le_refl _)
      have a2 := h x hx z hz y hy (fun e => hyz e.symm) (fun e => hxz e.symm) hxy (w y z) (by omega) c
      omega
theorem max_ex {n : Nat} {w : Nat → Nat → Int} (h : CL n n w) (S : Nat → Prop) : ∀ m, m ≤ n → (∃ c, c < m ∧ S c) → ∃ c, c < m ∧ S c ∧ ∀ d, d < m → S d → ¬ (w c d < w d c) := by
  intro m
  induction m with
  | zero => rintro _ ⟨c, hc, _⟩; omega
  | succ m ih =>
    intro hm he
    by_cases hl : ∃ c, c < m ∧ S c
    · obtain ⟨c, h1, h2, h3⟩ := ih (by omega) hl
      by_cases hs : S m ∧ w c m < w m c
      · refine ⟨m, by omega, hs.1, fun d hd hS hb => ?_⟩
        by_cases e : d = m
        · subst e; omega
        · exact h3 d (by omega) hS (CL_tr h (by omega) (by omega) (by omega) hb hs.2)
      · refine ⟨c, by omega, h2, fun d hd hS hb => ?_⟩
        by_cases e : d = m
        · subst e; exact hs ⟨hS, hb⟩
        · exact h3 d (by omega) hS hb
    · obtain ⟨c, h1, h2⟩ := he
      by_cases e : c = m
      · subst e
        refine ⟨c, by omega, h2, fun d hd hS hb => ?_⟩
        by_cases e2 : d = c
        · subst e2; omega
        · exact hl ⟨d, by omega, hS⟩
      · exact absurd ⟨c, by omega, h2⟩ hl
/-- beaten by one of the first n that is in -/
def BT (T : Nat → Int32) (f : Nat → Int64) (x n : Nat) : Prop := ∃ j, j < n ∧ j ≠ x ∧ ¬ (T j).toInt = 0 ∧ wv f x j < wv f j x
theorem BT_s {T : Nat → Int32} {f : Nat → Int64} {x n : Nat} : (BT T f x n ∨ (n ≠ x ∧ ¬ (T n).toInt = 0 ∧ wv f x n < wv f n x)) ↔ BT T f x (n + 1) := by
  constructor
  · rintro (⟨j, h1, h2⟩ | h)
    · exact ⟨j, by omega, h2⟩
    · exact ⟨n, by omega, h⟩
  · rintro ⟨j, h1, h2⟩
    by_cases e : j = n
    · subst e; exact Or.inr h2
    · exact Or.inl ⟨j, by omega, h2⟩
theorem zo_tI {r : Int32} {P : Prop} (h : zo r P) (c : r.toInt ≠ 0) : P := zo_t h (fun e => c (by rw [e]; decide))
theorem zo_fI {r : Int32} {P : Prop} (h : zo r P) (c : r.toInt = 0) : ¬ P := zo_f h (Int32.toInt_inj.mp (by rw [c]; decide))
theorem unb_ex {T : Nat → Int32} {f : Nat → Int64} {n : Nat} (h : CL n n (wv f)) (hp : 0 < cI T n) : ∃ c, c < n ∧ ¬ (T c).toInt = 0 ∧ ¬ BT T f c n := by
  obtain ⟨c, h1, h2, h3⟩ := max_ex h (fun c => ¬ (T c).toInt = 0) n (Nat.le_refl n) (cI_ex n hp)
  exact ⟨c, h1, h2, fun ⟨j, a, b, d, e⟩ => h3 j a d e⟩
theorem idx_ne {a b x y : Nat} (hb : b < 10) (hy : y < 10) (h : ¬ (a = x ∧ b = y)) : ¬ (10 * a + b = 10 * x + y) := by omega
theorem fv1 {x y : Nat} {v v1 v2 v3 : Int} (hxy : x = y) (e : v = v3) (t : Int) : t ≤ v ↔ (t ≤ v3 ∨ (x ≠ y ∧ t ≤ v1 ∧ t ≤ v2)) := by
  constructor
  · intro h; exact Or.inl (by omega)
  · rintro (h | h)
    · omega
    · exact absurd hxy h.1
theorem fv2 {x y : Nat} {v v1 v2 v3 b : Int} (hxy : x ≠ y) (hb : (b = v1 ∧ b ≤ v2) ∨ (b = v2 ∧ b ≤ v1)) (hgt : v3 < b) (e : v = b) (t : Int) : t ≤ v ↔ (t ≤ v3 ∨ (x ≠ y ∧ t ≤ v1 ∧ t ≤ v2)) := by
  constructor
  · intro h; exact Or.inr ⟨hxy, by omega, by omega⟩
  · rintro (h | h) <;> omega
theorem fv3 {x y : Nat} {v v1 v2 v3 b : Int} (hb : (b = v1 ∧ b ≤ v2) ∨ (b = v2 ∧ b ≤ v1)) (hle : b ≤ v3) (e : v = v3) (t : Int) : t ≤ v ↔ (t ≤ v3 ∨ (x ≠ y ∧ t ≤ v1 ∧ t ≤ v2)) := by
  constructor
  · intro h; exact Or.inl (by omega)
  · rintro (h | h) <;> omega
