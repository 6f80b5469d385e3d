/-! the digest -/
def dg (f : Nat → Int32) : Nat → Int64 → Int64
  | 0, h => h
  | n + 1, h => 31 * dg f n h + (f n).toInt64
def dgO (F : Nat → Int64 → Int64) : Nat → Int64 → Int64
  | 0, h => h
  | n + 1, h => F n (dgO F n h)
def tlV (V : VW) (b w : Nat) : Int32 := if w = 0 then V 2 b else if w = 1 then V 3 b else if w = 2 then V 4 b else V 5 (10 * b + (w - 3))
def nwV (V : VW) (b : Nat) : Int32 := if (V 2 b).toInt = 3 then V 0 0 else V 4 b
def dgB (V : VW) (b : Nat) (h : Int64) : Int64 := dg (tlV V b) (3 + (nwV V b).toNatClampNeg) h
def dgX (V : VW) (x : Nat) (h : Int64) : Int64 := dg (fun i => V 8 (40 * x + i)) (V 7 x).toNatClampNeg h
def dgM (V : VW) (m : Nat) (h : Int64) : Int64 := dg (fun w => A_methodOf V (Int32.ofNat m) (Int32.ofNat w)) 4 h
def dH1 (V : VW) : Int64 := dg (V 1) (V 0 0).toNatClampNeg 17
def dH2 (V : VW) : Int64 := dgO (dgB V) (V 0 1).toNatClampNeg (dH1 V)
def dH3 (V : VW) : Int64 := dgO (dgX V) (V 0 2).toNatClampNeg (dH2 V)
def A_digest (V : VW) : Int64 := dgO (dgM V) (V 0 3).toNatClampNeg (dH3 V)
theorem tlV_3 (V : VW) (b k : Nat) : tlV V b (3 + k) = V 5 (10 * b + k) := by
  unfold tlV
  rw [if_neg (by omega), if_neg (by omega), if_neg (by omega), show 3 + k - 3 = k by omega]
theorem dg_3 (V : VW) (b : Nat) (h : Int64) : dg (tlV V b) 3 h = 31 * (31 * (31 * h + (V 2 b).toInt64) + (V 3 b).toInt64) + (V 4 b).toInt64 := rfl
theorem told_tl {V : VW} {b w : Int32} (hb : hasB V b) (h0 : 0 ≤ w.toInt) (h1 : w.toInt < 3 + (nwV V b.toNatClampNeg).toInt) : A_told V b w = tlV V b.toNatClampNeg w.toNatClampNeg := by
  have nw := ixn h0
  unfold nwV at h1
  unfold A_told tlV
  rw [if_pos ⟨hb, h0⟩]
  by_cases e0 : w.toInt = 0
  · rw [if_pos (show w.toInt < 3 by omega), if_pos e0, if_pos (show w.toNatClampNeg = 0 by omega)]
  · by_cases e1 : w.toInt = 1
    · rw [if_pos (show w.toInt < 3 by omega), if_neg e0, if_pos e1, if_neg (show ¬ w.toNatClampNeg = 0 by omega), if_pos (show w.toNatClampNeg = 1 by omega)]
    · by_cases e2 : w.toInt = 2
      · rw [if_pos (show w.toInt < 3 by omega), if_neg e0, if_neg e1, if_neg (show ¬ w.toNatClampNeg = 0 by omega), if_neg (show ¬ w.toNatClampNeg = 1 by omega), if_pos (show w.toNatClampNeg = 2 by omega)]
      · rw [if_neg (show ¬ w.toInt < 3 by omega), if_pos (show w.toInt - 3 < (if (V 2 b.toNatClampNeg).toInt = 3 then V 0 0 else V 4 b.toNatClampNeg).toInt by omega), if_neg (show ¬ w.toNatClampNeg = 0 by omega), if_neg (show ¬ w.toNatClampNeg = 1 by omega), if_neg (show ¬ w.toNatClampNeg = 2 by omega), show (w.toInt - 3).toNat = w.toNatClampNeg - 3 by omega]
theorem dg_0 {f : Nat → Int32} {h : Int64} : dg f (0 : Int32).toNatClampNeg h = h := by rw [show (0 : Int32).toNatClampNeg = 0 by decide]; rfl
theorem dg_s {f : Nat → Int32} {h : Int64} {n : Nat} : dg f (n + 1) h = 31 * dg f n h + (f n).toInt64 := rfl
theorem dgO_0 {F : Nat → Int64 → Int64} {h : Int64} : dgO F (0 : Int32).toNatClampNeg h = h := by rw [show (0 : Int32).toNatClampNeg = 0 by decide]; rfl
theorem dgO_s {F : Nat → Int64 → Int64} {h : Int64} {n : Nat} : dgO F (n + 1) h = F n (dgO F n h) := rfl
theorem dg_30 {f : Nat → Int32} {h : Int64} : dg f (3 + (0 : Int32).toNatClampNeg) h = dg f 3 h := by rw [show (0 : Int32).toNatClampNeg = 0 by decide]
