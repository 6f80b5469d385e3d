/-! what the two sides share: a view of the house (component, place), and what each call answers and does to it -/
abbrev VW : Type := Nat → Nat → Int32
/-- the place of a number in a row -/
abbrev ix (x : Int32) : Nat := x.toNatClampNeg
abbrev hasC (V : VW) (c : Int32) : Prop := 0 ≤ c.toInt ∧ c.toInt < (V 0 0).toInt
abbrev hasB (V : VW) (b : Int32) : Prop := 0 ≤ b.toInt ∧ b.toInt < (V 0 1).toInt
abbrev hasX (V : VW) (x : Int32) : Prop := 0 ≤ x.toInt ∧ x.toInt < (V 0 2).toInt
abbrev hasM (V : VW) (m : Int32) : Prop := 0 ≤ m.toInt ∧ m.toInt < (V 0 3).toInt
abbrev bt (a b : Int) (x : Int32) : Prop := a ≤ x.toInt ∧ x.toInt ≤ b
abbrev ofS (s o : Int32) : Prop := s.toInt = o.toInt ∨ o.toInt = 0 ∨ (o.toInt = 1 ∧ s.toInt = 2)
abbrev ofK (k o : Int32) : Prop := k.toInt = o.toInt ∨ (o.toInt = 1 ∧ k.toInt = 2) ∨ (o.toInt = 0 ∧ (k.toInt = 6 ∨ k.toInt = 7)) ∨ (o.toInt = 6 ∧ k.toInt = 7)
def meetsV (V : VW) (f : Int32) : VW := sI (sI V 0 4 f) 14 (f.toNatClampNeg) (V 14 (f.toNatClampNeg) + 1)
def A_stand (V : VW) : Int32 × VW := if (V 0 0).toInt = 10 then (-2, V) else (V 0 0, sI (sI V 1 ((V 0 0).toNatClampNeg) (V 0 0)) 0 0 (V 0 0 + 1))
def A_draw (V : VW) (i j : Int32) : Int32 × VW := if hasC V i ∧ hasC V j then (1, sI (sI V 1 (i.toNatClampNeg) (V 1 (j.toNatClampNeg))) 1 (j.toNatClampNeg) (V 1 (i.toNatClampNeg))) else (-1, V)
def A_drawn (V : VW) (i : Int32) : Int32 := if hasC V i then V 1 (i.toNatClampNeg) else -1
def A_ballot (V : VW) (s p : Int32) : Int32 × VW := if bt 0 3 s ∧ bt 1 100000 p then (if (V 0 1).toInt = 60 then (-2, V) else (V 0 1, sI (sI (sI V 2 ((V 0 1).toNatClampNeg) s) 3 ((V 0 1).toNatClampNeg) p) 0 1 (V 0 1 + 1))) else (-1, V)
/-- the first place from k on, of n, that holds c; -9: none -/
def pF (f : Nat → Int32) (c : Int32) : Nat → Nat → Int32
  | 0, _ => -9
  | n + 1, k => if (f k).toInt = c.toInt then Int32.ofNat k else pF f c n (k + 1)
abbrev mk (V : VW) (b : Nat) : Nat → Int32 := fun k => V 5 (10 * b + k)
abbrev placeV (V : VW) (b c : Int32) : Int32 := pF (mk V (b.toNatClampNeg)) c ((V 4 (b.toNatClampNeg)).toNatClampNeg) 0
def A_rank (V : VW) (b c : Int32) : Int32 × VW := if hasB V b ∧ hasC V c then (if ofS (V 2 (b.toNatClampNeg)) 1 then (if (placeV V b c).toInt ≠ -9 ∨ ((V 2 (b.toNatClampNeg)).toInt = 2 ∧ (V 4 (b.toNatClampNeg)).toInt = 1) then (-4, V) else (V 4 (b.toNatClampNeg) + 1, sI (sI V 5 (10 * b.toNatClampNeg + (V 4 (b.toNatClampNeg)).toNatClampNeg) c) 4 (b.toNatClampNeg) (V 4 (b.toNatClampNeg) + 1))) else (-3, meetsV V 3)) else (-1, V)
def A_score (V : VW) (b c p : Int32) : Int32 × VW := if hasB V b ∧ hasC V c ∧ bt 0 9 p then (if (V 2 (b.toNatClampNeg)).toInt = 3 then (V 5 (10 * b.toNatClampNeg + c.toNatClampNeg), sI V 5 (10 * b.toNatClampNeg + c.toNatClampNeg) p) else (-3, meetsV V 3)) else (-1, V)
def A_told (V : VW) (b w : Int32) : Int32 := if hasB V b ∧ 0 ≤ w.toInt then (if w.toInt < 3 then (if w.toInt = 0 then V 2 (b.toNatClampNeg) else if w.toInt = 1 then V 3 (b.toNatClampNeg) else V 4 (b.toNatClampNeg)) else if w.toInt - 3 < (if (V 2 (b.toNatClampNeg)).toInt = 3 then V 0 0 else V 4 (b.toNatClampNeg)).toInt then V 5 (10 * b.toNatClampNeg + (w.toInt - 3).toNat) else -9) else -1
def A_is (V : VW) (b s : Int32) : Int32 := if hasB V b ∧ bt 0 3 s then (if ofS (V 2 (b.toNatClampNeg)) s then 1 else 0) else -1
def A_box (V : VW) (s n : Int32) : Int32 × VW := if bt 0 3 s ∧ n.toInt ≤ 40 then (if (V 0 2).toInt = 8 then (-2, V) else if n.toInt < 0 then (-3, meetsV V 5) else (V 0 2, sI (sI (sI V 6 ((V 0 2).toNatClampNeg) s) 7 ((V 0 2).toNatClampNeg) n) 0 2 (V 0 2 + 1))) else (-1, V)
def A_put (V : VW) (x i b : Int32) : Int32 × VW := if hasX V x ∧ (b.toInt = -9 ∨ hasB V b) then (if 0 ≤ i.toInt ∧ i.toInt < (V 7 (x.toNatClampNeg)).toInt then (if b.toInt ≠ -9 ∧ ¬ ofS (V 2 (b.toNatClampNeg)) (V 6 (x.toNatClampNeg)) then (-3, meetsV V 6) else (1, sI V 8 (40 * x.toNatClampNeg + i.toNatClampNeg) b)) else (-3, meetsV V 2)) else (-1, V)
def pourV (V : VW) (a b n : Nat) : VW := fun k i => if k = 8 ∧ b ≤ i ∧ i < b + n then V 8 (a + (i - b)) else V k i
def A_pour (V : VW) (x i y j n : Int32) : Int32 × VW := if hasX V x ∧ hasX V y then (if (V 6 (x.toNatClampNeg)).toInt = (V 6 (y.toNatClampNeg)).toInt then (if 0 ≤ i.toInt ∧ 0 ≤ j.toInt ∧ 0 ≤ n.toInt ∧ i.toInt + n.toInt ≤ (V 7 (x.toNatClampNeg)).toInt ∧ j.toInt + n.toInt ≤ (V 7 (y.toNatClampNeg)).toInt then (1, pourV V (40 * x.toNatClampNeg + i.toNatClampNeg) (40 * y.toNatClampNeg + j.toNatClampNeg) (n.toNatClampNeg)) else (-3, meetsV V 2)) else (-3, meetsV V 6)) else (-1, V)
def lacksV (V : VW) (x i : Int32) : Int32 := if 0 ≤ i.toInt ∧ i.toInt < (V 7 (x.toNatClampNeg)).toInt then (if (V 8 (40 * x.toNatClampNeg + i.toNatClampNeg)).toInt = -9 then 1 else 0) else 2
def A_at (V : VW) (x i : Int32) : Int32 × VW := if hasX V x then (if (lacksV V x i).toInt = 0 then (V 8 (40 * x.toNatClampNeg + i.toNatClampNeg), V) else (-3, meetsV V (lacksV V x i))) else (-1, V)
def sumP (V : VW) (x : Nat) : Nat → Int32
  | 0 => 0
  | n + 1 => sumP V x n + (if (V 8 (40 * x + n)).toInt = -9 then 0 else V 3 ((V 8 (40 * x + n)).toNatClampNeg))
def A_share (V : VW) (x i : Int32) : Int32 × VW := if hasX V x then (if (lacksV V x i).toInt = 0 then (1000 * V 3 ((V 8 (40 * x.toNatClampNeg + i.toNatClampNeg)).toNatClampNeg) / sumP V (x.toNatClampNeg) ((V 7 (x.toNatClampNeg)).toNatClampNeg), V) else (-3, meetsV V (lacksV V x i))) else (-1, V)
def sumM (V : VW) (b : Nat) : Nat → Int32
  | 0 => 0
  | n + 1 => sumM V b n + V 5 (10 * b + n)
def A_weight (V : VW) (b c : Int32) : Int32 × VW := if hasB V b ∧ hasC V c then (if (V 2 (b.toNatClampNeg)).toInt = 3 then (if (sumM V (b.toNatClampNeg) ((V 0 0).toNatClampNeg)).toInt = 0 then (-3, meetsV V 4) else (1000 * V 5 (10 * b.toNatClampNeg + c.toNatClampNeg) / sumM V (b.toNatClampNeg) ((V 0 0).toNatClampNeg), V)) else (-3, meetsV V 3)) else (-1, V)
def A_method (V : VW) (k r m n : Int32) : Int32 × VW := if bt 0 8 k ∧ bt 0 255 m ∧ (n.toInt = -9 ∨ hasM V n) then (if (V 0 3).toInt = 20 then (-2, V) else (V 0 3, sI (sI (sI (sI (sI V 9 ((V 0 3).toNatClampNeg) k) 10 ((V 0 3).toNatClampNeg) r) 11 ((V 0 3).toNatClampNeg) m) 12 ((V 0 3).toNatClampNeg) n) 0 3 (V 0 3 + 1))) else (-1, V)
def A_methodOf (V : VW) (m w : Int32) : Int32 := if hasM V m ∧ bt 0 3 w then (if w.toInt = 0 then V 9 (m.toNatClampNeg) else if w.toInt = 1 then V 13 (m.toNatClampNeg) else if w.toInt = 2 then (if (V 13 (m.toNatClampNeg)).toInt = 0 then 0 else 1) else V 12 (m.toNatClampNeg)) else -1
def A_under (V : VW) (m k : Int32) : Int32 := if hasM V m ∧ bt 0 8 k then (if ofK (V 9 (m.toNatClampNeg)) k then 1 else 0) else -1
/-- the begun ones behind the start of m -/
def stB (V : VW) : Nat → Int32 → (Nat → Int32) → (Nat → Int32)
  | 0, _, B => B
  | f + 1, m, B => if m.toInt = -9 ∨ (B (m.toNatClampNeg)).toInt ≠ 0 then B else upd (stB V f (V 12 (m.toNatClampNeg)) B) (m.toNatClampNeg) (if ((V 12 (m.toNatClampNeg)).toInt ≠ -9 ∧ (stB V f (V 12 (m.toNatClampNeg)) B ((V 12 (m.toNatClampNeg)).toNatClampNeg)).toInt = 2) ∨ (V 9 (m.toNatClampNeg)).toInt = 8 then 2 else 1)
def startV (V : VW) (m : Int32) : VW := fun k => if k = 13 then stB V 20 m (V 13) else V k
def A_start (V : VW) (m : Int32) : Int32 × VW := if hasM V m then (startV V m 13 (m.toNatClampNeg), startV V m) else (-1, V)
/-- the best one with the mark that has not failed, of the first n -/
def bestF (V : VW) (B : Nat → Int32) (mark : Int32) : Nat → Int32
  | 0 => -9
  | n + 1 => if ((V 11 n >>> (mark &&& 31)) &&& 1).toInt = 1 ∧ (B n).toInt ≠ 2 ∧ ((bestF V B mark n).toInt = -9 ∨ (V 10 ((bestF V B mark n).toNatClampNeg)).toInt < (V 10 n).toInt) then Int32.ofNat n else bestF V B mark n
def findF (V : VW) (mark : Int32) : Nat → (Nat → Int32) → Int32 × (Nat → Int32)
  | 0, B => (-9, B)
  | f + 1, B => if (bestF V B mark ((V 0 3).toNatClampNeg)).toInt = -9 then (-9, B) else if (stB V 20 (bestF V B mark ((V 0 3).toNatClampNeg)) B ((bestF V B mark ((V 0 3).toNatClampNeg)).toNatClampNeg)).toInt = 1 then (bestF V B mark ((V 0 3).toNatClampNeg), stB V 20 (bestF V B mark ((V 0 3).toNatClampNeg)) B) else findF V mark f (stB V 20 (bestF V B mark ((V 0 3).toNatClampNeg)) B)
def A_find (V : VW) (mark : Int32) : Int32 × VW := if bt 0 7 mark then ((findF V mark ((V 0 3).toNatClampNeg) (V 13)).1, fun k => if k = 13 then (findF V mark ((V 0 3).toNatClampNeg) (V 13)).2 else V k) else (-1, V)
/-- the first place of a box whose ballot is not of the sort, from k on, of n -/
def unF (V : VW) (x : Nat) (s : Int32) : Nat → Nat → Int32
  | 0, _ => -9
  | n + 1, k => if (V 8 (40 * x + k)).toInt ≠ -9 ∧ ¬ ofS (V 2 ((V 8 (40 * x + k)).toNatClampNeg)) s then Int32.ofNat k else unF V x s n (k + 1)
abbrev unV (V : VW) (x k : Int32) : Int32 := unF V (x.toNatClampNeg) (if k.toInt = 1 then 3 else 1) ((V 7 (x.toNatClampNeg)).toNatClampNeg) 0
abbrev seatsOk (V : VW) (k n : Int32) : Prop := bt 1 30 n ∧ (V 0 0).toInt ≠ 0 ∧ (n.toInt ≤ (V 0 0).toInt ∨ k.toInt = 6 ∨ k.toInt = 7)
/-- count without its counting: 0 says that it counts -/
def A_count (V : VW) (m x n : Int32) : Int32 × VW := if hasM V m ∧ hasX V x ∧ seatsOk V (V 9 (m.toNatClampNeg)) n then (if (startV V m 13 (m.toNatClampNeg)).toInt = 1 then (if (unV V x (V 9 (m.toNatClampNeg))).toInt = -9 then (0, sI (startV V m) 0 5 (-9)) else (-3, meetsV (sI (startV V m) 0 5 (unV V x (V 9 (m.toNatClampNeg)))) 3)) else (-4, sI (startV V m) 0 5 (-9))) else (-1, sI V 0 5 (-9))
def A_findings (V : VW) (f : Int32) : Int32 := if bt 1 6 f then V 14 (f.toNatClampNeg) else -1
def A_many (V : VW) (s x : Int32) : Int32 := if x.toInt = 0 then V 0 0 else if x.toInt = 1 then V 0 1 else if x.toInt = 2 then V 0 2 else if x.toInt = 3 then V 0 3 else if x.toInt = 4 then s else -1
def A_seat (n : Int32) (f : Nat → Int32) (x : Int32) : Int32 := if 0 ≤ x.toInt ∧ x.toInt < n.toInt then f (x.toNatClampNeg) else -9
def A_round (n : Int32) (f g : Nat → Int32) (x w : Int32) : Int32 := if bt 0 1 w then (if 0 ≤ x.toInt ∧ x.toInt < n.toInt then (if w.toInt = 0 then f (x.toNatClampNeg) else g (x.toNatClampNeg)) else -9) else -1
def A_tally (V : VW) (n : Int32) (f g : Nat → Int64) (x c w : Int32) : Int64 := if hasC V c then (if 0 ≤ x.toInt ∧ x.toInt < n.toInt then (if w.toInt = 0 then f (10 * x.toNatClampNeg + c.toNatClampNeg) else g (10 * x.toNatClampNeg + c.toNatClampNeg)) else -9) else -1
