abbrev MI : Type := Nat → Nat → Int32
abbrev ML : Type := Nat → Nat → Int64
abbrev w_cl : List vw_C := [(RX0, TX0, 5), (RX1, TX1, 5), (RX2, TX2, 2), (RX3, TX3, 2), (RX4, TX4, 7), (RX5, TX5, 3), (RX6, TX6, 8), (RX7, TX7, 7), (RX8, TX8, 5), (RX9, TX9, 4), (RX10, TX10, 13), (RX11, TX11, 53)]
abbrev w_ty (cs : Nat → ClassId) : List (ClassId × FieldType) := [(cs 0, .int), (cs 1, .long), (cs 2, .boolean), (cs 3, .array .int), (cs 4, .array .long)]
abbrev Bd : Type := (Nat → Int32) → (Nat → Int64) → va_E
abbrev aI (cs : Nat → ClassId) (n : Nat) : Bd := fun f _ => .inl (cs 0, n, .inl f)
abbrev aJ (cs : Nat → ClassId) (n : Nat) : Bd := fun _ g => .inl (cs 1, n, .inr (.inl g))
abbrev aZ (cs : Nat → ClassId) (n : Nat) : Bd := fun f _ => .inl (cs 2, n, .inl f)
abbrev aG (ad : Nat → Nat) (cs : Nat → ClassId) (t n b : Nat) : Bd := fun _ _ => .inl (cs t, n, .inr (.inr (.inr (.inr (fun i => if i < n then some (ad (b + i)) else none)))))
def tb0 (ad : Nat → Nat) (cs : Nat → ClassId) : List Bd := [(fun f g => .inr (10, [.ref (ad 1), .ref (ad 3), .ref (ad 68), .ref (ad 81), .ref (ad 88), .ref (ad 93), .ref (ad 96), .ref (ad 120), .ref (ad (f 8).toNatClampNeg), .ref (ad (f 9).toNatClampNeg), .int (f 10), .int (f 11), .ref (ad 257)])),
  (fun f g => .inr (2, [.int (f 0), .ref (ad 2)])),
  aI cs 10,
  (fun f g => .inr (0, [.int (f 0), .ref (ad 4), .ref (ad 5), .ref (ad 6), .ref (ad 7)])),
  aI cs 60,
  aI cs 60,
  aI cs 60,
  aG ad cs 3 60 8]
def tb1 (ad : Nat → Nat) (cs : Nat → ClassId) : List Bd := List.replicate 60 (aI cs 10)
def tb2 (ad : Nat → Nat) (cs : Nat → ClassId) : List Bd := [(fun f g => .inr (1, [.int (f 0), .ref (ad 69), .ref (ad 70), .ref (ad 71), .ref (ad 72)])),
  aI cs 8,
  aI cs 8,
  aG ad cs 3 8 73,
  aI cs 40]
def tb3 (ad : Nat → Nat) (cs : Nat → ClassId) : List Bd := List.replicate 8 (aI cs 40)
def tb4 (ad : Nat → Nat) (cs : Nat → ClassId) : List Bd := [(fun f g => .inr (4, [.int (f 0), .ref (ad 82), .ref (ad 83), .ref (ad 84), .ref (ad 85), .ref (ad 86), .ref (ad 87)])),
  aI cs 20,
  aI cs 20,
  aI cs 20,
  aI cs 20,
  aI cs 20,
  aI cs 20,
  (fun f g => .inr (6, [.ref (ad 1), .ref (ad 3), .ref (ad 89), .int (f 3), .int (f 4), .ref (ad 90), .ref (ad 91), .ref (ad 92)])),
  aI cs 40,
  aZ cs 10,
  aJ cs 10,
  aJ cs 10,
  (fun f g => .inr (5, [.ref (ad 88), .ref (ad 94), .ref (ad 95)])),
  aI cs 10,
  aI cs 10,
  (fun f g => .inr (9, [.ref (ad 88), .ref (ad 97), .ref (ad 98), .ref (ad 99)])),
  aI cs 10,
  aG ad cs 3 10 100,
  aG ad cs 3 10 110]
def tb5 (ad : Nat → Nat) (cs : Nat → ClassId) : List Bd := List.replicate 10 (aI cs 10)
def tb6 (ad : Nat → Nat) (cs : Nat → ClassId) : List Bd := List.replicate 10 (aI cs 10)
def tb7 (ad : Nat → Nat) (cs : Nat → ClassId) : List Bd := [(fun f g => .inr (8, [.ref (ad 88), .ref (ad 121), .ref (ad 122), .ref (ad 123), .ref (ad 124)])),
  aJ cs 40,
  aJ cs 40,
  aI cs 40,
  (fun f g => .inr (3, [.long (g 0), .long (g 1)])),
  (fun f g => .inr (7, [.int (f 0), .ref (ad 126), .int (f 2), .ref (ad 127), .ref (ad 128), .ref (ad 129), .ref (ad 130)])),
  aI cs 30,
  aI cs 30,
  aI cs 30,
  aG ad cs 4 30 131,
  aG ad cs 4 30 161]
def tb8 (ad : Nat → Nat) (cs : Nat → ClassId) : List Bd := List.replicate 30 (aJ cs 10)
def tb9 (ad : Nat → Nat) (cs : Nat → ClassId) : List Bd := List.replicate 30 (aJ cs 10)
def tb10 (ad : Nat → Nat) (cs : Nat → ClassId) : List Bd := [(fun f g => .inr (7, [.int (f 0), .ref (ad 192), .int (f 2), .ref (ad 193), .ref (ad 194), .ref (ad 195), .ref (ad 196)])),
  aI cs 30,
  aI cs 30,
  aI cs 30,
  aG ad cs 4 30 197,
  aG ad cs 4 30 227]
def tb11 (ad : Nat → Nat) (cs : Nat → ClassId) : List Bd := List.replicate 30 (aJ cs 10)
def tb12 (ad : Nat → Nat) (cs : Nat → ClassId) : List Bd := List.replicate 30 (aJ cs 10)
def tb13 (ad : Nat → Nat) (cs : Nat → ClassId) : List Bd := [aI cs 7,
  (fun f g => .inr (11, [.int (f 0), .ref (ad 259), .int (f 2), .ref (ad 260), .int (f 4), .ref (ad 261), .ref (ad 262), .ref (ad 263), .ref (ad 264), .int (f 9), .ref (ad 265), .ref (ad 266), .ref (ad 267), .ref (ad 268), .int (f 14), .ref (ad 269), .ref (ad 270), .ref (ad 271), .ref (ad 272), .ref (ad 273), .ref (ad 274), .ref (ad 275), .ref (ad 276), .long (g 23), .long (g 24), .int (f 25), .int (f 26), .int (f 27), .int (f 28), .int (f 29), .ref (ad 277), .int (f 31), .ref (ad 278), .ref (ad 279), .ref (ad 280), .ref (ad 281), .ref (ad 282), .ref (ad 283), .ref (ad 284), .ref (ad 285), .ref (ad 286), .ref (ad 287), .int (f 42), .ref (ad 288), .int (f 44), .ref (ad 289), .ref (ad 290), .ref (ad 291), .ref (ad 292), .ref (ad 293), .ref (ad 294), .ref (ad 295), .ref (ad 296)])),
  aI cs 7,
  aI cs 10,
  aI cs 60,
  aI cs 60,
  aI cs 60,
  aI cs 600,
  aI cs 8,
  aI cs 8,
  aI cs 320,
  aI cs 40,
  aI cs 20,
  aI cs 20,
  aI cs 20,
  aI cs 20,
  aI cs 20,
  aI cs 20,
  aI cs 20,
  aZ cs 20,
  aI cs 30,
  aI cs 40,
  aI cs 40,
  aJ cs 400,
  aJ cs 400,
  aZ cs 10,
  aZ cs 10,
  aJ cs 10,
  aJ cs 10,
  aJ cs 40,
  aJ cs 40,
  aI cs 30,
  aI cs 40,
  aI cs 40,
  aJ cs 400,
  aJ cs 400,
  aI cs 10,
  aI cs 10,
  aJ cs 100,
  aJ cs 100]
def tab (ad : Nat → Nat) (cs : Nat → ClassId) : List Bd := tb0 ad cs ++ (tb1 ad cs ++ (tb2 ad cs ++ (tb3 ad cs ++ (tb4 ad cs ++ (tb5 ad cs ++ (tb6 ad cs ++ (tb7 ad cs ++ (tb8 ad cs ++ (tb9 ad cs ++ (tb10 ad cs ++ (tb11 ad cs ++ (tb12 ad cs ++ (tb13 ad cs)))))))))))))
def ce (ad : Nat → Nat) (cs : Nat → ClassId) (k : Nat) (f : Nat → Int32) (g : Nat → Int64) : va_E := match (tab ad cs)[k]? with
  | some b => b f g
  | none => .inl (cs 0, 0, .inl f)
def wl (ad : Nat → Nat) (cs : Nat → ClassId) (M : MI) (L : ML) : va_W := (List.range 297).map (fun k => (ad k, ce ad cs k (M k) (L k)))
theorem ce_house (ad : Nat → Nat) (cs : Nat → ClassId) (f : Nat → Int32) (g : Nat → Int64) : ce ad cs 0 f g = .inr (10, [.ref (ad 1), .ref (ad 3), .ref (ad 68), .ref (ad 81), .ref (ad 88), .ref (ad 93), .ref (ad 96), .ref (ad 120), .ref (ad (f 8).toNatClampNeg), .ref (ad (f 9).toNatClampNeg), .int (f 10), .int (f 11), .ref (ad 257)]) := rfl
theorem ce_cand (ad : Nat → Nat) (cs : Nat → ClassId) (f : Nat → Int32) (g : Nat → Int64) : ce ad cs 1 f g = .inr (2, [.int (f 0), .ref (ad 2)]) := rfl
theorem ce_crow (ad : Nat → Nat) (cs : Nat → ClassId) (f : Nat → Int32) (g : Nat → Int64) : ce ad cs 2 f g = .inl (cs 0, 10, .inl f) := rfl
theorem ce_ball (ad : Nat → Nat) (cs : Nat → ClassId) (f : Nat → Int32) (g : Nat → Int64) : ce ad cs 3 f g = .inr (0, [.int (f 0), .ref (ad 4), .ref (ad 5), .ref (ad 6), .ref (ad 7)]) := rfl
theorem ce_bsort (ad : Nat → Nat) (cs : Nat → ClassId) (f : Nat → Int32) (g : Nat → Int64) : ce ad cs 4 f g = .inl (cs 0, 60, .inl f) := rfl
theorem ce_bpapers (ad : Nat → Nat) (cs : Nat → ClassId) (f : Nat → Int32) (g : Nat → Int64) : ce ad cs 5 f g = .inl (cs 0, 60, .inl f) := rfl
theorem ce_bonit (ad : Nat → Nat) (cs : Nat → ClassId) (f : Nat → Int32) (g : Nat → Int64) : ce ad cs 6 f g = .inl (cs 0, 60, .inl f) := rfl
theorem ce_browm (ad : Nat → Nat) (cs : Nat → ClassId) (f : Nat → Int32) (g : Nat → Int64) : ce ad cs 7 f g = .inl (cs 3, 60, .inr (.inr (.inr (.inr (fun i => if i < 60 then some (ad (8 + i)) else none))))) := rfl
theorem ce_box (ad : Nat → Nat) (cs : Nat → ClassId) (f : Nat → Int32) (g : Nat → Int64) : ce ad cs 68 f g = .inr (1, [.int (f 0), .ref (ad 69), .ref (ad 70), .ref (ad 71), .ref (ad 72)]) := rfl
theorem ce_xsort (ad : Nat → Nat) (cs : Nat → ClassId) (f : Nat → Int32) (g : Nat → Int64) : ce ad cs 69 f g = .inl (cs 0, 8, .inl f) := rfl
theorem ce_xsize (ad : Nat → Nat) (cs : Nat → ClassId) (f : Nat → Int32) (g : Nat → Int64) : ce ad cs 70 f g = .inl (cs 0, 8, .inl f) := rfl
theorem ce_xplacem (ad : Nat → Nat) (cs : Nat → ClassId) (f : Nat → Int32) (g : Nat → Int64) : ce ad cs 71 f g = .inl (cs 3, 8, .inr (.inr (.inr (.inr (fun i => if i < 8 then some (ad (73 + i)) else none))))) := rfl
theorem ce_xtaken (ad : Nat → Nat) (cs : Nat → ClassId) (f : Nat → Int32) (g : Nat → Int64) : ce ad cs 72 f g = .inl (cs 0, 40, .inl f) := rfl
theorem ce_meth (ad : Nat → Nat) (cs : Nat → ClassId) (f : Nat → Int32) (g : Nat → Int64) : ce ad cs 81 f g = .inr (4, [.int (f 0), .ref (ad 82), .ref (ad 83), .ref (ad 84), .ref (ad 85), .ref (ad 86), .ref (ad 87)]) := rfl
theorem ce_mkind (ad : Nat → Nat) (cs : Nat → ClassId) (f : Nat → Int32) (g : Nat → Int64) : ce ad cs 82 f g = .inl (cs 0, 20, .inl f) := rfl
theorem ce_mbegun (ad : Nat → Nat) (cs : Nat → ClassId) (f : Nat → Int32) (g : Nat → Int64) : ce ad cs 83 f g = .inl (cs 0, 20, .inl f) := rfl
theorem ce_mneed (ad : Nat → Nat) (cs : Nat → ClassId) (f : Nat → Int32) (g : Nat → Int64) : ce ad cs 84 f g = .inl (cs 0, 20, .inl f) := rfl
theorem ce_mrank (ad : Nat → Nat) (cs : Nat → ClassId) (f : Nat → Int32) (g : Nat → Int64) : ce ad cs 85 f g = .inl (cs 0, 20, .inl f) := rfl
theorem ce_mmarks (ad : Nat → Nat) (cs : Nat → ClassId) (f : Nat → Int32) (g : Nat → Int64) : ce ad cs 86 f g = .inl (cs 0, 20, .inl f) := rfl
theorem ce_mchain (ad : Nat → Nat) (cs : Nat → ClassId) (f : Nat → Int32) (g : Nat → Int64) : ce ad cs 87 f g = .inl (cs 0, 20, .inl f) := rfl
theorem ce_poll (ad : Nat → Nat) (cs : Nat → ClassId) (f : Nat → Int32) (g : Nat → Int64) : ce ad cs 88 f g = .inr (6, [.ref (ad 1), .ref (ad 3), .ref (ad 89), .int (f 3), .int (f 4), .ref (ad 90), .ref (ad 91), .ref (ad 92)]) := rfl
theorem ce_plying (ad : Nat → Nat) (cs : Nat → ClassId) (f : Nat → Int32) (g : Nat → Int64) : ce ad cs 89 f g = .inl (cs 0, 40, .inl f) := rfl
theorem ce_pin (ad : Nat → Nat) (cs : Nat → ClassId) (f : Nat → Int32) (g : Nat → Int64) : ce ad cs 90 f g = .inl (cs 2, 10, .inl f) := rfl
theorem ce_pupper (ad : Nat → Nat) (cs : Nat → ClassId) (f : Nat → Int32) (g : Nat → Int64) : ce ad cs 91 f g = .inl (cs 1, 10, .inr (.inl g)) := rfl
theorem ce_plower (ad : Nat → Nat) (cs : Nat → ClassId) (f : Nat → Int32) (g : Nat → Int64) : ce ad cs 92 f g = .inl (cs 1, 10, .inr (.inl g)) := rfl
theorem ce_plain (ad : Nat → Nat) (cs : Nat → ClassId) (f : Nat → Int32) (g : Nat → Int64) : ce ad cs 93 f g = .inr (5, [.ref (ad 88), .ref (ad 94), .ref (ad 95)]) := rfl
theorem ce_lseats (ad : Nat → Nat) (cs : Nat → ClassId) (f : Nat → Int32) (g : Nat → Int64) : ce ad cs 94 f g = .inl (cs 0, 10, .inl f) := rfl
theorem ce_louts (ad : Nat → Nat) (cs : Nat → ClassId) (f : Nat → Int32) (g : Nat → Int64) : ce ad cs 95 f g = .inl (cs 0, 10, .inl f) := rfl
theorem ce_ways (ad : Nat → Nat) (cs : Nat → ClassId) (f : Nat → Int32) (g : Nat → Int64) : ce ad cs 96 f g = .inr (9, [.ref (ad 88), .ref (ad 97), .ref (ad 98), .ref (ad 99)]) := rfl
theorem ce_wplaces (ad : Nat → Nat) (cs : Nat → ClassId) (f : Nat → Int32) (g : Nat → Int64) : ce ad cs 97 f g = .inl (cs 0, 10, .inl f) := rfl
theorem ce_waheadm (ad : Nat → Nat) (cs : Nat → ClassId) (f : Nat → Int32) (g : Nat → Int64) : ce ad cs 98 f g = .inl (cs 3, 10, .inr (.inr (.inr (.inr (fun i => if i < 10 then some (ad (100 + i)) else none))))) := rfl
theorem ce_wwaym (ad : Nat → Nat) (cs : Nat → ClassId) (f : Nat → Int32) (g : Nat → Int64) : ce ad cs 99 f g = .inl (cs 3, 10, .inr (.inr (.inr (.inr (fun i => if i < 10 then some (ad (110 + i)) else none))))) := rfl
theorem ce_trans (ad : Nat → Nat) (cs : Nat → ClassId) (f : Nat → Int32) (g : Nat → Int64) : ce ad cs 120 f g = .inr (8, [.ref (ad 88), .ref (ad 121), .ref (ad 122), .ref (ad 123), .ref (ad 124)]) := rfl
theorem ce_tup (ad : Nat → Nat) (cs : Nat → ClassId) (f : Nat → Int32) (g : Nat → Int64) : ce ad cs 121 f g = .inl (cs 1, 40, .inr (.inl g)) := rfl
theorem ce_tlow (ad : Nat → Nat) (cs : Nat → ClassId) (f : Nat → Int32) (g : Nat → Int64) : ce ad cs 122 f g = .inl (cs 1, 40, .inr (.inl g)) := rfl
theorem ce_towner (ad : Nat → Nat) (cs : Nat → ClassId) (f : Nat → Int32) (g : Nat → Int64) : ce ad cs 123 f g = .inl (cs 0, 40, .inl f) := rfl
theorem ce_frac (ad : Nat → Nat) (cs : Nat → ClassId) (f : Nat → Int32) (g : Nat → Int64) : ce ad cs 124 f g = .inr (3, [.long (g 0), .long (g 1)]) := rfl
theorem ce_ra (ad : Nat → Nat) (cs : Nat → ClassId) (f : Nat → Int32) (g : Nat → Int64) : ce ad cs 125 f g = .inr (7, [.int (f 0), .ref (ad 126), .int (f 2), .ref (ad 127), .ref (ad 128), .ref (ad 129), .ref (ad 130)]) := rfl
theorem ce_raseated (ad : Nat → Nat) (cs : Nat → ClassId) (f : Nat → Int32) (g : Nat → Int64) : ce ad cs 126 f g = .inl (cs 0, 30, .inl f) := rfl
theorem ce_rahap (ad : Nat → Nat) (cs : Nat → ClassId) (f : Nat → Int32) (g : Nat → Int64) : ce ad cs 127 f g = .inl (cs 0, 30, .inl f) := rfl
theorem ce_rawhom (ad : Nat → Nat) (cs : Nat → ClassId) (f : Nat → Int32) (g : Nat → Int64) : ce ad cs 128 f g = .inl (cs 0, 30, .inl f) := rfl
theorem ce_raupm (ad : Nat → Nat) (cs : Nat → ClassId) (f : Nat → Int32) (g : Nat → Int64) : ce ad cs 129 f g = .inl (cs 4, 30, .inr (.inr (.inr (.inr (fun i => if i < 30 then some (ad (131 + i)) else none))))) := rfl
theorem ce_ralowm (ad : Nat → Nat) (cs : Nat → ClassId) (f : Nat → Int32) (g : Nat → Int64) : ce ad cs 130 f g = .inl (cs 4, 30, .inr (.inr (.inr (.inr (fun i => if i < 30 then some (ad (161 + i)) else none))))) := rfl
theorem ce_rb (ad : Nat → Nat) (cs : Nat → ClassId) (f : Nat → Int32) (g : Nat → Int64) : ce ad cs 191 f g = .inr (7, [.int (f 0), .ref (ad 192), .int (f 2), .ref (ad 193), .ref (ad 194), .ref (ad 195), .ref (ad 196)]) := rfl
theorem ce_rbseated (ad : Nat → Nat) (cs : Nat → ClassId) (f : Nat → Int32) (g : Nat → Int64) : ce ad cs 192 f g = .inl (cs 0, 30, .inl f) := rfl
theorem ce_rbhap (ad : Nat → Nat) (cs : Nat → ClassId) (f : Nat → Int32) (g : Nat → Int64) : ce ad cs 193 f g = .inl (cs 0, 30, .inl f) := rfl
theorem ce_rbwhom (ad : Nat → Nat) (cs : Nat → ClassId) (f : Nat → Int32) (g : Nat → Int64) : ce ad cs 194 f g = .inl (cs 0, 30, .inl f) := rfl
theorem ce_rbupm (ad : Nat → Nat) (cs : Nat → ClassId) (f : Nat → Int32) (g : Nat → Int64) : ce ad cs 195 f g = .inl (cs 4, 30, .inr (.inr (.inr (.inr (fun i => if i < 30 then some (ad (197 + i)) else none))))) := rfl
theorem ce_rblowm (ad : Nat → Nat) (cs : Nat → ClassId) (f : Nat → Int32) (g : Nat → Int64) : ce ad cs 196 f g = .inl (cs 4, 30, .inr (.inr (.inr (.inr (fun i => if i < 30 then some (ad (227 + i)) else none))))) := rfl
theorem ce_times (ad : Nat → Nat) (cs : Nat → ClassId) (f : Nat → Int32) (g : Nat → Int64) : ce ad cs 257 f g = .inl (cs 0, 7, .inl f) := rfl
theorem ce_model (ad : Nat → Nat) (cs : Nat → ClassId) (f : Nat → Int32) (g : Nat → Int64) : ce ad cs 258 f g = .inr (11, [.int (f 0), .ref (ad 259), .int (f 2), .ref (ad 260), .int (f 4), .ref (ad 261), .ref (ad 262), .ref (ad 263), .ref (ad 264), .int (f 9), .ref (ad 265), .ref (ad 266), .ref (ad 267), .ref (ad 268), .int (f 14), .ref (ad 269), .ref (ad 270), .ref (ad 271), .ref (ad 272), .ref (ad 273), .ref (ad 274), .ref (ad 275), .ref (ad 276), .long (g 23), .long (g 24), .int (f 25), .int (f 26), .int (f 27), .int (f 28), .int (f 29), .ref (ad 277), .int (f 31), .ref (ad 278), .ref (ad 279), .ref (ad 280), .ref (ad 281), .ref (ad 282), .ref (ad 283), .ref (ad 284), .ref (ad 285), .ref (ad 286), .ref (ad 287), .int (f 42), .ref (ad 288), .int (f 44), .ref (ad 289), .ref (ad 290), .ref (ad 291), .ref (ad 292), .ref (ad 293), .ref (ad 294), .ref (ad 295), .ref (ad 296)]) := rfl
theorem ce_m_came (ad : Nat → Nat) (cs : Nat → ClassId) (f : Nat → Int32) (g : Nat → Int64) : ce ad cs 259 f g = .inl (cs 0, 7, .inl f) := rfl
theorem ce_m_draw (ad : Nat → Nat) (cs : Nat → ClassId) (f : Nat → Int32) (g : Nat → Int64) : ce ad cs 260 f g = .inl (cs 0, 10, .inl f) := rfl
theorem ce_m_sortOf (ad : Nat → Nat) (cs : Nat → ClassId) (f : Nat → Int32) (g : Nat → Int64) : ce ad cs 261 f g = .inl (cs 0, 60, .inl f) := rfl
theorem ce_m_papersOf (ad : Nat → Nat) (cs : Nat → ClassId) (f : Nat → Int32) (g : Nat → Int64) : ce ad cs 262 f g = .inl (cs 0, 60, .inl f) := rfl
theorem ce_m_onIt (ad : Nat → Nat) (cs : Nat → ClassId) (f : Nat → Int32) (g : Nat → Int64) : ce ad cs 263 f g = .inl (cs 0, 60, .inl f) := rfl
theorem ce_m_marks (ad : Nat → Nat) (cs : Nat → ClassId) (f : Nat → Int32) (g : Nat → Int64) : ce ad cs 264 f g = .inl (cs 0, 600, .inl f) := rfl
theorem ce_m_boxSort (ad : Nat → Nat) (cs : Nat → ClassId) (f : Nat → Int32) (g : Nat → Int64) : ce ad cs 265 f g = .inl (cs 0, 8, .inl f) := rfl
theorem ce_m_boxSize (ad : Nat → Nat) (cs : Nat → ClassId) (f : Nat → Int32) (g : Nat → Int64) : ce ad cs 266 f g = .inl (cs 0, 8, .inl f) := rfl
theorem ce_m_boxed (ad : Nat → Nat) (cs : Nat → ClassId) (f : Nat → Int32) (g : Nat → Int64) : ce ad cs 267 f g = .inl (cs 0, 320, .inl f) := rfl
theorem ce_m_poured (ad : Nat → Nat) (cs : Nat → ClassId) (f : Nat → Int32) (g : Nat → Int64) : ce ad cs 268 f g = .inl (cs 0, 40, .inl f) := rfl
theorem ce_m_kindOf (ad : Nat → Nat) (cs : Nat → ClassId) (f : Nat → Int32) (g : Nat → Int64) : ce ad cs 269 f g = .inl (cs 0, 20, .inl f) := rfl
theorem ce_m_rankOf (ad : Nat → Nat) (cs : Nat → ClassId) (f : Nat → Int32) (g : Nat → Int64) : ce ad cs 270 f g = .inl (cs 0, 20, .inl f) := rfl
theorem ce_m_marksOf (ad : Nat → Nat) (cs : Nat → ClassId) (f : Nat → Int32) (g : Nat → Int64) : ce ad cs 271 f g = .inl (cs 0, 20, .inl f) := rfl
theorem ce_m_needOf (ad : Nat → Nat) (cs : Nat → ClassId) (f : Nat → Int32) (g : Nat → Int64) : ce ad cs 272 f g = .inl (cs 0, 20, .inl f) := rfl
theorem ce_m_begun (ad : Nat → Nat) (cs : Nat → ClassId) (f : Nat → Int32) (g : Nat → Int64) : ce ad cs 273 f g = .inl (cs 0, 20, .inl f) := rfl
theorem ce_m_trials (ad : Nat → Nat) (cs : Nat → ClassId) (f : Nat → Int32) (g : Nat → Int64) : ce ad cs 274 f g = .inl (cs 0, 20, .inl f) := rfl
theorem ce_m_row (ad : Nat → Nat) (cs : Nat → ClassId) (f : Nat → Int32) (g : Nat → Int64) : ce ad cs 275 f g = .inl (cs 0, 20, .inl f) := rfl
theorem ce_m_isTried (ad : Nat → Nat) (cs : Nat → ClassId) (f : Nat → Int32) (g : Nat → Int64) : ce ad cs 276 f g = .inl (cs 2, 20, .inl f) := rfl
theorem ce_m_seat (ad : Nat → Nat) (cs : Nat → ClassId) (f : Nat → Int32) (g : Nat → Int64) : ce ad cs 277 f g = .inl (cs 0, 30, .inl f) := rfl
theorem ce_m_roundWhat (ad : Nat → Nat) (cs : Nat → ClassId) (f : Nat → Int32) (g : Nat → Int64) : ce ad cs 278 f g = .inl (cs 0, 40, .inl f) := rfl
theorem ce_m_roundWho (ad : Nat → Nat) (cs : Nat → ClassId) (f : Nat → Int32) (g : Nat → Int64) : ce ad cs 279 f g = .inl (cs 0, 40, .inl f) := rfl
theorem ce_m_tallyUp (ad : Nat → Nat) (cs : Nat → ClassId) (f : Nat → Int32) (g : Nat → Int64) : ce ad cs 280 f g = .inl (cs 1, 400, .inr (.inl g)) := rfl
theorem ce_m_tallyDown (ad : Nat → Nat) (cs : Nat → ClassId) (f : Nat → Int32) (g : Nat → Int64) : ce ad cs 281 f g = .inl (cs 1, 400, .inr (.inl g)) := rfl
theorem ce_m_isIn (ad : Nat → Nat) (cs : Nat → ClassId) (f : Nat → Int32) (g : Nat → Int64) : ce ad cs 282 f g = .inl (cs 2, 10, .inl f) := rfl
theorem ce_m_ups (ad : Nat → Nat) (cs : Nat → ClassId) (f : Nat → Int32) (g : Nat → Int64) : ce ad cs 284 f g = .inl (cs 1, 10, .inr (.inl g)) := rfl
theorem ce_m_downs (ad : Nat → Nat) (cs : Nat → ClassId) (f : Nat → Int32) (g : Nat → Int64) : ce ad cs 285 f g = .inl (cs 1, 10, .inr (.inl g)) := rfl
theorem ce_m_weightUp (ad : Nat → Nat) (cs : Nat → ClassId) (f : Nat → Int32) (g : Nat → Int64) : ce ad cs 286 f g = .inl (cs 1, 40, .inr (.inl g)) := rfl
theorem ce_m_weightDown (ad : Nat → Nat) (cs : Nat → ClassId) (f : Nat → Int32) (g : Nat → Int64) : ce ad cs 287 f g = .inl (cs 1, 40, .inr (.inl g)) := rfl
theorem ce_m_toldSeat (ad : Nat → Nat) (cs : Nat → ClassId) (f : Nat → Int32) (g : Nat → Int64) : ce ad cs 288 f g = .inl (cs 0, 30, .inl f) := rfl
theorem ce_m_toldWhat (ad : Nat → Nat) (cs : Nat → ClassId) (f : Nat → Int32) (g : Nat → Int64) : ce ad cs 289 f g = .inl (cs 0, 40, .inl f) := rfl
theorem ce_m_toldWho (ad : Nat → Nat) (cs : Nat → ClassId) (f : Nat → Int32) (g : Nat → Int64) : ce ad cs 290 f g = .inl (cs 0, 40, .inl f) := rfl
theorem ce_m_toldUp (ad : Nat → Nat) (cs : Nat → ClassId) (f : Nat → Int32) (g : Nat → Int64) : ce ad cs 291 f g = .inl (cs 1, 400, .inr (.inl g)) := rfl
theorem ce_m_toldDown (ad : Nat → Nat) (cs : Nat → ClassId) (f : Nat → Int32) (g : Nat → Int64) : ce ad cs 292 f g = .inl (cs 1, 400, .inr (.inl g)) := rfl
theorem ce_m_had (ad : Nat → Nat) (cs : Nat → ClassId) (f : Nat → Int32) (g : Nat → Int64) : ce ad cs 293 f g = .inl (cs 0, 10, .inl f) := rfl
theorem ce_m_gone (ad : Nat → Nat) (cs : Nat → ClassId) (f : Nat → Int32) (g : Nat → Int64) : ce ad cs 294 f g = .inl (cs 0, 10, .inl f) := rfl
theorem ce_m_beats (ad : Nat → Nat) (cs : Nat → ClassId) (f : Nat → Int32) (g : Nat → Int64) : ce ad cs 295 f g = .inl (cs 1, 100, .inr (.inl g)) := rfl
theorem ce_m_way (ad : Nat → Nat) (cs : Nat → ClassId) (f : Nat → Int32) (g : Nat → Int64) : ce ad cs 296 f g = .inl (cs 1, 100, .inr (.inl g)) := rfl
theorem wl_get {ad : Nat → Nat} {cs : Nat → ClassId} {M : MI} {L : ML} {k : Nat} (hk : k < 297) : (wl ad cs M L)[k]? = some (ad k, ce ad cs k (M k) (L k)) := by
  simp [wl, hk]
theorem wl_at {ad : Nat → Nat} {cs : Nat → ClassId} {M : MI} {L : ML} {k : Nat} {x : va_E} (hk : k < 297) (h : ce ad cs k (M k) (L k) = x) : (wl ad cs M L)[k]? = some (ad k, x) := by
  rw [wl_get hk, h]
def sI (M : MI) (k i : Nat) (x : Int32) : MI := fun a => if a = k then upd (M a) i x else M a
def sJ (L : ML) (k i : Nat) (x : Int64) : ML := fun a => if a = k then vp_updL (L a) i x else L a
theorem sI_k (M : MI) (k i : Nat) (x : Int32) : sI M k i x k = upd (M k) i x := by simp [sI]
theorem sJ_k (L : ML) (k i : Nat) (x : Int64) : sJ L k i x k = vp_updL (L k) i x := by simp [sJ]
theorem sI_n (M : MI) {k a : Nat} (i : Nat) (x : Int32) (h : a ≠ k) : sI M k i x a = M a := by simp [sI, h]
theorem sJ_n (L : ML) {k a : Nat} (i : Nat) (x : Int64) (h : a ≠ k) : sJ L k i x a = L a := by simp [sJ, h]
theorem sI_at (M : MI) (k i : Nat) (x : Int32) (a b : Nat) : sI M k i x a b = if a = k ∧ b = i then x else M a b := by
  by_cases h : a = k
  · subst h; by_cases h2 : b = i <;> simp [sI, upd, h2]
  · simp [sI, h]
theorem sJ_at (L : ML) (k i : Nat) (x : Int64) (a b : Nat) : sJ L k i x a b = if a = k ∧ b = i then x else L a b := by
  by_cases h : a = k
  · subst h; by_cases h2 : b = i <;> simp [sJ, vp_updL, h2]
  · simp [sJ, h]
theorem wl_set {ad : Nat → Nat} {cs : Nat → ClassId} {M M' : MI} {L L' : ML} {k : Nat} {x : va_E} (hk : k < 297) (h : ce ad cs k (M' k) (L' k) = x) (hM : ∀ a, a ≠ k → M' a = M a) (hL : ∀ a, a ≠ k → L' a = L a) : (wl ad cs M L).set k (ad k, x) = wl ad cs M' L' := by
  apply List.ext_getElem?
  intro j
  by_cases hj : j = k
  · subst hj
    rw [wl_get hk, h, List.getElem?_set]
    simp [wl, hk]
  · rw [List.getElem?_set]
    simp only [if_neg (Ne.symm hj)]
    by_cases h9 : j < 297
    · rw [wl_get h9, wl_get h9, hM j hj, hL j hj]
    · rw [List.getElem?_eq_none (by simp [wl]; omega), List.getElem?_eq_none (by simp [wl]; omega)]
def Ar (ad : Nat → Nat) : Nat → Prop := fun q => ∃ k, k < 297 ∧ ad k = q
def Inj (ad : Nat → Nat) : Prop := ∀ i j, i < 297 → j < 297 → ad i = ad j → i = j
theorem wl_lt {ad : Nat → Nat} {cs : Nat → ClassId} {M : MI} {L : ML} {k : Nat} {q : Nat × va_E} (h : (wl ad cs M L)[k]? = some q) : k < 297 ∧ q.1 = ad k := by
  have hk : k < 297 := by
    have := (List.getElem?_eq_some_iff.mp h).1
    simpa [wl] using this
  rw [wl_get hk] at h
  exact ⟨hk, by cases h; rfl⟩
theorem wl_D {ad : Nat → Nat} (cs : Nat → ClassId) (M : MI) (L : ML) (h : Inj ad) : va_D (Ar ad) (wl ad cs M L) := by
  refine ⟨fun i j p q hp hq e => ?_, fun k q hq => ?_⟩
  · obtain ⟨h1, h2⟩ := wl_lt hp
    obtain ⟨h3, h4⟩ := wl_lt hq
    exact h i j h1 h3 (by rw [← h2, ← h4]; exact e)
  · obtain ⟨h1, h2⟩ := wl_lt hq
    exact ⟨k, h1, h2.symm⟩
def Hd (D : va_G) (ad : Nat → Nat) (cs : Nat → ClassId) (M : MI) (L : ML) (H : Heap) : Prop := va_P D w_cl (wl ad cs M L) H
def k_sort : Nat → Int32 := fun i => match i with
  | 0 => -9
  | 1 => 0
  | 2 => 1
  | _ => 0
def k_kind : Nat → Int32 := fun i => match i with
  | 2 => 1
  | 6 => 0
  | 7 => 6
  | _ => -9
/-- a static array that nobody writes -/
def Zq (n : String) (a N : Nat) (xs : Nat → Int32) (ad : Nat → Nat) (U : State) (H : Heap) : Prop := va_Z "BallotHouse" n "[I" (.ref a) (Ar ad) U H ∧ va_T .int a N (fun j => .int (xs j)) (Ar ad) U H
theorem Zq.moved {n : String} {a N : Nat} {xs : Nat → Int32} {ad : Nat → Nat} {u U : State} {H : Heap} (hvm : u.vm.Alike U.vm) (h : Zq n a N xs ad u H) : Zq n a N xs ad U H := ⟨h.1.moved hvm, h.2.moved hvm⟩
theorem Zq.kept {n : String} {a N : Nat} {xs : Nat → Int32} {ad : Nat → Nat} {U : State} {H H1 : Heap} (h : Zq n a N xs ad U H) (_ : H.size ≤ H1.size) (hq : ∀ q : Nat, q < H.size → ¬ Ar ad q → H1[q]? = H[q]?) : Zq n a N xs ad U H1 := ⟨h.1.kept hq, h.2.kept hq⟩
def Zs (ad : Nat → Nat) (U : State) (H : Heap) : Prop := Zq "SORT_ABOVE" (ad 400) 4 k_sort ad U H ∧ Zq "KIND_ABOVE" (ad 401) 9 k_kind ad U H
def Am (D : va_G) (ad : Nat → Nat) (cs : Nat → ClassId) (U : State) : Prop := va_K D w_cl (w_ty cs) U ∧ Inj ad ∧ va_Nw (.methodLinkNest RX0 33 yX10_isUnder RX10) U ∧ va_Nw (.fieldLinkNest RX0 30 "BallotHouse" "SORT_ABOVE" "[I" RX10) U
theorem Am.warm {D : va_G} {ad : Nat → Nat} {cs : Nat → ClassId} {s U : State} (hW : s.WarmedH U.vm) (h : Am D ad cs s) : Am D ad cs U := ⟨h.1.moved hW.alike, h.2.1, h.2.2.1.warmM hW, h.2.2.2.warmF hW⟩
theorem Am.same {D : va_G} {ad : Nat → Nat} {cs : Nat → ClassId} {s U : State} (e : s.vm = U.vm) (h : Am D ad cs s) : Am D ad cs U := ⟨h.1.moved (by rw [e]; exact Vm.Alike.refl _), h.2.1, va_Nw.same rfl e h.2.2.1, va_Nw.same rfl e h.2.2.2⟩
def Pre (D : va_G) (ad : Nat → Nat) (cs : Nat → ClassId) (M : MI) (L : ML) (U : State) : Prop := Am D ad cs U ∧ Zs ad U U.heap ∧ Hd D ad cs M L U.heap
theorem Pre_blind (D : va_G) (ad : Nat → Nat) (cs : Nat → ClassId) (M : MI) (L : ML) (av : List Value) : FrameBlind (va_Pc av (Pre D ad cs M L)) := fun a U g mk q => ⟨q.1, q.2.1.same rfl, ⟨q.2.2.1.1.moved (Vm.Alike.refl U.vm), q.2.2.1.2.moved (Vm.Alike.refl U.vm)⟩, q.2.2.2⟩
abbrev Qi (D : va_G) (ad : Nat → Nat) (cs : Nat → ClassId) (post : Int32 → MI → ML → Prop) : Array Value → State → Outcome → State → Prop := va_Qi (fun r (u : MI × ML) => post r u.1 u.2) (fun u t => Hd D ad cs u.1 u.2 t.heap) (Ar ad)
abbrev Ql (D : va_G) (ad : Nat → Nat) (cs : Nat → ClassId) (post : Int64 → MI → ML → Prop) : Array Value → State → Outcome → State → Prop := va_Ql (fun r (u : MI × ML) => post r u.1 u.2) (fun u t => Hd D ad cs u.1 u.2 t.heap) (Ar ad)
abbrev Qv (D : va_G) (ad : Nat → Nat) (cs : Nat → ClassId) (post : MI → ML → Prop) : Array Value → State → Outcome → State → Prop := va_Qv (fun (u : MI × ML) => post u.1 u.2) (fun u t => Hd D ad cs u.1 u.2 t.heap) (Ar ad)
/-- contracts: from the memories M, L the method answers r and leaves M', L' with the post; nothing is made -/
def Ci (l : Launch) (y : MethodName) (ws : List Cond) (rm : Room) (D : va_G) (ad : Nat → Nat) (cs : Nat → ClassId) (av : List Value) (M : MI) (L : ML) (post : Int32 → MI → ML → Prop) : Prop := Met l y ws rm (va_Pc av (Pre D ad cs M L)) (Qi D ad cs post) 0 0 (Ar ad)
def Cl (l : Launch) (y : MethodName) (ws : List Cond) (rm : Room) (D : va_G) (ad : Nat → Nat) (cs : Nat → ClassId) (av : List Value) (M : MI) (L : ML) (post : Int64 → MI → ML → Prop) : Prop := Met l y ws rm (va_Pc av (Pre D ad cs M L)) (Ql D ad cs post) 0 0 (Ar ad)
def Cv (l : Launch) (y : MethodName) (ws : List Cond) (rm : Room) (D : va_G) (ad : Nat → Nat) (cs : Nat → ClassId) (av : List Value) (M : MI) (L : ML) (post : MI → ML → Prop) : Prop := Met l y ws rm (va_Pc av (Pre D ad cs M L)) (Qv D ad cs post) 0 0 (Ar ad)
def Cx (p : Program) (s : State) (m : MethodId) (args : Array Value) (meth : Method) (c : Code) (cc : ByteArray) (nL : Nat) (Ts : List Cond) (own : String) (D : va_G) (ad : Nat → Nat) (cs : Nat → ClassId) : Prop :=
  p.tables.exec = Jvm.exec ∧ c.code = cc ∧ c.maxLocals = nL ∧ s.vm.findClass own = some m.cls ∧ (∀ w ∈ Ts, w.before args s = true) ∧ meth.locks = false ∧ Am D ad cs s ∧ Zs ad s s.heap
def G (p : Program) (l : Launch) (e : Env) (R : Room) (s : State) (m : MethodId) (args : Array Value) (below : List Frame) (meth : Method) (c : Code) (cells slots : Nat) (Q : State → Prop) (D : va_G) (ad : Nat → Nat) (cs : Nat → ClassId) (nL : Nat) (M : MI) (L : ML) (pc : Nat) (lv : List (Nat × Value)) (st : List Value) : Prop :=
  ∀ (H : Heap) (locs : List Loc) (ls : Array Slot), Hd D ad cs M L H → va_S (Ar ad) s.heap H locs → lv_has ls nL lv → W p l e R s m args below meth c H locs cells slots Q (F0 m pc ls st)
section OWN
variable {p : Program} {l : Launch} {e : Env} {R : Room} {s : State} {m : MethodId} {args : Array Value} {below : List Frame} {meth : Method} {c : Code} {cells slots : Nat} {Q : State → Prop} {D : va_G} {ad : Nat → Nat} {cs : Nat → ClassId} {nL : Nat} {M : MI} {L : ML} {pc : Nat} {lv : List (Nat × Value)} {st : List Value} {cc : ByteArray} {Ts : List Cond} {own : String}
theorem Zs.at (h : Zs ad s s.heap) {H : Heap} {locs : List Loc} (hS : va_S (Ar ad) s.heap H locs) {U : State} (hU : U.heap = H) (hvm : s.vm.Alike U.vm) : Zs ad U U.heap := by
  rw [hU]
  exact ⟨(h.1.kept hS.1 hS.2.1).moved hvm, (h.2.kept hS.1 hS.2.1).moved hvm⟩
theorem pre_at (C : Cx p s m args meth c cc nL Ts own D ad cs) {H : Heap} {locs : List Loc} (hH : Hd D ad cs M L H) (hS : va_S (Ar ad) s.heap H locs) {U : State} (hU : U.heap = H) (hW : s.WarmedH U.vm) : Pre D ad cs M L U := ⟨C.2.2.2.2.2.2.1.warm hW, C.2.2.2.2.2.2.2.at hS hU hW.alike, by rw [hU]; exact hH⟩

theorem g_iconst (C : Cx p s m args meth c cc nL Ts own D ad cs) {n : Int} (v : Int32) (hd : decode cc pc = .ok (.iconst n, 1)) (hv : Int32.ofInt n = v) (kk : G p l e R s m args below meth c cells slots Q D ad cs nL M L (pc + 1) lv (.int v :: st)) : G p l e R s m args below meth c cells slots Q D ad cs nL M L pc lv st := fun H locs ls hH hS hl => lv_iconst C.1 C.2.1 hd hv (kk H locs ls hH hS hl)
theorem g_bipush (C : Cx p s m args meth c cc nL Ts own D ad cs) {n : Int} (v : Int32) (hd : decode cc pc = .ok (.bipush n, 2)) (hv : (Int8.ofInt n).toInt32 = v) (kk : G p l e R s m args below meth c cells slots Q D ad cs nL M L (pc + 2) lv (.int v :: st)) : G p l e R s m args below meth c cells slots Q D ad cs nL M L pc lv st := fun H locs ls hH hS hl => lv_bipush C.1 C.2.1 hd hv (kk H locs ls hH hS hl)
theorem g_sipush (C : Cx p s m args meth c cc nL Ts own D ad cs) {n : Int} (v : Int32) (hd : decode cc pc = .ok (.sipush n, 3)) (hv : (Int16.ofInt n).toInt32 = v) (kk : G p l e R s m args below meth c cells slots Q D ad cs nL M L (pc + 3) lv (.int v :: st)) : G p l e R s m args below meth c cells slots Q D ad cs nL M L pc lv st := fun H locs ls hH hS hl => lv_sipush C.1 C.2.1 hd hv (kk H locs ls hH hS hl)
theorem g_lconst (C : Cx p s m args meth c cc nL Ts own D ad cs) {n : Fin 2} (v : Int64) (hd : decode cc pc = .ok (.lconst n, 1)) (hv : Int64.ofNat (n : Nat) = v) (kk : G p l e R s m args below meth c cells slots Q D ad cs nL M L (pc + 1) lv (.long v :: st)) : G p l e R s m args below meth c cells slots Q D ad cs nL M L pc lv st := fun H locs ls hH hS hl => lv_lconst C.1 C.2.1 hd hv (kk H locs ls hH hS hl)
theorem g_ldc (C : Cx p s m args meth c cc nL Ts own D ad cs) {index : Nat} (v : Int32) (hw : Cond.constant own index v ∈ Ts) (hd : decode cc pc = .ok (.ldc index, 2)) (kk : G p l e R s m args below meth c cells slots Q D ad cs nL M L (pc + 2) lv (.int v :: st)) : G p l e R s m args below meth c cells slots Q D ad cs nL M L pc lv st := fun H locs ls hH hS hl => lv_ldc C.1 C.2.1 C.2.2.2.1 (C.2.2.2.2.1 _ hw) hd (kk H locs ls hH hS hl)
theorem g_ldc2 (C : Cx p s m args meth c cc nL Ts own D ad cs) {index : Nat} (v : Int64) (hw : Cond.constantLong own index v ∈ Ts) (hd : decode cc pc = .ok (.ldc2_w index, 3)) (kk : G p l e R s m args below meth c cells slots Q D ad cs nL M L (pc + 3) lv (.long v :: st)) : G p l e R s m args below meth c cells slots Q D ad cs nL M L pc lv st := fun H locs ls hH hS hl => lv_ldc2 C.1 C.2.1 C.2.2.2.1 (C.2.2.2.2.1 _ hw) hd (kk H locs ls hH hS hl)
theorem g_iload_n (C : Cx p s m args meth c cc nL Ts own D ad cs) {k : Fin 4} {x : Int32} (j : Nat) (hd : decode cc pc = .ok (.iload_n k, 1)) (hj : lv[j]? = some ((k : Nat), .int x)) (kk : G p l e R s m args below meth c cells slots Q D ad cs nL M L (pc + 1) lv (.int x :: st)) : G p l e R s m args below meth c cells slots Q D ad cs nL M L pc lv st := fun H locs ls hH hS hl => lv_iload_n C.1 C.2.1 hd rfl (lv_at hl j hj) (kk H locs ls hH hS hl)
theorem g_iload (C : Cx p s m args meth c cc nL Ts own D ad cs) {i : Nat} {x : Int32} (j : Nat) (hd : decode cc pc = .ok (.iload i, 2)) (hj : lv[j]? = some (i, .int x)) (kk : G p l e R s m args below meth c cells slots Q D ad cs nL M L (pc + 2) lv (.int x :: st)) : G p l e R s m args below meth c cells slots Q D ad cs nL M L pc lv st := fun H locs ls hH hS hl => lv_iload C.1 C.2.1 hd (lv_at hl j hj) (kk H locs ls hH hS hl)
theorem g_istore_n (C : Cx p s m args meth c cc nL Ts own D ad cs) {k : Fin 4} {x : Int32} (lv1 : List (Nat × Value)) (hd : decode cc pc = .ok (.istore_n k, 1)) (hn : (k : Nat) < nL) (hl1 : ((k : Nat), Value.int x) :: lv.filter (fun q => !(q.1 == (k : Nat)) && !(q.1 + 1 == (k : Nat) && q.2.category == 2)) = lv1) (kk : G p l e R s m args below meth c cells slots Q D ad cs nL M L (pc + 1) lv1 st) : G p l e R s m args below meth c cells slots Q D ad cs nL M L pc lv (.int x :: st) := fun H locs ls hH hS hl => lv_istore_n C.1 C.2.1 hd rfl hl hn hl1 (fun ls1 hl2 => kk H locs ls1 hH hS hl2)
theorem g_istore (C : Cx p s m args meth c cc nL Ts own D ad cs) {i : Nat} {x : Int32} (lv1 : List (Nat × Value)) (hd : decode cc pc = .ok (.istore i, 2)) (hn : i < nL) (hl1 : (i, Value.int x) :: lv.filter (fun q => !(q.1 == i) && !(q.1 + 1 == i && q.2.category == 2)) = lv1) (kk : G p l e R s m args below meth c cells slots Q D ad cs nL M L (pc + 2) lv1 st) : G p l e R s m args below meth c cells slots Q D ad cs nL M L pc lv (.int x :: st) := fun H locs ls hH hS hl => lv_istore C.1 C.2.1 hd hl hn hl1 (fun ls1 hl2 => kk H locs ls1 hH hS hl2)
theorem g_lload_n (C : Cx p s m args meth c cc nL Ts own D ad cs) {k : Fin 4} {x : Int64} (j : Nat) (hd : decode cc pc = .ok (.lload_n k, 1)) (hj : lv[j]? = some ((k : Nat), .long x)) (kk : G p l e R s m args below meth c cells slots Q D ad cs nL M L (pc + 1) lv (.long x :: st)) : G p l e R s m args below meth c cells slots Q D ad cs nL M L pc lv st := fun H locs ls hH hS hl => lv_lload_n C.1 C.2.1 hd rfl (lv_at hl j hj) (kk H locs ls hH hS hl)
theorem g_lload (C : Cx p s m args meth c cc nL Ts own D ad cs) {i : Nat} {x : Int64} (j : Nat) (hd : decode cc pc = .ok (.lload i, 2)) (hj : lv[j]? = some (i, .long x)) (kk : G p l e R s m args below meth c cells slots Q D ad cs nL M L (pc + 2) lv (.long x :: st)) : G p l e R s m args below meth c cells slots Q D ad cs nL M L pc lv st := fun H locs ls hH hS hl => lv_lload C.1 C.2.1 hd (lv_at hl j hj) (kk H locs ls hH hS hl)
theorem g_lstore_n (C : Cx p s m args meth c cc nL Ts own D ad cs) {k : Fin 4} {x : Int64} (lv1 : List (Nat × Value)) (hd : decode cc pc = .ok (.lstore_n k, 1)) (hn : (k : Nat) + 1 < nL) (hl1 : ((k : Nat), Value.long x) :: lv.filter (fun q => !(q.1 == (k : Nat)) && (!(q.1 == (k : Nat) + 1) && !(q.1 + 1 == (k : Nat) && q.2.category == 2))) = lv1) (kk : G p l e R s m args below meth c cells slots Q D ad cs nL M L (pc + 1) lv1 st) : G p l e R s m args below meth c cells slots Q D ad cs nL M L pc lv (.long x :: st) := fun H locs ls hH hS hl => lv_lstore_n C.1 C.2.1 hd rfl hl hn hl1 (fun ls1 hl2 => kk H locs ls1 hH hS hl2)
theorem g_lstore (C : Cx p s m args meth c cc nL Ts own D ad cs) {i : Nat} {x : Int64} (lv1 : List (Nat × Value)) (hd : decode cc pc = .ok (.lstore i, 2)) (hn : i + 1 < nL) (hl1 : (i, Value.long x) :: lv.filter (fun q => !(q.1 == i) && (!(q.1 == i + 1) && !(q.1 + 1 == i && q.2.category == 2))) = lv1) (kk : G p l e R s m args below meth c cells slots Q D ad cs nL M L (pc + 2) lv1 st) : G p l e R s m args below meth c cells slots Q D ad cs nL M L pc lv (.long x :: st) := fun H locs ls hH hS hl => lv_lstore C.1 C.2.1 hd hl hn hl1 (fun ls1 hl2 => kk H locs ls1 hH hS hl2)
theorem g_aload_n (C : Cx p s m args meth c cc nL Ts own D ad cs) {k : Fin 4} {x : Nat} (j : Nat) (hd : decode cc pc = .ok (.aload_n k, 1)) (hj : lv[j]? = some ((k : Nat), .ref x)) (kk : G p l e R s m args below meth c cells slots Q D ad cs nL M L (pc + 1) lv (.ref x :: st)) : G p l e R s m args below meth c cells slots Q D ad cs nL M L pc lv st := fun H locs ls hH hS hl => lv_aload_n C.1 C.2.1 hd rfl (lv_at hl j hj) (kk H locs ls hH hS hl)
theorem g_aload (C : Cx p s m args meth c cc nL Ts own D ad cs) {i : Nat} {x : Nat} (j : Nat) (hd : decode cc pc = .ok (.aload i, 2)) (hj : lv[j]? = some (i, .ref x)) (kk : G p l e R s m args below meth c cells slots Q D ad cs nL M L (pc + 2) lv (.ref x :: st)) : G p l e R s m args below meth c cells slots Q D ad cs nL M L pc lv st := fun H locs ls hH hS hl => lv_aload C.1 C.2.1 hd (lv_at hl j hj) (kk H locs ls hH hS hl)
theorem g_astore (C : Cx p s m args meth c cc nL Ts own D ad cs) {i : Nat} {x : Nat} (lv1 : List (Nat × Value)) (hd : decode cc pc = .ok (.astore i, 2)) (hn : i < nL) (hl1 : (i, Value.ref x) :: lv.filter (fun q => !(q.1 == i) && !(q.1 + 1 == i && q.2.category == 2)) = lv1) (kk : G p l e R s m args below meth c cells slots Q D ad cs nL M L (pc + 2) lv1 st) : G p l e R s m args below meth c cells slots Q D ad cs nL M L pc lv (.ref x :: st) := fun H locs ls hH hS hl => lv_astore C.1 C.2.1 hd hl hn hl1 (fun ls1 hl2 => kk H locs ls1 hH hS hl2)
theorem g_iinc (C : Cx p s m args meth c cc nL Ts own D ad cs) {i : Nat} {n : Int} {x : Int32} (j : Nat) (v : Int32) (lv1 : List (Nat × Value)) (hd : decode cc pc = .ok (.iinc i n, 3)) (hj : lv[j]? = some (i, .int x)) (hv : x + Int32.ofInt n = v) (hn : i < nL) (hl1 : (i, Value.int v) :: lv.filter (fun q => !(q.1 == i) && !(q.1 + 1 == i && q.2.category == 2)) = lv1) (kk : G p l e R s m args below meth c cells slots Q D ad cs nL M L (pc + 3) lv1 st) : G p l e R s m args below meth c cells slots Q D ad cs nL M L pc lv st := fun H locs ls hH hS hl => lv_iinc C.1 C.2.1 hd hl hj hv hn hl1 (fun ls1 hl2 => kk H locs ls1 hH hS hl2)
theorem g_iadd (C : Cx p s m args meth c cc nL Ts own D ad cs) {x y : Int32} (hd : decode cc pc = .ok (.iadd, 1)) (kk : G p l e R s m args below meth c cells slots Q D ad cs nL M L (pc + 1) lv (.int (x + y) :: st)) : G p l e R s m args below meth c cells slots Q D ad cs nL M L pc lv (.int y :: .int x :: st) := fun H locs ls hH hS hl => lv_iadd C.1 C.2.1 hd (kk H locs ls hH hS hl)
theorem g_isub (C : Cx p s m args meth c cc nL Ts own D ad cs) {x y : Int32} (hd : decode cc pc = .ok (.isub, 1)) (kk : G p l e R s m args below meth c cells slots Q D ad cs nL M L (pc + 1) lv (.int (x - y) :: st)) : G p l e R s m args below meth c cells slots Q D ad cs nL M L pc lv (.int y :: .int x :: st) := fun H locs ls hH hS hl => lv_isub C.1 C.2.1 hd (kk H locs ls hH hS hl)
theorem g_imul (C : Cx p s m args meth c cc nL Ts own D ad cs) {x y : Int32} (hd : decode cc pc = .ok (.imul, 1)) (kk : G p l e R s m args below meth c cells slots Q D ad cs nL M L (pc + 1) lv (.int (x * y) :: st)) : G p l e R s m args below meth c cells slots Q D ad cs nL M L pc lv (.int y :: .int x :: st) := fun H locs ls hH hS hl => lv_imul C.1 C.2.1 hd (kk H locs ls hH hS hl)
theorem g_iand (C : Cx p s m args meth c cc nL Ts own D ad cs) {x y : Int32} (hd : decode cc pc = .ok (.iand, 1)) (kk : G p l e R s m args below meth c cells slots Q D ad cs nL M L (pc + 1) lv (.int (x &&& y) :: st)) : G p l e R s m args below meth c cells slots Q D ad cs nL M L pc lv (.int y :: .int x :: st) := fun H locs ls hH hS hl => lv_iand C.1 C.2.1 hd (kk H locs ls hH hS hl)
theorem g_ishr (C : Cx p s m args meth c cc nL Ts own D ad cs) {x y : Int32} (hd : decode cc pc = .ok (.ishr, 1)) (kk : G p l e R s m args below meth c cells slots Q D ad cs nL M L (pc + 1) lv (.int (x >>> (y &&& 31)) :: st)) : G p l e R s m args below meth c cells slots Q D ad cs nL M L pc lv (.int y :: .int x :: st) := fun H locs ls hH hS hl => lv_ishr C.1 C.2.1 hd (kk H locs ls hH hS hl)
theorem g_idiv (C : Cx p s m args meth c cc nL Ts own D ad cs) {x y : Int32} (hd : decode cc pc = .ok (.idiv, 1)) (hne : ¬ y = 0) (kk : G p l e R s m args below meth c cells slots Q D ad cs nL M L (pc + 1) lv (.int (x / y) :: st)) : G p l e R s m args below meth c cells slots Q D ad cs nL M L pc lv (.int y :: .int x :: st) := fun H locs ls hH hS hl => lv_idiv C.1 C.2.1 hd hne (kk H locs ls hH hS hl)
theorem g_ladd (C : Cx p s m args meth c cc nL Ts own D ad cs) {x y : Int64} (hd : decode cc pc = .ok (.ladd, 1)) (kk : G p l e R s m args below meth c cells slots Q D ad cs nL M L (pc + 1) lv (.long (x + y) :: st)) : G p l e R s m args below meth c cells slots Q D ad cs nL M L pc lv (.long y :: .long x :: st) := fun H locs ls hH hS hl => lv_ladd C.1 C.2.1 hd (kk H locs ls hH hS hl)
theorem g_lsub (C : Cx p s m args meth c cc nL Ts own D ad cs) {x y : Int64} (hd : decode cc pc = .ok (.lsub, 1)) (kk : G p l e R s m args below meth c cells slots Q D ad cs nL M L (pc + 1) lv (.long (x - y) :: st)) : G p l e R s m args below meth c cells slots Q D ad cs nL M L pc lv (.long y :: .long x :: st) := fun H locs ls hH hS hl => lv_lsub C.1 C.2.1 hd (kk H locs ls hH hS hl)
theorem g_lmul (C : Cx p s m args meth c cc nL Ts own D ad cs) {x y : Int64} (hd : decode cc pc = .ok (.lmul, 1)) (kk : G p l e R s m args below meth c cells slots Q D ad cs nL M L (pc + 1) lv (.long (x * y) :: st)) : G p l e R s m args below meth c cells slots Q D ad cs nL M L pc lv (.long y :: .long x :: st) := fun H locs ls hH hS hl => lv_lmul C.1 C.2.1 hd (kk H locs ls hH hS hl)
theorem g_ldiv (C : Cx p s m args meth c cc nL Ts own D ad cs) {x y : Int64} (hd : decode cc pc = .ok (.ldiv, 1)) (hne : ¬ y = 0) (kk : G p l e R s m args below meth c cells slots Q D ad cs nL M L (pc + 1) lv (.long (x / y) :: st)) : G p l e R s m args below meth c cells slots Q D ad cs nL M L pc lv (.long y :: .long x :: st) := fun H locs ls hH hS hl => lv_ldiv C.1 C.2.1 hd hne (kk H locs ls hH hS hl)
theorem g_lneg (C : Cx p s m args meth c cc nL Ts own D ad cs) {x : Int64} (hd : decode cc pc = .ok (.lneg, 1)) (kk : G p l e R s m args below meth c cells slots Q D ad cs nL M L (pc + 1) lv (.long (-x) :: st)) : G p l e R s m args below meth c cells slots Q D ad cs nL M L pc lv (.long x :: st) := fun H locs ls hH hS hl => lv_lneg C.1 C.2.1 hd (kk H locs ls hH hS hl)
theorem g_i2l (C : Cx p s m args meth c cc nL Ts own D ad cs) {x : Int32} (hd : decode cc pc = .ok (.i2l, 1)) (kk : G p l e R s m args below meth c cells slots Q D ad cs nL M L (pc + 1) lv (.long x.toInt64 :: st)) : G p l e R s m args below meth c cells slots Q D ad cs nL M L pc lv (.int x :: st) := fun H locs ls hH hS hl => lv_i2l C.1 C.2.1 hd rfl (kk H locs ls hH hS hl)
theorem g_lcmp (C : Cx p s m args meth c cc nL Ts own D ad cs) {x y : Int64} (hd : decode cc pc = .ok (.lcmp, 1)) (kk : G p l e R s m args below meth c cells slots Q D ad cs nL M L (pc + 1) lv (.int (lg_cmp x y) :: st)) : G p l e R s m args below meth c cells slots Q D ad cs nL M L pc lv (.long y :: .long x :: st) := fun H locs ls hH hS hl => W.lcmp C.1 C.2.1 hd (kk H locs ls hH hS hl)
theorem g_dup (C : Cx p s m args meth c cc nL Ts own D ad cs) {v : Value} (hd : decode cc pc = .ok (.dup, 1)) (hv : v.category = 1) (kk : G p l e R s m args below meth c cells slots Q D ad cs nL M L (pc + 1) lv (v :: v :: st)) : G p l e R s m args below meth c cells slots Q D ad cs nL M L pc lv (v :: st) := fun H locs ls hH hS hl => lv_dup C.1 C.2.1 hd hv (kk H locs ls hH hS hl)
theorem g_dup2 (C : Cx p s m args meth c cc nL Ts own D ad cs) {v w : Value} (hd : decode cc pc = .ok (.dup2, 1)) (hv : v.category = 1) (hw : w.category = 1) (kk : G p l e R s m args below meth c cells slots Q D ad cs nL M L (pc + 1) lv (v :: w :: v :: w :: st)) : G p l e R s m args below meth c cells slots Q D ad cs nL M L pc lv (v :: w :: st) := fun H locs ls hH hS hl => lv_dup2_11 C.1 C.2.1 hd hv hw (kk H locs ls hH hS hl)
theorem g_goto (C : Cx p s m args meth c cc nL Ts own D ad cs) {off : Int} (tgt : Nat) (hd : decode cc pc = .ok (.goto off, 3)) (ht : (pc : Int) + off = (tgt : Int)) (kk : G p l e R s m args below meth c cells slots Q D ad cs nL M L tgt lv st) : G p l e R s m args below meth c cells slots Q D ad cs nL M L pc lv st := fun H locs ls hH hS hl => lv_goto C.1 C.2.1 hd ht (kk H locs ls hH hS hl)
theorem g_if_eq (C : Cx p s m args meth c cc nL Ts own D ad cs) {x : Int32} {off : Int} (tgt : Nat) (hd : decode cc pc = .ok (.ifCond .eq off, 3)) (ht : (pc : Int) + off = (tgt : Int)) (kt : x = 0 → G p l e R s m args below meth c cells slots Q D ad cs nL M L tgt lv st) (kf : ¬ x = 0 → G p l e R s m args below meth c cells slots Q D ad cs nL M L (pc + 3) lv st) : G p l e R s m args below meth c cells slots Q D ad cs nL M L pc lv (.int x :: st) := fun H locs ls hH hS hl => lv_if_eq C.1 C.2.1 hd ht (fun q => kt q H locs ls hH hS hl) (fun q => kf q H locs ls hH hS hl)
theorem g_icmp_eq (C : Cx p s m args meth c cc nL Ts own D ad cs) {x y : Int32} {off : Int} (tgt : Nat) (hd : decode cc pc = .ok (.if_icmp .eq off, 3)) (ht : (pc : Int) + off = (tgt : Int)) (kt : x = y → G p l e R s m args below meth c cells slots Q D ad cs nL M L tgt lv st) (kf : ¬ x = y → G p l e R s m args below meth c cells slots Q D ad cs nL M L (pc + 3) lv st) : G p l e R s m args below meth c cells slots Q D ad cs nL M L pc lv (.int y :: .int x :: st) := fun H locs ls hH hS hl => lv_icmp_eq C.1 C.2.1 hd ht (fun q => kt q H locs ls hH hS hl) (fun q => kf q H locs ls hH hS hl)
theorem g_if_ne (C : Cx p s m args meth c cc nL Ts own D ad cs) {x : Int32} {off : Int} (tgt : Nat) (hd : decode cc pc = .ok (.ifCond .ne off, 3)) (ht : (pc : Int) + off = (tgt : Int)) (kt : ¬ x = 0 → G p l e R s m args below meth c cells slots Q D ad cs nL M L tgt lv st) (kf : x = 0 → G p l e R s m args below meth c cells slots Q D ad cs nL M L (pc + 3) lv st) : G p l e R s m args below meth c cells slots Q D ad cs nL M L pc lv (.int x :: st) := fun H locs ls hH hS hl => lv_if_ne C.1 C.2.1 hd ht (fun q => kt q H locs ls hH hS hl) (fun q => kf q H locs ls hH hS hl)
theorem g_icmp_ne (C : Cx p s m args meth c cc nL Ts own D ad cs) {x y : Int32} {off : Int} (tgt : Nat) (hd : decode cc pc = .ok (.if_icmp .ne off, 3)) (ht : (pc : Int) + off = (tgt : Int)) (kt : ¬ x = y → G p l e R s m args below meth c cells slots Q D ad cs nL M L tgt lv st) (kf : x = y → G p l e R s m args below meth c cells slots Q D ad cs nL M L (pc + 3) lv st) : G p l e R s m args below meth c cells slots Q D ad cs nL M L pc lv (.int y :: .int x :: st) := fun H locs ls hH hS hl => lv_icmp_ne C.1 C.2.1 hd ht (fun q => kt q H locs ls hH hS hl) (fun q => kf q H locs ls hH hS hl)
theorem g_if_lt (C : Cx p s m args meth c cc nL Ts own D ad cs) {x : Int32} {off : Int} (tgt : Nat) (hd : decode cc pc = .ok (.ifCond .lt off, 3)) (ht : (pc : Int) + off = (tgt : Int)) (kt : x < 0 → G p l e R s m args below meth c cells slots Q D ad cs nL M L tgt lv st) (kf : ¬ x < 0 → G p l e R s m args below meth c cells slots Q D ad cs nL M L (pc + 3) lv st) : G p l e R s m args below meth c cells slots Q D ad cs nL M L pc lv (.int x :: st) := fun H locs ls hH hS hl => lv_if_lt C.1 C.2.1 hd ht (fun q => kt q H locs ls hH hS hl) (fun q => kf q H locs ls hH hS hl)
theorem g_icmp_lt (C : Cx p s m args meth c cc nL Ts own D ad cs) {x y : Int32} {off : Int} (tgt : Nat) (hd : decode cc pc = .ok (.if_icmp .lt off, 3)) (ht : (pc : Int) + off = (tgt : Int)) (kt : x < y → G p l e R s m args below meth c cells slots Q D ad cs nL M L tgt lv st) (kf : ¬ x < y → G p l e R s m args below meth c cells slots Q D ad cs nL M L (pc + 3) lv st) : G p l e R s m args below meth c cells slots Q D ad cs nL M L pc lv (.int y :: .int x :: st) := fun H locs ls hH hS hl => lv_icmp_lt C.1 C.2.1 hd ht (fun q => kt q H locs ls hH hS hl) (fun q => kf q H locs ls hH hS hl)
theorem g_if_ge (C : Cx p s m args meth c cc nL Ts own D ad cs) {x : Int32} {off : Int} (tgt : Nat) (hd : decode cc pc = .ok (.ifCond .ge off, 3)) (ht : (pc : Int) + off = (tgt : Int)) (kt : 0 ≤ x → G p l e R s m args below meth c cells slots Q D ad cs nL M L tgt lv st) (kf : ¬ 0 ≤ x → G p l e R s m args below meth c cells slots Q D ad cs nL M L (pc + 3) lv st) : G p l e R s m args below meth c cells slots Q D ad cs nL M L pc lv (.int x :: st) := fun H locs ls hH hS hl => lv_if_ge C.1 C.2.1 hd ht (fun q => kt q H locs ls hH hS hl) (fun q => kf q H locs ls hH hS hl)
theorem g_icmp_ge (C : Cx p s m args meth c cc nL Ts own D ad cs) {x y : Int32} {off : Int} (tgt : Nat) (hd : decode cc pc = .ok (.if_icmp .ge off, 3)) (ht : (pc : Int) + off = (tgt : Int)) (kt : y ≤ x → G p l e R s m args below meth c cells slots Q D ad cs nL M L tgt lv st) (kf : ¬ y ≤ x → G p l e R s m args below meth c cells slots Q D ad cs nL M L (pc + 3) lv st) : G p l e R s m args below meth c cells slots Q D ad cs nL M L pc lv (.int y :: .int x :: st) := fun H locs ls hH hS hl => lv_icmp_ge C.1 C.2.1 hd ht (fun q => kt q H locs ls hH hS hl) (fun q => kf q H locs ls hH hS hl)
theorem g_if_gt (C : Cx p s m args meth c cc nL Ts own D ad cs) {x : Int32} {off : Int} (tgt : Nat) (hd : decode cc pc = .ok (.ifCond .gt off, 3)) (ht : (pc : Int) + off = (tgt : Int)) (kt : 0 < x → G p l e R s m args below meth c cells slots Q D ad cs nL M L tgt lv st) (kf : ¬ 0 < x → G p l e R s m args below meth c cells slots Q D ad cs nL M L (pc + 3) lv st) : G p l e R s m args below meth c cells slots Q D ad cs nL M L pc lv (.int x :: st) := fun H locs ls hH hS hl => lv_if_gt C.1 C.2.1 hd ht (fun q => kt q H locs ls hH hS hl) (fun q => kf q H locs ls hH hS hl)
theorem g_icmp_gt (C : Cx p s m args meth c cc nL Ts own D ad cs) {x y : Int32} {off : Int} (tgt : Nat) (hd : decode cc pc = .ok (.if_icmp .gt off, 3)) (ht : (pc : Int) + off = (tgt : Int)) (kt : y < x → G p l e R s m args below meth c cells slots Q D ad cs nL M L tgt lv st) (kf : ¬ y < x → G p l e R s m args below meth c cells slots Q D ad cs nL M L (pc + 3) lv st) : G p l e R s m args below meth c cells slots Q D ad cs nL M L pc lv (.int y :: .int x :: st) := fun H locs ls hH hS hl => lv_icmp_gt C.1 C.2.1 hd ht (fun q => kt q H locs ls hH hS hl) (fun q => kf q H locs ls hH hS hl)
theorem g_if_le (C : Cx p s m args meth c cc nL Ts own D ad cs) {x : Int32} {off : Int} (tgt : Nat) (hd : decode cc pc = .ok (.ifCond .le off, 3)) (ht : (pc : Int) + off = (tgt : Int)) (kt : x ≤ 0 → G p l e R s m args below meth c cells slots Q D ad cs nL M L tgt lv st) (kf : ¬ x ≤ 0 → G p l e R s m args below meth c cells slots Q D ad cs nL M L (pc + 3) lv st) : G p l e R s m args below meth c cells slots Q D ad cs nL M L pc lv (.int x :: st) := fun H locs ls hH hS hl => lv_if_le C.1 C.2.1 hd ht (fun q => kt q H locs ls hH hS hl) (fun q => kf q H locs ls hH hS hl)
theorem g_icmp_le (C : Cx p s m args meth c cc nL Ts own D ad cs) {x y : Int32} {off : Int} (tgt : Nat) (hd : decode cc pc = .ok (.if_icmp .le off, 3)) (ht : (pc : Int) + off = (tgt : Int)) (kt : x ≤ y → G p l e R s m args below meth c cells slots Q D ad cs nL M L tgt lv st) (kf : ¬ x ≤ y → G p l e R s m args below meth c cells slots Q D ad cs nL M L (pc + 3) lv st) : G p l e R s m args below meth c cells slots Q D ad cs nL M L pc lv (.int y :: .int x :: st) := fun H locs ls hH hS hl => lv_icmp_le C.1 C.2.1 hd ht (fun q => kt q H locs ls hH hS hl) (fun q => kf q H locs ls hH hS hl)
theorem g_tableIn (C : Cx p s m args meth c cc nL Ts own D ad cs) {dflt lo hi : Int} {offs : Array Int} {len : Nat} {x : Int32} {off : Int} (tgt : Nat) (hd : decode cc pc = .ok (.tableswitch dflt lo hi offs, len)) (h1 : ¬ x.toInt < lo) (h2 : ¬ hi < x.toInt) (ho : offs[(x.toInt - lo).toNat]? = some off) (ht : (pc : Int) + off = (tgt : Int)) (kk : G p l e R s m args below meth c cells slots Q D ad cs nL M L tgt lv st) : G p l e R s m args below meth c cells slots Q D ad cs nL M L pc lv (.int x :: st) := fun H locs ls hH hS hl => lv_tableIn C.1 C.2.1 hd h1 h2 ho ht (kk H locs ls hH hS hl)
theorem g_tableOut (C : Cx p s m args meth c cc nL Ts own D ad cs) {dflt lo hi : Int} {offs : Array Int} {len : Nat} {x : Int32} (tgt : Nat) (hd : decode cc pc = .ok (.tableswitch dflt lo hi offs, len)) (h : x.toInt < lo ∨ hi < x.toInt) (ht : (pc : Int) + dflt = (tgt : Int)) (kk : G p l e R s m args below meth c cells slots Q D ad cs nL M L tgt lv st) : G p l e R s m args below meth c cells slots Q D ad cs nL M L pc lv (.int x :: st) := fun H locs ls hH hS hl => lv_tableOut C.1 C.2.1 hd h ht (kk H locs ls hH hS hl)
theorem g_ti {x : Int32} (v : Int32) (h : x = v) (kk : G p l e R s m args below meth c cells slots Q D ad cs nL M L pc lv (.int v :: st)) : G p l e R s m args below meth c cells slots Q D ad cs nL M L pc lv (.int x :: st) := by rw [h]; exact kk
theorem g_tr {x : Nat} (v : Nat) (h : x = v) (kk : G p l e R s m args below meth c cells slots Q D ad cs nL M L pc lv (.ref (ad v) :: st)) : G p l e R s m args below meth c cells slots Q D ad cs nL M L pc lv (.ref (ad x) :: st) := by rw [h]; exact kk
theorem g_ni {x : Int32} (kk : ∀ v : Int32, v = x → G p l e R s m args below meth c cells slots Q D ad cs nL M L pc lv (.int v :: st)) : G p l e R s m args below meth c cells slots Q D ad cs nL M L pc lv (.int x :: st) := kk x rfl
theorem g_nl {x : Int64} (kk : ∀ v : Int64, v = x → G p l e R s m args below meth c cells slots Q D ad cs nL M L pc lv (.long v :: st)) : G p l e R s m args below meth c cells slots Q D ad cs nL M L pc lv (.long x :: st) := kk x rfl
theorem g_nm (kk : ∀ M1 : MI, M1 = M → G p l e R s m args below meth c cells slots Q D ad cs nL M1 L pc lv st) : G p l e R s m args below meth c cells slots Q D ad cs nL M L pc lv st := kk M rfl
theorem g_nmL (kk : ∀ L1 : ML, L1 = L → G p l e R s m args below meth c cells slots Q D ad cs nL M L1 pc lv st) : G p l e R s m args below meth c cells slots Q D ad cs nL M L pc lv st := kk L rfl
theorem g_lv (ks : List Nat) (lv1 : List (Nat × Value)) (h : lv_pick lv ks = lv1) (kk : G p l e R s m args below meth c cells slots Q D ad cs nL M L pc lv1 st) : G p l e R s m args below meth c cells slots Q D ad cs nL M L pc lv st := fun H locs ls hH hS hl => kk H locs ls hH hS (lv_sub hl ks h)
theorem g_get (C : Cx p s m args meth c cc nL Ts own D ad cs) {Cn ref : String} {T : u_T} {N ci index k : Nat} {fs : List Value} (v : Value) (j : Nat) (hin : ∀ w ∈ u_ws Cn T N, w ∈ Ts) (hlk : Cond.fieldLink own index ref (T j).2.1 (T j).2.2.1 ∈ Ts) (hk : k < 297) (hce : ce ad cs k (M k) (L k) = .inr (ci, fs)) (hc : w_cl[ci]? = some (Cn, T, N)) (hj : j < N) (href : (T j).1 = ref) (hv : fs[j]? = some v) (hd : decode cc pc = .ok (.getfield index, 3)) (kk : G p l e R s m args below meth c cells slots Q D ad cs nL M L (pc + 3) lv (v :: st)) : G p l e R s m args below meth c cells slots Q D ad cs nL M L pc lv (.ref (ad k) :: st) := fun H locs ls hH hS hl => va_get C.1 C.2.1 C.2.2.2.2.1 hin C.2.2.2.1 C.2.2.2.2.2.2.1.1 hH k (wl_at hk hce) hc j hj (C.2.2.2.2.1 _ hlk) (fun _ h9 => href ▸ h9) hv hd (kk H locs ls hH hS hl)
theorem g_putI (C : Cx p s m args meth c cc nL Ts own D ad cs) {Cn ref : String} {T : u_T} {N ci index k : Nat} {fs : List Value} {x : Int32} (j : Nat) (hin : ∀ w ∈ u_ws Cn T N, w ∈ Ts) (hlk : Cond.fieldLink own index ref (T j).2.1 (T j).2.2.1 ∈ Ts) (hk : k < 297) (hce : ce ad cs k (M k) (L k) = .inr (ci, fs)) (hc : w_cl[ci]? = some (Cn, T, N)) (hj : j < N) (href : (T j).1 = ref) (ty0 : Nat → FieldType) (hty : ∀ k, k < N → parseFieldDescriptor (T k).2.2.1 = some (ty0 k)) (hnm : ∀ a, a < N → ∀ b, b < N → a ≠ b → (T a).2.1 ≠ (T b).2.1) (hfin : (T j).2.2.2 = false) {ty : FieldType} (hdt : parseFieldDescriptor (T j).2.2.1 = some ty) (hn : narrow ty (.int x) = .int x) (hfit : fits ty (.int x) = true) (hl9 : j < fs.length) (hce1 : ce ad cs k ((sI M k j x) k) (L k) = .inr (ci, fs.set j (.int x))) (hd : decode cc pc = .ok (.putfield index, 3)) (kk : G p l e R s m args below meth c cells slots Q D ad cs nL (sI M k j x) L (pc + 3) lv st) : G p l e R s m args below meth c cells slots Q D ad cs nL M L pc lv (.int x :: .ref (ad k) :: st) := fun H locs ls hH hS hl => va_put C.1 C.2.1 C.2.2.2.2.1 hin ty0 hty hnm C.2.2.2.1 C.2.2.2.2.2.2.1.1 hH (wl_D cs M L C.2.2.2.2.2.2.1.2.1) hS k (wl_at hk hce) hc j hj (C.2.2.2.2.1 _ hlk) (fun _ h9 => href ▸ h9) hfin hdt hn hfit hl9 hd (fun H1 locs1 hP1 hD1 hS1 => kk H1 locs1 ls (by rw [wl_set hk hce1 (fun a h => sI_n M j x h) (fun _ _ => rfl)] at hP1; exact hP1) hS1 hl)
theorem g_putJ (C : Cx p s m args meth c cc nL Ts own D ad cs) {Cn ref : String} {T : u_T} {N ci index k : Nat} {fs : List Value} {x : Int64} (j : Nat) (hin : ∀ w ∈ u_ws Cn T N, w ∈ Ts) (hlk : Cond.fieldLink own index ref (T j).2.1 (T j).2.2.1 ∈ Ts) (hk : k < 297) (hce : ce ad cs k (M k) (L k) = .inr (ci, fs)) (hc : w_cl[ci]? = some (Cn, T, N)) (hj : j < N) (href : (T j).1 = ref) (ty0 : Nat → FieldType) (hty : ∀ k, k < N → parseFieldDescriptor (T k).2.2.1 = some (ty0 k)) (hnm : ∀ a, a < N → ∀ b, b < N → a ≠ b → (T a).2.1 ≠ (T b).2.1) (hfin : (T j).2.2.2 = false) {ty : FieldType} (hdt : parseFieldDescriptor (T j).2.2.1 = some ty) (hn : narrow ty (.long x) = .long x) (hfit : fits ty (.long x) = true) (hl9 : j < fs.length) (hce1 : ce ad cs k (M k) ((sJ L k j x) k) = .inr (ci, fs.set j (.long x))) (hd : decode cc pc = .ok (.putfield index, 3)) (kk : G p l e R s m args below meth c cells slots Q D ad cs nL M (sJ L k j x) (pc + 3) lv st) : G p l e R s m args below meth c cells slots Q D ad cs nL M L pc lv (.long x :: .ref (ad k) :: st) := fun H locs ls hH hS hl => va_put C.1 C.2.1 C.2.2.2.2.1 hin ty0 hty hnm C.2.2.2.1 C.2.2.2.2.2.2.1.1 hH (wl_D cs M L C.2.2.2.2.2.2.1.2.1) hS k (wl_at hk hce) hc j hj (C.2.2.2.2.1 _ hlk) (fun _ h9 => href ▸ h9) hfin hdt hn hfit hl9 hd (fun H1 locs1 hP1 hD1 hS1 => kk H1 locs1 ls (by rw [wl_set hk hce1 (fun _ _ => rfl) (fun a h => sJ_n L j x h)] at hP1; exact hP1) hS1 hl)
theorem g_putR (C : Cx p s m args meth c cc nL Ts own D ad cs) {Cn ref : String} {T : u_T} {N ci index k : Nat} {fs : List Value} {x : Nat} {x9 : Int32} (j : Nat) (hin : ∀ w ∈ u_ws Cn T N, w ∈ Ts) (hlk : Cond.fieldLink own index ref (T j).2.1 (T j).2.2.1 ∈ Ts) (hk : k < 297) (hce : ce ad cs k (M k) (L k) = .inr (ci, fs)) (hc : w_cl[ci]? = some (Cn, T, N)) (hj : j < N) (href : (T j).1 = ref) (ty0 : Nat → FieldType) (hty : ∀ k, k < N → parseFieldDescriptor (T k).2.2.1 = some (ty0 k)) (hnm : ∀ a, a < N → ∀ b, b < N → a ≠ b → (T a).2.1 ≠ (T b).2.1) (hfin : (T j).2.2.2 = false) {ty : FieldType} (hdt : parseFieldDescriptor (T j).2.2.1 = some ty) (hfit : fits ty (.ref (ad x)) = true) (hn : narrow ty (.ref (ad x)) = .ref (ad x)) (hl9 : j < fs.length) (hce1 : ce ad cs k (sI M k j x9 k) (L k) = .inr (ci, fs.set j (.ref (ad x)))) (hd : decode cc pc = .ok (.putfield index, 3)) (kk : G p l e R s m args below meth c cells slots Q D ad cs nL (sI M k j x9) L (pc + 3) lv st) : G p l e R s m args below meth c cells slots Q D ad cs nL M L pc lv (.ref (ad x) :: .ref (ad k) :: st) := fun H locs ls hH hS hl => va_put C.1 C.2.1 C.2.2.2.2.1 hin ty0 hty hnm C.2.2.2.1 C.2.2.2.2.2.2.1.1 hH (wl_D cs M L C.2.2.2.2.2.2.1.2.1) hS k (wl_at hk hce) hc j hj (C.2.2.2.2.1 _ hlk) (fun _ h9 => href ▸ h9) hfin hdt hn hfit hl9 hd (fun H1 locs1 hP1 hD1 hS1 => kk H1 locs1 ls (by rw [wl_set hk hce1 (fun a h => sI_n M j x9 h) (fun _ _ => rfl)] at hP1; exact hP1) hS1 hl)
theorem g_iald (C : Cx p s m args meth c cc nL Ts own D ad cs) {k n : Nat} {i : Int32} (hk : k < 297) (hce : ce ad cs k (M k) (L k) = .inl (cs 0, n, .inl (M k))) (hin : vp_in i n) (hd : decode cc pc = .ok (.iaload, 1)) (kk : G p l e R s m args below meth c cells slots Q D ad cs nL M L (pc + 1) lv (.int (M k i.toNatClampNeg) :: st)) : G p l e R s m args below meth c cells slots Q D ad cs nL M L pc lv (.int i :: .ref (ad k) :: st) := fun H locs ls hH hS hl => va_iald C.1 C.2.1 C.2.2.2.2.2.2.1.1 hH k 0 (wl_at hk hce) rfl hin hd (kk H locs ls hH hS hl)
theorem g_lald (C : Cx p s m args meth c cc nL Ts own D ad cs) {k n : Nat} {i : Int32} (hk : k < 297) (hce : ce ad cs k (M k) (L k) = .inl (cs 1, n, .inr (.inl (L k)))) (hin : vp_in i n) (hd : decode cc pc = .ok (.laload, 1)) (kk : G p l e R s m args below meth c cells slots Q D ad cs nL M L (pc + 1) lv (.long (L k i.toNatClampNeg) :: st)) : G p l e R s m args below meth c cells slots Q D ad cs nL M L pc lv (.int i :: .ref (ad k) :: st) := fun H locs ls hH hS hl => va_lald C.1 C.2.1 C.2.2.2.2.2.2.1.1 hH k 1 (wl_at hk hce) rfl hin hd (kk H locs ls hH hS hl)
theorem g_zald (C : Cx p s m args meth c cc nL Ts own D ad cs) {k n : Nat} {i : Int32} (hk : k < 297) (hce : ce ad cs k (M k) (L k) = .inl (cs 2, n, .inl (M k))) (hin : vp_in i n) (hd : decode cc pc = .ok (.baload, 1)) (kk : G p l e R s m args below meth c cells slots Q D ad cs nL M L (pc + 1) lv (.int (M k i.toNatClampNeg) :: st)) : G p l e R s m args below meth c cells slots Q D ad cs nL M L pc lv (.int i :: .ref (ad k) :: st) := fun H locs ls hH hS hl => va_zald C.1 C.2.1 C.2.2.2.2.2.2.1.1 hH k 2 (wl_at hk hce) rfl hin hd (kk H locs ls hH hS hl)
theorem g_iast (C : Cx p s m args meth c cc nL Ts own D ad cs) {k n : Nat} {i : Int32} {x : Int32} (hk : k < 297) (hce : ce ad cs k (M k) (L k) = .inl (cs 0, n, .inl (M k))) (hce1 : ce ad cs k ((sI M k i.toNatClampNeg x) k) (L k) = .inl (cs 0, n, .inl (upd (M k) i.toNatClampNeg x))) (hin : vp_in i n) (hd : decode cc pc = .ok (.iastore, 1)) (kk : G p l e R s m args below meth c cells slots Q D ad cs nL (sI M k i.toNatClampNeg x) L (pc + 1) lv st) : G p l e R s m args below meth c cells slots Q D ad cs nL M L pc lv (.int x :: .int i :: .ref (ad k) :: st) := fun H locs ls hH hS hl => va_iast C.1 C.2.1 C.2.2.2.2.2.2.1.1 hH (wl_D cs M L C.2.2.2.2.2.2.1.2.1) hS k 0 (wl_at hk hce) rfl hin hd (fun H1 locs1 hP1 hD1 hS1 => kk H1 locs1 ls (by rw [wl_set hk hce1 (fun a h => sI_n M _ x h) (fun _ _ => rfl)] at hP1; exact hP1) hS1 hl)
theorem g_last (C : Cx p s m args meth c cc nL Ts own D ad cs) {k n : Nat} {i : Int32} {x : Int64} (hk : k < 297) (hce : ce ad cs k (M k) (L k) = .inl (cs 1, n, .inr (.inl (L k)))) (hce1 : ce ad cs k (M k) ((sJ L k i.toNatClampNeg x) k) = .inl (cs 1, n, .inr (.inl (vp_updL (L k) i.toNatClampNeg x)))) (hin : vp_in i n) (hd : decode cc pc = .ok (.lastore, 1)) (kk : G p l e R s m args below meth c cells slots Q D ad cs nL M (sJ L k i.toNatClampNeg x) (pc + 1) lv st) : G p l e R s m args below meth c cells slots Q D ad cs nL M L pc lv (.long x :: .int i :: .ref (ad k) :: st) := fun H locs ls hH hS hl => va_last C.1 C.2.1 C.2.2.2.2.2.2.1.1 hH (wl_D cs M L C.2.2.2.2.2.2.1.2.1) hS k 1 (wl_at hk hce) rfl hin hd (fun H1 locs1 hP1 hD1 hS1 => kk H1 locs1 ls (by rw [wl_set hk hce1 (fun _ _ => rfl) (fun a h => sJ_n L _ x h)] at hP1; exact hP1) hS1 hl)
theorem g_zast (C : Cx p s m args meth c cc nL Ts own D ad cs) {k n : Nat} {i : Int32} {x : Int32} (hk : k < 297) (hce : ce ad cs k (M k) (L k) = .inl (cs 2, n, .inl (M k))) (hce1 : ce ad cs k ((sI M k i.toNatClampNeg (vp_nar .boolean x)) k) (L k) = .inl (cs 2, n, .inl (upd (M k) i.toNatClampNeg (vp_nar .boolean x)))) (hin : vp_in i n) (hd : decode cc pc = .ok (.bastore, 1)) (kk : G p l e R s m args below meth c cells slots Q D ad cs nL (sI M k i.toNatClampNeg (vp_nar .boolean x)) L (pc + 1) lv st) : G p l e R s m args below meth c cells slots Q D ad cs nL M L pc lv (.int x :: .int i :: .ref (ad k) :: st) := fun H locs ls hH hS hl => va_zast C.1 C.2.1 C.2.2.2.2.2.2.1.1 hH (wl_D cs M L C.2.2.2.2.2.2.1.2.1) hS k 2 (wl_at hk hce) rfl hin hd (fun H1 locs1 hP1 hD1 hS1 => kk H1 locs1 ls (by rw [wl_set hk hce1 (fun a h => sI_n M _ _ h) (fun _ _ => rfl)] at hP1; exact hP1) hS1 hl)
theorem g_aald (C : Cx p s m args meth c cc nL Ts own D ad cs) {k n b t : Nat} {i : Int32} {ty : FieldType} (hk : k < 297) (hce : ce ad cs k (M k) (L k) = .inl (cs t, n, .inr (.inr (.inr (.inr (fun i => if i < n then some (ad (b + i)) else none)))))) (ht : (w_ty cs)[t]? = some (cs t, .array ty)) (hin : vp_in i n) (hd : decode cc pc = .ok (.aaload, 1)) (kk : G p l e R s m args below meth c cells slots Q D ad cs nL M L (pc + 1) lv (.ref (ad (b + i.toNatClampNeg)) :: st)) : G p l e R s m args below meth c cells slots Q D ad cs nL M L pc lv (.int i :: .ref (ad k) :: st) := fun H locs ls hH hS hl => by
  have hlt : i.toNatClampNeg < n := Nat.not_le.mp fun q => hin (Or.inr q)
  exact W.aald (ty := .array ty) (v := .ref (ad (b + i.toNatClampNeg))) C.1 C.2.1 (hH k _ (wl_at hk hce)) ((C.2.2.2.2.2.2.1.1.2 t _ ht).1 n _) rfl (fun q => by cases q) (by show ¬ (i < 0 ∨ (arrV _ _ _).slots.size ≤ _); rw [arrV_size]; exact hin) (by show (arrV _ _ _).slots[_]? = _; rw [arrV_read _ _ hlt]; simp only [if_pos hlt]; rfl) rfl rfl hd (kk H locs ls hH hS hl)
theorem g_getsS (C : Cx p s m args meth c cc nL Ts own D ad cs) {index : Nat} (hlk : Cond.fieldLink own index "BallotHouse" "SORT_ABOVE" "[I" ∈ Ts) (hd : decode cc pc = .ok (.getstatic index, 3)) (kk : G p l e R s m args below meth c cells slots Q D ad cs nL M L (pc + 3) lv (.ref (ad 400) :: st)) : G p l e R s m args below meth c cells slots Q D ad cs nL M L pc lv st := fun H locs ls hH hS hl => va_gets C.1 C.2.1 C.2.2.2.2.2.2.2.1.1 hS C.2.2.2.1 (C.2.2.2.2.1 _ hlk) (fun _ h => h) hd (kk H locs ls hH hS hl)
theorem g_slenS (C : Cx p s m args meth c cc nL Ts own D ad cs)  (hd : decode cc pc = .ok (.arraylength, 1)) (kk : G p l e R s m args below meth c cells slots Q D ad cs nL M L (pc + 1) lv (.int 4 :: st)) : G p l e R s m args below meth c cells slots Q D ad cs nL M L pc lv (.ref (ad 400) :: st) := fun H locs ls hH hS hl => va_tlen C.1 C.2.1 C.2.2.2.2.2.2.2.1.2 hS rfl hd (kk H locs ls hH hS hl)
theorem g_sldS (C : Cx p s m args meth c cc nL Ts own D ad cs) {i : Int32} (hin : vp_in i 4) (hd : decode cc pc = .ok (.iaload, 1)) (kk : G p l e R s m args below meth c cells slots Q D ad cs nL M L (pc + 1) lv (.int (k_sort i.toNatClampNeg) :: st)) : G p l e R s m args below meth c cells slots Q D ad cs nL M L pc lv (.int i :: .ref (ad 400) :: st) := fun H locs ls hH hS hl => va_ti C.1 C.2.1 C.2.2.2.2.2.2.2.1.2 hS hin rfl hd (kk H locs ls hH hS hl)
theorem g_getsK (C : Cx p s m args meth c cc nL Ts own D ad cs) {index : Nat} (hlk : Cond.fieldLink own index "BallotHouse" "KIND_ABOVE" "[I" ∈ Ts) (hd : decode cc pc = .ok (.getstatic index, 3)) (kk : G p l e R s m args below meth c cells slots Q D ad cs nL M L (pc + 3) lv (.ref (ad 401) :: st)) : G p l e R s m args below meth c cells slots Q D ad cs nL M L pc lv st := fun H locs ls hH hS hl => va_gets C.1 C.2.1 C.2.2.2.2.2.2.2.2.1 hS C.2.2.2.1 (C.2.2.2.2.1 _ hlk) (fun _ h => h) hd (kk H locs ls hH hS hl)
theorem g_slenK (C : Cx p s m args meth c cc nL Ts own D ad cs)  (hd : decode cc pc = .ok (.arraylength, 1)) (kk : G p l e R s m args below meth c cells slots Q D ad cs nL M L (pc + 1) lv (.int 9 :: st)) : G p l e R s m args below meth c cells slots Q D ad cs nL M L pc lv (.ref (ad 401) :: st) := fun H locs ls hH hS hl => va_tlen C.1 C.2.1 C.2.2.2.2.2.2.2.2.2 hS rfl hd (kk H locs ls hH hS hl)
theorem g_sldK (C : Cx p s m args meth c cc nL Ts own D ad cs) {i : Int32} (hin : vp_in i 9) (hd : decode cc pc = .ok (.iaload, 1)) (kk : G p l e R s m args below meth c cells slots Q D ad cs nL M L (pc + 1) lv (.int (k_kind i.toNatClampNeg) :: st)) : G p l e R s m args below meth c cells slots Q D ad cs nL M L pc lv (.int i :: .ref (ad 401) :: st) := fun H locs ls hH hS hl => va_ti C.1 C.2.1 C.2.2.2.2.2.2.2.2.2 hS hin rfl hd (kk H locs ls hH hS hl)
theorem g_getsN (C : Cx p s m args meth c cc nL Ts own D ad cs)  (hd : decode cc pc = .ok (.getstatic 30, 3)) (ho : own = RX0) (kk : G p l e R s m args below meth c cells slots Q D ad cs nL M L (pc + 3) lv (.ref (ad 400) :: st)) : G p l e R s m args below meth c cells slots Q D ad cs nL M L pc lv st := fun H locs ls hH hS hl => va_getsN C.1 C.2.1 C.2.2.2.2.2.2.2.1.1 hS C.2.2.2.1 (by rw [ho]; exact va_Nw.use rfl C.2.2.2.2.2.2.1.2.2.2) (fun _ h => h) hd (kk H locs ls hH hS hl)
theorem g_callVi (C : Cx p s m args meth c cc nL Ts own D ad cs) {y : MethodName} {bytes : ByteArray} {maxL n index : Nat} {ret : Option FieldType} {ws ws1 : List Cond} {rm : Room} {As : List Value} {post : Int32 → MI → ML → Prop} {Cn : String} {T : u_T} {N ci k : Nat} {fs : List Value} (hM : Ci l y ws rm D ad cs (.ref (ad k) :: As) M L post) (hT : GoodIn Ts (wsV own index Cn y ws)) (hw : ws = Cond.code y bytes maxL ret :: ws1) (hrc : rm.cells = 0) (hrs : rm.slots = 0) (hdd : y.cls = Cn ∧ y.cls ≠ "java/lang/invoke/MethodHandle" ∧ y.cls ≠ "java/lang/invoke/VarHandle" ∧ (parseMethodDescriptor y.desc).map (fun d => d.parameters.length) = some n) (hR : rm.frames + 1 ≤ R.frames ∧ 8 + (maxL + 11) + rm.locals ≤ R.locals) (hn : As.length = n) (hroom : (st.map fun v => v.category).sum ≤ 8) (hf : cells ≤ R.cells ∧ slots ≤ R.slots) (hk : k < 297) (hce : ce ad cs k (M k) (L k) = .inr (ci, fs)) (hc : w_cl[ci]? = some (Cn, T, N)) {st0 : List Value} (hst : st0 = As.reverse ++ .ref (ad k) :: st) (hd : decode cc pc = .ok (.invokevirtual index, 3)) (kk : ∀ (r : Int32) (M1 : MI) (L1 : ML), post r M1 L1 → G p l e R s m args below meth c cells slots Q D ad cs nL M1 L1 (pc + 3) lv (.int r :: st)) : G p l e R s m args below meth c cells slots Q D ad cs nL M L pc lv st0 := fun H locs ls hH hS hl => va_calli (va_runV ⟨C.1, C.2.1, C.2.2.1, C.2.2.2.1, C.2.2.2.2.1⟩ hM (cwV n C.2.2.2.2.1 hT hw hrc hrs hdd hR) ⟨Pre_blind D ad cs M L _, va_recv C.2.2.2.2.2.2.1.1 hH hc (wl_at hk hce), fun U hU hW => ⟨rfl, pre_at C hH hS hU hW⟩⟩ rfl hn hl.1 hst (lv_room hroom) hd hf) hS (fun q _ h => h) (fun q h => h) (fun r u t H1 locs1 ht hvm hw9 hB hz hk9 hS1 => kk r u.1 u.2 hw9 H1 locs1 ls (by rw [ht] at hB; exact hB) hS1 hl)
theorem g_callSi (C : Cx p s m args meth c cc nL Ts own D ad cs) {y : MethodName} {bytes : ByteArray} {maxL n index : Nat} {ret : Option FieldType} {ws ws1 : List Cond} {rm : Room} {As : List Value} {post : Int32 → MI → ML → Prop} (hM : Ci l y ws rm D ad cs As M L post) (hT : GoodIn Ts (va_wsS own index y ws)) (hw : ws = Cond.code y bytes maxL ret :: ws1) (hrc : rm.cells = 0) (hrs : rm.slots = 0) (hdd : y.cls ≠ "java/lang/invoke/MethodHandle" ∧ y.cls ≠ "java/lang/invoke/VarHandle" ∧ (parseMethodDescriptor y.desc).map (fun d => d.parameters.length) = some n) (hR : rm.frames + 1 ≤ R.frames ∧ 8 + (maxL + 11) + rm.locals ≤ R.locals) (hn : As.length = n) (hroom : (st.map fun v => v.category).sum ≤ 8) (hf : cells ≤ R.cells ∧ slots ≤ R.slots) {st0 : List Value} (hst : st0 = As.reverse ++ st) (hd : decode cc pc = .ok (.invokestatic index, 3)) (kk : ∀ (r : Int32) (M1 : MI) (L1 : ML), post r M1 L1 → G p l e R s m args below meth c cells slots Q D ad cs nL M1 L1 (pc + 3) lv (.int r :: st)) : G p l e R s m args below meth c cells slots Q D ad cs nL M L pc lv st0 := fun H locs ls hH hS hl => va_calli (va_runS ⟨C.1, C.2.1, C.2.2.1, C.2.2.2.1, C.2.2.2.2.1⟩ hM (va_cwS n C.2.2.2.2.1 hT hw hrc hrs hdd hR) ⟨Pre_blind D ad cs M L _, fun U hU hW => ⟨rfl, pre_at C hH hS hU hW⟩⟩ rfl hn hl.1 hst (lv_room hroom) hd hf) hS (fun q _ h => h) (fun q h => h) (fun r u t H1 locs1 ht hvm hw9 hB hz hk9 hS1 => kk r u.1 u.2 hw9 H1 locs1 ls (by rw [ht] at hB; exact hB) hS1 hl)
theorem g_callVl (C : Cx p s m args meth c cc nL Ts own D ad cs) {y : MethodName} {bytes : ByteArray} {maxL n index : Nat} {ret : Option FieldType} {ws ws1 : List Cond} {rm : Room} {As : List Value} {post : Int64 → MI → ML → Prop} {Cn : String} {T : u_T} {N ci k : Nat} {fs : List Value} (hM : Cl l y ws rm D ad cs (.ref (ad k) :: As) M L post) (hT : GoodIn Ts (wsV own index Cn y ws)) (hw : ws = Cond.code y bytes maxL ret :: ws1) (hrc : rm.cells = 0) (hrs : rm.slots = 0) (hdd : y.cls = Cn ∧ y.cls ≠ "java/lang/invoke/MethodHandle" ∧ y.cls ≠ "java/lang/invoke/VarHandle" ∧ (parseMethodDescriptor y.desc).map (fun d => d.parameters.length) = some n) (hR : rm.frames + 1 ≤ R.frames ∧ 8 + (maxL + 11) + rm.locals ≤ R.locals) (hn : As.length = n) (hroom : (st.map fun v => v.category).sum ≤ 8) (hf : cells ≤ R.cells ∧ slots ≤ R.slots) (hk : k < 297) (hce : ce ad cs k (M k) (L k) = .inr (ci, fs)) (hc : w_cl[ci]? = some (Cn, T, N)) {st0 : List Value} (hst : st0 = As.reverse ++ .ref (ad k) :: st) (hd : decode cc pc = .ok (.invokevirtual index, 3)) (kk : ∀ (r : Int64) (M1 : MI) (L1 : ML), post r M1 L1 → G p l e R s m args below meth c cells slots Q D ad cs nL M1 L1 (pc + 3) lv (.long r :: st)) : G p l e R s m args below meth c cells slots Q D ad cs nL M L pc lv st0 := fun H locs ls hH hS hl => va_calll (va_runV ⟨C.1, C.2.1, C.2.2.1, C.2.2.2.1, C.2.2.2.2.1⟩ hM (cwV n C.2.2.2.2.1 hT hw hrc hrs hdd hR) ⟨Pre_blind D ad cs M L _, va_recv C.2.2.2.2.2.2.1.1 hH hc (wl_at hk hce), fun U hU hW => ⟨rfl, pre_at C hH hS hU hW⟩⟩ rfl hn hl.1 hst (lv_room hroom) hd hf) hS (fun q _ h => h) (fun q h => h) (fun r u t H1 locs1 ht hvm hw9 hB hz hk9 hS1 => kk r u.1 u.2 hw9 H1 locs1 ls (by rw [ht] at hB; exact hB) hS1 hl)
theorem g_callSl (C : Cx p s m args meth c cc nL Ts own D ad cs) {y : MethodName} {bytes : ByteArray} {maxL n index : Nat} {ret : Option FieldType} {ws ws1 : List Cond} {rm : Room} {As : List Value} {post : Int64 → MI → ML → Prop} (hM : Cl l y ws rm D ad cs As M L post) (hT : GoodIn Ts (va_wsS own index y ws)) (hw : ws = Cond.code y bytes maxL ret :: ws1) (hrc : rm.cells = 0) (hrs : rm.slots = 0) (hdd : y.cls ≠ "java/lang/invoke/MethodHandle" ∧ y.cls ≠ "java/lang/invoke/VarHandle" ∧ (parseMethodDescriptor y.desc).map (fun d => d.parameters.length) = some n) (hR : rm.frames + 1 ≤ R.frames ∧ 8 + (maxL + 11) + rm.locals ≤ R.locals) (hn : As.length = n) (hroom : (st.map fun v => v.category).sum ≤ 8) (hf : cells ≤ R.cells ∧ slots ≤ R.slots) {st0 : List Value} (hst : st0 = As.reverse ++ st) (hd : decode cc pc = .ok (.invokestatic index, 3)) (kk : ∀ (r : Int64) (M1 : MI) (L1 : ML), post r M1 L1 → G p l e R s m args below meth c cells slots Q D ad cs nL M1 L1 (pc + 3) lv (.long r :: st)) : G p l e R s m args below meth c cells slots Q D ad cs nL M L pc lv st0 := fun H locs ls hH hS hl => va_calll (va_runS ⟨C.1, C.2.1, C.2.2.1, C.2.2.2.1, C.2.2.2.2.1⟩ hM (va_cwS n C.2.2.2.2.1 hT hw hrc hrs hdd hR) ⟨Pre_blind D ad cs M L _, fun U hU hW => ⟨rfl, pre_at C hH hS hU hW⟩⟩ rfl hn hl.1 hst (lv_room hroom) hd hf) hS (fun q _ h => h) (fun q h => h) (fun r u t H1 locs1 ht hvm hw9 hB hz hk9 hS1 => kk r u.1 u.2 hw9 H1 locs1 ls (by rw [ht] at hB; exact hB) hS1 hl)
theorem g_callVv (C : Cx p s m args meth c cc nL Ts own D ad cs) {y : MethodName} {bytes : ByteArray} {maxL n index : Nat} {ret : Option FieldType} {ws ws1 : List Cond} {rm : Room} {As : List Value} {post : MI → ML → Prop} {Cn : String} {T : u_T} {N ci k : Nat} {fs : List Value} (hM : Cv l y ws rm D ad cs (.ref (ad k) :: As) M L post) (hT : GoodIn Ts (wsV own index Cn y ws)) (hw : ws = Cond.code y bytes maxL ret :: ws1) (hrc : rm.cells = 0) (hrs : rm.slots = 0) (hdd : y.cls = Cn ∧ y.cls ≠ "java/lang/invoke/MethodHandle" ∧ y.cls ≠ "java/lang/invoke/VarHandle" ∧ (parseMethodDescriptor y.desc).map (fun d => d.parameters.length) = some n) (hR : rm.frames + 1 ≤ R.frames ∧ 8 + (maxL + 11) + rm.locals ≤ R.locals) (hn : As.length = n) (hroom : (st.map fun v => v.category).sum ≤ 8) (hf : cells ≤ R.cells ∧ slots ≤ R.slots) (hk : k < 297) (hce : ce ad cs k (M k) (L k) = .inr (ci, fs)) (hc : w_cl[ci]? = some (Cn, T, N)) {st0 : List Value} (hst : st0 = As.reverse ++ .ref (ad k) :: st) (hd : decode cc pc = .ok (.invokevirtual index, 3)) (kk : ∀ (M1 : MI) (L1 : ML), post M1 L1 → G p l e R s m args below meth c cells slots Q D ad cs nL M1 L1 (pc + 3) lv (st)) : G p l e R s m args below meth c cells slots Q D ad cs nL M L pc lv st0 := fun H locs ls hH hS hl => va_callv (va_runV ⟨C.1, C.2.1, C.2.2.1, C.2.2.2.1, C.2.2.2.2.1⟩ hM (cwV n C.2.2.2.2.1 hT hw hrc hrs hdd hR) ⟨Pre_blind D ad cs M L _, va_recv C.2.2.2.2.2.2.1.1 hH hc (wl_at hk hce), fun U hU hW => ⟨rfl, pre_at C hH hS hU hW⟩⟩ rfl hn hl.1 hst (lv_room hroom) hd hf) hS (fun q _ h => h) (fun q h => h) (fun u t H1 locs1 ht hvm hw9 hB hz hk9 hS1 => kk u.1 u.2 hw9 H1 locs1 ls (by rw [ht] at hB; exact hB) hS1 hl)
theorem g_iret (C : Cx p s m args meth c cc nL Ts own D ad cs) {v : Int32} {post : Int32 → MI → ML → Prop} (hr : meth.sig.returnType = some .int) (hp : post v M L) (hd : decode cc pc = .ok (.ireturn, 1)) : G p l e R s m args below meth c cells slots (MQ below (Qi D ad cs post) args s cells slots (Ar ad)) D ad cs nL M L pc lv [.int v] := fun H locs ls hH hS hl => W.iret C.1 C.2.1 hr (fun t ht hW => ⟨⟨v, (M, L), rfl, hp, by show Hd D ad cs M L t.heap; rw [ht]; exact hH⟩, hS.F ht⟩) hS.2.2 hd C.2.2.2.2.2.1
theorem g_lret (C : Cx p s m args meth c cc nL Ts own D ad cs) {v : Int64} {post : Int64 → MI → ML → Prop} (hr : meth.sig.returnType = some .long) (hp : post v M L) (hd : decode cc pc = .ok (.lreturn, 1)) : G p l e R s m args below meth c cells slots (MQ below (Ql D ad cs post) args s cells slots (Ar ad)) D ad cs nL M L pc lv [.long v] := fun H locs ls hH hS hl => W.lret C.1 C.2.1 hr (fun t ht hW => ⟨⟨v, (M, L), rfl, hp, by show Hd D ad cs M L t.heap; rw [ht]; exact hH⟩, hS.F ht⟩) hS.2.2 hd C.2.2.2.2.2.1
theorem g_zret (C : Cx p s m args meth c cc nL Ts own D ad cs) {v : Int32} {post : Int32 → MI → ML → Prop} (hr : meth.sig.returnType = some .boolean) (hn : narrow .boolean (.int v) = .int v) (hp : post v M L) (hd : decode cc pc = .ok (.ireturn, 1)) : G p l e R s m args below meth c cells slots (MQ below (Qi D ad cs post) args s cells slots (Ar ad)) D ad cs nL M L pc lv [.int v] := fun H locs ls hH hS hl => W.zret C.1 C.2.1 hr hn (fun t ht hW => ⟨⟨v, (M, L), rfl, hp, by show Hd D ad cs M L t.heap; rw [ht]; exact hH⟩, hS.F ht⟩) hS.2.2 hd C.2.2.2.2.2.1
theorem g_vret (C : Cx p s m args meth c cc nL Ts own D ad cs) {post : MI → ML → Prop} (hr : meth.sig.returnType = none) (hp : post M L) (hd : decode cc pc = .ok (.return_, 1)) : G p l e R s m args below meth c cells slots (MQ below (Qv D ad cs post) args s cells slots (Ar ad)) D ad cs nL M L pc lv [] := fun H locs ls hH hS hl => W.vret C.1 C.2.1 hr (fun t ht hW => ⟨⟨(M, L), rfl, hp, by show Hd D ad cs M L t.heap; rw [ht]; exact hH⟩, hS.F ht⟩) hS.2.2 hd C.2.2.2.2.2.1
theorem g_loop {α : Type} (μ : α → Nat) (Inv : α → Prop) (Mf : α → MI) (Lf : α → ML) (lvf : α → List (Nat × Value)) (a0 : α) (h0 : Inv a0) (hM : M = Mf a0) (hL : L = Lf a0) (hlv : lv = lvf a0) (step : ∀ a, Inv a → (∀ b, Inv b → μ b < μ a → G p l e R s m args below meth c cells slots Q D ad cs nL (Mf b) (Lf b) pc (lvf b) st) → G p l e R s m args below meth c cells slots Q D ad cs nL (Mf a) (Lf a) pc (lvf a) st) : G p l e R s m args below meth c cells slots Q D ad cs nL M L pc lv st := by
  have key : ∀ n a, μ a < n → Inv a → G p l e R s m args below meth c cells slots Q D ad cs nL (Mf a) (Lf a) pc (lvf a) st := by
    intro n
    induction n with
    | zero => intro a h; exact absurd h (Nat.not_lt_zero _)
    | succ n ih => intro a h hI; exact step a hI (fun b hb hlt => ih b (by omega) hb)
  rw [hM, hL, hlv]
  exact key _ a0 (Nat.lt_succ_self _) h0
end OWN
theorem enter_i {l : Launch} {y : MethodName} {ws ws1 : List Cond} {rm : Room} {D : va_G} {ad : Nat → Nat} {cs : Nat → ClassId} {av : List Value} {M : MI} {L : ML} {post : Int32 → MI → ML → Prop} {cc : ByteArray} {nL : Nat} {ret : Option FieldType} (own : String) (hown : y.cls = own) (lv : List (Nat × Value)) (hlv : lv_args 0 av = lv) (hnl : (lg_sl av).length ≤ nL) (hy : plainName y.cls = true) (hw : ws = Cond.code y cc nL ret :: ws1)
    (body : ∀ (p : Program) (e : Env) (s : State) (m : MethodId) (below : List Frame) (meth : Method) (c : Code), Cx p s m av.toArray meth c cc nL ws own D ad cs → meth.sig.returnType = ret → G p l e rm s m av.toArray below meth c 0 0 (MQ below (Qi D ad cs post) av.toArray s 0 0 (Ar ad)) D ad cs nL M L 0 lv []) : Ci l y ws rm D ad cs av M L post := by
  refine Met.ofW (cc := cc) (maxL := nL) (ret := ret) hy hw ?_
  intro p e s m args below meth c s₁ B hml hv
  obtain ⟨rfl, hA, hZ, hH⟩ := hv
  subst hlv
  subst hown
  rw [lg_entry_eq]
  exact body p e s m below meth c ⟨B.exec, B.bytes, hml, findClass_of_methodNamed B.named, atoms_spec (ws := ws) B.pre, B.notSynchronized, hA, hZ⟩ B.returns s.heap [] _ hH va_S.rf (lv_entry av hnl)
theorem enter_l {l : Launch} {y : MethodName} {ws ws1 : List Cond} {rm : Room} {D : va_G} {ad : Nat → Nat} {cs : Nat → ClassId} {av : List Value} {M : MI} {L : ML} {post : Int64 → MI → ML → Prop} {cc : ByteArray} {nL : Nat} {ret : Option FieldType} (own : String) (hown : y.cls = own) (lv : List (Nat × Value)) (hlv : lv_args 0 av = lv) (hnl : (lg_sl av).length ≤ nL) (hy : plainName y.cls = true) (hw : ws = Cond.code y cc nL ret :: ws1)
    (body : ∀ (p : Program) (e : Env) (s : State) (m : MethodId) (below : List Frame) (meth : Method) (c : Code), Cx p s m av.toArray meth c cc nL ws own D ad cs → meth.sig.returnType = ret → G p l e rm s m av.toArray below meth c 0 0 (MQ below (Ql D ad cs post) av.toArray s 0 0 (Ar ad)) D ad cs nL M L 0 lv []) : Cl l y ws rm D ad cs av M L post := by
  refine Met.ofW (cc := cc) (maxL := nL) (ret := ret) hy hw ?_
  intro p e s m args below meth c s₁ B hml hv
  obtain ⟨rfl, hA, hZ, hH⟩ := hv
  subst hlv
  subst hown
  rw [lg_entry_eq]
  exact body p e s m below meth c ⟨B.exec, B.bytes, hml, findClass_of_methodNamed B.named, atoms_spec (ws := ws) B.pre, B.notSynchronized, hA, hZ⟩ B.returns s.heap [] _ hH va_S.rf (lv_entry av hnl)
theorem enter_v {l : Launch} {y : MethodName} {ws ws1 : List Cond} {rm : Room} {D : va_G} {ad : Nat → Nat} {cs : Nat → ClassId} {av : List Value} {M : MI} {L : ML} {post : MI → ML → Prop} {cc : ByteArray} {nL : Nat} {ret : Option FieldType} (own : String) (hown : y.cls = own) (lv : List (Nat × Value)) (hlv : lv_args 0 av = lv) (hnl : (lg_sl av).length ≤ nL) (hy : plainName y.cls = true) (hw : ws = Cond.code y cc nL ret :: ws1)
    (body : ∀ (p : Program) (e : Env) (s : State) (m : MethodId) (below : List Frame) (meth : Method) (c : Code), Cx p s m av.toArray meth c cc nL ws own D ad cs → meth.sig.returnType = ret → G p l e rm s m av.toArray below meth c 0 0 (MQ below (Qv D ad cs post) av.toArray s 0 0 (Ar ad)) D ad cs nL M L 0 lv []) : Cv l y ws rm D ad cs av M L post := by
  refine Met.ofW (cc := cc) (maxL := nL) (ret := ret) hy hw ?_
  intro p e s m args below meth c s₁ B hml hv
  obtain ⟨rfl, hA, hZ, hH⟩ := hv
  subst hlv
  subst hown
  rw [lg_entry_eq]
  exact body p e s m below meth c ⟨B.exec, B.bytes, hml, findClass_of_methodNamed B.named, atoms_spec (ws := ws) B.pre, B.notSynchronized, hA, hZ⟩ B.returns s.heap [] _ hH va_S.rf (lv_entry av hnl)
theorem ce_brow (ad : Nat → Nat) (cs : Nat → ClassId) (f : Nat → Int32) (g : Nat → Int64) {i : Nat} (hi : i < 60) : ce ad cs (8 + i) f g = .inl (cs 0, 10, .inl f) := by
  have h : (tab ad cs)[8 + i]? = some (aI cs 10) := by
    have e : tab ad cs = (tb0 ad cs) ++ (tb1 ad cs ++ (tb2 ad cs ++ (tb3 ad cs ++ (tb4 ad cs ++ (tb5 ad cs ++ (tb6 ad cs ++ (tb7 ad cs ++ (tb8 ad cs ++ (tb9 ad cs ++ (tb10 ad cs ++ (tb11 ad cs ++ (tb12 ad cs ++ (tb13 ad cs))))))))))))) := by simp only [tab, List.append_assoc, List.nil_append, List.append_nil]
    rw [e, List.getElem?_append_right (by show 8 ≤ 8 + i; omega)]
    rw [show (8 + i - (tb0 ad cs).length) = i from by show 8 + i - 8 = i; omega]
    rw [List.getElem?_append_left (by show i < (List.replicate 60 _).length; rw [List.length_replicate]; exact hi)]
    rw [show tb1 ad cs = List.replicate 60 _ from rfl, List.getElem?_replicate, if_pos hi]
  simp only [ce, h]
theorem ce_xplace (ad : Nat → Nat) (cs : Nat → ClassId) (f : Nat → Int32) (g : Nat → Int64) {i : Nat} (hi : i < 8) : ce ad cs (73 + i) f g = .inl (cs 0, 40, .inl f) := by
  have h : (tab ad cs)[73 + i]? = some (aI cs 40) := by
    have e : tab ad cs = (tb0 ad cs ++ (tb1 ad cs ++ (tb2 ad cs))) ++ (tb3 ad cs ++ (tb4 ad cs ++ (tb5 ad cs ++ (tb6 ad cs ++ (tb7 ad cs ++ (tb8 ad cs ++ (tb9 ad cs ++ (tb10 ad cs ++ (tb11 ad cs ++ (tb12 ad cs ++ (tb13 ad cs))))))))))) := by simp only [tab, List.append_assoc, List.nil_append, List.append_nil]
    rw [e, List.getElem?_append_right (by show 73 ≤ 73 + i; omega)]
    rw [show (73 + i - (tb0 ad cs ++ (tb1 ad cs ++ (tb2 ad cs))).length) = i from by show 73 + i - 73 = i; omega]
    rw [List.getElem?_append_left (by show i < (List.replicate 8 _).length; rw [List.length_replicate]; exact hi)]
    rw [show tb3 ad cs = List.replicate 8 _ from rfl, List.getElem?_replicate, if_pos hi]
  simp only [ce, h]
theorem ce_wahead (ad : Nat → Nat) (cs : Nat → ClassId) (f : Nat → Int32) (g : Nat → Int64) {i : Nat} (hi : i < 10) : ce ad cs (100 + i) f g = .inl (cs 0, 10, .inl f) := by
  have h : (tab ad cs)[100 + i]? = some (aI cs 10) := by
    have e : tab ad cs = (tb0 ad cs ++ (tb1 ad cs ++ (tb2 ad cs ++ (tb3 ad cs ++ (tb4 ad cs))))) ++ (tb5 ad cs ++ (tb6 ad cs ++ (tb7 ad cs ++ (tb8 ad cs ++ (tb9 ad cs ++ (tb10 ad cs ++ (tb11 ad cs ++ (tb12 ad cs ++ (tb13 ad cs))))))))) := by simp only [tab, List.append_assoc, List.nil_append, List.append_nil]
    rw [e, List.getElem?_append_right (by show 100 ≤ 100 + i; omega)]
    rw [show (100 + i - (tb0 ad cs ++ (tb1 ad cs ++ (tb2 ad cs ++ (tb3 ad cs ++ (tb4 ad cs))))).length) = i from by show 100 + i - 100 = i; omega]
    rw [List.getElem?_append_left (by show i < (List.replicate 10 _).length; rw [List.length_replicate]; exact hi)]
    rw [show tb5 ad cs = List.replicate 10 _ from rfl, List.getElem?_replicate, if_pos hi]
  simp only [ce, h]
theorem ce_wway (ad : Nat → Nat) (cs : Nat → ClassId) (f : Nat → Int32) (g : Nat → Int64) {i : Nat} (hi : i < 10) : ce ad cs (110 + i) f g = .inl (cs 0, 10, .inl f) := by
  have h : (tab ad cs)[110 + i]? = some (aI cs 10) := by
    have e : tab ad cs = (tb0 ad cs ++ (tb1 ad cs ++ (tb2 ad cs ++ (tb3 ad cs ++ (tb4 ad cs ++ (tb5 ad cs)))))) ++ (tb6 ad cs ++ (tb7 ad cs ++ (tb8 ad cs ++ (tb9 ad cs ++ (tb10 ad cs ++ (tb11 ad cs ++ (tb12 ad cs ++ (tb13 ad cs)))))))) := by simp only [tab, List.append_assoc, List.nil_append, List.append_nil]
    rw [e, List.getElem?_append_right (by show 110 ≤ 110 + i; omega)]
    rw [show (110 + i - (tb0 ad cs ++ (tb1 ad cs ++ (tb2 ad cs ++ (tb3 ad cs ++ (tb4 ad cs ++ (tb5 ad cs)))))).length) = i from by show 110 + i - 110 = i; omega]
    rw [List.getElem?_append_left (by show i < (List.replicate 10 _).length; rw [List.length_replicate]; exact hi)]
    rw [show tb6 ad cs = List.replicate 10 _ from rfl, List.getElem?_replicate, if_pos hi]
  simp only [ce, h]
theorem ce_raup (ad : Nat → Nat) (cs : Nat → ClassId) (f : Nat → Int32) (g : Nat → Int64) {i : Nat} (hi : i < 30) : ce ad cs (131 + i) f g = .inl (cs 1, 10, .inr (.inl g)) := by
  have h : (tab ad cs)[131 + i]? = some (aJ cs 10) := by
    have e : tab ad cs = (tb0 ad cs ++ (tb1 ad cs ++ (tb2 ad cs ++ (tb3 ad cs ++ (tb4 ad cs ++ (tb5 ad cs ++ (tb6 ad cs ++ (tb7 ad cs)))))))) ++ (tb8 ad cs ++ (tb9 ad cs ++ (tb10 ad cs ++ (tb11 ad cs ++ (tb12 ad cs ++ (tb13 ad cs)))))) := by simp only [tab, List.append_assoc, List.nil_append, List.append_nil]
    rw [e, List.getElem?_append_right (by show 131 ≤ 131 + i; omega)]
    rw [show (131 + i - (tb0 ad cs ++ (tb1 ad cs ++ (tb2 ad cs ++ (tb3 ad cs ++ (tb4 ad cs ++ (tb5 ad cs ++ (tb6 ad cs ++ (tb7 ad cs)))))))).length) = i from by show 131 + i - 131 = i; omega]
    rw [List.getElem?_append_left (by show i < (List.replicate 30 _).length; rw [List.length_replicate]; exact hi)]
    rw [show tb8 ad cs = List.replicate 30 _ from rfl, List.getElem?_replicate, if_pos hi]
  simp only [ce, h]
theorem ce_ralow (ad : Nat → Nat) (cs : Nat → ClassId) (f : Nat → Int32) (g : Nat → Int64) {i : Nat} (hi : i < 30) : ce ad cs (161 + i) f g = .inl (cs 1, 10, .inr (.inl g)) := by
  have h : (tab ad cs)[161 + i]? = some (aJ cs 10) := by
    have e : tab ad cs = (tb0 ad cs ++ (tb1 ad cs ++ (tb2 ad cs ++ (tb3 ad cs ++ (tb4 ad cs ++ (tb5 ad cs ++ (tb6 ad cs ++ (tb7 ad cs ++ (tb8 ad cs))))))))) ++ (tb9 ad cs ++ (tb10 ad cs ++ (tb11 ad cs ++ (tb12 ad cs ++ (tb13 ad cs))))) := by simp only [tab, List.append_assoc, List.nil_append, List.append_nil]
    rw [e, List.getElem?_append_right (by show 161 ≤ 161 + i; omega)]
    rw [show (161 + i - (tb0 ad cs ++ (tb1 ad cs ++ (tb2 ad cs ++ (tb3 ad cs ++ (tb4 ad cs ++ (tb5 ad cs ++ (tb6 ad cs ++ (tb7 ad cs ++ (tb8 ad cs))))))))).length) = i from by show 161 + i - 161 = i; omega]
    rw [List.getElem?_append_left (by show i < (List.replicate 30 _).length; rw [List.length_replicate]; exact hi)]
    rw [show tb9 ad cs = List.replicate 30 _ from rfl, List.getElem?_replicate, if_pos hi]
  simp only [ce, h]
theorem ce_rbup (ad : Nat → Nat) (cs : Nat → ClassId) (f : Nat → Int32) (g : Nat → Int64) {i : Nat} (hi : i < 30) : ce ad cs (197 + i) f g = .inl (cs 1, 10, .inr (.inl g)) := by
  have h : (tab ad cs)[197 + i]? = some (aJ cs 10) := by
    have e : tab ad cs = (tb0 ad cs ++ (tb1 ad cs ++ (tb2 ad cs ++ (tb3 ad cs ++ (tb4 ad cs ++ (tb5 ad cs ++ (tb6 ad cs ++ (tb7 ad cs ++ (tb8 ad cs ++ (tb9 ad cs ++ (tb10 ad cs))))))))))) ++ (tb11 ad cs ++ (tb12 ad cs ++ (tb13 ad cs))) := by simp only [tab, List.append_assoc, List.nil_append, List.append_nil]
    rw [e, List.getElem?_append_right (by show 197 ≤ 197 + i; omega)]
    rw [show (197 + i - (tb0 ad cs ++ (tb1 ad cs ++ (tb2 ad cs ++ (tb3 ad cs ++ (tb4 ad cs ++ (tb5 ad cs ++ (tb6 ad cs ++ (tb7 ad cs ++ (tb8 ad cs ++ (tb9 ad cs ++ (tb10 ad cs))))))))))).length) = i from by show 197 + i - 197 = i; omega]
    rw [List.getElem?_append_left (by show i < (List.replicate 30 _).length; rw [List.length_replicate]; exact hi)]
    rw [show tb11 ad cs = List.replicate 30 _ from rfl, List.getElem?_replicate, if_pos hi]
  simp only [ce, h]
theorem ce_rblow (ad : Nat → Nat) (cs : Nat → ClassId) (f : Nat → Int32) (g : Nat → Int64) {i : Nat} (hi : i < 30) : ce ad cs (227 + i) f g = .inl (cs 1, 10, .inr (.inl g)) := by
  have h : (tab ad cs)[227 + i]? = some (aJ cs 10) := by
    have e : tab ad cs = (tb0 ad cs ++ (tb1 ad cs ++ (tb2 ad cs ++ (tb3 ad cs ++ (tb4 ad cs ++ (tb5 ad cs ++ (tb6 ad cs ++ (tb7 ad cs ++ (tb8 ad cs ++ (tb9 ad cs ++ (tb10 ad cs ++ (tb11 ad cs)))))))))))) ++ (tb12 ad cs ++ (tb13 ad cs)) := by simp only [tab, List.append_assoc, List.nil_append, List.append_nil]
    rw [e, List.getElem?_append_right (by show 227 ≤ 227 + i; omega)]
    rw [show (227 + i - (tb0 ad cs ++ (tb1 ad cs ++ (tb2 ad cs ++ (tb3 ad cs ++ (tb4 ad cs ++ (tb5 ad cs ++ (tb6 ad cs ++ (tb7 ad cs ++ (tb8 ad cs ++ (tb9 ad cs ++ (tb10 ad cs ++ (tb11 ad cs)))))))))))).length) = i from by show 227 + i - 227 = i; omega]
    rw [List.getElem?_append_left (by show i < (List.replicate 30 _).length; rw [List.length_replicate]; exact hi)]
    rw [show tb12 ad cs = List.replicate 30 _ from rfl, List.getElem?_replicate, if_pos hi]
  simp only [ce, h]
