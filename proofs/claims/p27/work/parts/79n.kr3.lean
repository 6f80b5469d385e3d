set_option maxHeartbeats 4000000 in
set_option maxRecDepth 100000 in
theorem k_X11_isAheadOn (l : Launch) (D : va_G) (ad : Nat → Nat) (cs : Nat → ClassId) (M : MI) (L : ML) (b : Int32) (x : Int32) (y : Int32) (hI : IR M) (hb : 0 ≤ b.toInt ∧ b.toInt < 60) (hxy : 0 ≤ x.toInt ∧ 0 ≤ y.toInt) : Ci l yX11_isAheadOn wsX11_isAheadOn ({ frames := 1, cells := 0, slots := 0, locals := 23 }) D ad cs [.ref (ad 258), .int b, .int x, .int y] M L (fun r M1 L1 => M1 = M ∧ L1 = L ∧ (zo r (ahV (vR M) (b.toNatClampNeg) (x.toNatClampNeg) (y.toNatClampNeg)))) := by
  refine enter_i RX11 rfl [(0, .ref (ad 258)), (1, .int b), (2, .int x), (3, .int y)] rfl (Nat.le_of_ble_eq_true rfl) (by decide +kernel) rfl ?_
  intro p e s m below meth c C hr
  have hF : ∀ k i, True → M k i = M k i := fun _ _ _ => rfl
  have hG : ∀ k i, True → L k i = L k i := fun _ _ _ => rfl
  have w0 : (vR M 0 0).toInt = (M 258 2).toInt := rfl
  have w1 : (vR M 0 1).toInt = (M 258 4).toInt := rfl
  have w2 : (vR M 0 2).toInt = (M 258 9).toInt := rfl
  have w3 : (vR M 0 3).toInt = (M 258 14).toInt := rfl
  obtain ⟨y0a, y0b⟩ := (show rg 0 10 (M 258 2) from hI 258 2)
  obtain ⟨y1a, y1b⟩ := (show rg 0 60 (M 258 4) from hI 258 4)
  obtain ⟨y2a, y2b⟩ := (show rg 0 8 (M 258 9) from hI 258 9)
  obtain ⟨y3a, y3b⟩ := (show rg 0 20 (M 258 14) from hI 258 14)
  obtain ⟨hb1, hb2⟩ := hb
  obtain ⟨hx1, hy1⟩ := hxy
  obtain ⟨oa, ob⟩ := (show rg 0 10 (vR M 4 b.toNatClampNeg) from hI 263 _)
  refine g_aload_n C 0 dX11_isAheadOn_0 rfl ?_
  refine g_iload_n C 1 dX11_isAheadOn_1 rfl ?_
  refine g_iload_n C 2 dX11_isAheadOn_2 rfl ?_
  refine g_callVi C (n := 2) (As := [.int b, .int x]) (st := []) (s_X11_placeOn l D ad cs _ _ b x hI ⟨by omega, by omega⟩) gX11_isAheadOn_X11_placeOn rfl rfl rfl (by decide +kernel) ⟨Nat.le_of_ble_eq_true rfl, Nat.le_of_ble_eq_true rfl⟩ rfl (Nat.le_of_ble_eq_true rfl) ⟨Nat.zero_le _, Nat.zero_le _⟩ (by decide) (ce_model ad cs _ _) rfl rfl dX11_isAheadOn_3 (fun r1 M2 L3 hr1 => ?_)
  obtain ⟨hq1, hq2, hr1⟩ := hr1
  obtain rfl := hq1.symm
  obtain rfl := hq2.symm
  obtain ⟨hr1, qr1⟩ := hr1
  have tr1 : r1.toInt = plN (vR M) b.toNatClampNeg x.toNatClampNeg := by show r1.toInt = (pF (mk (vR M) b.toNatClampNeg) (Int32.ofNat x.toNatClampNeg) (vR M 4 b.toNatClampNeg).toNatClampNeg 0).toInt; rw [hr1, of_ix (by omega)]
  refine g_istore C [(4, .int r1), (0, .ref (ad 258)), (1, .int b), (2, .int x), (3, .int y)] dX11_isAheadOn_6 (by decide) rfl ?_
  refine g_aload_n C 1 dX11_isAheadOn_8 rfl ?_
  refine g_iload_n C 2 dX11_isAheadOn_9 rfl ?_
  refine g_iload_n C 4 dX11_isAheadOn_10 rfl ?_
  refine g_callVi C (n := 2) (As := [.int b, .int y]) (st := []) (s_X11_placeOn l D ad cs _ _ b y hI ⟨by omega, by omega⟩) gX11_isAheadOn_X11_placeOn rfl rfl rfl (by decide +kernel) ⟨Nat.le_of_ble_eq_true rfl, Nat.le_of_ble_eq_true rfl⟩ rfl (Nat.le_of_ble_eq_true rfl) ⟨Nat.zero_le _, Nat.zero_le _⟩ (by decide) (ce_model ad cs _ _) rfl rfl dX11_isAheadOn_11 (fun r4 M5 L6 hr4 => ?_)
  obtain ⟨hq1, hq2, hr4⟩ := hr4
  obtain rfl := hq1.symm
  obtain rfl := hq2.symm
  obtain ⟨hr4, qr4⟩ := hr4
  have tr4 : r4.toInt = plN (vR M) b.toNatClampNeg y.toNatClampNeg := by show r4.toInt = (pF (mk (vR M) b.toNatClampNeg) (Int32.ofNat y.toNatClampNeg) (vR M 4 b.toNatClampNeg).toNatClampNeg 0).toInt; rw [hr4, of_ix (by omega)]
  refine g_istore C [(5, .int r4), (4, .int r1), (0, .ref (ad 258)), (1, .int b), (2, .int x), (3, .int y)] dX11_isAheadOn_14 (by decide) rfl ?_
  refine g_iload C 1 dX11_isAheadOn_16 rfl ?_
  refine g_bipush C (-9) dX11_isAheadOn_18 (by decide) ?_
  refine g_icmp_eq C 41 dX11_isAheadOn_20 (by decide) (fun c7 => ?_) (fun c7 => ?_)
  ·
    have f8 := feq rfl (by decide : ((-9) : Int32).toInt = (-9)) c7
    refine g_iconst C 0 dX11_isAheadOn_41 (by decide) ?_
    have zr9 : (0 : Int32).toInt = 0 := by decide
    exact g_zret C hr rfl ⟨rfl, rfl, (by first | exact Or.inl ⟨rfl, by dsimp only [ahV]; omega⟩ | exact Or.inr ⟨rfl, by dsimp only [ahV]; omega⟩)⟩ dX11_isAheadOn_42
  ·
    have f9 := fne rfl (by decide : ((-9) : Int32).toInt = (-9)) c7
    refine g_iload C 0 dX11_isAheadOn_23 rfl ?_
    refine g_bipush C (-9) dX11_isAheadOn_25 (by decide) ?_
    refine g_icmp_eq C 37 dX11_isAheadOn_27 (by decide) (fun c10 => ?_) (fun c10 => ?_)
    ·
      have f11 := feq rfl (by decide : ((-9) : Int32).toInt = (-9)) c10
      refine g_iconst C 1 dX11_isAheadOn_37 (by decide) ?_
      refine g_goto C 42 dX11_isAheadOn_38 (by decide) ?_
      have zr9 : (1 : Int32).toInt = 1 := by decide
      exact g_zret C hr rfl ⟨rfl, rfl, (by first | exact Or.inl ⟨rfl, by dsimp only [ahV]; omega⟩ | exact Or.inr ⟨rfl, by dsimp only [ahV]; omega⟩)⟩ dX11_isAheadOn_42
    ·
      have f12 := fne rfl (by decide : ((-9) : Int32).toInt = (-9)) c10
      refine g_iload C 1 dX11_isAheadOn_30 rfl ?_
      refine g_iload C 0 dX11_isAheadOn_32 rfl ?_
      refine g_icmp_ge C 41 dX11_isAheadOn_34 (by decide) (fun c13 => ?_) (fun c13 => ?_)
      ·
        have f14 := fle rfl rfl c13
        refine g_iconst C 0 dX11_isAheadOn_41 (by decide) ?_
        have zr9 : (0 : Int32).toInt = 0 := by decide
        exact g_zret C hr rfl ⟨rfl, rfl, (by first | exact Or.inl ⟨rfl, by dsimp only [ahV]; omega⟩ | exact Or.inr ⟨rfl, by dsimp only [ahV]; omega⟩)⟩ dX11_isAheadOn_42
      ·
        have f15 := fnle rfl rfl c13
        refine g_iconst C 1 dX11_isAheadOn_37 (by decide) ?_
        refine g_goto C 42 dX11_isAheadOn_38 (by decide) ?_
        have zr9 : (1 : Int32).toInt = 1 := by decide
        exact g_zret C hr rfl ⟨rfl, rfl, (by first | exact Or.inl ⟨rfl, by dsimp only [ahV]; omega⟩ | exact Or.inr ⟨rfl, by dsimp only [ahV]; omega⟩)⟩ dX11_isAheadOn_42
theorem dd_step {a b x y : Nat} : (a < x ∨ (a = x ∧ b < y + 1)) ↔ ((a < x ∨ (a = x ∧ b < y)) ∨ (a = x ∧ b = y)) := by omega
theorem ms11 {v x n : Int} (h : v = x + 1) (h1 : x ≤ n) (h2 : n ≤ 10) : (11 - v).toNat < (11 - x).toNat := by omega
set_option maxHeartbeats 4000000 in
set_option maxRecDepth 100000 in
theorem k_X11_layWays_200 (l : Launch) (D : va_G) (ad : Nat → Nat) (cs : Nat → ClassId) (M : MI) (L : ML)  (hI0 : IR M) (hX : hasX (vR M) (M 258 27)) (hB8 : ∀ i : Nat, (vR M 8 i).toInt = -9 ∨ (0 ≤ (vR M 8 i).toInt ∧ (vR M 8 i).toInt ≤ 59))  {p : Program} {e : Env} {s : State} {m : MethodId} {below : List Frame} {meth : Method} {c : Code} (C : Cx p s m #[.ref (ad 258)] meth c cX11_layWays 6 wsX11_layWays RX11 D ad cs) (hr : meth.sig.returnType = none) (Mc : MI) (Lc : ML) (hI : IR Mc) (hF : ∀ k i, True → Mc k i = M k i) (hG : ∀ k i, k ≠ 295 ∧ k ≠ 296 → Lc k i = L k i) (hw0 : ∀ a, a < (M 258 2).toNatClampNeg → ∀ b, b < (M 258 2).toNatClampNeg → wv (Lc 296) a b = wS (vR M) (fun i => vR M 8 (40 * (M 258 27).toNatClampNeg + i)) (vR M 7 (M 258 27).toNatClampNeg).toNatClampNeg 0 a b) : G p l e ({ frames := 2, cells := 0, slots := 0, locals := 48 }) s m #[.ref (ad 258)] below meth c 0 0 (MQ below (Qv D ad cs (fun M1 L1 => (CL (M 258 2).toNatClampNeg (M 258 2).toNatClampNeg (wv (L1 296)) ∧ ∀ a, a < (M 258 2).toNatClampNeg → ∀ b, b < (M 258 2).toNatClampNeg → wv (L1 296) a b = wS (vR M) (fun i => vR M 8 (40 * (M 258 27).toNatClampNeg + i)) (vR M 7 (M 258 27).toNatClampNeg).toNatClampNeg (M 258 2).toNatClampNeg a b) ∧ IR M1 ∧ (∀ k i, True → M1 k i = M k i) ∧ ∀ k i, k ≠ 295 ∧ k ≠ 296 → L1 k i = L k i)) #[.ref (ad 258)] s 0 0 (Ar ad)) D ad cs 6 Mc Lc 200 [(0, .ref (ad 258))] [] := by
  have hI0 := hI0
  obtain ⟨ca, cb⟩ := (show rg 0 10 (M 258 2) from hI0 258 2)
  have n02 := ixn ca
  have hX1 := hX.1
  have hX2 := hX.2
  obtain ⟨sza, szb⟩ := (show rg 0 40 (vR M 7 (M 258 27).toNatClampNeg) from hI0 266 _)
  have nsz := ixn sza
  have w2_ : (vR M 0 2).toInt = (M 258 9).toInt := rfl
  obtain ⟨y2a, y2b⟩ := (show rg 0 8 (M 258 9) from hI0 258 9)
  have nX := ixn hX1
  have p295 : Lc 295 = Lc 295 := rfl
  have p296 : Lc 296 = Lc 296 := rfl
  refine g_iconst C 0 dX11_layWays_200 (by decide) ?_
  refine g_istore_n C [(1, .int 0), (0, .ref (ad 258))] dX11_layWays_201 (by decide) rfl ?_
  have zy2078 : (0 : Int32).toInt = 0 := by decide
  refine g_loop (α := Int32 × MI × ML) (fun a => (11 - a.1.toInt).toNat) (fun a => (0 ≤ a.1.toInt) ∧ (a.1.toInt ≤ (M 258 2).toInt) ∧ (CL (M 258 2).toNatClampNeg a.1.toNatClampNeg (wv (a.2.2 296))) ∧ (∀ u9, u9 < (M 258 2).toNatClampNeg → ∀ v9, v9 < (M 258 2).toNatClampNeg → wv (a.2.2 296) u9 v9 = wS (vR M) (fun i => vR M 8 (40 * (M 258 27).toNatClampNeg + i)) (vR M 7 (M 258 27).toNatClampNeg).toNatClampNeg a.1.toNatClampNeg u9 v9) ∧ IR a.2.1 ∧ (∀ k i, True → a.2.1 k i = M k i) ∧ (∀ k i, k ≠ 295 ∧ k ≠ 296 → a.2.2 k i = L k i)) (fun a => a.2.1) (fun a => a.2.2) (fun a => [(1, .int a.1), (0, .ref (ad 258))]) ((0 : Int32), Mc, Lc) ⟨by show 0 ≤ (0 : Int32).toInt; omega, by show (0 : Int32).toInt ≤ (M 258 2).toInt; omega, by show CL (M 258 2).toNatClampNeg (0 : Int32).toNatClampNeg (wv (Lc 296)); exact fun j hj => absurd hj (by show ¬ j < 0; omega), by show ∀ u9, u9 < (M 258 2).toNatClampNeg → ∀ v9, v9 < (M 258 2).toNatClampNeg → wv (Lc 296) u9 v9 = wS (vR M) (fun i => vR M 8 (40 * (M 258 27).toNatClampNeg + i)) (vR M 7 (M 258 27).toNatClampNeg).toNatClampNeg (0 : Int32).toNatClampNeg u9 v9; exact hw0, hI, hF, hG⟩ rfl rfl rfl ?_
  rintro ⟨x1_202, M_202, L_202⟩ ⟨j202_0, j202_1, j202_2, j202_3, hI, hF, hG⟩ ih_202
  dsimp only at j202_0 j202_1 j202_2 j202_3 hI hF hG ih_202 ⊢
  have p295 : L_202 295 = L_202 295 := rfl
  have p296 : L_202 296 = L_202 296 := rfl
  have n1 := ixn (x := x1_202) (by omega)
  refine g_iload_n C 0 dX11_layWays_202 rfl ?_
  refine g_aload_n C 1 dX11_layWays_203 rfl ?_
  refine g_get C (.int (M_202 258 2)) 2 in_X11_layWays_11 (List.mem_of_getElem? (i := 1) rfl) (by decide) (ce_model ad cs _ _) rfl (by decide) rfl rfl dX11_layWays_204 ?_
  refine g_ni (fun v2079 ev2079 => ?_)
  have gv2079 : v2079 = M 258 2 := ev2079.trans (hF 258 2 trivial)
  have tv2079 := congrArg Int32.toInt gv2079
  obtain ⟨bv2079, dv2079⟩ := (show rg 0 10 v2079 from (by rw [ev2079]; exact hI 258 2))
  refine g_icmp_ge C 350 dX11_layWays_207 (by decide) (fun c2080 => ?_) (fun c2080 => ?_)
  ·
    have f2081 := fle rfl rfl c2080
    exact g_vret C hr ⟨(by have e9 : x1_202.toNatClampNeg = (M 258 2).toNatClampNeg := (by omega); rw [e9] at j202_2 j202_3; exact ⟨j202_2, j202_3⟩), hI, hF, hG⟩ dX11_layWays_350
  ·
    have f2082 := fnle rfl rfl c2080
    refine g_iconst C 0 dX11_layWays_210 (by decide) ?_
    refine g_istore_n C [(2, .int 0), (1, .int x1_202), (0, .ref (ad 258))] dX11_layWays_211 (by decide) rfl ?_
    have zy2083 : (0 : Int32).toInt = 0 := by decide
    refine g_loop (α := Int32 × MI × ML) (fun a => (11 - a.1.toInt).toNat) (fun a => (0 ≤ a.1.toInt) ∧ (a.1.toInt ≤ (M 258 2).toInt) ∧ (FW (wv (L_202 296)) (wv (a.2.2 296)) (M 258 2).toNatClampNeg x1_202.toNatClampNeg (fun u9 v9 => u9 < a.1.toNatClampNeg)) ∧ IR a.2.1 ∧ (∀ k i, True → a.2.1 k i = M k i) ∧ (∀ k i, k ≠ 295 ∧ k ≠ 296 → a.2.2 k i = L k i)) (fun a => a.2.1) (fun a => a.2.2) (fun a => [(2, .int a.1), (1, .int x1_202), (0, .ref (ad 258))]) ((0 : Int32), M_202, L_202) ⟨by show 0 ≤ (0 : Int32).toInt; omega, by show (0 : Int32).toInt ≤ (M 258 2).toInt; omega, by show FW (wv (L_202 296)) (wv (L_202 296)) (M 258 2).toNatClampNeg x1_202.toNatClampNeg (fun u9 v9 => u9 < (0 : Int32).toNatClampNeg); exact FW_0 (fun a b ha hb => by show ¬ a < 0; omega), hI, hF, hG⟩ rfl rfl rfl ?_
    rintro ⟨x2_212, M_212, L_212⟩ ⟨j212_0, j212_1, j212_2, hI, hF, hG⟩ ih_212
    dsimp only at j212_0 j212_1 j212_2 hI hF hG ih_212 ⊢
    have p295 : L_212 295 = L_212 295 := rfl
    have p296 : L_212 296 = L_212 296 := rfl
    have n2 := ixn (x := x2_212) (by omega)
    refine g_iload_n C 0 dX11_layWays_212 rfl ?_
    refine g_aload_n C 2 dX11_layWays_213 rfl ?_
    refine g_get C (.int (M_212 258 2)) 2 in_X11_layWays_11 (List.mem_of_getElem? (i := 1) rfl) (by decide) (ce_model ad cs _ _) rfl (by decide) rfl rfl dX11_layWays_214 ?_
    refine g_ni (fun v2084 ev2084 => ?_)
    have gv2084 : v2084 = M 258 2 := ev2084.trans (hF 258 2 trivial)
    have tv2084 := congrArg Int32.toInt gv2084
    obtain ⟨bv2084, dv2084⟩ := (show rg 0 10 v2084 from (by rw [ev2084]; exact hI 258 2))
    refine g_icmp_ge C 344 dX11_layWays_217 (by decide) (fun c2085 => ?_) (fun c2085 => ?_)
    ·
      have f2086 := fle rfl rfl c2085
      obtain ⟨v2087, ev2087⟩ : ∃ y : Int32, y = x1_202 + 1 := ⟨_, rfl⟩
      try have fv2087 := fadd rfl (by decide : (1 : Int32).toInt = 1) ev2087 (by omega) (by omega)
      refine g_iinc C 1 v2087 [(1, .int v2087), (2, .int x2_212), (0, .ref (ad 258))] dX11_layWays_344 rfl (by rw [ev2087]; rfl) (by decide) rfl ?_
      refine g_goto C 202 dX11_layWays_347 (by decide) ?_
      refine g_lv [0, 2] [(1, .int v2087), (0, .ref (ad 258))] rfl ?_
      have nv := ixn (x := v2087) (by omega)
      have iv : v2087.toNatClampNeg = x1_202.toNatClampNeg + 1 := by omega
      have hfw : FW (wv (L_202 296)) (wv (L_212 296)) (M 258 2).toNatClampNeg x1_202.toNatClampNeg (fun _ _ => True) := (FW_congr j212_2 (fun a b ha hb => ⟨fun _ => (by show a < x2_212.toNatClampNeg; omega), fun _ => trivial⟩))
      have hws : ∀ a, a < (M 258 2).toNatClampNeg → ∀ b, b < (M 258 2).toNatClampNeg → wv (L_212 296) a b = wS (vR M) (fun i => vR M 8 (40 * (M 258 27).toNatClampNeg + i)) (vR M 7 (M 258 27).toNatClampNeg).toNatClampNeg (x1_202.toNatClampNeg + 1) a b := by
        intro a ha b hb
        rw [FW_eq hfw ha hb, j202_3 a ha b hb, j202_3 a ha x1_202.toNatClampNeg (by omega), j202_3 x1_202.toNatClampNeg (by omega) b hb]
        rfl
      exact ih_202 (v2087, M_212, L_212) ⟨by show 0 ≤ v2087.toInt; omega, by show v2087.toInt ≤ (M 258 2).toInt; omega, by show CL (M 258 2).toNatClampNeg v2087.toNatClampNeg (wv (L_212 296)); rw [iv]; exact CL_step j202_2 (by omega) hfw, by show ∀ u9, u9 < (M 258 2).toNatClampNeg → ∀ v9, v9 < (M 258 2).toNatClampNeg → wv (L_212 296) u9 v9 = wS (vR M) (fun i => vR M 8 (40 * (M 258 27).toNatClampNeg + i)) (vR M 7 (M 258 27).toNatClampNeg).toNatClampNeg v2087.toNatClampNeg u9 v9; rw [iv]; exact hws, hI, hF, hG⟩ (by show (11 - v2087.toInt).toNat < (11 - x1_202.toInt).toNat; omega)
    ·
      have f2088 := fnle rfl rfl c2085
      refine g_iconst C 0 dX11_layWays_220 (by decide) ?_
      refine g_istore_n C [(3, .int 0), (2, .int x2_212), (1, .int x1_202), (0, .ref (ad 258))] dX11_layWays_221 (by decide) rfl ?_
      have zy2089 : (0 : Int32).toInt = 0 := by decide
      refine g_loop (α := Int32 × MI × ML) (fun a => (11 - a.1.toInt).toNat) (fun a => (0 ≤ a.1.toInt) ∧ (a.1.toInt ≤ (M 258 2).toInt) ∧ (FW (wv (L_202 296)) (wv (a.2.2 296)) (M 258 2).toNatClampNeg x1_202.toNatClampNeg (fun u9 v9 => u9 < x2_212.toNatClampNeg ∨ (u9 = x2_212.toNatClampNeg ∧ v9 < a.1.toNatClampNeg))) ∧ IR a.2.1 ∧ (∀ k i, True → a.2.1 k i = M k i) ∧ (∀ k i, k ≠ 295 ∧ k ≠ 296 → a.2.2 k i = L k i)) (fun a => a.2.1) (fun a => a.2.2) (fun a => [(3, .int a.1), (2, .int x2_212), (1, .int x1_202), (0, .ref (ad 258))]) ((0 : Int32), M_212, L_212) ⟨by show 0 ≤ (0 : Int32).toInt; omega, by show (0 : Int32).toInt ≤ (M 258 2).toInt; omega, by show FW (wv (L_202 296)) (wv (L_212 296)) (M 258 2).toNatClampNeg x1_202.toNatClampNeg (fun u9 v9 => u9 < x2_212.toNatClampNeg ∨ (u9 = x2_212.toNatClampNeg ∧ v9 < (0 : Int32).toNatClampNeg)); exact FW_congr j212_2 (fun a b ha hb => by show (a < x2_212.toNatClampNeg ∨ (a = x2_212.toNatClampNeg ∧ b < 0)) ↔ a < x2_212.toNatClampNeg; omega), hI, hF, hG⟩ rfl rfl rfl ?_
      rintro ⟨x3_222, M_222, L_222⟩ ⟨j222_0, j222_1, j222_2, hI, hF, hG⟩ ih_222
      dsimp only at j222_0 j222_1 j222_2 hI hF hG ih_222 ⊢
      have p295 : L_222 295 = L_222 295 := rfl
      have p296 : L_222 296 = L_222 296 := rfl
      have n3 := ixn (x := x3_222) (by omega)
      refine g_iload_n C 0 dX11_layWays_222 rfl ?_
      refine g_aload_n C 3 dX11_layWays_223 rfl ?_
      refine g_get C (.int (M_222 258 2)) 2 in_X11_layWays_11 (List.mem_of_getElem? (i := 1) rfl) (by decide) (ce_model ad cs _ _) rfl (by decide) rfl rfl dX11_layWays_224 ?_
      refine g_ni (fun v2090 ev2090 => ?_)
      have gv2090 : v2090 = M 258 2 := ev2090.trans (hF 258 2 trivial)
      have tv2090 := congrArg Int32.toInt gv2090
      obtain ⟨bv2090, dv2090⟩ := (show rg 0 10 v2090 from (by rw [ev2090]; exact hI 258 2))
      refine g_icmp_ge C 338 dX11_layWays_227 (by decide) (fun c2091 => ?_) (fun c2091 => ?_)
      ·
        have f2092 := fle rfl rfl c2091
        obtain ⟨v2093, ev2093⟩ : ∃ y : Int32, y = x2_212 + 1 := ⟨_, rfl⟩
        try have fv2093 := fadd rfl (by decide : (1 : Int32).toInt = 1) ev2093 (by omega) (by omega)
        refine g_iinc C 1 v2093 [(2, .int v2093), (3, .int x3_222), (1, .int x1_202), (0, .ref (ad 258))] dX11_layWays_338 rfl (by rw [ev2093]; rfl) (by decide) rfl ?_
        refine g_goto C 212 dX11_layWays_341 (by decide) ?_
        refine g_lv [0, 2, 3] [(2, .int v2093), (1, .int x1_202), (0, .ref (ad 258))] rfl ?_
        exact ih_212 (v2093, M_222, L_222) ⟨by show 0 ≤ v2093.toInt; omega, by show v2093.toInt ≤ (M 258 2).toInt; omega, by show FW (wv (L_202 296)) (wv (L_222 296)) (M 258 2).toNatClampNeg x1_202.toNatClampNeg (fun u9 v9 => u9 < v2093.toNatClampNeg); exact FW_congr j222_2 (fun a b ha hb => by show a < v2093.toNatClampNeg ↔ (a < x2_212.toNatClampNeg ∨ (a = x2_212.toNatClampNeg ∧ b < x3_222.toNatClampNeg)); have := ixn (x := v2093) (by omega); omega), hI, hF, hG⟩ (by show (11 - v2093.toInt).toNat < (11 - x2_212.toInt).toNat; omega)
      ·
        have f2094 := fnle rfl rfl c2091
        refine g_aload_n C 3 dX11_layWays_230 rfl ?_
        refine g_get C (.ref (ad 296)) 52 in_X11_layWays_11 (List.mem_of_getElem? (i := 6) rfl) (by decide) (ce_model ad cs _ _) rfl (by decide) rfl rfl dX11_layWays_231 ?_
        refine g_bipush C 10 dX11_layWays_234 (by decide) ?_
        refine g_iload_n C 1 dX11_layWays_236 rfl ?_
        refine g_imul C dX11_layWays_237 ?_
        refine g_ni (fun v2095 ev2095 => ?_)
        try have fv2095 := fmul (by decide : (10 : Int32).toInt = 10) rfl ev2095 (by omega) (by omega)
        refine g_iload_n C 2 dX11_layWays_238 rfl ?_
        refine g_iadd C dX11_layWays_239 ?_
        refine g_ni (fun v2096 ev2096 => ?_)
        try have fv2096 := fadd rfl rfl ev2096 (by omega) (by omega)
        have nx2_212 := ixn (x := x2_212) (by omega)
        have nx1_202 := ixn (x := x1_202) (by omega)
        have nv2096 := ixn (x := v2096) (by omega)
        have iv2096 : v2096.toNatClampNeg = 10 * x2_212.toNatClampNeg + x1_202.toNatClampNeg := by omega
        refine g_lald C (by decide) (ce_m_way ad cs _ _) (fin' (n := 100) rfl (by omega) (by omega)) dX11_layWays_240 ?_
        refine g_nl (fun v2097 ev2097 => ?_)
        have gv2097 : v2097 = L_222 296 v2096.toNatClampNeg := ev2097.trans (congrFun p296 _)
        have gv2097 := cg1L (f := L_222 296) gv2097 iv2096
        have tv2097 := congrArg Int64.toInt gv2097
        refine g_aload_n C 3 dX11_layWays_241 rfl ?_
        refine g_get C (.ref (ad 296)) 52 in_X11_layWays_11 (List.mem_of_getElem? (i := 6) rfl) (by decide) (ce_model ad cs _ _) rfl (by decide) rfl rfl dX11_layWays_242 ?_
        refine g_bipush C 10 dX11_layWays_245 (by decide) ?_
        refine g_iload_n C 2 dX11_layWays_247 rfl ?_
        refine g_imul C dX11_layWays_248 ?_
        refine g_ni (fun v2098 ev2098 => ?_)
        try have fv2098 := fmul (by decide : (10 : Int32).toInt = 10) rfl ev2098 (by omega) (by omega)
        refine g_iload_n C 0 dX11_layWays_249 rfl ?_
        refine g_iadd C dX11_layWays_250 ?_
        refine g_ni (fun v2099 ev2099 => ?_)
        try have fv2099 := fadd rfl rfl ev2099 (by omega) (by omega)
        have nx1_202 := ixn (x := x1_202) (by omega)
        have nx3_222 := ixn (x := x3_222) (by omega)
        have nv2099 := ixn (x := v2099) (by omega)
        have iv2099 : v2099.toNatClampNeg = 10 * x1_202.toNatClampNeg + x3_222.toNatClampNeg := by omega
        refine g_lald C (by decide) (ce_m_way ad cs _ _) (fin' (n := 100) rfl (by omega) (by omega)) dX11_layWays_251 ?_
        refine g_nl (fun v2100 ev2100 => ?_)
        have gv2100 : v2100 = L_222 296 v2099.toNatClampNeg := ev2100.trans (congrFun p296 _)
        have gv2100 := cg1L (f := L_222 296) gv2100 iv2099
        have tv2100 := congrArg Int64.toInt gv2100
        refine g_lcmp C dX11_layWays_252 ?_
        refine g_ni (fun v2101 ev2101 => ?_)
        refine g_if_ge C 270 dX11_layWays_253 (by decide) (fun c2102 => ?_) (fun c2102 => ?_)
        ·
          have f2103 := cge rfl rfl ev2101 c2102
          refine g_aload_n C 3 dX11_layWays_270 rfl ?_
          refine g_get C (.ref (ad 296)) 52 in_X11_layWays_11 (List.mem_of_getElem? (i := 6) rfl) (by decide) (ce_model ad cs _ _) rfl (by decide) rfl rfl dX11_layWays_271 ?_
          refine g_bipush C 10 dX11_layWays_274 (by decide) ?_
          refine g_iload_n C 2 dX11_layWays_276 rfl ?_
          refine g_imul C dX11_layWays_277 ?_
          refine g_ni (fun v2104 ev2104 => ?_)
          try have fv2104 := fmul (by decide : (10 : Int32).toInt = 10) rfl ev2104 (by omega) (by omega)
          refine g_iload_n C 0 dX11_layWays_278 rfl ?_
          refine g_iadd C dX11_layWays_279 ?_
          refine g_ni (fun v2105 ev2105 => ?_)
          try have fv2105 := fadd rfl rfl ev2105 (by omega) (by omega)
          have nx1_202 := ixn (x := x1_202) (by omega)
          have nx3_222 := ixn (x := x3_222) (by omega)
          have nv2105 := ixn (x := v2105) (by omega)
          have iv2105 : v2105.toNatClampNeg = 10 * x1_202.toNatClampNeg + x3_222.toNatClampNeg := by omega
          refine g_lald C (by decide) (ce_m_way ad cs _ _) (fin' (n := 100) rfl (by omega) (by omega)) dX11_layWays_280 ?_
          refine g_nl (fun v2106 ev2106 => ?_)
          have gv2106 : v2106 = L_222 296 v2105.toNatClampNeg := ev2106.trans (congrFun p296 _)
          have gv2106 := cg1L (f := L_222 296) gv2106 iv2105
          have tv2106 := congrArg Int64.toInt gv2106
          refine g_lstore C [(4, .long v2106), (3, .int x3_222), (2, .int x2_212), (1, .int x1_202), (0, .ref (ad 258))] dX11_layWays_281 (by decide) rfl ?_
          refine g_aload_n C 4 dX11_layWays_283 rfl ?_
          refine g_get C (.ref (ad 296)) 52 in_X11_layWays_11 (List.mem_of_getElem? (i := 6) rfl) (by decide) (ce_model ad cs _ _) rfl (by decide) rfl rfl dX11_layWays_284 ?_
          refine g_bipush C 10 dX11_layWays_287 (by decide) ?_
          refine g_iload_n C 2 dX11_layWays_289 rfl ?_
          refine g_imul C dX11_layWays_290 ?_
          refine g_ni (fun v2107 ev2107 => ?_)
          try have fv2107 := fmul (by decide : (10 : Int32).toInt = 10) rfl ev2107 (by omega) (by omega)
          refine g_iload_n C 1 dX11_layWays_291 rfl ?_
          refine g_iadd C dX11_layWays_292 ?_
          refine g_ni (fun v2108 ev2108 => ?_)
          try have fv2108 := fadd rfl rfl ev2108 (by omega) (by omega)
          refine g_iload_n C 2 dX11_layWays_293 rfl ?_
          refine g_iload_n C 1 dX11_layWays_294 rfl ?_
          refine g_icmp_eq C 320 dX11_layWays_295 (by decide) (fun c2109 => ?_) (fun c2109 => ?_)
          ·
            have f2110 := feq rfl rfl c2109
            refine g_aload_n C 4 dX11_layWays_320 rfl ?_
            refine g_get C (.ref (ad 296)) 52 in_X11_layWays_11 (List.mem_of_getElem? (i := 6) rfl) (by decide) (ce_model ad cs _ _) rfl (by decide) rfl rfl dX11_layWays_321 ?_
            refine g_bipush C 10 dX11_layWays_324 (by decide) ?_
            refine g_iload_n C 2 dX11_layWays_326 rfl ?_
            refine g_imul C dX11_layWays_327 ?_
            refine g_ni (fun v2111 ev2111 => ?_)
            try have fv2111 := fmul (by decide : (10 : Int32).toInt = 10) rfl ev2111 (by omega) (by omega)
            refine g_iload_n C 1 dX11_layWays_328 rfl ?_
            refine g_iadd C dX11_layWays_329 ?_
            refine g_ni (fun v2112 ev2112 => ?_)
            try have fv2112 := fadd rfl rfl ev2112 (by omega) (by omega)
            have nx2_212 := ixn (x := x2_212) (by omega)
            have nx3_222 := ixn (x := x3_222) (by omega)
            have nv2112 := ixn (x := v2112) (by omega)
            have iv2112 : v2112.toNatClampNeg = 10 * x2_212.toNatClampNeg + x3_222.toNatClampNeg := by omega
            refine g_lald C (by decide) (ce_m_way ad cs _ _) (fin' (n := 100) rfl (by omega) (by omega)) dX11_layWays_330 ?_
            refine g_nl (fun v2113 ev2113 => ?_)
            have gv2113 : v2113 = L_222 296 v2112.toNatClampNeg := ev2113.trans (congrFun p296 _)
            have gv2113 := cg1L (f := L_222 296) gv2113 iv2112
            have tv2113 := congrArg Int64.toInt gv2113
            have nx2_212 := ixn (x := x2_212) (by omega)
            have nx3_222 := ixn (x := x3_222) (by omega)
            have nv2108 := ixn (x := v2108) (by omega)
            have iv2108 : v2108.toNatClampNeg = 10 * x2_212.toNatClampNeg + x3_222.toNatClampNeg := by omega
            refine g_last C (by decide) (ce_m_way ad cs _ _) (by rw [sJ_k]; rfl) (fin' (n := 100) rfl (by omega) (by omega)) dX11_layWays_331 ?_
            refine g_nmL (fun L2114 hL2114 => ?_)
            have hG : ∀ k i, k ≠ 295 ∧ k ≠ 296 → L2114 k i = L k i := fun k i hk => by (rw [hL2114, sJ_at, if_neg (by omega)]; try exact hG k i hk)
            have p295 : L2114 295 = L_222 295 := by rw [hL2114, sJ_n _ _ _ (by decide)]; try exact p295
            obtain ⟨v2115, ev2115⟩ : ∃ y : Int32, y = x3_222 + 1 := ⟨_, rfl⟩
            try have fv2115 := fadd rfl (by decide : (1 : Int32).toInt = 1) ev2115 (by omega) (by omega)
            refine g_iinc C 1 v2115 [(3, .int v2115), (4, .long v2106), (2, .int x2_212), (1, .int x1_202), (0, .ref (ad 258))] dX11_layWays_332 rfl (by rw [ev2115]; rfl) (by decide) rfl ?_
            refine g_goto C 222 dX11_layWays_335 (by decide) ?_
            refine g_lv [0, 2, 3, 4] [(3, .int v2115), (2, .int x2_212), (1, .int x1_202), (0, .ref (ad 258))] rfl ?_
            have nv := ixn (x := v2115) (by omega)
            have iv : v2115.toNatClampNeg = x3_222.toNatClampNeg + 1 := by omega
            have hL9 : L2114 296 = fun c => if c = 10 * x2_212.toNatClampNeg + x3_222.toNatClampNeg then v2113 else L_222 296 c := by
              funext c
              rw [hL2114, sJ_at, iv2108]
              by_cases e9 : c = 10 * x2_212.toNatClampNeg + x3_222.toNatClampNeg
              · rw [if_pos ⟨rfl, e9⟩, if_pos e9]
              · rw [if_neg (fun h => e9 h.2), if_neg e9]
            have hstep : FW (wv (L_202 296)) (wv (L2114 296)) (M 258 2).toNatClampNeg x1_202.toNatClampNeg (fun a b => a < x2_212.toNatClampNeg ∨ (a = x2_212.toNatClampNeg ∧ b < v2115.toNatClampNeg)) := by
              refine FW_step (x := x2_212.toNatClampNeg) (y := x3_222.toNatClampNeg) j222_2 (by omega) (by omega) (by omega) (fun a b ha hb => by show (a < x2_212.toNatClampNeg ∨ (a = x2_212.toNatClampNeg ∧ b < v2115.toNatClampNeg)) ↔ ((a < x2_212.toNatClampNeg ∨ (a = x2_212.toNatClampNeg ∧ b < x3_222.toNatClampNeg)) ∨ (a = x2_212.toNatClampNeg ∧ b = x3_222.toNatClampNeg)); rw [iv]; exact dd_step) (fun a b ha hb hab => ?_) (fun t => ?_)
              · show (L2114 296 (10 * a + b)).toInt = (L_222 296 (10 * a + b)).toInt
                rw [hL9]
                show (if 10 * a + b = 10 * x2_212.toNatClampNeg + x3_222.toNatClampNeg then v2113 else L_222 296 (10 * a + b)).toInt = _
                rw [if_neg (idx_ne (by omega) (by omega) hab)]
              · have e9 : wv (L2114 296) x2_212.toNatClampNeg x3_222.toNatClampNeg = v2113.toInt := by show (L2114 296 (10 * x2_212.toNatClampNeg + x3_222.toNatClampNeg)).toInt = _; rw [hL9]; show (if _ then v2113 else _).toInt = _; rw [if_pos rfl]
                rw [e9]
                unfold wv
                exact fv1 (by omega) (by omega) t
            exact ih_222 (v2115, M_222, L2114) ⟨by show 0 ≤ v2115.toInt; omega, by show v2115.toInt ≤ (M 258 2).toInt; omega, by show FW (wv (L_202 296)) (wv (L2114 296)) (M 258 2).toNatClampNeg x1_202.toNatClampNeg (fun u9 v9 => u9 < x2_212.toNatClampNeg ∨ (u9 = x2_212.toNatClampNeg ∧ v9 < v2115.toNatClampNeg)); exact hstep, hI, hF, hG⟩ (by show (11 - v2115.toInt).toNat < (11 - x3_222.toInt).toNat; exact ms11 fv2115 j222_1 cb)
          ·
            have f2116 := fne rfl rfl c2109
            refine g_lload C 0 dX11_layWays_298 rfl ?_
            refine g_aload_n C 4 dX11_layWays_300 rfl ?_
            refine g_get C (.ref (ad 296)) 52 in_X11_layWays_11 (List.mem_of_getElem? (i := 6) rfl) (by decide) (ce_model ad cs _ _) rfl (by decide) rfl rfl dX11_layWays_301 ?_
            refine g_bipush C 10 dX11_layWays_304 (by decide) ?_
            refine g_iload_n C 2 dX11_layWays_306 rfl ?_
            refine g_imul C dX11_layWays_307 ?_
            refine g_ni (fun v2117 ev2117 => ?_)
            try have fv2117 := fmul (by decide : (10 : Int32).toInt = 10) rfl ev2117 (by omega) (by omega)
            refine g_iload_n C 1 dX11_layWays_308 rfl ?_
            refine g_iadd C dX11_layWays_309 ?_
            refine g_ni (fun v2118 ev2118 => ?_)
            try have fv2118 := fadd rfl rfl ev2118 (by omega) (by omega)
            have nx2_212 := ixn (x := x2_212) (by omega)
            have nx3_222 := ixn (x := x3_222) (by omega)
            have nv2118 := ixn (x := v2118) (by omega)
            have iv2118 : v2118.toNatClampNeg = 10 * x2_212.toNatClampNeg + x3_222.toNatClampNeg := by omega
            refine g_lald C (by decide) (ce_m_way ad cs _ _) (fin' (n := 100) rfl (by omega) (by omega)) dX11_layWays_310 ?_
            refine g_nl (fun v2119 ev2119 => ?_)
            have gv2119 : v2119 = L_222 296 v2118.toNatClampNeg := ev2119.trans (congrFun p296 _)
            have gv2119 := cg1L (f := L_222 296) gv2119 iv2118
            have tv2119 := congrArg Int64.toInt gv2119
            refine g_lcmp C dX11_layWays_311 ?_
            refine g_ni (fun v2120 ev2120 => ?_)
            refine g_if_le C 320 dX11_layWays_312 (by decide) (fun c2121 => ?_) (fun c2121 => ?_)
            ·
              have f2122 := cle rfl rfl ev2120 c2121
              refine g_aload_n C 4 dX11_layWays_320 rfl ?_
              refine g_get C (.ref (ad 296)) 52 in_X11_layWays_11 (List.mem_of_getElem? (i := 6) rfl) (by decide) (ce_model ad cs _ _) rfl (by decide) rfl rfl dX11_layWays_321 ?_
              refine g_bipush C 10 dX11_layWays_324 (by decide) ?_
              refine g_iload_n C 2 dX11_layWays_326 rfl ?_
              refine g_imul C dX11_layWays_327 ?_
              refine g_ni (fun v2123 ev2123 => ?_)
              try have fv2123 := fmul (by decide : (10 : Int32).toInt = 10) rfl ev2123 (by omega) (by omega)
              refine g_iload_n C 1 dX11_layWays_328 rfl ?_
              refine g_iadd C dX11_layWays_329 ?_
              refine g_ni (fun v2124 ev2124 => ?_)
              try have fv2124 := fadd rfl rfl ev2124 (by omega) (by omega)
              have nx2_212 := ixn (x := x2_212) (by omega)
              have nx3_222 := ixn (x := x3_222) (by omega)
              have nv2124 := ixn (x := v2124) (by omega)
              have iv2124 : v2124.toNatClampNeg = 10 * x2_212.toNatClampNeg + x3_222.toNatClampNeg := by omega
              refine g_lald C (by decide) (ce_m_way ad cs _ _) (fin' (n := 100) rfl (by omega) (by omega)) dX11_layWays_330 ?_
              refine g_nl (fun v2125 ev2125 => ?_)
              have gv2125 : v2125 = L_222 296 v2124.toNatClampNeg := ev2125.trans (congrFun p296 _)
              have gv2125 := cg1L (f := L_222 296) gv2125 iv2124
              have tv2125 := congrArg Int64.toInt gv2125
              have nx2_212 := ixn (x := x2_212) (by omega)
              have nx3_222 := ixn (x := x3_222) (by omega)
              have nv2108 := ixn (x := v2108) (by omega)
              have iv2108 : v2108.toNatClampNeg = 10 * x2_212.toNatClampNeg + x3_222.toNatClampNeg := by omega
              refine g_last C (by decide) (ce_m_way ad cs _ _) (by rw [sJ_k]; rfl) (fin' (n := 100) rfl (by omega) (by omega)) dX11_layWays_331 ?_
              refine g_nmL (fun L2126 hL2126 => ?_)
              have hG : ∀ k i, k ≠ 295 ∧ k ≠ 296 → L2126 k i = L k i := fun k i hk => by (rw [hL2126, sJ_at, if_neg (by omega)]; try exact hG k i hk)
              have p295 : L2126 295 = L_222 295 := by rw [hL2126, sJ_n _ _ _ (by decide)]; try exact p295
              obtain ⟨v2127, ev2127⟩ : ∃ y : Int32, y = x3_222 + 1 := ⟨_, rfl⟩
              try have fv2127 := fadd rfl (by decide : (1 : Int32).toInt = 1) ev2127 (by omega) (by omega)
              refine g_iinc C 1 v2127 [(3, .int v2127), (4, .long v2106), (2, .int x2_212), (1, .int x1_202), (0, .ref (ad 258))] dX11_layWays_332 rfl (by rw [ev2127]; rfl) (by decide) rfl ?_
              refine g_goto C 222 dX11_layWays_335 (by decide) ?_
              refine g_lv [0, 2, 3, 4] [(3, .int v2127), (2, .int x2_212), (1, .int x1_202), (0, .ref (ad 258))] rfl ?_
              have nv := ixn (x := v2127) (by omega)
              have iv : v2127.toNatClampNeg = x3_222.toNatClampNeg + 1 := by omega
              have hL9 : L2126 296 = fun c => if c = 10 * x2_212.toNatClampNeg + x3_222.toNatClampNeg then v2125 else L_222 296 c := by
                funext c
                rw [hL2126, sJ_at, iv2108]
                by_cases e9 : c = 10 * x2_212.toNatClampNeg + x3_222.toNatClampNeg
                · rw [if_pos ⟨rfl, e9⟩, if_pos e9]
                · rw [if_neg (fun h => e9 h.2), if_neg e9]
              have hstep : FW (wv (L_202 296)) (wv (L2126 296)) (M 258 2).toNatClampNeg x1_202.toNatClampNeg (fun a b => a < x2_212.toNatClampNeg ∨ (a = x2_212.toNatClampNeg ∧ b < v2127.toNatClampNeg)) := by
                refine FW_step (x := x2_212.toNatClampNeg) (y := x3_222.toNatClampNeg) j222_2 (by omega) (by omega) (by omega) (fun a b ha hb => by show (a < x2_212.toNatClampNeg ∨ (a = x2_212.toNatClampNeg ∧ b < v2127.toNatClampNeg)) ↔ ((a < x2_212.toNatClampNeg ∨ (a = x2_212.toNatClampNeg ∧ b < x3_222.toNatClampNeg)) ∨ (a = x2_212.toNatClampNeg ∧ b = x3_222.toNatClampNeg)); rw [iv]; exact dd_step) (fun a b ha hb hab => ?_) (fun t => ?_)
                · show (L2126 296 (10 * a + b)).toInt = (L_222 296 (10 * a + b)).toInt
                  rw [hL9]
                  show (if 10 * a + b = 10 * x2_212.toNatClampNeg + x3_222.toNatClampNeg then v2125 else L_222 296 (10 * a + b)).toInt = _
                  rw [if_neg (idx_ne (by omega) (by omega) hab)]
                · have e9 : wv (L2126 296) x2_212.toNatClampNeg x3_222.toNatClampNeg = v2125.toInt := by show (L2126 296 (10 * x2_212.toNatClampNeg + x3_222.toNatClampNeg)).toInt = _; rw [hL9]; show (if _ then v2125 else _).toInt = _; rw [if_pos rfl]
                  rw [e9]
                  unfold wv
                  exact fv3 (b := v2106.toInt) (by omega) (by omega) (by omega) t
              exact ih_222 (v2127, M_222, L2126) ⟨by show 0 ≤ v2127.toInt; omega, by show v2127.toInt ≤ (M 258 2).toInt; omega, by show FW (wv (L_202 296)) (wv (L2126 296)) (M 258 2).toNatClampNeg x1_202.toNatClampNeg (fun u9 v9 => u9 < x2_212.toNatClampNeg ∨ (u9 = x2_212.toNatClampNeg ∧ v9 < v2127.toNatClampNeg)); exact hstep, hI, hF, hG⟩ (by show (11 - v2127.toInt).toNat < (11 - x3_222.toInt).toNat; exact ms11 fv2127 j222_1 cb)
            ·
              have f2128 := cnle rfl rfl ev2120 c2121
              refine g_lload C 0 dX11_layWays_315 rfl ?_
              refine g_goto C 331 dX11_layWays_317 (by decide) ?_
              have nx2_212 := ixn (x := x2_212) (by omega)
              have nx3_222 := ixn (x := x3_222) (by omega)
              have nv2108 := ixn (x := v2108) (by omega)
              have iv2108 : v2108.toNatClampNeg = 10 * x2_212.toNatClampNeg + x3_222.toNatClampNeg := by omega
              refine g_last C (by decide) (ce_m_way ad cs _ _) (by rw [sJ_k]; rfl) (fin' (n := 100) rfl (by omega) (by omega)) dX11_layWays_331 ?_
              refine g_nmL (fun L2129 hL2129 => ?_)
              have hG : ∀ k i, k ≠ 295 ∧ k ≠ 296 → L2129 k i = L k i := fun k i hk => by (rw [hL2129, sJ_at, if_neg (by omega)]; try exact hG k i hk)
              have p295 : L2129 295 = L_222 295 := by rw [hL2129, sJ_n _ _ _ (by decide)]; try exact p295
              obtain ⟨v2130, ev2130⟩ : ∃ y : Int32, y = x3_222 + 1 := ⟨_, rfl⟩
              try have fv2130 := fadd rfl (by decide : (1 : Int32).toInt = 1) ev2130 (by omega) (by omega)
              refine g_iinc C 1 v2130 [(3, .int v2130), (4, .long v2106), (2, .int x2_212), (1, .int x1_202), (0, .ref (ad 258))] dX11_layWays_332 rfl (by rw [ev2130]; rfl) (by decide) rfl ?_
              refine g_goto C 222 dX11_layWays_335 (by decide) ?_
              refine g_lv [0, 2, 3, 4] [(3, .int v2130), (2, .int x2_212), (1, .int x1_202), (0, .ref (ad 258))] rfl ?_
              have nv := ixn (x := v2130) (by omega)
              have iv : v2130.toNatClampNeg = x3_222.toNatClampNeg + 1 := by omega
              have hL9 : L2129 296 = fun c => if c = 10 * x2_212.toNatClampNeg + x3_222.toNatClampNeg then v2106 else L_222 296 c := by
                funext c
                rw [hL2129, sJ_at, iv2108]
                by_cases e9 : c = 10 * x2_212.toNatClampNeg + x3_222.toNatClampNeg
                · rw [if_pos ⟨rfl, e9⟩, if_pos e9]
                · rw [if_neg (fun h => e9 h.2), if_neg e9]
              have hstep : FW (wv (L_202 296)) (wv (L2129 296)) (M 258 2).toNatClampNeg x1_202.toNatClampNeg (fun a b => a < x2_212.toNatClampNeg ∨ (a = x2_212.toNatClampNeg ∧ b < v2130.toNatClampNeg)) := by
                refine FW_step (x := x2_212.toNatClampNeg) (y := x3_222.toNatClampNeg) j222_2 (by omega) (by omega) (by omega) (fun a b ha hb => by show (a < x2_212.toNatClampNeg ∨ (a = x2_212.toNatClampNeg ∧ b < v2130.toNatClampNeg)) ↔ ((a < x2_212.toNatClampNeg ∨ (a = x2_212.toNatClampNeg ∧ b < x3_222.toNatClampNeg)) ∨ (a = x2_212.toNatClampNeg ∧ b = x3_222.toNatClampNeg)); rw [iv]; exact dd_step) (fun a b ha hb hab => ?_) (fun t => ?_)
                · show (L2129 296 (10 * a + b)).toInt = (L_222 296 (10 * a + b)).toInt
                  rw [hL9]
                  show (if 10 * a + b = 10 * x2_212.toNatClampNeg + x3_222.toNatClampNeg then v2106 else L_222 296 (10 * a + b)).toInt = _
                  rw [if_neg (idx_ne (by omega) (by omega) hab)]
                · have e9 : wv (L2129 296) x2_212.toNatClampNeg x3_222.toNatClampNeg = v2106.toInt := by show (L2129 296 (10 * x2_212.toNatClampNeg + x3_222.toNatClampNeg)).toInt = _; rw [hL9]; show (if _ then v2106 else _).toInt = _; rw [if_pos rfl]
                  rw [e9]
                  unfold wv
                  exact fv2 (b := v2106.toInt) (by omega) (by omega) (by omega) (by omega) t
              exact ih_222 (v2130, M_222, L2129) ⟨by show 0 ≤ v2130.toInt; omega, by show v2130.toInt ≤ (M 258 2).toInt; omega, by show FW (wv (L_202 296)) (wv (L2129 296)) (M 258 2).toNatClampNeg x1_202.toNatClampNeg (fun u9 v9 => u9 < x2_212.toNatClampNeg ∨ (u9 = x2_212.toNatClampNeg ∧ v9 < v2130.toNatClampNeg)); exact hstep, hI, hF, hG⟩ (by show (11 - v2130.toInt).toNat < (11 - x3_222.toInt).toNat; exact ms11 fv2130 j222_1 cb)
        ·
          have f2131 := cnge rfl rfl ev2101 c2102
          refine g_aload_n C 3 dX11_layWays_256 rfl ?_
          refine g_get C (.ref (ad 296)) 52 in_X11_layWays_11 (List.mem_of_getElem? (i := 6) rfl) (by decide) (ce_model ad cs _ _) rfl (by decide) rfl rfl dX11_layWays_257 ?_
          refine g_bipush C 10 dX11_layWays_260 (by decide) ?_
          refine g_iload_n C 1 dX11_layWays_262 rfl ?_
          refine g_imul C dX11_layWays_263 ?_
          refine g_ni (fun v2132 ev2132 => ?_)
          try have fv2132 := fmul (by decide : (10 : Int32).toInt = 10) rfl ev2132 (by omega) (by omega)
          refine g_iload_n C 2 dX11_layWays_264 rfl ?_
          refine g_iadd C dX11_layWays_265 ?_
          refine g_ni (fun v2133 ev2133 => ?_)
          try have fv2133 := fadd rfl rfl ev2133 (by omega) (by omega)
          have nx2_212 := ixn (x := x2_212) (by omega)
          have nx1_202 := ixn (x := x1_202) (by omega)
          have nv2133 := ixn (x := v2133) (by omega)
          have iv2133 : v2133.toNatClampNeg = 10 * x2_212.toNatClampNeg + x1_202.toNatClampNeg := by omega
          refine g_lald C (by decide) (ce_m_way ad cs _ _) (fin' (n := 100) rfl (by omega) (by omega)) dX11_layWays_266 ?_
          refine g_nl (fun v2134 ev2134 => ?_)
          have gv2134 : v2134 = L_222 296 v2133.toNatClampNeg := ev2134.trans (congrFun p296 _)
          have gv2134 := cg1L (f := L_222 296) gv2134 iv2133
          have tv2134 := congrArg Int64.toInt gv2134
          refine g_goto C 281 dX11_layWays_267 (by decide) ?_
          refine g_lstore C [(4, .long v2134), (3, .int x3_222), (2, .int x2_212), (1, .int x1_202), (0, .ref (ad 258))] dX11_layWays_281 (by decide) rfl ?_
          refine g_aload_n C 4 dX11_layWays_283 rfl ?_
          refine g_get C (.ref (ad 296)) 52 in_X11_layWays_11 (List.mem_of_getElem? (i := 6) rfl) (by decide) (ce_model ad cs _ _) rfl (by decide) rfl rfl dX11_layWays_284 ?_
          refine g_bipush C 10 dX11_layWays_287 (by decide) ?_
          refine g_iload_n C 2 dX11_layWays_289 rfl ?_
          refine g_imul C dX11_layWays_290 ?_
          refine g_ni (fun v2135 ev2135 => ?_)
          try have fv2135 := fmul (by decide : (10 : Int32).toInt = 10) rfl ev2135 (by omega) (by omega)
          refine g_iload_n C 1 dX11_layWays_291 rfl ?_
          refine g_iadd C dX11_layWays_292 ?_
          refine g_ni (fun v2136 ev2136 => ?_)
          try have fv2136 := fadd rfl rfl ev2136 (by omega) (by omega)
          refine g_iload_n C 2 dX11_layWays_293 rfl ?_
          refine g_iload_n C 1 dX11_layWays_294 rfl ?_
          refine g_icmp_eq C 320 dX11_layWays_295 (by decide) (fun c2137 => ?_) (fun c2137 => ?_)
          ·
            have f2138 := feq rfl rfl c2137
            refine g_aload_n C 4 dX11_layWays_320 rfl ?_
            refine g_get C (.ref (ad 296)) 52 in_X11_layWays_11 (List.mem_of_getElem? (i := 6) rfl) (by decide) (ce_model ad cs _ _) rfl (by decide) rfl rfl dX11_layWays_321 ?_
            refine g_bipush C 10 dX11_layWays_324 (by decide) ?_
            refine g_iload_n C 2 dX11_layWays_326 rfl ?_
            refine g_imul C dX11_layWays_327 ?_
            refine g_ni (fun v2139 ev2139 => ?_)
            try have fv2139 := fmul (by decide : (10 : Int32).toInt = 10) rfl ev2139 (by omega) (by omega)
            refine g_iload_n C 1 dX11_layWays_328 rfl ?_
            refine g_iadd C dX11_layWays_329 ?_
            refine g_ni (fun v2140 ev2140 => ?_)
            try have fv2140 := fadd rfl rfl ev2140 (by omega) (by omega)
            have nx2_212 := ixn (x := x2_212) (by omega)
            have nx3_222 := ixn (x := x3_222) (by omega)
            have nv2140 := ixn (x := v2140) (by omega)
            have iv2140 : v2140.toNatClampNeg = 10 * x2_212.toNatClampNeg + x3_222.toNatClampNeg := by omega
            refine g_lald C (by decide) (ce_m_way ad cs _ _) (fin' (n := 100) rfl (by omega) (by omega)) dX11_layWays_330 ?_
            refine g_nl (fun v2141 ev2141 => ?_)
            have gv2141 : v2141 = L_222 296 v2140.toNatClampNeg := ev2141.trans (congrFun p296 _)
            have gv2141 := cg1L (f := L_222 296) gv2141 iv2140
            have tv2141 := congrArg Int64.toInt gv2141
            have nx2_212 := ixn (x := x2_212) (by omega)
            have nx3_222 := ixn (x := x3_222) (by omega)
            have nv2136 := ixn (x := v2136) (by omega)
            have iv2136 : v2136.toNatClampNeg = 10 * x2_212.toNatClampNeg + x3_222.toNatClampNeg := by omega
            refine g_last C (by decide) (ce_m_way ad cs _ _) (by rw [sJ_k]; rfl) (fin' (n := 100) rfl (by omega) (by omega)) dX11_layWays_331 ?_
            refine g_nmL (fun L2142 hL2142 => ?_)
            have hG : ∀ k i, k ≠ 295 ∧ k ≠ 296 → L2142 k i = L k i := fun k i hk => by (rw [hL2142, sJ_at, if_neg (by omega)]; try exact hG k i hk)
            have p295 : L2142 295 = L_222 295 := by rw [hL2142, sJ_n _ _ _ (by decide)]; try exact p295
            obtain ⟨v2143, ev2143⟩ : ∃ y : Int32, y = x3_222 + 1 := ⟨_, rfl⟩
            try have fv2143 := fadd rfl (by decide : (1 : Int32).toInt = 1) ev2143 (by omega) (by omega)
            refine g_iinc C 1 v2143 [(3, .int v2143), (4, .long v2134), (2, .int x2_212), (1, .int x1_202), (0, .ref (ad 258))] dX11_layWays_332 rfl (by rw [ev2143]; rfl) (by decide) rfl ?_
            refine g_goto C 222 dX11_layWays_335 (by decide) ?_
            refine g_lv [0, 2, 3, 4] [(3, .int v2143), (2, .int x2_212), (1, .int x1_202), (0, .ref (ad 258))] rfl ?_
            have nv := ixn (x := v2143) (by omega)
            have iv : v2143.toNatClampNeg = x3_222.toNatClampNeg + 1 := by omega
            have hL9 : L2142 296 = fun c => if c = 10 * x2_212.toNatClampNeg + x3_222.toNatClampNeg then v2141 else L_222 296 c := by
              funext c
              rw [hL2142, sJ_at, iv2136]
              by_cases e9 : c = 10 * x2_212.toNatClampNeg + x3_222.toNatClampNeg
              · rw [if_pos ⟨rfl, e9⟩, if_pos e9]
              · rw [if_neg (fun h => e9 h.2), if_neg e9]
            have hstep : FW (wv (L_202 296)) (wv (L2142 296)) (M 258 2).toNatClampNeg x1_202.toNatClampNeg (fun a b => a < x2_212.toNatClampNeg ∨ (a = x2_212.toNatClampNeg ∧ b < v2143.toNatClampNeg)) := by
              refine FW_step (x := x2_212.toNatClampNeg) (y := x3_222.toNatClampNeg) j222_2 (by omega) (by omega) (by omega) (fun a b ha hb => by show (a < x2_212.toNatClampNeg ∨ (a = x2_212.toNatClampNeg ∧ b < v2143.toNatClampNeg)) ↔ ((a < x2_212.toNatClampNeg ∨ (a = x2_212.toNatClampNeg ∧ b < x3_222.toNatClampNeg)) ∨ (a = x2_212.toNatClampNeg ∧ b = x3_222.toNatClampNeg)); rw [iv]; exact dd_step) (fun a b ha hb hab => ?_) (fun t => ?_)
              · show (L2142 296 (10 * a + b)).toInt = (L_222 296 (10 * a + b)).toInt
                rw [hL9]
                show (if 10 * a + b = 10 * x2_212.toNatClampNeg + x3_222.toNatClampNeg then v2141 else L_222 296 (10 * a + b)).toInt = _
                rw [if_neg (idx_ne (by omega) (by omega) hab)]
              · have e9 : wv (L2142 296) x2_212.toNatClampNeg x3_222.toNatClampNeg = v2141.toInt := by show (L2142 296 (10 * x2_212.toNatClampNeg + x3_222.toNatClampNeg)).toInt = _; rw [hL9]; show (if _ then v2141 else _).toInt = _; rw [if_pos rfl]
                rw [e9]
                unfold wv
                exact fv1 (by omega) (by omega) t
            exact ih_222 (v2143, M_222, L2142) ⟨by show 0 ≤ v2143.toInt; omega, by show v2143.toInt ≤ (M 258 2).toInt; omega, by show FW (wv (L_202 296)) (wv (L2142 296)) (M 258 2).toNatClampNeg x1_202.toNatClampNeg (fun u9 v9 => u9 < x2_212.toNatClampNeg ∨ (u9 = x2_212.toNatClampNeg ∧ v9 < v2143.toNatClampNeg)); exact hstep, hI, hF, hG⟩ (by show (11 - v2143.toInt).toNat < (11 - x3_222.toInt).toNat; exact ms11 fv2143 j222_1 cb)
          ·
            have f2144 := fne rfl rfl c2137
            refine g_lload C 0 dX11_layWays_298 rfl ?_
            refine g_aload_n C 4 dX11_layWays_300 rfl ?_
            refine g_get C (.ref (ad 296)) 52 in_X11_layWays_11 (List.mem_of_getElem? (i := 6) rfl) (by decide) (ce_model ad cs _ _) rfl (by decide) rfl rfl dX11_layWays_301 ?_
            refine g_bipush C 10 dX11_layWays_304 (by decide) ?_
            refine g_iload_n C 2 dX11_layWays_306 rfl ?_
            refine g_imul C dX11_layWays_307 ?_
            refine g_ni (fun v2145 ev2145 => ?_)
            try have fv2145 := fmul (by decide : (10 : Int32).toInt = 10) rfl ev2145 (by omega) (by omega)
            refine g_iload_n C 1 dX11_layWays_308 rfl ?_
            refine g_iadd C dX11_layWays_309 ?_
            refine g_ni (fun v2146 ev2146 => ?_)
            try have fv2146 := fadd rfl rfl ev2146 (by omega) (by omega)
            have nx2_212 := ixn (x := x2_212) (by omega)
            have nx3_222 := ixn (x := x3_222) (by omega)
            have nv2146 := ixn (x := v2146) (by omega)
            have iv2146 : v2146.toNatClampNeg = 10 * x2_212.toNatClampNeg + x3_222.toNatClampNeg := by omega
            refine g_lald C (by decide) (ce_m_way ad cs _ _) (fin' (n := 100) rfl (by omega) (by omega)) dX11_layWays_310 ?_
            refine g_nl (fun v2147 ev2147 => ?_)
            have gv2147 : v2147 = L_222 296 v2146.toNatClampNeg := ev2147.trans (congrFun p296 _)
            have gv2147 := cg1L (f := L_222 296) gv2147 iv2146
            have tv2147 := congrArg Int64.toInt gv2147
            refine g_lcmp C dX11_layWays_311 ?_
            refine g_ni (fun v2148 ev2148 => ?_)
            refine g_if_le C 320 dX11_layWays_312 (by decide) (fun c2149 => ?_) (fun c2149 => ?_)
            ·
              have f2150 := cle rfl rfl ev2148 c2149
              refine g_aload_n C 4 dX11_layWays_320 rfl ?_
              refine g_get C (.ref (ad 296)) 52 in_X11_layWays_11 (List.mem_of_getElem? (i := 6) rfl) (by decide) (ce_model ad cs _ _) rfl (by decide) rfl rfl dX11_layWays_321 ?_
              refine g_bipush C 10 dX11_layWays_324 (by decide) ?_
              refine g_iload_n C 2 dX11_layWays_326 rfl ?_
              refine g_imul C dX11_layWays_327 ?_
              refine g_ni (fun v2151 ev2151 => ?_)
              try have fv2151 := fmul (by decide : (10 : Int32).toInt = 10) rfl ev2151 (by omega) (by omega)
              refine g_iload_n C 1 dX11_layWays_328 rfl ?_
              refine g_iadd C dX11_layWays_329 ?_
              refine g_ni (fun v2152 ev2152 => ?_)
              try have fv2152 := fadd rfl rfl ev2152 (by omega) (by omega)
              have nx2_212 := ixn (x := x2_212) (by omega)
              have nx3_222 := ixn (x := x3_222) (by omega)
              have nv2152 := ixn (x := v2152) (by omega)
              have iv2152 : v2152.toNatClampNeg = 10 * x2_212.toNatClampNeg + x3_222.toNatClampNeg := by omega
              refine g_lald C (by decide) (ce_m_way ad cs _ _) (fin' (n := 100) rfl (by omega) (by omega)) dX11_layWays_330 ?_
              refine g_nl (fun v2153 ev2153 => ?_)
              have gv2153 : v2153 = L_222 296 v2152.toNatClampNeg := ev2153.trans (congrFun p296 _)
              have gv2153 := cg1L (f := L_222 296) gv2153 iv2152
              have tv2153 := congrArg Int64.toInt gv2153
              have nx2_212 := ixn (x := x2_212) (by omega)
              have nx3_222 := ixn (x := x3_222) (by omega)
              have nv2136 := ixn (x := v2136) (by omega)
              have iv2136 : v2136.toNatClampNeg = 10 * x2_212.toNatClampNeg + x3_222.toNatClampNeg := by omega
              refine g_last C (by decide) (ce_m_way ad cs _ _) (by rw [sJ_k]; rfl) (fin' (n := 100) rfl (by omega) (by omega)) dX11_layWays_331 ?_
              refine g_nmL (fun L2154 hL2154 => ?_)
              have hG : ∀ k i, k ≠ 295 ∧ k ≠ 296 → L2154 k i = L k i := fun k i hk => by (rw [hL2154, sJ_at, if_neg (by omega)]; try exact hG k i hk)
              have p295 : L2154 295 = L_222 295 := by rw [hL2154, sJ_n _ _ _ (by decide)]; try exact p295
              obtain ⟨v2155, ev2155⟩ : ∃ y : Int32, y = x3_222 + 1 := ⟨_, rfl⟩
              try have fv2155 := fadd rfl (by decide : (1 : Int32).toInt = 1) ev2155 (by omega) (by omega)
              refine g_iinc C 1 v2155 [(3, .int v2155), (4, .long v2134), (2, .int x2_212), (1, .int x1_202), (0, .ref (ad 258))] dX11_layWays_332 rfl (by rw [ev2155]; rfl) (by decide) rfl ?_
              refine g_goto C 222 dX11_layWays_335 (by decide) ?_
              refine g_lv [0, 2, 3, 4] [(3, .int v2155), (2, .int x2_212), (1, .int x1_202), (0, .ref (ad 258))] rfl ?_
              have nv := ixn (x := v2155) (by omega)
              have iv : v2155.toNatClampNeg = x3_222.toNatClampNeg + 1 := by omega
              have hL9 : L2154 296 = fun c => if c = 10 * x2_212.toNatClampNeg + x3_222.toNatClampNeg then v2153 else L_222 296 c := by
                funext c
                rw [hL2154, sJ_at, iv2136]
                by_cases e9 : c = 10 * x2_212.toNatClampNeg + x3_222.toNatClampNeg
                · rw [if_pos ⟨rfl, e9⟩, if_pos e9]
                · rw [if_neg (fun h => e9 h.2), if_neg e9]
              have hstep : FW (wv (L_202 296)) (wv (L2154 296)) (M 258 2).toNatClampNeg x1_202.toNatClampNeg (fun a b => a < x2_212.toNatClampNeg ∨ (a = x2_212.toNatClampNeg ∧ b < v2155.toNatClampNeg)) := by
                refine FW_step (x := x2_212.toNatClampNeg) (y := x3_222.toNatClampNeg) j222_2 (by omega) (by omega) (by omega) (fun a b ha hb => by show (a < x2_212.toNatClampNeg ∨ (a = x2_212.toNatClampNeg ∧ b < v2155.toNatClampNeg)) ↔ ((a < x2_212.toNatClampNeg ∨ (a = x2_212.toNatClampNeg ∧ b < x3_222.toNatClampNeg)) ∨ (a = x2_212.toNatClampNeg ∧ b = x3_222.toNatClampNeg)); rw [iv]; exact dd_step) (fun a b ha hb hab => ?_) (fun t => ?_)
                · show (L2154 296 (10 * a + b)).toInt = (L_222 296 (10 * a + b)).toInt
                  rw [hL9]
                  show (if 10 * a + b = 10 * x2_212.toNatClampNeg + x3_222.toNatClampNeg then v2153 else L_222 296 (10 * a + b)).toInt = _
                  rw [if_neg (idx_ne (by omega) (by omega) hab)]
                · have e9 : wv (L2154 296) x2_212.toNatClampNeg x3_222.toNatClampNeg = v2153.toInt := by show (L2154 296 (10 * x2_212.toNatClampNeg + x3_222.toNatClampNeg)).toInt = _; rw [hL9]; show (if _ then v2153 else _).toInt = _; rw [if_pos rfl]
                  rw [e9]
                  unfold wv
                  exact fv3 (b := v2134.toInt) (by omega) (by omega) (by omega) t
              exact ih_222 (v2155, M_222, L2154) ⟨by show 0 ≤ v2155.toInt; omega, by show v2155.toInt ≤ (M 258 2).toInt; omega, by show FW (wv (L_202 296)) (wv (L2154 296)) (M 258 2).toNatClampNeg x1_202.toNatClampNeg (fun u9 v9 => u9 < x2_212.toNatClampNeg ∨ (u9 = x2_212.toNatClampNeg ∧ v9 < v2155.toNatClampNeg)); exact hstep, hI, hF, hG⟩ (by show (11 - v2155.toInt).toNat < (11 - x3_222.toInt).toNat; exact ms11 fv2155 j222_1 cb)
            ·
              have f2156 := cnle rfl rfl ev2148 c2149
              refine g_lload C 0 dX11_layWays_315 rfl ?_
              refine g_goto C 331 dX11_layWays_317 (by decide) ?_
              have nx2_212 := ixn (x := x2_212) (by omega)
              have nx3_222 := ixn (x := x3_222) (by omega)
              have nv2136 := ixn (x := v2136) (by omega)
              have iv2136 : v2136.toNatClampNeg = 10 * x2_212.toNatClampNeg + x3_222.toNatClampNeg := by omega
              refine g_last C (by decide) (ce_m_way ad cs _ _) (by rw [sJ_k]; rfl) (fin' (n := 100) rfl (by omega) (by omega)) dX11_layWays_331 ?_
              refine g_nmL (fun L2157 hL2157 => ?_)
              have hG : ∀ k i, k ≠ 295 ∧ k ≠ 296 → L2157 k i = L k i := fun k i hk => by (rw [hL2157, sJ_at, if_neg (by omega)]; try exact hG k i hk)
              have p295 : L2157 295 = L_222 295 := by rw [hL2157, sJ_n _ _ _ (by decide)]; try exact p295
              obtain ⟨v2158, ev2158⟩ : ∃ y : Int32, y = x3_222 + 1 := ⟨_, rfl⟩
              try have fv2158 := fadd rfl (by decide : (1 : Int32).toInt = 1) ev2158 (by omega) (by omega)
              refine g_iinc C 1 v2158 [(3, .int v2158), (4, .long v2134), (2, .int x2_212), (1, .int x1_202), (0, .ref (ad 258))] dX11_layWays_332 rfl (by rw [ev2158]; rfl) (by decide) rfl ?_
              refine g_goto C 222 dX11_layWays_335 (by decide) ?_
              refine g_lv [0, 2, 3, 4] [(3, .int v2158), (2, .int x2_212), (1, .int x1_202), (0, .ref (ad 258))] rfl ?_
              have nv := ixn (x := v2158) (by omega)
              have iv : v2158.toNatClampNeg = x3_222.toNatClampNeg + 1 := by omega
              have hL9 : L2157 296 = fun c => if c = 10 * x2_212.toNatClampNeg + x3_222.toNatClampNeg then v2134 else L_222 296 c := by
                funext c
                rw [hL2157, sJ_at, iv2136]
                by_cases e9 : c = 10 * x2_212.toNatClampNeg + x3_222.toNatClampNeg
                · rw [if_pos ⟨rfl, e9⟩, if_pos e9]
                · rw [if_neg (fun h => e9 h.2), if_neg e9]
              have hstep : FW (wv (L_202 296)) (wv (L2157 296)) (M 258 2).toNatClampNeg x1_202.toNatClampNeg (fun a b => a < x2_212.toNatClampNeg ∨ (a = x2_212.toNatClampNeg ∧ b < v2158.toNatClampNeg)) := by
                refine FW_step (x := x2_212.toNatClampNeg) (y := x3_222.toNatClampNeg) j222_2 (by omega) (by omega) (by omega) (fun a b ha hb => by show (a < x2_212.toNatClampNeg ∨ (a = x2_212.toNatClampNeg ∧ b < v2158.toNatClampNeg)) ↔ ((a < x2_212.toNatClampNeg ∨ (a = x2_212.toNatClampNeg ∧ b < x3_222.toNatClampNeg)) ∨ (a = x2_212.toNatClampNeg ∧ b = x3_222.toNatClampNeg)); rw [iv]; exact dd_step) (fun a b ha hb hab => ?_) (fun t => ?_)
                · show (L2157 296 (10 * a + b)).toInt = (L_222 296 (10 * a + b)).toInt
                  rw [hL9]
                  show (if 10 * a + b = 10 * x2_212.toNatClampNeg + x3_222.toNatClampNeg then v2134 else L_222 296 (10 * a + b)).toInt = _
                  rw [if_neg (idx_ne (by omega) (by omega) hab)]
                · have e9 : wv (L2157 296) x2_212.toNatClampNeg x3_222.toNatClampNeg = v2134.toInt := by show (L2157 296 (10 * x2_212.toNatClampNeg + x3_222.toNatClampNeg)).toInt = _; rw [hL9]; show (if _ then v2134 else _).toInt = _; rw [if_pos rfl]
                  rw [e9]
                  unfold wv
                  exact fv2 (b := v2134.toInt) (by omega) (by omega) (by omega) (by omega) t
              exact ih_222 (v2158, M_222, L2157) ⟨by show 0 ≤ v2158.toInt; omega, by show v2158.toInt ≤ (M 258 2).toInt; omega, by show FW (wv (L_202 296)) (wv (L2157 296)) (M 258 2).toNatClampNeg x1_202.toNatClampNeg (fun u9 v9 => u9 < x2_212.toNatClampNeg ∨ (u9 = x2_212.toNatClampNeg ∧ v9 < v2158.toNatClampNeg)); exact hstep, hI, hF, hG⟩ (by show (11 - v2158.toInt).toNat < (11 - x3_222.toInt).toNat; exact ms11 fv2158 j222_1 cb)
