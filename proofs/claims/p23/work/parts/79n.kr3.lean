set_option maxHeartbeats 4000000 in
set_option maxRecDepth 100000 in
theorem k_X11_isAheadOn (l : Launch) (D : va_G) (ad : Nat → Nat) (cs : Nat → ClassId) (M : MI) (L : ML) (b : Int32) (x : Int32) (y : Int32) (hI : IR M) (hb : 0 ≤ b.toInt ∧ b.toInt < 60) (hxy : 0 ≤ x.toInt ∧ 0 ≤ y.toInt) : Ci l yX11_isAheadOn wsX11_isAheadOn ({ frames := 1, cells := 0, slots := 0, locals := 23 }) D ad cs [.ref (ad 258), .int b, .int x, .int y] M L (fun r M1 L1 => M1 = M ∧ L1 = L ∧ (zo r (ahV (vR M) (b.toNatClampNeg) (x.toNatClampNeg) (y.toNatClampNeg)))) := by
  refine enter_i RX11 rfl [(0, .ref (ad 258)), (1, .int b), (2, .int x), (3, .int y)] rfl (Nat.le_of_ble_eq_true rfl) (by decide +kernel) rfl ?_
  intro p e s m below meth c C hr
  have hF : ∀ k i, True → M k i = M k i := fun _ _ _ => rfl
  have hG : ∀ k i, True → L k i = L k i := fun _ _ _ => rfl
  have w0 : (vR M 0 0).toInt = (M 258 2).toInt := rfl
  have w1 : (vR M 0 1).toInt = (M 258 4).toInt := rfl
  have w2 : (vR M 0 2).toInt = (M 258 9).toInt := rfl
  have w3 : (vR M 0 3).toInt = (M 258 14).toInt := rfl
  obtain ⟨y0a, y0b⟩ := (show rg 0 10 (M 258 2) from hI 258 2)
  obtain ⟨y1a, y1b⟩ := (show rg 0 60 (M 258 4) from hI 258 4)
  obtain ⟨y2a, y2b⟩ := (show rg 0 8 (M 258 9) from hI 258 9)
  obtain ⟨y3a, y3b⟩ := (show rg 0 20 (M 258 14) from hI 258 14)
  obtain ⟨hb1, hb2⟩ := hb
  obtain ⟨hx1, hy1⟩ := hxy
  obtain ⟨oa, ob⟩ := (show rg 0 10 (vR M 4 b.toNatClampNeg) from hI 263 _)
  refine g_aload_n C 0 dX11_isAheadOn_0 rfl ?_
  refine g_iload_n C 1 dX11_isAheadOn_1 rfl ?_
  refine g_iload_n C 2 dX11_isAheadOn_2 rfl ?_
  refine g_callVi C (n := 2) (As := [.int b, .int x]) (st := []) (s_X11_placeOn l D ad cs _ _ b x hI ⟨by omega, by omega⟩) gX11_isAheadOn_X11_placeOn rfl rfl rfl (by decide +kernel) ⟨Nat.le_of_ble_eq_true rfl, Nat.le_of_ble_eq_true rfl⟩ rfl (Nat.le_of_ble_eq_true rfl) ⟨Nat.zero_le _, Nat.zero_le _⟩ (by decide) (ce_model ad cs _ _) rfl rfl dX11_isAheadOn_3 (fun r1 M2 L3 hr1 => ?_)
  obtain ⟨hq1, hq2, hr1⟩ := hr1
  obtain rfl := hq1.symm
  obtain rfl := hq2.symm
  obtain ⟨hr1, qr1⟩ := hr1
  have tr1 : r1.toInt = plN (vR M) b.toNatClampNeg x.toNatClampNeg := by show r1.toInt = (pF (mk (vR M) b.toNatClampNeg) (Int32.ofNat x.toNatClampNeg) (vR M 4 b.toNatClampNeg).toNatClampNeg 0).toInt; rw [hr1, of_ix (by omega)]
  refine g_istore C [(4, .int r1), (0, .ref (ad 258)), (1, .int b), (2, .int x), (3, .int y)] dX11_isAheadOn_6 (by decide) rfl ?_
  refine g_aload_n C 1 dX11_isAheadOn_8 rfl ?_
  refine g_iload_n C 2 dX11_isAheadOn_9 rfl ?_
  refine g_iload_n C 4 dX11_isAheadOn_10 rfl ?_
  refine g_callVi C (n := 2) (As := [.int b, .int y]) (st := []) (s_X11_placeOn l D ad cs _ _ b y hI ⟨by omega, by omega⟩) gX11_isAheadOn_X11_placeOn rfl rfl rfl (by decide +kernel) ⟨Nat.le_of_ble_eq_true rfl, Nat.le_of_ble_eq_true rfl⟩ rfl (Nat.le_of_ble_eq_true rfl) ⟨Nat.zero_le _, Nat.zero_le _⟩ (by decide) (ce_model ad cs _ _) rfl rfl dX11_isAheadOn_11 (fun r4 M5 L6 hr4 => ?_)
  obtain ⟨hq1, hq2, hr4⟩ := hr4
  obtain rfl := hq1.symm
  obtain rfl := hq2.symm
  obtain ⟨hr4, qr4⟩ := hr4
  have tr4 : r4.toInt = plN (vR M) b.toNatClampNeg y.toNatClampNeg := by show r4.toInt = (pF (mk (vR M) b.toNatClampNeg) (Int32.ofNat y.toNatClampNeg) (vR M 4 b.toNatClampNeg).toNatClampNeg 0).toInt; rw [hr4, of_ix (by omega)]
  refine g_istore C [(5, .int r4), (4, .int r1), (0, .ref (ad 258)), (1, .int b), (2, .int x), (3, .int y)] dX11_isAheadOn_14 (by decide) rfl ?_
  refine g_iload C 1 dX11_isAheadOn_16 rfl ?_
  refine g_bipush C (-9) dX11_isAheadOn_18 (by decide) ?_
  refine g_icmp_eq C 41 dX11_isAheadOn_20 (by decide) (fun c7 => ?_) (fun c7 => ?_)
  ·
    have f8 := feq rfl (by decide : ((-9) : Int32).toInt = (-9)) c7
    refine g_iconst C 0 dX11_isAheadOn_41 (by decide) ?_
    have zr9 : (0 : Int32).toInt = 0 := by decide
    exact g_zret C hr rfl ⟨rfl, rfl, (by first | exact Or.inl ⟨rfl, by dsimp only [ahV]; omega⟩ | exact Or.inr ⟨rfl, by dsimp only [ahV]; omega⟩)⟩ dX11_isAheadOn_42
  ·
    have f9 := fne rfl (by decide : ((-9) : Int32).toInt = (-9)) c7
    refine g_iload C 0 dX11_isAheadOn_23 rfl ?_
    refine g_bipush C (-9) dX11_isAheadOn_25 (by decide) ?_
    refine g_icmp_eq C 37 dX11_isAheadOn_27 (by decide) (fun c10 => ?_) (fun c10 => ?_)
    ·
      have f11 := feq rfl (by decide : ((-9) : Int32).toInt = (-9)) c10
      refine g_iconst C 1 dX11_isAheadOn_37 (by decide) ?_
      refine g_goto C 42 dX11_isAheadOn_38 (by decide) ?_
      have zr9 : (1 : Int32).toInt = 1 := by decide
      exact g_zret C hr rfl ⟨rfl, rfl, (by first | exact Or.inl ⟨rfl, by dsimp only [ahV]; omega⟩ | exact Or.inr ⟨rfl, by dsimp only [ahV]; omega⟩)⟩ dX11_isAheadOn_42
    ·
      have f12 := fne rfl (by decide : ((-9) : Int32).toInt = (-9)) c10
      refine g_iload C 1 dX11_isAheadOn_30 rfl ?_
      refine g_iload C 0 dX11_isAheadOn_32 rfl ?_
      refine g_icmp_ge C 41 dX11_isAheadOn_34 (by decide) (fun c13 => ?_) (fun c13 => ?_)
      ·
        have f14 := fle rfl rfl c13
        refine g_iconst C 0 dX11_isAheadOn_41 (by decide) ?_
        have zr9 : (0 : Int32).toInt = 0 := by decide
        exact g_zret C hr rfl ⟨rfl, rfl, (by first | exact Or.inl ⟨rfl, by dsimp only [ahV]; omega⟩ | exact Or.inr ⟨rfl, by dsimp only [ahV]; omega⟩)⟩ dX11_isAheadOn_42
      ·
        have f15 := fnle rfl rfl c13
        refine g_iconst C 1 dX11_isAheadOn_37 (by decide) ?_
        refine g_goto C 42 dX11_isAheadOn_38 (by decide) ?_
        have zr9 : (1 : Int32).toInt = 1 := by decide
        exact g_zret C hr rfl ⟨rfl, rfl, (by first | exact Or.inl ⟨rfl, by dsimp only [ahV]; omega⟩ | exact Or.inr ⟨rfl, by dsimp only [ahV]; omega⟩)⟩ dX11_isAheadOn_42
set_option maxHeartbeats 4000000 in
set_option maxRecDepth 100000 in
theorem k_X11_layWays_200 (l : Launch) (D : va_G) (ad : Nat → Nat) (cs : Nat → ClassId) (M : MI) (L : ML)  (hI0 : IR M) (hX : hasX (vR M) (M 258 27)) (hB8 : ∀ i : Nat, (vR M 8 i).toInt = -9 ∨ (0 ≤ (vR M 8 i).toInt ∧ (vR M 8 i).toInt ≤ 59))  {p : Program} {e : Env} {s : State} {m : MethodId} {below : List Frame} {meth : Method} {c : Code} (C : Cx p s m #[.ref (ad 258)] meth c cX11_layWays 6 wsX11_layWays RX11 D ad cs) (hr : meth.sig.returnType = none) (Mc : MI) (Lc : ML) (hI : IR Mc) (hF : ∀ k i, True → Mc k i = M k i) (hG : ∀ k i, k ≠ 295 ∧ k ≠ 296 → Lc k i = L k i) (hw0 : ∀ a, a < (M 258 2).toNatClampNeg → ∀ b, b < (M 258 2).toNatClampNeg → wv (Lc 296) a b = wS (vR M) (fun i => vR M 8 (40 * (M 258 27).toNatClampNeg + i)) (vR M 7 (M 258 27).toNatClampNeg).toNatClampNeg 0 a b) : G p l e ({ frames := 2, cells := 0, slots := 0, locals := 48 }) s m #[.ref (ad 258)] below meth c 0 0 (MQ below (Qv D ad cs (fun M1 L1 => (CL (M 258 2).toNatClampNeg (M 258 2).toNatClampNeg (wv (L1 296)) ∧ ∀ a, a < (M 258 2).toNatClampNeg → ∀ b, b < (M 258 2).toNatClampNeg → wv (L1 296) a b = wS (vR M) (fun i => vR M 8 (40 * (M 258 27).toNatClampNeg + i)) (vR M 7 (M 258 27).toNatClampNeg).toNatClampNeg (M 258 2).toNatClampNeg a b) ∧ IR M1 ∧ (∀ k i, True → M1 k i = M k i) ∧ ∀ k i, k ≠ 295 ∧ k ≠ 296 → L1 k i = L k i)) #[.ref (ad 258)] s 0 0 (Ar ad)) D ad cs 6 Mc Lc 200 [(0, .ref (ad 258))] [] := by
  have hI0 := hI0
  obtain ⟨ca, cb⟩ := (show rg 0 10 (M 258 2) from hI0 258 2)
  have n02 := ixn ca
  have hX1 := hX.1
  have hX2 := hX.2
  obtain ⟨sza, szb⟩ := (show rg 0 40 (vR M 7 (M 258 27).toNatClampNeg) from hI0 266 _)
  have nsz := ixn sza
  have w2_ : (vR M 0 2).toInt = (M 258 9).toInt := rfl
  obtain ⟨y2a, y2b⟩ := (show rg 0 8 (M 258 9) from hI0 258 9)
  have nX := ixn hX1
  have p295 : Lc 295 = Lc 295 := rfl
  have p296 : Lc 296 = Lc 296 := rfl
  refine g_iconst C 0 dX11_layWays_200 (by decide) ?_
  refine g_istore_n C [(1, .int 0), (0, .ref (ad 258))] dX11_layWays_201 (by decide) rfl ?_
  have zy2078 : (0 : Int32).toInt = 0 := by decide
  refine g_loop (α := Int32 × MI × ML) (fun a => (11 - a.1.toInt).toNat) (fun a => (0 ≤ a.1.toInt) ∧ (a.1.toInt ≤ (M 258 2).toInt) ∧ (CL (M 258 2).toNatClampNeg a.1.toNatClampNeg (wv (a.2.2 296))) ∧ (∀ u9, u9 < (M 258 2).toNatClampNeg → ∀ v9, v9 < (M 258 2).toNatClampNeg → wv (a.2.2 296) u9 v9 = wS (vR M) (fun i => vR M 8 (40 * (M 258 27).toNatClampNeg + i)) (vR M 7 (M 258 27).toNatClampNeg).toNatClampNeg a.1.toNatClampNeg u9 v9) ∧ IR a.2.1 ∧ (∀ k i, True → a.2.1 k i = M k i) ∧ (∀ k i, k ≠ 295 ∧ k ≠ 296 → a.2.2 k i = L k i)) (fun a => a.2.1) (fun a => a.2.2) (fun a => [(1, .int a.1), (0, .ref (ad 258))]) ((0 : Int32), Mc, Lc) ⟨by show 0 ≤ (0 : Int32).toInt; omega, by show (0 : Int32).toInt ≤ (M 258 2).toInt; omega, by show CL (M 258 2).toNatClampNeg (0 : Int32).toNatClampNeg (wv (Lc 296)); exact fun j hj => absurd hj (by show ¬ j < 0; omega), by show ∀ u9, u9 < (M 258 2).toNatClampNeg → ∀ v9, v9 < (M 258 2).toNatClampNeg → wv (Lc 296) u9 v9 = wS (vR M) (fun i => vR M 8 (40 * (M 258 27).toNatClampNeg + i)) (vR M 7 (M 258 27).toNatClampNeg).toNatClampNeg (0 : Int32).toNatClampNeg u9 v9; exact hw0, hI, hF, hG⟩ rfl rfl rfl ?_
  rintro ⟨x1_202, M_202, L_202⟩ ⟨j202_0, j202_1, j202_2, j202_3, hI, hF, hG⟩ ih_202
  dsimp only at j202_0 j202_1 j202_2 j202_3 hI hF hG ih_202 ⊢
  have p295 : L_202 295 = L_202 295 := rfl
  have p296 : L_202 296 = L_202 296 := rfl
  have n1 := ixn (x := x1_202) (by omega)
  refine g_iload_n C 0 dX11_layWays_202 rfl ?_
  refine g_aload_n C 1 dX11_layWays_203 rfl ?_
  refine g_get C (.int (M_202 258 2)) 2 in_X11_layWays_11 (List.mem_of_getElem? (i := 1) rfl) (by decide) (ce_model ad cs _ _) rfl (by decide) rfl rfl dX11_layWays_204 ?_
  refine g_ni (fun v2079 ev2079 => ?_)
  have gv2079 : v2079 = M 258 2 := ev2079.trans (hF 258 2 trivial)
  have tv2079 := congrArg Int32.toInt gv2079
  obtain ⟨bv2079, dv2079⟩ := (show rg 0 10 v2079 from (by rw [ev2079]; exact hI 258 2))
  refine g_icmp_ge C 350 dX11_layWays_207 (by decide) (fun c2080 => ?_) (fun c2080 => ?_)
  ·
    have f2081 := fle rfl rfl c2080
    exact g_vret C hr ⟨(by have e9 : x1_202.toNatClampNeg = (M 258 2).toNatClampNeg := (by omega); rw [e9] at j202_2 j202_3; exact ⟨j202_2, j202_3⟩), hI, hF, hG⟩ dX11_layWays_350
  ·
    have f2082 := fnle rfl rfl c2080
    refine g_iconst C 0 dX11_layWays_210 (by decide) ?_
    refine g_istore_n C [(2, .int 0), (1, .int x1_202), (0, .ref (ad 258))] dX11_layWays_211 (by decide) rfl ?_
    have zy2083 : (0 : Int32).toInt = 0 := by decide
    refine g_loop (α := Int32 × MI × ML) (fun a => (11 - a.1.toInt).toNat) (fun a => (0 ≤ a.1.toInt) ∧ (a.1.toInt ≤ (M 258 2).toInt) ∧ (FW (wv (L_202 296)) (wv (a.2.2 296)) (M 258 2).toNatClampNeg x1_202.toNatClampNeg (fun u9 v9 => u9 < a.1.toNatClampNeg)) ∧ IR a.2.1 ∧ (∀ k i, True → a.2.1 k i = M k i) ∧ (∀ k i, k ≠ 295 ∧ k ≠ 296 → a.2.2 k i = L k i)) (fun a => a.2.1) (fun a => a.2.2) (fun a => [(2, .int a.1), (1, .int x1_202), (0, .ref (ad 258))]) ((0 : Int32), M_202, L_202) ⟨by show 0 ≤ (0 : Int32).toInt; omega, by show (0 : Int32).toInt ≤ (M 258 2).toInt; omega, by show FW (wv (L_202 296)) (wv (L_202 296)) (M 258 2).toNatClampNeg x1_202.toNatClampNeg (fun u9 v9 => u9 < (0 : Int32).toNatClampNeg); exact FW_0 (fun a b ha hb => by show ¬ a < 0; omega), hI, hF, hG⟩ rfl rfl rfl ?_
    rintro ⟨x2_212, M_212, L_212⟩ ⟨j212_0, j212_1, j212_2, hI, hF, hG⟩ ih_212
    dsimp only at j212_0 j212_1 j212_2 hI hF hG ih_212 ⊢
    have p295 : L_212 295 = L_212 295 := rfl
    have p296 : L_212 296 = L_212 296 := rfl
    have n2 := ixn (x := x2_212) (by omega)
    refine g_iload_n C 0 dX11_layWays_212 rfl ?_
    refine g_aload_n C 2 dX11_layWays_213 rfl ?_
    refine g_get C (.int (M_212 258 2)) 2 in_X11_layWays_11 (List.mem_of_getElem? (i := 1) rfl) (by decide) (ce_model ad cs _ _) rfl (by decide) rfl rfl dX11_layWays_214 ?_
    refine g_ni (fun v2084 ev2084 => ?_)
    have gv2084 : v2084 = M 258 2 := ev2084.trans (hF 258 2 trivial)
    have tv2084 := congrArg Int32.toInt gv2084
    obtain ⟨bv2084, dv2084⟩ := (show rg 0 10 v2084 from (by rw [ev2084]; exact hI 258 2))
    refine g_icmp_ge C 344 dX11_layWays_217 (by decide) (fun c2085 => ?_) (fun c2085 => ?_)
    ·
      have f2086 := fle rfl rfl c2085
      obtain ⟨v2087, ev2087⟩ : ∃ y : Int32, y = x1_202 + 1 := ⟨_, rfl⟩
      try have fv2087 := fadd rfl (by decide : (1 : Int32).toInt = 1) ev2087 (by omega) (by omega)
      refine g_iinc C 1 v2087 [(1, .int v2087), (2, .int x2_212), (0, .ref (ad 258))] dX11_layWays_344 rfl (by rw [ev2087]; rfl) (by decide) rfl ?_
      refine g_goto C 202 dX11_layWays_347 (by decide) ?_
      refine g_lv [0, 2] [(1, .int v2087), (0, .ref (ad 258))] rfl ?_
      have nv := ixn (x := v2087) (by omega)
      have iv : v2087.toNatClampNeg = x1_202.toNatClampNeg + 1 := by omega
      have hfw : FW (wv (L_202 296)) (wv (L_212 296)) (M 258 2).toNatClampNeg x1_202.toNatClampNeg (fun _ _ => True) := (FW_congr j212_2 (fun a b ha hb => ⟨fun _ => (by show a < x2_212.toNatClampNeg; omega), fun _ => trivial⟩))
      have hws : ∀ a, a < (M 258 2).toNatClampNeg → ∀ b, b < (M 258 2).toNatClampNeg → wv (L_212 296) a b = wS (vR M) (fun i => vR M 8 (40 * (M 258 27).toNatClampNeg + i)) (vR M 7 (M 258 27).toNatClampNeg).toNatClampNeg (x1_202.toNatClampNeg + 1) a b := by
        intro a ha b hb
        rw [FW_eq hfw ha hb, j202_3 a ha b hb, j202_3 a ha x1_202.toNatClampNeg (by omega), j202_3 x1_202.toNatClampNeg (by omega) b hb]
        rfl
      exact ih_202 (v2087, M_212, L_212) ⟨by show 0 ≤ v2087.toInt; omega, by show v2087.toInt ≤ (M 258 2).toInt; omega, by show CL (M 258 2).toNatClampNeg v2087.toNatClampNeg (wv (L_212 296)); rw [iv]; exact CL_step j202_2 (by omega) hfw, by show ∀ u9, u9 < (M 258 2).toNatClampNeg → ∀ v9, v9 < (M 258 2).toNatClampNeg → wv (L_212 296) u9 v9 = wS (vR M) (fun i => vR M 8 (40 * (M 258 27).toNatClampNeg + i)) (vR M 7 (M 258 27).toNatClampNeg).toNatClampNeg v2087.toNatClampNeg u9 v9; rw [iv]; exact hws, hI, hF, hG⟩ (by show (11 - v2087.toInt).toNat < (11 - x1_202.toInt).toNat; omega)
    ·
      have f2088 := fnle rfl rfl c2085
      refine g_iconst C 0 dX11_layWays_220 (by decide) ?_
      refine g_istore_n C [(3, .int 0), (2, .int x2_212), (1, .int x1_202), (0, .ref (ad 258))] dX11_layWays_221 (by decide) rfl ?_
      have zy2089 : (0 : Int32).toInt = 0 := by decide
      refine g_loop (α := Int32 × MI × ML) (fun a => (11 - a.1.toInt).toNat) (fun a => (0 ≤ a.1.toInt) ∧ (a.1.toInt ≤ (M 258 2).toInt) ∧ (FW (wv (L_202 296)) (wv (a.2.2 296)) (M 258 2).toNatClampNeg x1_202.toNatClampNeg (fun u9 v9 => u9 < x2_212.toNatClampNeg ∨ (u9 = x2_212.toNatClampNeg ∧ v9 < a.1.toNatClampNeg))) ∧ IR a.2.1 ∧ (∀ k i, True → a.2.1 k i = M k i) ∧ (∀ k i, k ≠ 295 ∧ k ≠ 296 → a.2.2 k i = L k i)) (fun a => a.2.1) (fun a => a.2.2) (fun a => [(3, .int a.1), (2, .int x2_212), (1, .int x1_202), (0, .ref (ad 258))]) ((0 : Int32), M_212, L_212) ⟨by show 0 ≤ (0 : Int32).toInt; omega, by show (0 : Int32).toInt ≤ (M 258 2).toInt; omega, by show FW (wv (L_202 296)) (wv (L_212 296)) (M 258 2).toNatClampNeg x1_202.toNatClampNeg (fun u9 v9 => u9 < x2_212.toNatClampNeg ∨ (u9 = x2_212.toNatClampNeg ∧ v9 < (0 : Int32).toNatClampNeg)); exact FW_congr j212_2 (fun a b ha hb => by show (a < x2_212.toNatClampNeg ∨ (a = x2_212.toNatClampNeg ∧ b < 0)) ↔ a < x2_212.toNatClampNeg; omega), hI, hF, hG⟩ rfl rfl rfl ?_
      rintro ⟨x3_222, M_222, L_222⟩ ⟨j222_0, j222_1, j222_2, hI, hF, hG⟩ ih_222
      dsimp only at j222_0 j222_1 j222_2 hI hF hG ih_222 ⊢
      have p295 : L_222 295 = L_222 295 := rfl
      have p296 : L_222 296 = L_222 296 := rfl
      have n3 := ixn (x := x3_222) (by omega)
      refine g_iload_n C 0 dX11_layWays_222 rfl ?_
      refine g_aload_n C 3 dX11_layWays_223 rfl ?_
      refine g_get C (.int (M_222 258 2)) 2 in_X11_layWays_11 (List.mem_of_getElem? (i := 1) rfl) (by decide) (ce_model ad cs _ _) rfl (by decide) rfl rfl dX11_layWays_224 ?_
      refine g_ni (fun v2090 ev2090 => ?_)
      have gv2090 : v2090 = M 258 2 := ev2090.trans (hF 258 2 trivial)
      have tv2090 := congrArg Int32.toInt gv2090
      obtain ⟨bv2090, dv2090⟩ := (show rg 0 10 v2090 from (by rw [ev2090]; exact hI 258 2))
      refine g_icmp_ge C 338 dX11_layWays_227 (by decide) (fun c2091 => ?_) (fun c2091 => ?_)
      ·
        have f2092 := fle rfl rfl c2091
        obtain ⟨v2093, ev2093⟩ : ∃ y : Int32, y = x2_212 + 1 := ⟨_, rfl⟩
        try have fv2093 := fadd rfl (by decide : (1 : Int32).toInt = 1) ev2093 (by omega) (by omega)
        refine g_iinc C 1 v2093 [(2, .int v2093), (3, .int x3_222), (1, .int x1_202), (0, .ref (ad 258))] dX11_layWays_338 rfl (by rw [ev2093]; rfl) (by decide) rfl ?_
        refine g_goto C 212 dX11_layWays_341 (by decide) ?_
        refine g_lv [0, 2, 3] [(2, .int v2093), (1, .int x1_202), (0, .ref (ad 258))] rfl ?_
        exact ih_212 (v2093, M_222, L_222) ⟨by show 0 ≤ v2093.toInt; omega, by show v2093.toInt ≤ (M 258 2).toInt; omega, by show FW (wv (L_202 296)) (wv (L_222 296)) (M 258 2).toNatClampNeg x1_202.toNatClampNeg (fun u9 v9 => u9 < v2093.toNatClampNeg); exact FW_congr j222_2 (fun a b ha hb => by show a < v2093.toNatClampNeg ↔ (a < x2_212.toNatClampNeg ∨ (a = x2_212.toNatClampNeg ∧ b < x3_222.toNatClampNeg)); have := ixn (x := v2093) (by omega); omega), hI, hF, hG⟩ (by show (11 - v2093.toInt).toNat < (11 - x2_212.toInt).toNat; omega)
      ·
        have f2094 := fnle rfl rfl c2091
        refine g_aload_n C 3 dX11_layWays_230 rfl ?_
        refine g_get C (.ref (ad 296)) 52 in_X11_layWays_11 (List.mem_of_getElem? (i := 6) rfl) (by decide) (ce_model ad cs _ _) rfl (by decide) rfl rfl dX11_layWays_231 ?_
        refine g_bipush C 10 dX11_layWays_234 (by decide) ?_
        refine g_iload_n C 1 dX11_layWays_236 rfl ?_
        refine g_imul C dX11_layWays_237 ?_
        refine g_ni (fun v2095 ev2095 => ?_)
        try have fv2095 := fmul (by decide : (10 : Int32).toInt = 10) rfl ev2095 (by omega) (by omega)
        refine g_iload_n C 2 dX11_layWays_238 rfl ?_
        refine g_iadd C dX11_layWays_239 ?_
        refine g_ni (fun v2096 ev2096 => ?_)
        try have fv2096 := fadd rfl rfl ev2096 (by omega) (by omega)
        have nx2_212 := ixn (x := x2_212) (by omega)
        have nx1_202 := ixn (x := x1_202) (by omega)
        have nv2096 := ixn (x := v2096) (by omega)
        have iv2096 : v2096.toNatClampNeg = 10 * x2_212.toNatClampNeg + x1_202.toNatClampNeg := by omega
        refine g_lald C (by decide) (ce_m_way ad cs _ _) (fin' (n := 100) rfl (by omega) (by omega)) dX11_layWays_240 ?_
        refine g_nl (fun v2097 ev2097 => ?_)
        have gv2097 : v2097 = L_222 296 v2096.toNatClampNeg := ev2097.trans (congrFun p296 _)
        have gv2097 := cg1L (f := L_222 296) gv2097 iv2096
        have tv2097 := congrArg Int64.toInt gv2097
        refine g_aload_n C 3 dX11_layWays_241 rfl ?_
        refine g_get C (.ref (ad 296)) 52 in_X11_layWays_11 (List.mem_of_getElem? (i := 6) rfl) (by decide) (ce_model ad cs _ _) rfl (by decide) rfl rfl dX11_layWays_242 ?_
        refine g_bipush C 10 dX11_layWays_245 (by decide) ?_
        refine g_iload_n C 2 dX11_layWays_247 rfl ?_
        refine g_imul C dX11_layWays_248 ?_
        refine g_ni (fun v2098 ev2098 => ?_)
        try have fv2098 := fmul (by decide : (10 : Int32).toInt = 10) rfl ev2098 (by omega) (by omega)
        refine g_iload_n C 0 dX11_layWays_249 rfl ?_
        refine g_iadd C dX11_layWays_250 ?_
        refine g_ni (fun v2099 ev2099 => ?_)
        try have fv2099 := fadd rfl rfl ev2099 (by omega) (by omega)
        have nx1_202 := ixn (x := x1_202) (by omega)
        have nx3_222 := ixn (x := x3_222) (by omega)
        have nv2099 := ixn (x := v2099) (by omega)
        have iv2099 : v2099.toNatClampNeg = 10 * x1_202.toNatClampNeg + x3_222.toNatClampNeg := by omega
        refine g_lald C (by decide) (ce_m_way ad cs _ _) (fin' (n := 100) rfl (by omega) (by omega)) dX11_layWays_251 ?_
        refine g_nl (fun v2100 ev2100 => ?_)
        have gv2100 : v2100 = L_222 296 v2099.toNatClampNeg := ev2100.trans (congrFun p296 _)
        have gv2100 := cg1L (f := L_222 296) gv2100 iv2099
        have tv2100 := congrArg Int64.toInt gv2100
        refine g_lcmp C dX11_layWays_252 ?_
        refine g_ni (fun v2101 ev2101 => ?_)
        refine g_if_ge C 270 dX11_layWays_253 (by decide) (fun c2102 => ?_) (fun c2102 => ?_)
        ·
          have f2103 := cge rfl rfl ev2101 c2102
          refine g_aload_n C 3 dX11_layWays_270 rfl ?_
          refine g_get C (.ref (ad 296)) 52 in_X11_layWays_11 (List.mem_of_getElem? (i := 6) rfl) (by decide) (ce_model ad cs _ _) rfl (by decide) rfl rfl dX11_layWays_271 ?_
          refine g_bipush C 10 dX11_layWays_274 (by decide) ?_
          refine g_iload_n C 2 dX11_layWays_276 rfl ?_
          refine g_imul C dX11_layWays_277 ?_
          refine g_ni (fun v2104 ev2104 => ?_)
          try have fv2104 := fmul (by decide : (10 : Int32).toInt = 10) rfl ev2104 (by omega) (by omega)
          refine g_iload_n C 0 dX11_layWays_278 rfl ?_
          refine g_iadd C dX11_layWays_279 ?_
          refine g_ni (fun v2105 ev2105 => ?_)
          try have fv2105 := fadd rfl rfl ev2105 (by omega) (by omega)
          have nx1_202 := ixn (x := x1_202) (by omega)
          have nx3_222 := ixn (x := x3_222) (by omega)
          have nv2105 := ixn (x := v2105) (by omega)
          have iv2105 : v2105.toNatClampNeg = 10 * x1_202.toNatClampNeg + x3_222.toNatClampNeg := by omega
          refine g_lald C (by decide) (ce_m_way ad cs _ _) (fin' (n := 100) rfl (by omega) (by omega)) dX11_layWays_280 ?_
          refine g_nl (fun v2106 ev2106 => ?_)
          have gv2106 : v2106 = L_222 296 v2105.toNatClampNeg := ev2106.trans (congrFun p296 _)
          have gv2106 := cg1L (f := L_222 296) gv2106 iv2105
          have tv2106 := congrArg Int64.toInt gv2106
          refine g_lstore C [(4, .long v2106), (3, .int x3_222), (2, .int x2_212), (1, .int x1_202), (0, .ref (ad 258))] dX11_layWays_281 (by decide) rfl ?_
          refine g_aload_n C 4 dX11_layWays_283 rfl ?_
          refine g_get C (.ref (ad 296)) 52 in_X11_layWays_11 (List.mem_of_getElem? (i := 6) rfl) (by decide) (ce_model ad cs _ _) rfl (by decide) rfl rfl dX11_layWays_284 ?_
          refine g_bipush C 10 dX11_layWays_287 (by decide) ?_
          refine g_iload_n C 2 dX11_layWays_289 rfl ?_
          refine g_imul C dX11_layWays_290 ?_
          refine g_ni (fun v2107 ev2107 => ?_)
          try have fv2107 := fmul (by decide : (10 : Int32).toInt = 10) rfl ev2107 (by omega) (by omega)
          refine g_iload_n C 1 dX11_layWays_291 rfl ?_
          refine g_iadd C dX11_layWays_292 ?_
          refine g_ni (fun v2108 ev2108 => ?_)
          try have fv2108 := fadd rfl rfl ev2108 (by omega) (by omega)
          refine g_iload_n C 2 dX11_layWays_293 rfl ?_
          refine g_iload_n C 1 dX11_layWays_294 rfl ?_
          refine g_icmp_eq C 320 dX11_layWays_295 (by decide) (fun c2109 => ?_) (fun c2109 => ?_)
          ·
            have f2110 := feq rfl rfl c2109
            refine g_aload_n C 4 dX11_layWays_320 rfl ?_
            refine g_get C (.ref (ad 296)) 52 in_X11_layWays_11 (List.mem_of_getElem? (i := 6) rfl) (by decide) (ce_model ad cs _ _) rfl (by decide) rfl rfl dX11_layWays_321 ?_
            refine g_bipush C 10 dX11_layWays_324 (by decide) ?_
            refine g_iload_n C 2 dX11_layWays_326 rfl ?_
            refine g_imul C dX11_layWays_327 ?_
            refine g_ni (fun v2111 ev2111 => ?_)
            try have fv2111 := fmul (by decide : (10 : Int32).toInt = 10) rfl ev2111 (by omega) (by omega)
            refine g_iload_n C 1 dX11_layWays_328 rfl ?_
            refine g_iadd C dX11_layWays_329 ?_
            refine g_ni (fun v2112 ev2112 => ?_)
            try have fv2112 := fadd rfl rfl ev2112 (by omega) (by omega)
            have nx2_212 := ixn (x := x2_212) (by omega)
            have nx3_222 := ixn (x := x3_222) (by omega)
            have nv2112 := ixn (x := v2112) (by omega)
            have iv2112 : v2112.toNatClampNeg = 10 * x2_212.toNatClampNeg + x3_222.toNatClampNeg := by omega
            refine g_lald C (by decide) (ce_m_way ad cs _ _) (fin' (n := 100) rfl (by omega) (by omega)) dX11_layWays_330 ?_
            refine g_nl (fun v2113 ev2113 => ?_)
            have gv2113 : v2113 = L_222 296 v2112.toNatClampNeg := ev2113.trans (congrFun p296 _)
            have gv2113 := cg1L (f := L_222 296) gv2113 iv2112
            have tv2113 := congrArg Int64.toInt gv2113
            have nx2_212 := ixn (x := x2_212) (by omega)
            have nx3_222 := ixn (x := x3_222) (by omega)
            have nv2108 := ixn (x := v2108) (by omega)
            have iv2108 : v2108.toNatClampNeg = 10 * x2_212.toNatClampNeg + x3_222.toNatClampNeg := by omega
            refine g_last C (by decide) (ce_m_way ad cs _ _) (by rw [sJ_k]; rfl) (fin' (n := 100) rfl (by omega) (by omega)) dX11_layWays_331 ?_
            refine g_nmL (fun L2114 hL2114 => ?_)
            have hG : ∀ k i, k ≠ 295 ∧ k ≠ 296 → L2114 k i = L k i := fun k i hk => by (rw [hL2114, sJ_at, if_neg (by omega)]; try exact hG k i hk)
            have p295 : L2114 295 = L_222 295 := by rw [hL2114, sJ_n _ _ _ (by decide)]; try exact p295
            obtain ⟨v2115, ev2115⟩ : ∃ y : Int32, y = x3_222 + 1 := ⟨_, rfl⟩
            try have fv2115 := fadd rfl (by decide : (1 : Int32).toInt = 1) ev2115 (by omega) (by omega)
            refine g_iinc C 1 v2115 [(3, .int v2115), (4, .long v2106), (2, .int x2_212), (1, .int x1_202), (0, .ref (ad 258))] dX11_layWays_332 rfl (by rw [ev2115]; rfl) (by decide) rfl ?_
            refine g_goto C 222 dX11_layWays_335 (by decide) ?_
            refine g_lv [0, 2, 3, 4] [(3, .int v2115), (2, .int x2_212), (1, .int x1_202), (0, .ref (ad 258))] rfl ?_
            have nv := ixn (x := v2115) (by omega)
            have iv : v2115.toNatClampNeg = x3_222.toNatClampNeg + 1 := by omega
            have hL9 : L2114 296 = fun c => if c = 10 * x2_212.toNatClampNeg + x3_222.toNatClampNeg then v2113 else L_222 296 c := by
              funext c
              rw [hL2114, sJ_at, iv2108]
              by_cases e9 : c = 10 * x2_212.toNatClampNeg + x3_222.toNatClampNeg
              · rw [if_pos ⟨rfl, e9⟩, if_pos e9]
              · rw [if_neg (fun h => e9 h.2), if_neg e9]
            have hstep : FW (wv (L_202 296)) (wv (L2114 296)) (M 258 2).toNatClampNeg x1_202.toNatClampNeg (fun a b => a < x2_212.toNatClampNeg ∨ (a = x2_212.toNatClampNeg ∧ b < v2115.toNatClampNeg)) := by
              refine FW_step (x := x2_212.toNatClampNeg) (y := x3_222.toNatClampNeg) j222_2 (by omega) (by omega) (by omega) (fun a b ha hb => by show (a < x2_212.toNatClampNeg ∨ (a = x2_212.toNatClampNeg ∧ b < v2115.toNatClampNeg)) ↔ ((a < x2_212.toNatClampNeg ∨ (a = x2_212.toNatClampNeg ∧ b < x3_222.toNatClampNeg)) ∨ (a = x2_212.toNatClampNeg ∧ b = x3_222.toNatClampNeg)); omega) (fun a b ha hb hab => ?_) (fun t => ?_)
              · show (L2114 296 (10 * a + b)).toInt = (L_222 296 (10 * a + b)).toInt
                rw [hL9]
                show (if 10 * a + b = 10 * x2_212.toNatClampNeg + x3_222.toNatClampNeg then v2113 else L_222 296 (10 * a + b)).toInt = _
                rw [if_neg (idx_ne (by omega) (by omega) hab)]
              · have e9 : wv (L2114 296) x2_212.toNatClampNeg x3_222.toNatClampNeg = v2113.toInt := by show (L2114 296 (10 * x2_212.toNatClampNeg + x3_222.toNatClampNeg)).toInt = _; rw [hL9]; show (if _ then v2113 else _).toInt = _; rw [if_pos rfl]
                rw [e9]
                unfold wv
                first | exact fv1 (by omega) (by omega) t | exact fv2 (b := v2106.toInt) (by omega) (by omega) (by omega) (by omega) t | exact fv3 (b := v2106.toInt) (by omega) (by omega) (by omega) t
            exact ih_222 (v2115, M_222, L2114) ⟨by show 0 ≤ v2115.toInt; omega, by show v2115.toInt ≤ (M 258 2).toInt; omega, by show FW (wv (L_202 296)) (wv (L2114 296)) (M 258 2).toNatClampNeg x1_202.toNatClampNeg (fun u9 v9 => u9 < x2_212.toNatClampNeg ∨ (u9 = x2_212.toNatClampNeg ∧ v9 < v2115.toNatClampNeg)); exact hstep, hI, hF, hG⟩ (by show (11 - v2115.toInt).toNat < (11 - x3_222.toInt).toNat; omega)
          ·
            have f2116 := fne rfl rfl c2109
            refine g_lload C 0 dX11_layWays_298 rfl ?_
            refine g_aload_n C 4 dX11_layWays_300 rfl ?_
            refine g_get C (.ref (ad 296)) 52 in_X11_layWays_11 (List.mem_of_getElem? (i := 6) rfl) (by decide) (ce_model ad cs _ _) rfl (by decide) rfl rfl dX11_layWays_301 ?_
            refine g_bipush C 10 dX11_layWays_304 (by decide) ?_
            refine g_iload_n C 2 dX11_layWays_306 rfl ?_
            refine g_imul C dX11_layWays_307 ?_
            refine g_ni (fun v2117 ev2117 => ?_)
            try have fv2117 := fmul (by decide : (10 : Int32).toInt = 10) rfl ev2117 (by omega) (by omega)
            refine g_iload_n C 1 dX11_layWays_308 rfl ?_
            refine g_iadd C dX11_layWays_309 ?_
            refine g_ni (fun v2118 ev2118 => ?_)
            try have fv2118 := fadd rfl rfl ev2118 (by omega) (by omega)
            have nx2_212 := ixn (x := x2_212) (by omega)
            have nx3_222 := ixn (x := x3_222) (by omega)
            have nv2118 := ixn (x := v2118) (by omega)
            have iv2118 : v2118.toNatClampNeg = 10 * x2_212.toNatClampNeg + x3_222.toNatClampNeg := by omega
            refine g_lald C (by decide) (ce_m_way ad cs _ _) (fin' (n := 100) rfl (by omega) (by omega)) dX11_layWays_310 ?_
            refine g_nl (fun v2119 ev2119 => ?_)
            have gv2119 : v2119 = L_222 296 v2118.toNatClampNeg := ev2119.trans (congrFun p296 _)
            have gv2119 := cg1L (f := L_222 296) gv2119 iv2118
            have tv2119 := congrArg Int64.toInt gv2119
            refine g_lcmp C dX11_layWays_311 ?_
            refine g_ni (fun v2120 ev2120 => ?_)
            refine g_if_le C 320 dX11_layWays_312 (by decide) (fun c2121 => ?_) (fun c2121 => ?_)
            ·
              have f2122 := cle rfl rfl ev2120 c2121
              refine g_aload_n C 4 dX11_layWays_320 rfl ?_
              refine g_get C (.ref (ad 296)) 52 in_X11_layWays_11 (List.mem_of_getElem? (i := 6) rfl) (by decide) (ce_model ad cs _ _) rfl (by decide) rfl rfl dX11_layWays_321 ?_
              refine g_bipush C 10 dX11_layWays_324 (by decide) ?_
              refine g_iload_n C 2 dX11_layWays_326 rfl ?_
              refine g_imul C dX11_layWays_327 ?_
              refine g_ni (fun v2123 ev2123 => ?_)
              try have fv2123 := fmul (by decide : (10 : Int32).toInt = 10) rfl ev2123 (by omega) (by omega)
              refine g_iload_n C 1 dX11_layWays_328 rfl ?_
              refine g_iadd C dX11_layWays_329 ?_
              refine g_ni (fun v2124 ev2124 => ?_)
              try have fv2124 := fadd rfl rfl ev2124 (by omega) (by omega)
              have nx2_212 := ixn (x := x2_212) (by omega)
              have nx3_222 := ixn (x := x3_222) (by omega)
              have nv2124 := ixn (x := v2124) (by omega)
              have iv2124 : v2124.toNatClampNeg = 10 * x2_212.toNatClampNeg + x3_222.toNatClampNeg := by omega
              refine g_lald C (by decide) (ce_m_way ad cs _ _) (fin' (n := 100) rfl (by omega) (by omega)) dX11_layWays_330 ?_
              refine g_nl (fun v2125 ev2125 => ?_)
              have gv2125 : v2125 = L_222 296 v2124.toNatClampNeg := ev2125.trans (congrFun p296 _)
              have gv2125 := cg1L (f := L_222 296) gv2125 iv2124
              have tv2125 := congrArg Int64.toInt gv2125
              have nx2_212 := ixn (x := x2_212) (by omega)
              have nx3_222 := ixn (x := x3_222) (by omega)
              have nv2108 := ixn (x := v2108) (by omega)
              have iv2108 : v2108.toNatClampNeg = 10 * x2_212.toNatClampNeg + x3_222.toNatClampNeg := by omega
              refine g_last C (by decide) (ce_m_way ad cs _ _) (by rw [sJ_k]; rfl) (fin' (n := 100) rfl (by omega) (by omega)) dX11_layWays_331 ?_
              refine g_nmL (fun L2126 hL2126 => ?_)
              have hG : ∀ k i, k ≠ 295 ∧ k ≠ 296 → L2126 k i = L k i := fun k i hk => by (rw [hL2126, sJ_at, if_neg (by omega)]; try exact hG k i hk)
              have p295 : L2126 295 = L_222 295 := by rw [hL2126, sJ_n _ _ _ (by decide)]; try exact p295
              obtain ⟨v2127, ev2127⟩ : ∃ y : Int32, y = x3_222 + 1 := ⟨_, rfl⟩
              try have fv2127 := fadd rfl (by decide : (1 : Int32).toInt = 1) ev2127 (by omega) (by omega)
              refine g_iinc C 1 v2127 [(3, .int v2127), (4, .long v2106), (2, .int x2_212), (1, .int x1_202), (0, .ref (ad 258))] dX11_layWays_332 rfl (by rw [ev2127]; rfl) (by decide) rfl ?_
              refine g_goto C 222 dX11_layWays_335 (by decide) ?_
              refine g_lv [0, 2, 3, 4] [(3, .int v2127), (2, .int x2_212), (1, .int x1_202), (0, .ref (ad 258))] rfl ?_
              have nv := ixn (x := v2127) (by omega)
              have iv : v2127.toNatClampNeg = x3_222.toNatClampNeg + 1 := by omega
              have hL9 : L2126 296 = fun c => if c = 10 * x2_212.toNatClampNeg + x3_222.toNatClampNeg then v2125 else L_222 296 c := by
                funext c
                rw [hL2126, sJ_at, iv2108]
                by_cases e9 : c = 10 * x2_212.toNatClampNeg + x3_222.toNatClampNeg
                · rw [if_pos ⟨rfl, e9⟩, if_pos e9]
                · rw [if_neg (fun h => e9 h.2), if_neg e9]
              have hstep : FW (wv (L_202 296)) (wv (L2126 296)) (M 258 2).toNatClampNeg x1_202.toNatClampNeg (fun a b => a < x2_212.toNatClampNeg ∨ (a = x2_212.toNatClampNeg ∧ b < v2127.toNatClampNeg)) := by
                refine FW_step (x := x2_212.toNatClampNeg) (y := x3_222.toNatClampNeg) j222_2 (by omega) (by omega) (by omega) (fun a b ha hb => by show (a < x2_212.toNatClampNeg ∨ (a = x2_212.toNatClampNeg ∧ b < v2127.toNatClampNeg)) ↔ ((a < x2_212.toNatClampNeg ∨ (a = x2_212.toNatClampNeg ∧ b < x3_222.toNatClampNeg)) ∨ (a = x2_212.toNatClampNeg ∧ b = x3_222.toNatClampNeg)); omega) (fun a b ha hb hab => ?_) (fun t => ?_)
                · show (L2126 296 (10 * a + b)).toInt = (L_222 296 (10 * a + b)).toInt
                  rw [hL9]
                  show (if 10 * a + b = 10 * x2_212.toNatClampNeg + x3_222.toNatClampNeg then v2125 else L_222 296 (10 * a + b)).toInt = _
                  rw [if_neg (idx_ne (by omega) (by omega) hab)]
                · have e9 : wv (L2126 296) x2_212.toNatClampNeg x3_222.toNatClampNeg = v2125.toInt := by show (L2126 296 (10 * x2_212.toNatClampNeg + x3_222.toNatClampNeg)).toInt = _; rw [hL9]; show (if _ then v2125 else _).toInt = _; rw [if_pos rfl]
                  rw [e9]
                  unfold wv
                  first | exact fv1 (by omega) (by omega) t | exact fv2 (b := v2106.toInt) (by omega) (by omega) (by omega) (by omega) t | exact fv3 (b := v2106.toInt) (by omega) (by omega) (by omega) t
              exact ih_222 (v2127, M_222, L2126) ⟨by show 0 ≤ v2127.toInt; omega, by show v2127.toInt ≤ (M 258 2).toInt; omega, by show FW (wv (L_202 296)) (wv (L2126 296)) (M 258 2).toNatClampNeg x1_202.toNatClampNeg (fun u9 v9 => u9 < x2_212.toNatClampNeg ∨ (u9 = x2_212.toNatClampNeg ∧ v9 < v2127.toNatClampNeg)); exact hstep, hI, hF, hG⟩ (by show (11 - v2127.toInt).toNat < (11 - x3_222.toInt).toNat; omega)
            ·
              have f2128 := cnle rfl rfl ev2120 c2121
              refine g_lload C 0 dX11_layWays_315 rfl ?_
              refine g_goto C 331 dX11_layWays_317 (by decide) ?_
              have nx2_212 := ixn (x := x2_212) (by omega)
              have nx3_222 := ixn (x := x3_222) (by omega)
              have nv2108 := ixn (x := v2108) (by omega)
              have iv2108 : v2108.toNatClampNeg = 10 * x2_212.toNatClampNeg + x3_222.toNatClampNeg := by omega
              refine g_last C (by decide) (ce_m_way ad cs _ _) (by rw [sJ_k]; rfl) (fin' (n := 100) rfl (by omega) (by omega)) dX11_layWays_331 ?_
              refine g_nmL (fun L2129 hL2129 => ?_)
              have hG : ∀ k i, k ≠ 295 ∧ k ≠ 296 → L2129 k i = L k i := fun k i hk => by (rw [hL2129, sJ_at, if_neg (by omega)]; try exact hG k i hk)
              have p295 : L2129 295 = L_222 295 := by rw [hL2129, sJ_n _ _ _ (by decide)]; try exact p295
              obtain ⟨v2130, ev2130⟩ : ∃ y : Int32, y = x3_222 + 1 := ⟨_, rfl⟩
              try have fv2130 := fadd rfl (by decide : (1 : Int32).toInt = 1) ev2130 (by omega) (by omega)
              refine g_iinc C 1 v2130 [(3, .int v2130), (4, .long v2106), (2, .int x2_212), (1, .int x1_202), (0, .ref (ad 258))] dX11_layWays_332 rfl (by rw [ev2130]; rfl) (by decide) rfl ?_
              refine g_goto C 222 dX11_layWays_335 (by decide) ?_
              refine g_lv [0, 2, 3, 4] [(3, .int v2130), (2, .int x2_212), (1, .int x1_202), (0, .ref (ad 258))] rfl ?_
              have nv := ixn (x := v2130) (by omega)
              have iv : v2130.toNatClampNeg = x3_222.toNatClampNeg + 1 := by omega
              have hL9 : L2129 296 = fun c => if c = 10 * x2_212.toNatClampNeg + x3_222.toNatClampNeg then v2106 else L_222 296 c := by
                funext c
                rw [hL2129, sJ_at, iv2108]
                by_cases e9 : c = 10 * x2_212.toNatClampNeg + x3_222.toNatClampNeg
                · rw [if_pos ⟨rfl, e9⟩, if_pos e9]
                · rw [if_neg (fun h => e9 h.2), if_neg e9]
              have hstep : FW (wv (L_202 296)) (wv (L2129 296)) (M 258 2).toNatClampNeg x1_202.toNatClampNeg (fun a b => a < x2_212.toNatClampNeg ∨ (a = x2_212.toNatClampNeg ∧ b < v2130.toNatClampNeg)) := by
                refine FW_step (x := x2_212.toNatClampNeg) (y := x3_222.toNatClampNeg) j222_2 (by omega) (by omega) (by omega) (fun a b ha hb => by show (a < x2_212.toNatClampNeg ∨ (a = x2_212.toNatClampNeg ∧ b < v2130.toNatClampNeg)) ↔ ((a < x2_212.toNatClampNeg ∨ (a = x2_212.toNatClampNeg ∧ b < x3_222.toNatClampNeg)) ∨ (a = x2_212.toNatClampNeg ∧ b = x3_222.toNatClampNeg)); omega) (fun a b ha hb hab => ?_) (fun t => ?_)
                · show (L2129 296 (10 * a + b)).toInt = (L_222 296 (10 * a + b)).toInt
                  rw [hL9]
                  show (if 10 * a + b = 10 * x2_212.toNatClampNeg + x3_222.toNatClampNeg then v2106 else L_222 296 (10 * a + b)).toInt = _
                  rw [if_neg (idx_ne (by omega) (by omega) hab)]
                · have e9 : wv (L2129 296) x2_212.toNatClampNeg x3_222.toNatClampNeg = v2106.toInt := by show (L2129 296 (10 * x2_212.toNatClampNeg + x3_222.toNatClampNeg)).toInt = _; rw [hL9]; show (if _ then v2106 else _).toInt = _; rw [if_pos rfl]
                  rw [e9]
                  unfold wv
                  first | exact fv1 (by omega) (by omega) t | exact fv2 (b := v2106.toInt) (by omega) (by omega) (by omega) (by omega) t | exact fv3 (b := v2106.toInt) (by omega) (by omega) (by omega) t
              exact ih_222 (v2130, M_222, L2129) ⟨by show 0 ≤ v2130.toInt; omega, by show v2130.toInt ≤ (M 258 2).toInt; omega, by show FW (wv (L_202 296)) (wv (L2129 296)) (M 258 2).toNatClampNeg x1_202.toNatClampNeg (fun u9 v9 => u9 < x2_212.toNatClampNeg ∨ (u9 = x2_212.toNatClampNeg ∧ v9 < v2130.toNatClampNeg)); exact hstep, hI, hF, hG⟩ (by show (11 - v2130.toInt).toNat < (11 - x3_222.toInt).toNat; omega)
        ·
          have f2131 := cnge rfl rfl ev2101 c2102
          refine g_aload_n C 3 dX11_layWays_256 rfl ?_
          refine g_get C (.ref (ad 296)) 52 in_X11_layWays_11 (List.mem_of_getElem? (i := 6) rfl) (by decide) (ce_model ad cs _ _) rfl (by decide) rfl rfl dX11_layWays_257 ?_
          refine g_bipush C 10 dX11_layWays_260 (by decide) ?_
          refine g_iload_n C 1 dX11_layWays_262 rfl ?_
          refine g_imul C dX11_layWays_263 ?_
          refine g_ni (fun v2132 ev2132 => ?_)
          try have fv2132 := fmul (by decide : (10 : Int32).toInt = 10) rfl ev2132 (by omega) (by omega)
          refine g_iload_n C 2 dX11_layWays_264 rfl ?_
          refine g_iadd C dX11_layWays_265 ?_
          refine g_ni (fun v2133 ev2133 => ?_)
          try have fv2133 := fadd rfl rfl ev2133 (by omega) (by omega)
          have nx2_212 := ixn (x := x2_212) (by omega)
          have nx1_202 := ixn (x := x1_202) (by omega)
          have nv2133 := ixn (x := v2133) (by omega)
          have iv2133 : v2133.toNatClampNeg = 10 * x2_212.toNatClampNeg + x1_202.toNatClampNeg := by omega
          refine g_lald C (by decide) (ce_m_way ad cs _ _) (fin' (n := 100) rfl (by omega) (by omega)) dX11_layWays_266 ?_
          refine g_nl (fun v2134 ev2134 => ?_)
          have gv2134 : v2134 = L_222 296 v2133.toNatClampNeg := ev2134.trans (congrFun p296 _)
          have gv2134 := cg1L (f := L_222 296) gv2134 iv2133
          have tv2134 := congrArg Int64.toInt gv2134
          refine g_goto C 281 dX11_layWays_267 (by decide) ?_
          refine g_lstore C [(4, .long v2134), (3, .int x3_222), (2, .int x2_212), (1, .int x1_202), (0, .ref (ad 258))] dX11_layWays_281 (by decide) rfl ?_
          refine g_aload_n C 4 dX11_layWays_283 rfl ?_
          refine g_get C (.ref (ad 296)) 52 in_X11_layWays_11 (List.mem_of_getElem? (i := 6) rfl) (by decide) (ce_model ad cs _ _) rfl (by decide) rfl rfl dX11_layWays_284 ?_
          refine g_bipush C 10 dX11_layWays_287 (by decide) ?_
          refine g_iload_n C 2 dX11_layWays_289 rfl ?_
          refine g_imul C dX11_layWays_290 ?_
          refine g_ni (fun v2135 ev2135 => ?_)
          try have fv2135 := fmul (by decide : (10 : Int32).toInt = 10) rfl ev2135 (by omega) (by omega)
          refine g_iload_n C 1 dX11_layWays_291 rfl ?_
          refine g_iadd C dX11_layWays_292 ?_
          refine g_ni (fun v2136 ev2136 => ?_)
          try have fv2136 := fadd rfl rfl ev2136 (by omega) (by omega)
          refine g_iload_n C 2 dX11_layWays_293 rfl ?_
          refine g_iload_n C 1 dX11_layWays_294 rfl ?_
          refine g_icmp_eq C 320 dX11_layWays_295 (by decide) (fun c2137 => ?_) (fun c2137 => ?_)
          ·
            have f2138 := feq rfl rfl c2137
            refine g_aload_n C 4 dX11_layWays_320 rfl ?_
            refine g_get C (.ref (ad 296)) 52 in_X11_layWays_11 (List.mem_of_getElem? (i := 6) rfl) (by decide) (ce_model ad cs _ _) rfl (by decide) rfl rfl dX11_layWays_321 ?_
            refine g_bipush C 10 dX11_layWays_324 (by decide) ?_
            refine g_iload_n C 2 dX11_layWays_326 rfl ?_
            refine g_imul C dX11_layWays_327 ?_
            refine g_ni (fun v2139 ev2139 => ?_)
            try have fv2139 := fmul (by decide : (10 : Int32).toInt = 10) rfl ev2139 (by omega) (by omega)
            refine g_iload_n C 1 dX11_layWays_328 rfl ?_
            refine g_iadd C dX11_layWays_329 ?_
            refine g_ni (fun v2140 ev2140 => ?_)
            try have fv2140 := fadd rfl rfl ev2140 (by omega) (by omega)
            have nx2_212 := ixn (x := x2_212) (by omega)
            have nx3_222 := ixn (x := x3_222) (by omega)
            have nv2140 := ixn (x := v2140) (by omega)
            have iv2140 : v2140.toNatClampNeg = 10 * x2_212.toNatClampNeg + x3_222.toNatClampNeg := by omega
            refine g_lald C (by decide) (ce_m_way ad cs _ _) (fin' (n := 100) rfl (by omega) (by omega)) dX11_layWays_330 ?_
            refine g_nl (fun v2141 ev2141 => ?_)
            have gv2141 : v2141 = L_222 296 v2140.toNatClampNeg := ev2141.trans (congrFun p296 _)
            have gv2141 := cg1L (f := L_222 296) gv2141 iv2140
            have tv2141 := congrArg Int64.toInt gv2141
            have nx2_212 := ixn (x := x2_212) (by omega)
            have nx3_222 := ixn (x := x3_222) (by omega)
            have nv2136 := ixn (x := v2136) (by omega)
            have iv2136 : v2136.toNatClampNeg = 10 * x2_212.toNatClampNeg + x3_222.toNatClampNeg := by omega
            refine g_last C (by decide) (ce_m_way ad cs _ _) (by rw [sJ_k]; rfl) (fin' (n := 100) rfl (by omega) (by omega)) dX11_layWays_331 ?_
            refine g_nmL (fun L2142 hL2142 => ?_)
            have hG : ∀ k i, k ≠ 295 ∧ k ≠ 296 → L2142 k i = L k i := fun k i hk => by (rw [hL2142, sJ_at, if_neg (by omega)]; try exact hG k i hk)
            have p295 : L2142 295 = L_222 295 := by rw [hL2142, sJ_n _ _ _ (by decide)]; try exact p295
            obtain ⟨v2143, ev2143⟩ : ∃ y : Int32, y = x3_222 + 1 := ⟨_, rfl⟩
            try have fv2143 := fadd rfl (by decide : (1 : Int32).toInt = 1) ev2143 (by omega) (by omega)
            refine g_iinc C 1 v2143 [(3, .int v2143), (4, .long v2134), (2, .int x2_212), (1, .int x1_202), (0, .ref (ad 258))] dX11_layWays_332 rfl (by rw [ev2143]; rfl) (by decide) rfl ?_
            refine g_goto C 222 dX11_layWays_335 (by decide) ?_
            refine g_lv [0, 2, 3, 4] [(3, .int v2143), (2, .int x2_212), (1, .int x1_202), (0, .ref (ad 258))] rfl ?_
            have nv := ixn (x := v2143) (by omega)
            have iv : v2143.toNatClampNeg = x3_222.toNatClampNeg + 1 := by omega
            have hL9 : L2142 296 = fun c => if c = 10 * x2_212.toNatClampNeg + x3_222.toNatClampNeg then v2141 else L_222 296 c := by
              funext c
              rw [hL2142, sJ_at, iv2136]
              by_cases e9 : c = 10 * x2_212.toNatClampNeg + x3_222.toNatClampNeg
              · rw [if_pos ⟨rfl, e9⟩, if_pos e9]
              · rw [if_neg (fun h => e9 h.2), if_neg e9]
            have hstep : FW (wv (L_202 296)) (wv (L2142 296)) (M 258 2).toNatClampNeg x1_202.toNatClampNeg (fun a b => a < x2_212.toNatClampNeg ∨ (a = x2_212.toNatClampNeg ∧ b < v2143.toNatClampNeg)) := by
              refine FW_step (x := x2_212.toNatClampNeg) (y := x3_222.toNatClampNeg) j222_2 (by omega) (by omega) (by omega) (fun a b ha hb => by show (a < x2_212.toNatClampNeg ∨ (a = x2_212.toNatClampNeg ∧ b < v2143.toNatClampNeg)) ↔ ((a < x2_212.toNatClampNeg ∨ (a = x2_212.toNatClampNeg ∧ b < x3_222.toNatClampNeg)) ∨ (a = x2_212.toNatClampNeg ∧ b = x3_222.toNatClampNeg)); omega) (fun a b ha hb hab => ?_) (fun t => ?_)
              · show (L2142 296 (10 * a + b)).toInt = (L_222 296 (10 * a + b)).toInt
                rw [hL9]
                show (if 10 * a + b = 10 * x2_212.toNatClampNeg + x3_222.toNatClampNeg then v2141 else L_222 296 (10 * a + b)).toInt = _
                rw [if_neg (idx_ne (by omega) (by omega) hab)]
              · have e9 : wv (L2142 296) x2_212.toNatClampNeg x3_222.toNatClampNeg = v2141.toInt := by show (L2142 296 (10 * x2_212.toNatClampNeg + x3_222.toNatClampNeg)).toInt = _; rw [hL9]; show (if _ then v2141 else _).toInt = _; rw [if_pos rfl]
                rw [e9]
                unfold wv
                first | exact fv1 (by omega) (by omega) t | exact fv2 (b := v2134.toInt) (by omega) (by omega) (by omega) (by omega) t | exact fv3 (b := v2134.toInt) (by omega) (by omega) (by omega) t
            exact ih_222 (v2143, M_222, L2142) ⟨by show 0 ≤ v2143.toInt; omega, by show v2143.toInt ≤ (M 258 2).toInt; omega, by show FW (wv (L_202 296)) (wv (L2142 296)) (M 258 2).toNatClampNeg x1_202.toNatClampNeg (fun u9 v9 => u9 < x2_212.toNatClampNeg ∨ (u9 = x2_212.toNatClampNeg ∧ v9 < v2143.toNatClampNeg)); exact hstep, hI, hF, hG⟩ (by show (11 - v2143.toInt).toNat < (11 - x3_222.toInt).toNat; omega)
          ·
            have f2144 := fne rfl rfl c2137
            refine g_lload C 0 dX11_layWays_298 rfl ?_
            refine g_aload_n C 4 dX11_layWays_300 rfl ?_
            refine g_get C (.ref (ad 296)) 52 in_X11_layWays_11 (List.mem_of_getElem? (i := 6) rfl) (by decide) (ce_model ad cs _ _) rfl (by decide) rfl rfl dX11_layWays_301 ?_
            refine g_bipush C 10 dX11_layWays_304 (by decide) ?_
            refine g_iload_n C 2 dX11_layWays_306 rfl ?_
            refine g_imul C dX11_layWays_307 ?_
            refine g_ni (fun v2145 ev2145 => ?_)
            try have fv2145 := fmul (by decide : (10 : Int32).toInt = 10) rfl ev2145 (by omega) (by omega)
            refine g_iload_n C 1 dX11_layWays_308 rfl ?_
            refine g_iadd C dX11_layWays_309 ?_
            refine g_ni (fun v2146 ev2146 => ?_)
            try have fv2146 := fadd rfl rfl ev2146 (by omega) (by omega)
            have nx2_212 := ixn (x := x2_212) (by omega)
            have nx3_222 := ixn (x := x3_222) (by omega)
            have nv2146 := ixn (x := v2146) (by omega)
            have iv2146 : v2146.toNatClampNeg = 10 * x2_212.toNatClampNeg + x3_222.toNatClampNeg := by omega
            refine g_lald C (by decide) (ce_m_way ad cs _ _) (fin' (n := 100) rfl (by omega) (by omega)) dX11_layWays_310 ?_
            refine g_nl (fun v2147 ev2147 => ?_)
            have gv2147 : v2147 = L_222 296 v2146.toNatClampNeg := ev2147.trans (congrFun p296 _)
            have gv2147 := cg1L (f := L_222 296) gv2147 iv2146
            have tv2147 := congrArg Int64.toInt gv2147
            refine g_lcmp C dX11_layWays_311 ?_
            refine g_ni (fun v2148 ev2148 => ?_)
            refine g_if_le C 320 dX11_layWays_312 (by decide) (fun c2149 => ?_) (fun c2149 => ?_)
            ·
              have f2150 := cle rfl rfl ev2148 c2149
              refine g_aload_n C 4 dX11_layWays_320 rfl ?_
              refine g_get C (.ref (ad 296)) 52 in_X11_layWays_11 (List.mem_of_getElem? (i := 6) rfl) (by decide) (ce_model ad cs _ _) rfl (by decide) rfl rfl dX11_layWays_321 ?_
              refine g_bipush C 10 dX11_layWays_324 (by decide) ?_
              refine g_iload_n C 2 dX11_layWays_326 rfl ?_
              refine g_imul C dX11_layWays_327 ?_
              refine g_ni (fun v2151 ev2151 => ?_)
              try have fv2151 := fmul (by decide : (10 : Int32).toInt = 10) rfl ev2151 (by omega) (by omega)
              refine g_iload_n C 1 dX11_layWays_328 rfl ?_
              refine g_iadd C dX11_layWays_329 ?_
              refine g_ni (fun v2152 ev2152 => ?_)
              try have fv2152 := fadd rfl rfl ev2152 (by omega) (by omega)
              have nx2_212 := ixn (x := x2_212) (by omega)
              have nx3_222 := ixn (x := x3_222) (by omega)
              have nv2152 := ixn (x := v2152) (by omega)
              have iv2152 : v2152.toNatClampNeg = 10 * x2_212.toNatClampNeg + x3_222.toNatClampNeg := by omega
              refine g_lald C (by decide) (ce_m_way ad cs _ _) (fin' (n := 100) rfl (by omega) (by omega)) dX11_layWays_330 ?_
              refine g_nl (fun v2153 ev2153 => ?_)
              have gv2153 : v2153 = L_222 296 v2152.toNatClampNeg := ev2153.trans (congrFun p296 _)
              have gv2153 := cg1L (f := L_222 296) gv2153 iv2152
              have tv2153 := congrArg Int64.toInt gv2153
              have nx2_212 := ixn (x := x2_212) (by omega)
              have nx3_222 := ixn (x := x3_222) (by omega)
              have nv2136 := ixn (x := v2136) (by omega)
              have iv2136 : v2136.toNatClampNeg = 10 * x2_212.toNatClampNeg + x3_222.toNatClampNeg := by omega
              refine g_last C (by decide) (ce_m_way ad cs _ _) (by rw [sJ_k]; rfl) (fin' (n := 100) rfl (by omega) (by omega)) dX11_layWays_331 ?_
              refine g_nmL (fun L2154 hL2154 => ?_)
              have hG : ∀ k i, k ≠ 295 ∧ k ≠ 296 → L2154 k i = L k i := fun k i hk => by (rw [hL2154, sJ_at, if_neg (by omega)]; try exact hG k i hk)
              have p295 : L2154 295 = L_222 295 := by rw [hL2154, sJ_n _ _ _ (by decide)]; try exact p295
              obtain ⟨v2155, ev2155⟩ : ∃ y : Int32, y = x3_222 + 1 := ⟨_, rfl⟩
              try have fv2155 := fadd rfl (by decide : (1 : Int32).toInt = 1) ev2155 (by omega) (by omega)
              refine g_iinc C 1 v2155 [(3, .int v2155), (4, .long v2134), (2, .int x2_212), (1, .int x1_202), (0, .ref (ad 258))] dX11_layWays_332 rfl (by rw [ev2155]; rfl) (by decide) rfl ?_
              refine g_goto C 222 dX11_layWays_335 (by decide) ?_
              refine g_lv [0, 2, 3, 4] [(3, .int v2155), (2, .int x2_212), (1, .int x1_202), (0, .ref (ad 258))] rfl ?_
              have nv := ixn (x := v2155) (by omega)
              have iv : v2155.toNatClampNeg = x3_222.toNatClampNeg + 1 := by omega
              have hL9 : L2154 296 = fun c => if c = 10 * x2_212.toNatClampNeg + x3_222.toNatClampNeg then v2153 else L_222 296 c := by
                funext c
                rw [hL2154, sJ_at, iv2136]
                by_cases e9 : c = 10 * x2_212.toNatClampNeg + x3_222.toNatClampNeg
                · rw [if_pos ⟨rfl, e9⟩, if_pos e9]
                · rw [if_neg (fun h => e9 h.2), if_neg e9]
              have hstep : FW (wv (L_202 296)) (wv (L2154 296)) (M 258 2).toNatClampNeg x1_202.toNatClampNeg (fun a b => a < x2_212.toNatClampNeg ∨ (a = x2_212.toNatClampNeg ∧ b < v2155.toNatClampNeg)) := by
                refine FW_step (x := x2_212.toNatClampNeg) (y := x3_222.toNatClampNeg) j222_2 (by omega) (by omega) (by omega) (fun a b ha hb => by show (a < x2_212.toNatClampNeg ∨ (a = x2_212.toNatClampNeg ∧ b < v2155.toNatClampNeg)) ↔ ((a < x2_212.toNatClampNeg ∨ (a = x2_212.toNatClampNeg ∧ b < x3_222.toNatClampNeg)) ∨ (a = x2_212.toNatClampNeg ∧ b = x3_222.toNatClampNeg)); omega) (fun a b ha hb hab => ?_) (fun t => ?_)
                · show (L2154 296 (10 * a + b)).toInt = (L_222 296 (10 * a + b)).toInt
                  rw [hL9]
                  show (if 10 * a + b = 10 * x2_212.toNatClampNeg + x3_222.toNatClampNeg then v2153 else L_222 296 (10 * a + b)).toInt = _
                  rw [if_neg (idx_ne (by omega) (by omega) hab)]
                · have e9 : wv (L2154 296) x2_212.toNatClampNeg x3_222.toNatClampNeg = v2153.toInt := by show (L2154 296 (10 * x2_212.toNatClampNeg + x3_222.toNatClampNeg)).toInt = _; rw [hL9]; show (if _ then v2153 else _).toInt = _; rw [if_pos rfl]
                  rw [e9]
                  unfold wv
                  first | exact fv1 (by omega) (by omega) t | exact fv2 (b := v2134.toInt) (by omega) (by omega) (by omega) (by omega) t | exact fv3 (b := v2134.toInt) (by omega) (by omega) (by omega) t
              exact ih_222 (v2155, M_222, L2154) ⟨by show 0 ≤ v2155.toInt; omega, by show v2155.toInt ≤ (M 258 2).toInt; omega, by show FW (wv (L_202 296)) (wv (L2154 296)) (M 258 2).toNatClampNeg x1_202.toNatClampNeg (fun u9 v9 => u9 < x2_212.toNatClampNeg ∨ (u9 = x2_212.toNatClampNeg ∧ v9 < v2155.toNatClampNeg)); exact hstep, hI, hF, hG⟩ (by show (11 - v2155.toInt).toNat < (11 - x3_222.toInt).toNat; omega)
            ·
              have f2156 := cnle rfl rfl ev2148 c2149
              refine g_lload C 0 dX11_layWays_315 rfl ?_
              refine g_goto C 331 dX11_layWays_317 (by decide) ?_
              have nx2_212 := ixn (x := x2_212) (by omega)
              have nx3_222 := ixn (x := x3_222) (by omega)
              have nv2136 := ixn (x := v2136) (by omega)
              have iv2136 : v2136.toNatClampNeg = 10 * x2_212.toNatClampNeg + x3_222.toNatClampNeg := by omega
              refine g_last C (by decide) (ce_m_way ad cs _ _) (by rw [sJ_k]; rfl) (fin' (n := 100) rfl (by omega) (by omega)) dX11_layWays_331 ?_
              refine g_nmL (fun L2157 hL2157 => ?_)
              have hG : ∀ k i, k ≠ 295 ∧ k ≠ 296 → L2157 k i = L k i := fun k i hk => by (rw [hL2157, sJ_at, if_neg (by omega)]; try exact hG k i hk)
              have p295 : L2157 295 = L_222 295 := by rw [hL2157, sJ_n _ _ _ (by decide)]; try exact p295
              obtain ⟨v2158, ev2158⟩ : ∃ y : Int32, y = x3_222 + 1 := ⟨_, rfl⟩
              try have fv2158 := fadd rfl (by decide : (1 : Int32).toInt = 1) ev2158 (by omega) (by omega)
              refine g_iinc C 1 v2158 [(3, .int v2158), (4, .long v2134), (2, .int x2_212), (1, .int x1_202), (0, .ref (ad 258))] dX11_layWays_332 rfl (by rw [ev2158]; rfl) (by decide) rfl ?_
              refine g_goto C 222 dX11_layWays_335 (by decide) ?_
              refine g_lv [0, 2, 3, 4] [(3, .int v2158), (2, .int x2_212), (1, .int x1_202), (0, .ref (ad 258))] rfl ?_
              have nv := ixn (x := v2158) (by omega)
              have iv : v2158.toNatClampNeg = x3_222.toNatClampNeg + 1 := by omega
              have hL9 : L2157 296 = fun c => if c = 10 * x2_212.toNatClampNeg + x3_222.toNatClampNeg then v2134 else L_222 296 c := by
                funext c
                rw [hL2157, sJ_at, iv2136]
                by_cases e9 : c = 10 * x2_212.toNatClampNeg + x3_222.toNatClampNeg
                · rw [if_pos ⟨rfl, e9⟩, if_pos e9]
                · rw [if_neg (fun h => e9 h.2), if_neg e9]
              have hstep : FW (wv (L_202 296)) (wv (L2157 296)) (M 258 2).toNatClampNeg x1_202.toNatClampNeg (fun a b => a < x2_212.toNatClampNeg ∨ (a = x2_212.toNatClampNeg ∧ b < v2158.toNatClampNeg)) := by
                refine FW_step (x := x2_212.toNatClampNeg) (y := x3_222.toNatClampNeg) j222_2 (by omega) (by omega) (by omega) (fun a b ha hb => by show (a < x2_212.toNatClampNeg ∨ (a = x2_212.toNatClampNeg ∧ b < v2158.toNatClampNeg)) ↔ ((a < x2_212.toNatClampNeg ∨ (a = x2_212.toNatClampNeg ∧ b < x3_222.toNatClampNeg)) ∨ (a = x2_212.toNatClampNeg ∧ b = x3_222.toNatClampNeg)); omega) (fun a b ha hb hab => ?_) (fun t => ?_)
                · show (L2157 296 (10 * a + b)).toInt = (L_222 296 (10 * a + b)).toInt
                  rw [hL9]
                  show (if 10 * a + b = 10 * x2_212.toNatClampNeg + x3_222.toNatClampNeg then v2134 else L_222 296 (10 * a + b)).toInt = _
                  rw [if_neg (idx_ne (by omega) (by omega) hab)]
                · have e9 : wv (L2157 296) x2_212.toNatClampNeg x3_222.toNatClampNeg = v2134.toInt := by show (L2157 296 (10 * x2_212.toNatClampNeg + x3_222.toNatClampNeg)).toInt = _; rw [hL9]; show (if _ then v2134 else _).toInt = _; rw [if_pos rfl]
                  rw [e9]
                  unfold wv
                  first | exact fv1 (by omega) (by omega) t | exact fv2 (b := v2134.toInt) (by omega) (by omega) (by omega) (by omega) t | exact fv3 (b := v2134.toInt) (by omega) (by omega) (by omega) t
              exact ih_222 (v2158, M_222, L2157) ⟨by show 0 ≤ v2158.toInt; omega, by show v2158.toInt ≤ (M 258 2).toInt; omega, by show FW (wv (L_202 296)) (wv (L2157 296)) (M 258 2).toNatClampNeg x1_202.toNatClampNeg (fun u9 v9 => u9 < x2_212.toNatClampNeg ∨ (u9 = x2_212.toNatClampNeg ∧ v9 < v2158.toNatClampNeg)); exact hstep, hI, hF, hG⟩ (by show (11 - v2158.toInt).toNat < (11 - x3_222.toInt).toNat; omega)
set_option maxHeartbeats 4000000 in
set_option maxRecDepth 100000 in
theorem k_X11_layWays_116 (l : Launch) (D : va_G) (ad : Nat → Nat) (cs : Nat → ClassId) (M : MI) (L : ML)  (hI0 : IR M) (hX : hasX (vR M) (M 258 27)) (hB8 : ∀ i : Nat, (vR M 8 i).toInt = -9 ∨ (0 ≤ (vR M 8 i).toInt ∧ (vR M 8 i).toInt ≤ 59))  {p : Program} {e : Env} {s : State} {m : MethodId} {below : List Frame} {meth : Method} {c : Code} (C : Cx p s m #[.ref (ad 258)] meth c cX11_layWays 6 wsX11_layWays RX11 D ad cs) (hr : meth.sig.returnType = none) (Mc : MI) (Lc : ML) (hI : IR Mc) (hF : ∀ k i, True → Mc k i = M k i) (hG : ∀ k i, k ≠ 295 ∧ k ≠ 296 → Lc k i = L k i) (hbe : ∀ a b, a < (M 258 2).toNatClampNeg → b < (M 258 2).toNatClampNeg → Lc 295 (10 * a + b) = beV (vR M) (fun i => vR M 8 (40 * (M 258 27).toNatClampNeg + i)) (vR M 7 (M 258 27).toNatClampNeg).toNatClampNeg a b) : G p l e ({ frames := 2, cells := 0, slots := 0, locals := 48 }) s m #[.ref (ad 258)] below meth c 0 0 (MQ below (Qv D ad cs (fun M1 L1 => (CL (M 258 2).toNatClampNeg (M 258 2).toNatClampNeg (wv (L1 296)) ∧ ∀ a, a < (M 258 2).toNatClampNeg → ∀ b, b < (M 258 2).toNatClampNeg → wv (L1 296) a b = wS (vR M) (fun i => vR M 8 (40 * (M 258 27).toNatClampNeg + i)) (vR M 7 (M 258 27).toNatClampNeg).toNatClampNeg (M 258 2).toNatClampNeg a b) ∧ IR M1 ∧ (∀ k i, True → M1 k i = M k i) ∧ ∀ k i, k ≠ 295 ∧ k ≠ 296 → L1 k i = L k i)) #[.ref (ad 258)] s 0 0 (Ar ad)) D ad cs 6 Mc Lc 116 [(0, .ref (ad 258))] [] := by
  have hI0 := hI0
  obtain ⟨ca, cb⟩ := (show rg 0 10 (M 258 2) from hI0 258 2)
  have n02 := ixn ca
  have hX1 := hX.1
  have hX2 := hX.2
  obtain ⟨sza, szb⟩ := (show rg 0 40 (vR M 7 (M 258 27).toNatClampNeg) from hI0 266 _)
  have nsz := ixn sza
  have w2_ : (vR M 0 2).toInt = (M 258 9).toInt := rfl
  obtain ⟨y2a, y2b⟩ := (show rg 0 8 (M 258 9) from hI0 258 9)
  have nX := ixn hX1
  have p295 : Lc 295 = Lc 295 := rfl
  have p296 : Lc 296 = Lc 296 := rfl
  refine g_iconst C 0 dX11_layWays_116 (by decide) ?_
  refine g_istore_n C [(1, .int 0), (0, .ref (ad 258))] dX11_layWays_117 (by decide) rfl ?_
  have zy1048 : (0 : Int32).toInt = 0 := by decide
  refine g_loop (α := Int32 × MI × ML) (fun a => (11 - a.1.toInt).toNat) (fun a => (0 ≤ a.1.toInt) ∧ (a.1.toInt ≤ (M 258 2).toInt) ∧ (∀ u9 v9, v9 < 10 → (u9 < a.1.toNatClampNeg ∧ v9 < (M 258 2).toNatClampNeg) → wv (a.2.2 296) u9 v9 = wS (vR M) (fun i => vR M 8 (40 * (M 258 27).toNatClampNeg + i)) (vR M 7 (M 258 27).toNatClampNeg).toNatClampNeg 0 u9 v9) ∧ (∀ u9 v9, u9 < (M 258 2).toNatClampNeg → v9 < (M 258 2).toNatClampNeg → a.2.2 295 (10 * u9 + v9) = beV (vR M) (fun i => vR M 8 (40 * (M 258 27).toNatClampNeg + i)) (vR M 7 (M 258 27).toNatClampNeg).toNatClampNeg u9 v9) ∧ IR a.2.1 ∧ (∀ k i, True → a.2.1 k i = M k i) ∧ (∀ k i, k ≠ 295 ∧ k ≠ 296 → a.2.2 k i = L k i)) (fun a => a.2.1) (fun a => a.2.2) (fun a => [(1, .int a.1), (0, .ref (ad 258))]) ((0 : Int32), Mc, Lc) ⟨by show 0 ≤ (0 : Int32).toInt; omega, by show (0 : Int32).toInt ≤ (M 258 2).toInt; omega, by show ∀ u9 v9, v9 < 10 → (u9 < (0 : Int32).toNatClampNeg ∧ v9 < (M 258 2).toNatClampNeg) → wv (Lc 296) u9 v9 = wS (vR M) (fun i => vR M 8 (40 * (M 258 27).toNatClampNeg + i)) (vR M 7 (M 258 27).toNatClampNeg).toNatClampNeg 0 u9 v9; intro a b _ h9; exact absurd h9.1 (by show ¬ a < 0; omega), by show ∀ u9 v9, u9 < (M 258 2).toNatClampNeg → v9 < (M 258 2).toNatClampNeg → Lc 295 (10 * u9 + v9) = beV (vR M) (fun i => vR M 8 (40 * (M 258 27).toNatClampNeg + i)) (vR M 7 (M 258 27).toNatClampNeg).toNatClampNeg u9 v9; exact hbe, hI, hF, hG⟩ rfl rfl rfl ?_
  rintro ⟨x1_118, M_118, L_118⟩ ⟨j118_0, j118_1, j118_2, j118_3, hI, hF, hG⟩ ih_118
  dsimp only at j118_0 j118_1 j118_2 j118_3 hI hF hG ih_118 ⊢
  have p295 : L_118 295 = L_118 295 := rfl
  have p296 : L_118 296 = L_118 296 := rfl
  have n_x1_118 := ixn (x := x1_118) (by omega)
  refine g_iload_n C 0 dX11_layWays_118 rfl ?_
  refine g_aload_n C 1 dX11_layWays_119 rfl ?_
  refine g_get C (.int (M_118 258 2)) 2 in_X11_layWays_11 (List.mem_of_getElem? (i := 1) rfl) (by decide) (ce_model ad cs _ _) rfl (by decide) rfl rfl dX11_layWays_120 ?_
  refine g_ni (fun v1049 ev1049 => ?_)
  have gv1049 : v1049 = M 258 2 := ev1049.trans (hF 258 2 trivial)
  have tv1049 := congrArg Int32.toInt gv1049
  obtain ⟨bv1049, dv1049⟩ := (show rg 0 10 v1049 from (by rw [ev1049]; exact hI 258 2))
  refine g_icmp_ge C 200 dX11_layWays_123 (by decide) (fun c1050 => ?_) (fun c1050 => ?_)
  ·
    have f1051 := fle rfl rfl c1050
    refine g_lv [1] [(0, .ref (ad 258))] rfl ?_
    exact k_X11_layWays_200 l D ad cs M L  hI0 hX hB8  C hr _ _ hI hF hG (fun a ha b hb => j118_2 a b (by omega) (by omega))
  ·
    have f1052 := fnle rfl rfl c1050
    refine g_iconst C 0 dX11_layWays_126 (by decide) ?_
    refine g_istore_n C [(2, .int 0), (1, .int x1_118), (0, .ref (ad 258))] dX11_layWays_127 (by decide) rfl ?_
    have zy1053 : (0 : Int32).toInt = 0 := by decide
    refine g_loop (α := Int32 × MI × ML) (fun a => (11 - a.1.toInt).toNat) (fun a => (0 ≤ a.1.toInt) ∧ (a.1.toInt ≤ (M 258 2).toInt) ∧ (∀ u9 v9, v9 < 10 → (u9 < x1_118.toNatClampNeg ∧ v9 < (M 258 2).toNatClampNeg ∨ (u9 = x1_118.toNatClampNeg ∧ v9 < a.1.toNatClampNeg)) → wv (a.2.2 296) u9 v9 = wS (vR M) (fun i => vR M 8 (40 * (M 258 27).toNatClampNeg + i)) (vR M 7 (M 258 27).toNatClampNeg).toNatClampNeg 0 u9 v9) ∧ (∀ u9 v9, u9 < (M 258 2).toNatClampNeg → v9 < (M 258 2).toNatClampNeg → a.2.2 295 (10 * u9 + v9) = beV (vR M) (fun i => vR M 8 (40 * (M 258 27).toNatClampNeg + i)) (vR M 7 (M 258 27).toNatClampNeg).toNatClampNeg u9 v9) ∧ IR a.2.1 ∧ (∀ k i, True → a.2.1 k i = M k i) ∧ (∀ k i, k ≠ 295 ∧ k ≠ 296 → a.2.2 k i = L k i)) (fun a => a.2.1) (fun a => a.2.2) (fun a => [(2, .int a.1), (1, .int x1_118), (0, .ref (ad 258))]) ((0 : Int32), M_118, L_118) ⟨by show 0 ≤ (0 : Int32).toInt; omega, by show (0 : Int32).toInt ≤ (M 258 2).toInt; omega, by show ∀ u9 v9, v9 < 10 → (u9 < x1_118.toNatClampNeg ∧ v9 < (M 258 2).toNatClampNeg ∨ (u9 = x1_118.toNatClampNeg ∧ v9 < (0 : Int32).toNatClampNeg)) → wv (L_118 296) u9 v9 = wS (vR M) (fun i => vR M 8 (40 * (M 258 27).toNatClampNeg + i)) (vR M 7 (M 258 27).toNatClampNeg).toNatClampNeg 0 u9 v9; intro a b hb h9; exact j118_2 a b hb (h9.elim id (fun h => absurd h.2 (by show ¬ b < 0; omega))), by show ∀ u9 v9, u9 < (M 258 2).toNatClampNeg → v9 < (M 258 2).toNatClampNeg → L_118 295 (10 * u9 + v9) = beV (vR M) (fun i => vR M 8 (40 * (M 258 27).toNatClampNeg + i)) (vR M 7 (M 258 27).toNatClampNeg).toNatClampNeg u9 v9; exact j118_3, hI, hF, hG⟩ rfl rfl rfl ?_
    rintro ⟨x2_128, M_128, L_128⟩ ⟨j128_0, j128_1, j128_2, j128_3, hI, hF, hG⟩ ih_128
    dsimp only at j128_0 j128_1 j128_2 j128_3 hI hF hG ih_128 ⊢
    have p295 : L_128 295 = L_128 295 := rfl
    have p296 : L_128 296 = L_128 296 := rfl
    have n_x2_128 := ixn (x := x2_128) (by omega)
    have hbe := j128_3
    refine g_iload_n C 0 dX11_layWays_128 rfl ?_
    refine g_aload_n C 2 dX11_layWays_129 rfl ?_
    refine g_get C (.int (M_128 258 2)) 2 in_X11_layWays_11 (List.mem_of_getElem? (i := 1) rfl) (by decide) (ce_model ad cs _ _) rfl (by decide) rfl rfl dX11_layWays_130 ?_
    refine g_ni (fun v1054 ev1054 => ?_)
    have gv1054 : v1054 = M 258 2 := ev1054.trans (hF 258 2 trivial)
    have tv1054 := congrArg Int32.toInt gv1054
    obtain ⟨bv1054, dv1054⟩ := (show rg 0 10 v1054 from (by rw [ev1054]; exact hI 258 2))
    refine g_icmp_ge C 194 dX11_layWays_133 (by decide) (fun c1055 => ?_) (fun c1055 => ?_)
    ·
      have f1056 := fle rfl rfl c1055
      obtain ⟨v1057, ev1057⟩ : ∃ y : Int32, y = x1_118 + 1 := ⟨_, rfl⟩
      try have fv1057 := fadd rfl (by decide : (1 : Int32).toInt = 1) ev1057 (by omega) (by omega)
      refine g_iinc C 1 v1057 [(1, .int v1057), (2, .int x2_128), (0, .ref (ad 258))] dX11_layWays_194 rfl (by rw [ev1057]; rfl) (by decide) rfl ?_
      refine g_goto C 118 dX11_layWays_197 (by decide) ?_
      refine g_lv [0, 2] [(1, .int v1057), (0, .ref (ad 258))] rfl ?_
      have nv := ixn (x := v1057) (by omega)
      have iv : v1057.toNatClampNeg = x1_118.toNatClampNeg + 1 := by omega
      exact ih_118 (v1057, M_128, L_128) ⟨by show 0 ≤ v1057.toInt; omega, by show v1057.toInt ≤ (M 258 2).toInt; omega, by show ∀ u9 v9, v9 < 10 → (u9 < v1057.toNatClampNeg ∧ v9 < (M 258 2).toNatClampNeg) → wv (L_128 296) u9 v9 = wS (vR M) (fun i => vR M 8 (40 * (M 258 27).toNatClampNeg + i)) (vR M 7 (M 258 27).toNatClampNeg).toNatClampNeg 0 u9 v9; rw [iv]; intro a b hb h9; exact j128_2 a b hb (by omega), by show ∀ u9 v9, u9 < (M 258 2).toNatClampNeg → v9 < (M 258 2).toNatClampNeg → L_128 295 (10 * u9 + v9) = beV (vR M) (fun i => vR M 8 (40 * (M 258 27).toNatClampNeg + i)) (vR M 7 (M 258 27).toNatClampNeg).toNatClampNeg u9 v9; exact j128_3, hI, hF, hG⟩ (by show (11 - v1057.toInt).toNat < (11 - x1_118.toInt).toNat; omega)
    ·
      have f1058 := fnle rfl rfl c1055
      refine g_aload_n C 2 dX11_layWays_136 rfl ?_
      refine g_get C (.ref (ad 296)) 52 in_X11_layWays_11 (List.mem_of_getElem? (i := 6) rfl) (by decide) (ce_model ad cs _ _) rfl (by decide) rfl rfl dX11_layWays_137 ?_
      refine g_bipush C 10 dX11_layWays_140 (by decide) ?_
      refine g_iload_n C 1 dX11_layWays_142 rfl ?_
      refine g_imul C dX11_layWays_143 ?_
      refine g_ni (fun v1059 ev1059 => ?_)
      try have fv1059 := fmul (by decide : (10 : Int32).toInt = 10) rfl ev1059 (by omega) (by omega)
      refine g_iload_n C 0 dX11_layWays_144 rfl ?_
      refine g_iadd C dX11_layWays_145 ?_
      refine g_ni (fun v1060 ev1060 => ?_)
      try have fv1060 := fadd rfl rfl ev1060 (by omega) (by omega)
      refine g_aload_n C 2 dX11_layWays_146 rfl ?_
      refine g_get C (.ref (ad 295)) 51 in_X11_layWays_11 (List.mem_of_getElem? (i := 2) rfl) (by decide) (ce_model ad cs _ _) rfl (by decide) rfl rfl dX11_layWays_147 ?_
      refine g_bipush C 10 dX11_layWays_150 (by decide) ?_
      refine g_iload_n C 1 dX11_layWays_152 rfl ?_
      refine g_imul C dX11_layWays_153 ?_
      refine g_ni (fun v1061 ev1061 => ?_)
      try have fv1061 := fmul (by decide : (10 : Int32).toInt = 10) rfl ev1061 (by omega) (by omega)
      refine g_iload_n C 0 dX11_layWays_154 rfl ?_
      refine g_iadd C dX11_layWays_155 ?_
      refine g_ni (fun v1062 ev1062 => ?_)
      try have fv1062 := fadd rfl rfl ev1062 (by omega) (by omega)
      have nx1_118 := ixn (x := x1_118) (by omega)
      have nx2_128 := ixn (x := x2_128) (by omega)
      have nv1062 := ixn (x := v1062) (by omega)
      have iv1062 : v1062.toNatClampNeg = 10 * x1_118.toNatClampNeg + x2_128.toNatClampNeg := by omega
      refine g_lald C (by decide) (ce_m_beats ad cs _ _) (fin' (n := 100) rfl (by omega) (by omega)) dX11_layWays_156 ?_
      refine g_nl (fun v1063 ev1063 => ?_)
      have gv1063 : v1063 = L_128 295 v1062.toNatClampNeg := ev1063.trans (congrFun p295 _)
      have gv1063 := cg1L (f := L_128 295) gv1063 iv1062
      have tv1063 := congrArg Int64.toInt gv1063
      refine g_aload_n C 2 dX11_layWays_157 rfl ?_
      refine g_get C (.ref (ad 295)) 51 in_X11_layWays_11 (List.mem_of_getElem? (i := 2) rfl) (by decide) (ce_model ad cs _ _) rfl (by decide) rfl rfl dX11_layWays_158 ?_
      refine g_bipush C 10 dX11_layWays_161 (by decide) ?_
      refine g_iload_n C 0 dX11_layWays_163 rfl ?_
      refine g_imul C dX11_layWays_164 ?_
      refine g_ni (fun v1064 ev1064 => ?_)
      try have fv1064 := fmul (by decide : (10 : Int32).toInt = 10) rfl ev1064 (by omega) (by omega)
      refine g_iload_n C 1 dX11_layWays_165 rfl ?_
      refine g_iadd C dX11_layWays_166 ?_
      refine g_ni (fun v1065 ev1065 => ?_)
      try have fv1065 := fadd rfl rfl ev1065 (by omega) (by omega)
      have nx2_128 := ixn (x := x2_128) (by omega)
      have nx1_118 := ixn (x := x1_118) (by omega)
      have nv1065 := ixn (x := v1065) (by omega)
      have iv1065 : v1065.toNatClampNeg = 10 * x2_128.toNatClampNeg + x1_118.toNatClampNeg := by omega
      refine g_lald C (by decide) (ce_m_beats ad cs _ _) (fin' (n := 100) rfl (by omega) (by omega)) dX11_layWays_167 ?_
      refine g_nl (fun v1066 ev1066 => ?_)
      have gv1066 : v1066 = L_128 295 v1065.toNatClampNeg := ev1066.trans (congrFun p295 _)
      have gv1066 := cg1L (f := L_128 295) gv1066 iv1065
      have tv1066 := congrArg Int64.toInt gv1066
      refine g_lcmp C dX11_layWays_168 ?_
      refine g_ni (fun v1067 ev1067 => ?_)
      refine g_if_le C 186 dX11_layWays_169 (by decide) (fun c1068 => ?_) (fun c1068 => ?_)
      ·
        have f1069 := cle rfl rfl ev1067 c1068
        refine g_lconst C 0 dX11_layWays_186 (by decide) ?_
        have nx1_118 := ixn (x := x1_118) (by omega)
        have nx2_128 := ixn (x := x2_128) (by omega)
        have nv1060 := ixn (x := v1060) (by omega)
        have iv1060 : v1060.toNatClampNeg = 10 * x1_118.toNatClampNeg + x2_128.toNatClampNeg := by omega
        refine g_last C (by decide) (ce_m_way ad cs _ _) (by rw [sJ_k]; rfl) (fin' (n := 100) rfl (by omega) (by omega)) dX11_layWays_187 ?_
        refine g_nmL (fun L1070 hL1070 => ?_)
        have hG : ∀ k i, k ≠ 295 ∧ k ≠ 296 → L1070 k i = L k i := fun k i hk => by (rw [hL1070, sJ_at, if_neg (by omega)]; try exact hG k i hk)
        have p295 : L1070 295 = L_128 295 := by rw [hL1070, sJ_n _ _ _ (by decide)]; try exact p295
        obtain ⟨v1071, ev1071⟩ : ∃ y : Int32, y = x2_128 + 1 := ⟨_, rfl⟩
        try have fv1071 := fadd rfl (by decide : (1 : Int32).toInt = 1) ev1071 (by omega) (by omega)
        refine g_iinc C 0 v1071 [(2, .int v1071), (1, .int x1_118), (0, .ref (ad 258))] dX11_layWays_188 rfl (by rw [ev1071]; rfl) (by decide) rfl ?_
        refine g_goto C 128 dX11_layWays_191 (by decide) ?_
        have nv := ixn (x := v1071) (by omega)
        have iv : v1071.toNatClampNeg = x2_128.toNatClampNeg + 1 := by omega
        have hall : ∀ a b, b < 10 → (a < x1_118.toNatClampNeg ∧ b < (M 258 2).toNatClampNeg ∨ (a = x1_118.toNatClampNeg ∧ b < x2_128.toNatClampNeg + 1)) → wv (L1070 296) a b = wS (vR M) (fun i => vR M 8 (40 * (M 258 27).toNatClampNeg + i)) (vR M 7 (M 258 27).toNatClampNeg).toNatClampNeg 0 a b := by
          intro a b hb hab
          show (L1070 296 (10 * a + b)).toInt = _
          rw [hL1070, sJ_at, iv1060]
          by_cases e9 : a = x1_118.toNatClampNeg ∧ b = x2_128.toNatClampNeg
          · rw [if_pos ⟨rfl, by rw [e9.1, e9.2]⟩, e9.1, e9.2]
            show _ = (if (beV (vR M) (fun i => vR M 8 (40 * (M 258 27).toNatClampNeg + i)) (vR M 7 (M 258 27).toNatClampNeg).toNatClampNeg x2_128.toNatClampNeg x1_118.toNatClampNeg).toInt < (beV (vR M) (fun i => vR M 8 (40 * (M 258 27).toNatClampNeg + i)) (vR M 7 (M 258 27).toNatClampNeg).toNatClampNeg x1_118.toNatClampNeg x2_128.toNatClampNeg).toInt then (beV (vR M) (fun i => vR M 8 (40 * (M 258 27).toNatClampNeg + i)) (vR M 7 (M 258 27).toNatClampNeg).toNatClampNeg x1_118.toNatClampNeg x2_128.toNatClampNeg).toInt else 0)
            have b1 := congrArg Int64.toInt (hbe x1_118.toNatClampNeg x2_128.toNatClampNeg (by omega) (by omega))
            have b2 := congrArg Int64.toInt (hbe x2_128.toNatClampNeg x1_118.toNatClampNeg (by omega) (by omega))
            have z0 : (0 : Int64).toInt = 0 := by decide
            first | (rw [if_pos (by omega)]; omega) | (rw [if_neg (by omega)]; omega)
          · rw [if_neg (by omega)]; exact j128_2 a b hb (by omega)
        exact ih_128 (v1071, M_128, L1070) ⟨by show 0 ≤ v1071.toInt; omega, by show v1071.toInt ≤ (M 258 2).toInt; omega, by show ∀ u9 v9, v9 < 10 → (u9 < x1_118.toNatClampNeg ∧ v9 < (M 258 2).toNatClampNeg ∨ (u9 = x1_118.toNatClampNeg ∧ v9 < v1071.toNatClampNeg)) → wv (L1070 296) u9 v9 = wS (vR M) (fun i => vR M 8 (40 * (M 258 27).toNatClampNeg + i)) (vR M 7 (M 258 27).toNatClampNeg).toNatClampNeg 0 u9 v9; rw [iv]; intro a b hb h9; exact hall a b hb (by omega), by show ∀ u9 v9, u9 < (M 258 2).toNatClampNeg → v9 < (M 258 2).toNatClampNeg → L1070 295 (10 * u9 + v9) = beV (vR M) (fun i => vR M 8 (40 * (M 258 27).toNatClampNeg + i)) (vR M 7 (M 258 27).toNatClampNeg).toNatClampNeg u9 v9; rw [p295]; exact j128_3, hI, hF, hG⟩ (by show (11 - v1071.toInt).toNat < (11 - x2_128.toInt).toNat; omega)
      ·
        have f1072 := cnle rfl rfl ev1067 c1068
        refine g_aload_n C 2 dX11_layWays_172 rfl ?_
        refine g_get C (.ref (ad 295)) 51 in_X11_layWays_11 (List.mem_of_getElem? (i := 2) rfl) (by decide) (ce_model ad cs _ _) rfl (by decide) rfl rfl dX11_layWays_173 ?_
        refine g_bipush C 10 dX11_layWays_176 (by decide) ?_
        refine g_iload_n C 1 dX11_layWays_178 rfl ?_
        refine g_imul C dX11_layWays_179 ?_
        refine g_ni (fun v1073 ev1073 => ?_)
        try have fv1073 := fmul (by decide : (10 : Int32).toInt = 10) rfl ev1073 (by omega) (by omega)
        refine g_iload_n C 0 dX11_layWays_180 rfl ?_
        refine g_iadd C dX11_layWays_181 ?_
        refine g_ni (fun v1074 ev1074 => ?_)
        try have fv1074 := fadd rfl rfl ev1074 (by omega) (by omega)
        have nx1_118 := ixn (x := x1_118) (by omega)
        have nx2_128 := ixn (x := x2_128) (by omega)
        have nv1074 := ixn (x := v1074) (by omega)
        have iv1074 : v1074.toNatClampNeg = 10 * x1_118.toNatClampNeg + x2_128.toNatClampNeg := by omega
        refine g_lald C (by decide) (ce_m_beats ad cs _ _) (fin' (n := 100) rfl (by omega) (by omega)) dX11_layWays_182 ?_
        refine g_nl (fun v1075 ev1075 => ?_)
        have gv1075 : v1075 = L_128 295 v1074.toNatClampNeg := ev1075.trans (congrFun p295 _)
        have gv1075 := cg1L (f := L_128 295) gv1075 iv1074
        have tv1075 := congrArg Int64.toInt gv1075
        refine g_goto C 187 dX11_layWays_183 (by decide) ?_
        have nx1_118 := ixn (x := x1_118) (by omega)
        have nx2_128 := ixn (x := x2_128) (by omega)
        have nv1060 := ixn (x := v1060) (by omega)
        have iv1060 : v1060.toNatClampNeg = 10 * x1_118.toNatClampNeg + x2_128.toNatClampNeg := by omega
        refine g_last C (by decide) (ce_m_way ad cs _ _) (by rw [sJ_k]; rfl) (fin' (n := 100) rfl (by omega) (by omega)) dX11_layWays_187 ?_
        refine g_nmL (fun L1076 hL1076 => ?_)
        have hG : ∀ k i, k ≠ 295 ∧ k ≠ 296 → L1076 k i = L k i := fun k i hk => by (rw [hL1076, sJ_at, if_neg (by omega)]; try exact hG k i hk)
        have p295 : L1076 295 = L_128 295 := by rw [hL1076, sJ_n _ _ _ (by decide)]; try exact p295
        obtain ⟨v1077, ev1077⟩ : ∃ y : Int32, y = x2_128 + 1 := ⟨_, rfl⟩
        try have fv1077 := fadd rfl (by decide : (1 : Int32).toInt = 1) ev1077 (by omega) (by omega)
        refine g_iinc C 0 v1077 [(2, .int v1077), (1, .int x1_118), (0, .ref (ad 258))] dX11_layWays_188 rfl (by rw [ev1077]; rfl) (by decide) rfl ?_
        refine g_goto C 128 dX11_layWays_191 (by decide) ?_
        have nv := ixn (x := v1077) (by omega)
        have iv : v1077.toNatClampNeg = x2_128.toNatClampNeg + 1 := by omega
        have hall : ∀ a b, b < 10 → (a < x1_118.toNatClampNeg ∧ b < (M 258 2).toNatClampNeg ∨ (a = x1_118.toNatClampNeg ∧ b < x2_128.toNatClampNeg + 1)) → wv (L1076 296) a b = wS (vR M) (fun i => vR M 8 (40 * (M 258 27).toNatClampNeg + i)) (vR M 7 (M 258 27).toNatClampNeg).toNatClampNeg 0 a b := by
          intro a b hb hab
          show (L1076 296 (10 * a + b)).toInt = _
          rw [hL1076, sJ_at, iv1060]
          by_cases e9 : a = x1_118.toNatClampNeg ∧ b = x2_128.toNatClampNeg
          · rw [if_pos ⟨rfl, by rw [e9.1, e9.2]⟩, e9.1, e9.2]
            show _ = (if (beV (vR M) (fun i => vR M 8 (40 * (M 258 27).toNatClampNeg + i)) (vR M 7 (M 258 27).toNatClampNeg).toNatClampNeg x2_128.toNatClampNeg x1_118.toNatClampNeg).toInt < (beV (vR M) (fun i => vR M 8 (40 * (M 258 27).toNatClampNeg + i)) (vR M 7 (M 258 27).toNatClampNeg).toNatClampNeg x1_118.toNatClampNeg x2_128.toNatClampNeg).toInt then (beV (vR M) (fun i => vR M 8 (40 * (M 258 27).toNatClampNeg + i)) (vR M 7 (M 258 27).toNatClampNeg).toNatClampNeg x1_118.toNatClampNeg x2_128.toNatClampNeg).toInt else 0)
            have b1 := congrArg Int64.toInt (hbe x1_118.toNatClampNeg x2_128.toNatClampNeg (by omega) (by omega))
            have b2 := congrArg Int64.toInt (hbe x2_128.toNatClampNeg x1_118.toNatClampNeg (by omega) (by omega))
            have z0 : (0 : Int64).toInt = 0 := by decide
            first | (rw [if_pos (by omega)]; omega) | (rw [if_neg (by omega)]; omega)
          · rw [if_neg (by omega)]; exact j128_2 a b hb (by omega)
        exact ih_128 (v1077, M_128, L1076) ⟨by show 0 ≤ v1077.toInt; omega, by show v1077.toInt ≤ (M 258 2).toInt; omega, by show ∀ u9 v9, v9 < 10 → (u9 < x1_118.toNatClampNeg ∧ v9 < (M 258 2).toNatClampNeg ∨ (u9 = x1_118.toNatClampNeg ∧ v9 < v1077.toNatClampNeg)) → wv (L1076 296) u9 v9 = wS (vR M) (fun i => vR M 8 (40 * (M 258 27).toNatClampNeg + i)) (vR M 7 (M 258 27).toNatClampNeg).toNatClampNeg 0 u9 v9; rw [iv]; intro a b hb h9; exact hall a b hb (by omega), by show ∀ u9 v9, u9 < (M 258 2).toNatClampNeg → v9 < (M 258 2).toNatClampNeg → L1076 295 (10 * u9 + v9) = beV (vR M) (fun i => vR M 8 (40 * (M 258 27).toNatClampNeg + i)) (vR M 7 (M 258 27).toNatClampNeg).toNatClampNeg u9 v9; rw [p295]; exact j128_3, hI, hF, hG⟩ (by show (11 - v1077.toInt).toNat < (11 - x2_128.toInt).toNat; omega)
set_option maxHeartbeats 4000000 in
set_option maxRecDepth 100000 in
theorem k_X11_layWays (l : Launch) (D : va_G) (ad : Nat → Nat) (cs : Nat → ClassId) (M : MI) (L : ML)  (hI : IR M) (hX : hasX (vR M) (M 258 27)) (hB8 : ∀ i : Nat, (vR M 8 i).toInt = -9 ∨ (0 ≤ (vR M 8 i).toInt ∧ (vR M 8 i).toInt ≤ 59)) : Cv l yX11_layWays wsX11_layWays ({ frames := 2, cells := 0, slots := 0, locals := 48 }) D ad cs [.ref (ad 258)] M L (fun M1 L1 => (CL (M 258 2).toNatClampNeg (M 258 2).toNatClampNeg (wv (L1 296)) ∧ ∀ a, a < (M 258 2).toNatClampNeg → ∀ b, b < (M 258 2).toNatClampNeg → wv (L1 296) a b = wS (vR M) (fun i => vR M 8 (40 * (M 258 27).toNatClampNeg + i)) (vR M 7 (M 258 27).toNatClampNeg).toNatClampNeg (M 258 2).toNatClampNeg a b) ∧ IR M1 ∧ (∀ k i, True → M1 k i = M k i) ∧ ∀ k i, k ≠ 295 ∧ k ≠ 296 → L1 k i = L k i) := by
  refine enter_v RX11 rfl [(0, .ref (ad 258))] rfl (Nat.le_of_ble_eq_true rfl) (by decide +kernel) rfl ?_
  intro p e s m below meth c C hr
  have hF : ∀ k i, True → M k i = M k i := fun _ _ _ => rfl
  have hG : ∀ k i, k ≠ 295 ∧ k ≠ 296 → L k i = L k i := fun _ _ _ => rfl
  obtain ⟨ca, cb⟩ := (show rg 0 10 (M 258 2) from hI 258 2)
  have n02 := ixn ca
  have hX1 := hX.1
  have hX2 := hX.2
  obtain ⟨sza, szb⟩ := (show rg 0 40 (vR M 7 (M 258 27).toNatClampNeg) from hI 266 _)
  have nsz := ixn sza
  have w2_ : (vR M 0 2).toInt = (M 258 9).toInt := rfl
  obtain ⟨y2a, y2b⟩ := (show rg 0 8 (M 258 9) from hI 258 9)
  have nX := ixn hX1
  have p295 : L 295 = L 295 := rfl
  have p296 : L 296 = L 296 := rfl
  have hI0 := hI
  refine g_iconst C 0 dX11_layWays_0 (by decide) ?_
  refine g_istore_n C [(1, .int 0), (0, .ref (ad 258))] dX11_layWays_1 (by decide) rfl ?_
  have zy1 : (0 : Int32).toInt = 0 := by decide
  refine g_loop (α := Int32 × MI × ML) (fun a => (11 - a.1.toInt).toNat) (fun a => (0 ≤ a.1.toInt) ∧ (a.1.toInt ≤ (M 258 2).toInt) ∧ (∀ u9 v9, v9 < 10 → u9 < a.1.toNatClampNeg ∧ v9 < (M 258 2).toNatClampNeg → a.2.2 295 (10 * u9 + v9) = beV (vR M) (fun i => vR M 8 (40 * (M 258 27).toNatClampNeg + i)) (vR M 7 (M 258 27).toNatClampNeg).toNatClampNeg u9 v9) ∧ IR a.2.1 ∧ (∀ k i, True → a.2.1 k i = M k i) ∧ (∀ k i, k ≠ 295 ∧ k ≠ 296 → a.2.2 k i = L k i)) (fun a => a.2.1) (fun a => a.2.2) (fun a => [(1, .int a.1), (0, .ref (ad 258))]) ((0 : Int32), M, L) ⟨by show 0 ≤ (0 : Int32).toInt; omega, by show (0 : Int32).toInt ≤ (M 258 2).toInt; omega, by show ∀ u9 v9, v9 < 10 → u9 < (0 : Int32).toNatClampNeg ∧ v9 < (M 258 2).toNatClampNeg → L 295 (10 * u9 + v9) = beV (vR M) (fun i => vR M 8 (40 * (M 258 27).toNatClampNeg + i)) (vR M 7 (M 258 27).toNatClampNeg).toNatClampNeg u9 v9; intro a b _ h9; exact absurd h9.1 (by show ¬ a < 0; omega), hI, hF, hG⟩ rfl rfl rfl ?_
  rintro ⟨x1_2, M_2, L_2⟩ ⟨j2_0, j2_1, j2_2, hI, hF, hG⟩ ih_2
  dsimp only at j2_0 j2_1 j2_2 hI hF hG ih_2 ⊢
  have p295 : L_2 295 = L_2 295 := rfl
  have p296 : L_2 296 = L_2 296 := rfl
  have n_x1_2 := ixn (x := x1_2) (by omega)
  refine g_iload_n C 0 dX11_layWays_2 rfl ?_
  refine g_aload_n C 1 dX11_layWays_3 rfl ?_
  refine g_get C (.int (M_2 258 2)) 2 in_X11_layWays_11 (List.mem_of_getElem? (i := 1) rfl) (by decide) (ce_model ad cs _ _) rfl (by decide) rfl rfl dX11_layWays_4 ?_
  refine g_ni (fun v2 ev2 => ?_)
  have gv2 : v2 = M 258 2 := ev2.trans (hF 258 2 trivial)
  have tv2 := congrArg Int32.toInt gv2
  obtain ⟨bv2, dv2⟩ := (show rg 0 10 v2 from (by rw [ev2]; exact hI 258 2))
  refine g_icmp_ge C 116 dX11_layWays_7 (by decide) (fun c3 => ?_) (fun c3 => ?_)
  ·
    have f4 := fle rfl rfl c3
    refine g_lv [1] [(0, .ref (ad 258))] rfl ?_
    exact k_X11_layWays_116 l D ad cs M L  hI0 hX hB8  C hr _ _ hI hF hG (fun a b ha hb => j2_2 a b (by omega) (by omega))
  ·
    have f5 := fnle rfl rfl c3
    refine g_iconst C 0 dX11_layWays_10 (by decide) ?_
    refine g_istore_n C [(2, .int 0), (1, .int x1_2), (0, .ref (ad 258))] dX11_layWays_11 (by decide) rfl ?_
    have zy6 : (0 : Int32).toInt = 0 := by decide
    refine g_loop (α := Int32 × MI × ML) (fun a => (11 - a.1.toInt).toNat) (fun a => (0 ≤ a.1.toInt) ∧ (a.1.toInt ≤ (M 258 2).toInt) ∧ (∀ u9 v9, v9 < 10 → (u9 < x1_2.toNatClampNeg ∧ v9 < (M 258 2).toNatClampNeg ∨ (u9 = x1_2.toNatClampNeg ∧ v9 < a.1.toNatClampNeg)) → a.2.2 295 (10 * u9 + v9) = beV (vR M) (fun i => vR M 8 (40 * (M 258 27).toNatClampNeg + i)) (vR M 7 (M 258 27).toNatClampNeg).toNatClampNeg u9 v9) ∧ IR a.2.1 ∧ (∀ k i, True → a.2.1 k i = M k i) ∧ (∀ k i, k ≠ 295 ∧ k ≠ 296 → a.2.2 k i = L k i)) (fun a => a.2.1) (fun a => a.2.2) (fun a => [(2, .int a.1), (1, .int x1_2), (0, .ref (ad 258))]) ((0 : Int32), M_2, L_2) ⟨by show 0 ≤ (0 : Int32).toInt; omega, by show (0 : Int32).toInt ≤ (M 258 2).toInt; omega, by show ∀ u9 v9, v9 < 10 → (u9 < x1_2.toNatClampNeg ∧ v9 < (M 258 2).toNatClampNeg ∨ (u9 = x1_2.toNatClampNeg ∧ v9 < (0 : Int32).toNatClampNeg)) → L_2 295 (10 * u9 + v9) = beV (vR M) (fun i => vR M 8 (40 * (M 258 27).toNatClampNeg + i)) (vR M 7 (M 258 27).toNatClampNeg).toNatClampNeg u9 v9; intro a b hb h9; exact j2_2 a b hb (h9.elim id (fun h => absurd h.2 (by show ¬ b < 0; omega))), hI, hF, hG⟩ rfl rfl rfl ?_
    rintro ⟨x2_12, M_12, L_12⟩ ⟨j12_0, j12_1, j12_2, hI, hF, hG⟩ ih_12
    dsimp only at j12_0 j12_1 j12_2 hI hF hG ih_12 ⊢
    have p295 : L_12 295 = L_12 295 := rfl
    have p296 : L_12 296 = L_12 296 := rfl
    have n_x2_12 := ixn (x := x2_12) (by omega)
    refine g_iload_n C 0 dX11_layWays_12 rfl ?_
    refine g_aload_n C 2 dX11_layWays_13 rfl ?_
    refine g_get C (.int (M_12 258 2)) 2 in_X11_layWays_11 (List.mem_of_getElem? (i := 1) rfl) (by decide) (ce_model ad cs _ _) rfl (by decide) rfl rfl dX11_layWays_14 ?_
    refine g_ni (fun v7 ev7 => ?_)
    have gv7 : v7 = M 258 2 := ev7.trans (hF 258 2 trivial)
    have tv7 := congrArg Int32.toInt gv7
    obtain ⟨bv7, dv7⟩ := (show rg 0 10 v7 from (by rw [ev7]; exact hI 258 2))
    refine g_icmp_ge C 110 dX11_layWays_17 (by decide) (fun c8 => ?_) (fun c8 => ?_)
    ·
      have f9 := fle rfl rfl c8
      obtain ⟨v10, ev10⟩ : ∃ y : Int32, y = x1_2 + 1 := ⟨_, rfl⟩
      try have fv10 := fadd rfl (by decide : (1 : Int32).toInt = 1) ev10 (by omega) (by omega)
      refine g_iinc C 1 v10 [(1, .int v10), (2, .int x2_12), (0, .ref (ad 258))] dX11_layWays_110 rfl (by rw [ev10]; rfl) (by decide) rfl ?_
      refine g_goto C 2 dX11_layWays_113 (by decide) ?_
      refine g_lv [0, 2] [(1, .int v10), (0, .ref (ad 258))] rfl ?_
      have nv := ixn (x := v10) (by omega)
      have iv : v10.toNatClampNeg = x1_2.toNatClampNeg + 1 := by omega
      exact ih_2 (v10, M_12, L_12) ⟨by show 0 ≤ v10.toInt; omega, by show v10.toInt ≤ (M 258 2).toInt; omega, by show ∀ u9 v9, v9 < 10 → u9 < v10.toNatClampNeg ∧ v9 < (M 258 2).toNatClampNeg → L_12 295 (10 * u9 + v9) = beV (vR M) (fun i => vR M 8 (40 * (M 258 27).toNatClampNeg + i)) (vR M 7 (M 258 27).toNatClampNeg).toNatClampNeg u9 v9; rw [iv]; intro a b hb h9; exact j12_2 a b hb (by omega), hI, hF, hG⟩ (by show (11 - v10.toInt).toNat < (11 - x1_2.toInt).toNat; omega)
    ·
      have f11 := fnle rfl rfl c8
      refine g_aload_n C 2 dX11_layWays_20 rfl ?_
      refine g_get C (.ref (ad 295)) 51 in_X11_layWays_11 (List.mem_of_getElem? (i := 2) rfl) (by decide) (ce_model ad cs _ _) rfl (by decide) rfl rfl dX11_layWays_21 ?_
      refine g_bipush C 10 dX11_layWays_24 (by decide) ?_
      refine g_iload_n C 1 dX11_layWays_26 rfl ?_
      refine g_imul C dX11_layWays_27 ?_
      refine g_ni (fun v12 ev12 => ?_)
      try have fv12 := fmul (by decide : (10 : Int32).toInt = 10) rfl ev12 (by omega) (by omega)
      refine g_iload_n C 0 dX11_layWays_28 rfl ?_
      refine g_iadd C dX11_layWays_29 ?_
      refine g_ni (fun v13 ev13 => ?_)
      try have fv13 := fadd rfl rfl ev13 (by omega) (by omega)
      refine g_lconst C 0 dX11_layWays_30 (by decide) ?_
      have nx1_2 := ixn (x := x1_2) (by omega)
      have nx2_12 := ixn (x := x2_12) (by omega)
      have nv13 := ixn (x := v13) (by omega)
      have iv13 : v13.toNatClampNeg = 10 * x1_2.toNatClampNeg + x2_12.toNatClampNeg := by omega
      refine g_last C (by decide) (ce_m_beats ad cs _ _) (by rw [sJ_k]; rfl) (fin' (n := 100) rfl (by omega) (by omega)) dX11_layWays_31 ?_
      refine g_nmL (fun L14 hL14 => ?_)
      have hG : ∀ k i, k ≠ 295 ∧ k ≠ 296 → L14 k i = L k i := fun k i hk => by (rw [hL14, sJ_at, if_neg (by omega)]; try exact hG k i hk)
      have p296 : L14 296 = L_12 296 := by rw [hL14, sJ_n _ _ _ (by decide)]; try exact p296
      refine g_iconst C 0 dX11_layWays_32 (by decide) ?_
      refine g_istore_n C [(3, .int 0), (2, .int x2_12), (1, .int x1_2), (0, .ref (ad 258))] dX11_layWays_33 (by decide) rfl ?_
      have zy15 : (0 : Int32).toInt = 0 := by decide
      have oth0 : ∀ a b, b < 10 → ¬ (a = x1_2.toNatClampNeg ∧ b = x2_12.toNatClampNeg) → L14 295 (10 * a + b) = L_12 295 (10 * a + b) := by
        intro a b hb hab
        rw [hL14, sJ_at, if_neg (by rw [iv13]; omega)]
      refine g_loop (α := Int32 × MI × ML) (fun a => (41 - a.1.toInt).toNat) (fun a => (0 ≤ a.1.toInt) ∧ (a.1.toInt ≤ (vR M 7 (M 258 27).toNatClampNeg).toInt) ∧ (a.2.2 295 (10 * x1_2.toNatClampNeg + x2_12.toNatClampNeg) = foP (bwP (vR M) x1_2.toNatClampNeg x2_12.toNatClampNeg) (fun i => vR M 8 (40 * (M 258 27).toNatClampNeg + i)) a.1.toNatClampNeg 0) ∧ (∀ u9 v9, v9 < 10 → (u9 < x1_2.toNatClampNeg ∧ v9 < (M 258 2).toNatClampNeg ∨ (u9 = x1_2.toNatClampNeg ∧ v9 < x2_12.toNatClampNeg)) → a.2.2 295 (10 * u9 + v9) = beV (vR M) (fun i => vR M 8 (40 * (M 258 27).toNatClampNeg + i)) (vR M 7 (M 258 27).toNatClampNeg).toNatClampNeg u9 v9) ∧ IR a.2.1 ∧ (∀ k i, True → a.2.1 k i = M k i) ∧ (∀ k i, k ≠ 295 ∧ k ≠ 296 → a.2.2 k i = L k i)) (fun a => a.2.1) (fun a => a.2.2) (fun a => [(3, .int a.1), (2, .int x2_12), (1, .int x1_2), (0, .ref (ad 258))]) ((0 : Int32), M_12, L14) ⟨by show 0 ≤ (0 : Int32).toInt; omega, by show (0 : Int32).toInt ≤ (vR M 7 (M 258 27).toNatClampNeg).toInt; omega, by show L14 295 (10 * x1_2.toNatClampNeg + x2_12.toNatClampNeg) = foP (bwP (vR M) x1_2.toNatClampNeg x2_12.toNatClampNeg) (fun i => vR M 8 (40 * (M 258 27).toNatClampNeg + i)) (0 : Int32).toNatClampNeg 0; rw [hL14, sJ_at, if_pos ⟨rfl, by omega⟩]; rfl, by show ∀ u9 v9, v9 < 10 → (u9 < x1_2.toNatClampNeg ∧ v9 < (M 258 2).toNatClampNeg ∨ (u9 = x1_2.toNatClampNeg ∧ v9 < x2_12.toNatClampNeg)) → L14 295 (10 * u9 + v9) = beV (vR M) (fun i => vR M 8 (40 * (M 258 27).toNatClampNeg + i)) (vR M 7 (M 258 27).toNatClampNeg).toNatClampNeg u9 v9; intro a b hb h9; rw [oth0 a b hb (by omega)]; exact j12_2 a b hb h9, hI, hF, hG⟩ rfl rfl rfl ?_
      rintro ⟨x3_34, M_34, L_34⟩ ⟨j34_0, j34_1, j34_2, j34_3, hI, hF, hG⟩ ih_34
      dsimp only at j34_0 j34_1 j34_2 j34_3 hI hF hG ih_34 ⊢
      have p295 : L_34 295 = L_34 295 := rfl
      have p296 : L_34 296 = L_34 296 := rfl
      have n_x3_34 := ixn (x := x3_34) (by omega)
      have eM : M_34 = M := funext (fun k => funext (fun i => hF k i trivial))
      refine g_iload_n C 0 dX11_layWays_34 rfl ?_
      refine g_aload_n C 3 dX11_layWays_35 rfl ?_
      refine g_get C (.ref (ad 266)) 11 in_X11_layWays_11 (List.mem_of_getElem? (i := 3) rfl) (by decide) (ce_model ad cs _ _) rfl (by decide) rfl rfl dX11_layWays_36 ?_
      refine g_aload_n C 3 dX11_layWays_39 rfl ?_
      refine g_get C (.int (M_34 258 27)) 27 in_X11_layWays_11 (List.mem_of_getElem? (i := 4) rfl) (by decide) (ce_model ad cs _ _) rfl (by decide) rfl rfl dX11_layWays_40 ?_
      refine g_ni (fun v16 ev16 => ?_)
      have gv16 : v16 = M 258 27 := ev16.trans (hF 258 27 trivial)
      have tv16 := congrArg Int32.toInt gv16
      obtain ⟨bv16, dv16⟩ := (show rg 0 7 v16 from (by rw [ev16]; exact hI 258 27))
      refine g_iald C (by decide) (ce_m_boxSize ad cs _ _) (fin' (n := 8) rfl (by omega) (by omega)) dX11_layWays_43 ?_
      refine g_ni (fun v17 ev17 => ?_)
      have gv17 : v17 = M 266 v16.toNatClampNeg := ev17.trans (hF 266 v16.toNatClampNeg trivial)
      have tv17 := congrArg Int32.toInt gv17
      obtain ⟨bv17, dv17⟩ := (show rg 0 40 v17 from (by rw [ev17]; exact hI 266 v16.toNatClampNeg))
      have ts9 : v17.toInt = (vR M 7 (M 258 27).toNatClampNeg).toInt := by rw [gv17, gv16]; rfl
      refine g_icmp_ge C 104 dX11_layWays_44 (by decide) (fun c18 => ?_) (fun c18 => ?_)
      ·
        have f19 := fle rfl rfl c18
        obtain ⟨v20, ev20⟩ : ∃ y : Int32, y = x2_12 + 1 := ⟨_, rfl⟩
        try have fv20 := fadd rfl (by decide : (1 : Int32).toInt = 1) ev20 (by omega) (by omega)
        refine g_iinc C 1 v20 [(2, .int v20), (3, .int x3_34), (1, .int x1_2), (0, .ref (ad 258))] dX11_layWays_104 rfl (by rw [ev20]; rfl) (by decide) rfl ?_
        refine g_goto C 12 dX11_layWays_107 (by decide) ?_
        refine g_lv [0, 2, 3] [(2, .int v20), (1, .int x1_2), (0, .ref (ad 258))] rfl ?_
        have nv := ixn (x := v20) (by omega)
        have iv : v20.toNatClampNeg = x2_12.toNatClampNeg + 1 := by omega
        have e34 : x3_34.toNatClampNeg = (vR M 7 (M 258 27).toNatClampNeg).toNatClampNeg := by omega
        rw [e34] at j34_2
        have hall : ∀ a b, b < 10 → (a < x1_2.toNatClampNeg ∧ b < (M 258 2).toNatClampNeg ∨ (a = x1_2.toNatClampNeg ∧ b < x2_12.toNatClampNeg + 1)) → L_34 295 (10 * a + b) = beV (vR M) (fun i => vR M 8 (40 * (M 258 27).toNatClampNeg + i)) (vR M 7 (M 258 27).toNatClampNeg).toNatClampNeg a b := by
          intro a b hb hab
          by_cases e9 : a = x1_2.toNatClampNeg ∧ b = x2_12.toNatClampNeg
          · rw [e9.1, e9.2]; exact j34_2
          · exact j34_3 a b hb (by omega)
        exact ih_12 (v20, M_34, L_34) ⟨by show 0 ≤ v20.toInt; omega, by show v20.toInt ≤ (M 258 2).toInt; omega, by show ∀ u9 v9, v9 < 10 → (u9 < x1_2.toNatClampNeg ∧ v9 < (M 258 2).toNatClampNeg ∨ (u9 = x1_2.toNatClampNeg ∧ v9 < v20.toNatClampNeg)) → L_34 295 (10 * u9 + v9) = beV (vR M) (fun i => vR M 8 (40 * (M 258 27).toNatClampNeg + i)) (vR M 7 (M 258 27).toNatClampNeg).toNatClampNeg u9 v9; rw [iv]; intro a b hb h9; exact hall a b hb (by omega), hI, hF, hG⟩ (by show (11 - v20.toInt).toNat < (11 - x2_12.toInt).toNat; omega)
      ·
        have f21 := fnle rfl rfl c18
        refine g_aload_n C 3 dX11_layWays_47 rfl ?_
        refine g_iload_n C 0 dX11_layWays_48 rfl ?_
        refine g_callVi C (n := 1) (As := [.int x3_34]) (st := []) (k_X11_ballotAt l D ad cs _ _ x3_34 hI ⟨by omega, by omega⟩ (by rw [eM]; exact hX)) gX11_layWays_X11_ballotAt rfl rfl rfl (by decide +kernel) ⟨Nat.le_of_ble_eq_true rfl, Nat.le_of_ble_eq_true rfl⟩ rfl (Nat.le_of_ble_eq_true rfl) ⟨Nat.zero_le _, Nat.zero_le _⟩ (by decide) (ce_model ad cs _ _) rfl rfl dX11_layWays_49 (fun r22 M23 L24 hr22 => ?_)
        obtain ⟨hq1, hq2, hr22⟩ := hr22
        obtain rfl := hq1.symm
        obtain rfl := hq2.symm
        rw [eM] at hr22
        have tr22 := congrArg Int32.toInt hr22
        have hB9 := hB8 (40 * (M 258 27).toNatClampNeg + x3_34.toNatClampNeg)
        refine g_istore C [(4, .int r22), (3, .int x3_34), (2, .int x2_12), (1, .int x1_2), (0, .ref (ad 258))] dX11_layWays_52 (by decide) rfl ?_
        refine g_aload_n C 4 dX11_layWays_54 rfl ?_
        refine g_get C (.ref (ad 295)) 51 in_X11_layWays_11 (List.mem_of_getElem? (i := 2) rfl) (by decide) (ce_model ad cs _ _) rfl (by decide) rfl rfl dX11_layWays_55 ?_
        refine g_bipush C 10 dX11_layWays_58 (by decide) ?_
        refine g_iload_n C 3 dX11_layWays_60 rfl ?_
        refine g_imul C dX11_layWays_61 ?_
        refine g_ni (fun v25 ev25 => ?_)
        try have fv25 := fmul (by decide : (10 : Int32).toInt = 10) rfl ev25 (by omega) (by omega)
        refine g_iload_n C 2 dX11_layWays_62 rfl ?_
        refine g_iadd C dX11_layWays_63 ?_
        refine g_ni (fun v26 ev26 => ?_)
        try have fv26 := fadd rfl rfl ev26 (by omega) (by omega)
        refine g_dup2 C dX11_layWays_64 rfl rfl ?_
        have nx1_2 := ixn (x := x1_2) (by omega)
        have nx2_12 := ixn (x := x2_12) (by omega)
        have nv26 := ixn (x := v26) (by omega)
        have iv26 : v26.toNatClampNeg = 10 * x1_2.toNatClampNeg + x2_12.toNatClampNeg := by omega
        refine g_lald C (by decide) (ce_m_beats ad cs _ _) (fin' (n := 100) rfl (by omega) (by omega)) dX11_layWays_65 ?_
        refine g_nl (fun v27 ev27 => ?_)
        have gv27 : v27 = L_34 295 v26.toNatClampNeg := ev27.trans (congrFun p295 _)
        have gv27 := cg1L (f := L_34 295) gv27 iv26
        have tv27 := congrArg Int64.toInt gv27
        refine g_iload C 0 dX11_layWays_66 rfl ?_
        refine g_bipush C (-9) dX11_layWays_68 (by decide) ?_
        refine g_icmp_eq C 95 dX11_layWays_70 (by decide) (fun c28 => ?_) (fun c28 => ?_)
        ·
          have f29 := feq rfl (by decide : ((-9) : Int32).toInt = (-9)) c28
          refine g_lconst C 0 dX11_layWays_95 (by decide) ?_
          refine g_ladd C dX11_layWays_96 ?_
          refine g_nl (fun v30 ev30 => ?_)
          try have fv30 := fladd rfl (by decide : (0 : Int64).toInt = 0) ev30 (by omega) (by omega)
          have nx1_2 := ixn (x := x1_2) (by omega)
          have nx2_12 := ixn (x := x2_12) (by omega)
          have nv26 := ixn (x := v26) (by omega)
          have iv26 : v26.toNatClampNeg = 10 * x1_2.toNatClampNeg + x2_12.toNatClampNeg := by omega
          refine g_last C (by decide) (ce_m_beats ad cs _ _) (by rw [sJ_k]; rfl) (fin' (n := 100) rfl (by omega) (by omega)) dX11_layWays_97 ?_
          refine g_nmL (fun L31 hL31 => ?_)
          have hG : ∀ k i, k ≠ 295 ∧ k ≠ 296 → L31 k i = L k i := fun k i hk => by (rw [hL31, sJ_at, if_neg (by omega)]; try exact hG k i hk)
          have p296 : L31 296 = L_34 296 := by rw [hL31, sJ_n _ _ _ (by decide)]; try exact p296
          obtain ⟨v32, ev32⟩ : ∃ y : Int32, y = x3_34 + 1 := ⟨_, rfl⟩
          try have fv32 := fadd rfl (by decide : (1 : Int32).toInt = 1) ev32 (by omega) (by omega)
          refine g_iinc C 1 v32 [(3, .int v32), (4, .int r22), (2, .int x2_12), (1, .int x1_2), (0, .ref (ad 258))] dX11_layWays_98 rfl (by rw [ev32]; rfl) (by decide) rfl ?_
          refine g_goto C 34 dX11_layWays_101 (by decide) ?_
          refine g_lv [0, 2, 3, 4] [(3, .int v32), (2, .int x2_12), (1, .int x1_2), (0, .ref (ad 258))] rfl ?_
          have nv := ixn (x := v32) (by omega)
          have iv : v32.toNatClampNeg = x3_34.toNatClampNeg + 1 := by omega
          have hL9 : L31 295 = fun c => if c = 10 * x1_2.toNatClampNeg + x2_12.toNatClampNeg then v30 else L_34 295 c := by
            funext c
            rw [hL31, sJ_at, iv26]
            by_cases e9 : c = 10 * x1_2.toNatClampNeg + x2_12.toNatClampNeg
            · rw [if_pos ⟨rfl, e9⟩, if_pos e9]
            · rw [if_neg (fun h => e9 h.2), if_neg e9]
          have cur : L31 295 (10 * x1_2.toNatClampNeg + x2_12.toNatClampNeg) = foP (bwP (vR M) x1_2.toNatClampNeg x2_12.toNatClampNeg) (fun i => vR M 8 (40 * (M 258 27).toNatClampNeg + i)) (x3_34.toNatClampNeg + 1) 0 := by
            rw [hL9]
            show (if _ then v30 else _) = _
            rw [if_pos rfl]
            by_cases e9 : (vR M 8 (40 * (M 258 27).toNatClampNeg + x3_34.toNatClampNeg)).toInt = -9
            · rw [foP_e (p := (fun i => vR M 8 (40 * (M 258 27).toNatClampNeg + i))) e9, ← j34_2]; first | (exfalso; omega) | (simp only [ev30, gv27, ev26, ev25, gv17, gv16, ev13, ev12, gv7, gv2]; exact Int64.add_zero _)
            · rw [foP_s (p := (fun i => vR M 8 (40 * (M 258 27).toNatClampNeg + i))) e9]
              show _ = (if ahV (vR M) (vR M 8 (40 * (M 258 27).toNatClampNeg + x3_34.toNatClampNeg)).toNatClampNeg x1_2.toNatClampNeg x2_12.toNatClampNeg then foP (bwP (vR M) x1_2.toNatClampNeg x2_12.toNatClampNeg) (fun i => vR M 8 (40 * (M 258 27).toNatClampNeg + i)) x3_34.toNatClampNeg 0 + (vR M 3 (vR M 8 (40 * (M 258 27).toNatClampNeg + x3_34.toNatClampNeg)).toNatClampNeg).toInt64 else foP (bwP (vR M) x1_2.toNatClampNeg x2_12.toNatClampNeg) (fun i => vR M 8 (40 * (M 258 27).toNatClampNeg + i)) x3_34.toNatClampNeg 0)
              rw [← j34_2]
              first | (exfalso; omega) | (rw [if_pos hah]; simp only [hr22, ev30, gv27, ev26, ev25, gv17, gv16, ev13, ev12, gv7, gv2]; rfl) | (rw [if_neg hah]; simp only [ev30, gv27, ev26, ev25, gv17, gv16, ev13, ev12, gv7, gv2]; exact Int64.add_zero _)
          have oth : ∀ a b, b < 10 → ¬ (a = x1_2.toNatClampNeg ∧ b = x2_12.toNatClampNeg) → L31 295 (10 * a + b) = L_34 295 (10 * a + b) := by
            intro a b hb hab
            rw [hL9]
            show (if 10 * a + b = 10 * x1_2.toNatClampNeg + x2_12.toNatClampNeg then _ else _) = _
            rw [if_neg (by omega)]
          exact ih_34 (v32, M_34, L31) ⟨by show 0 ≤ v32.toInt; omega, by show v32.toInt ≤ (vR M 7 (M 258 27).toNatClampNeg).toInt; omega, by show L31 295 (10 * x1_2.toNatClampNeg + x2_12.toNatClampNeg) = foP (bwP (vR M) x1_2.toNatClampNeg x2_12.toNatClampNeg) (fun i => vR M 8 (40 * (M 258 27).toNatClampNeg + i)) v32.toNatClampNeg 0; rw [iv]; exact cur, by show ∀ u9 v9, v9 < 10 → (u9 < x1_2.toNatClampNeg ∧ v9 < (M 258 2).toNatClampNeg ∨ (u9 = x1_2.toNatClampNeg ∧ v9 < x2_12.toNatClampNeg)) → L31 295 (10 * u9 + v9) = beV (vR M) (fun i => vR M 8 (40 * (M 258 27).toNatClampNeg + i)) (vR M 7 (M 258 27).toNatClampNeg).toNatClampNeg u9 v9; intro a b hb h9; rw [oth a b hb (by omega)]; exact j34_3 a b hb h9, hI, hF, hG⟩ (by show (41 - v32.toInt).toNat < (41 - x3_34.toInt).toNat; omega)
        ·
          have f33 := fne rfl (by decide : ((-9) : Int32).toInt = (-9)) c28
          refine g_aload_n C 4 dX11_layWays_73 rfl ?_
          refine g_iload C 0 dX11_layWays_74 rfl ?_
          refine g_iload_n C 3 dX11_layWays_76 rfl ?_
          refine g_iload_n C 2 dX11_layWays_77 rfl ?_
          refine g_callVi C (n := 3) (As := [.int r22, .int x1_2, .int x2_12]) (st := [.long v27, .int v26, .ref (ad 295)]) (k_X11_isAheadOn l D ad cs _ _ r22 x1_2 x2_12 hI ⟨by omega, by omega⟩ ⟨by omega, by omega⟩) gX11_layWays_X11_isAheadOn rfl rfl rfl (by decide +kernel) ⟨Nat.le_of_ble_eq_true rfl, Nat.le_of_ble_eq_true rfl⟩ rfl (Nat.le_of_ble_eq_true rfl) ⟨Nat.zero_le _, Nat.zero_le _⟩ (by decide) (ce_model ad cs _ _) rfl rfl dX11_layWays_78 (fun r34 M35 L36 hr34 => ?_)
          obtain ⟨hq1, hq2, hr34⟩ := hr34
          obtain rfl := hq1.symm
          obtain rfl := hq2.symm
          have eM2 : M_34 = M := funext (fun k => funext (fun i => hF k i trivial))
          rw [eM2, hr22] at hr34
          obtain ⟨bar34, bbr34⟩ := zo_b hr34
          refine g_if_eq C 95 dX11_layWays_81 (by decide) (fun c37 => ?_) (fun c37 => ?_)
          ·
            have f38 := feq rfl (by decide : (0 : Int32).toInt = 0) c37
            have hah := zo_f hr34 c37
            refine g_lconst C 0 dX11_layWays_95 (by decide) ?_
            refine g_ladd C dX11_layWays_96 ?_
            refine g_nl (fun v39 ev39 => ?_)
            try have fv39 := fladd rfl (by decide : (0 : Int64).toInt = 0) ev39 (by omega) (by omega)
            have nx1_2 := ixn (x := x1_2) (by omega)
            have nx2_12 := ixn (x := x2_12) (by omega)
            have nv26 := ixn (x := v26) (by omega)
            have iv26 : v26.toNatClampNeg = 10 * x1_2.toNatClampNeg + x2_12.toNatClampNeg := by omega
            refine g_last C (by decide) (ce_m_beats ad cs _ _) (by rw [sJ_k]; rfl) (fin' (n := 100) rfl (by omega) (by omega)) dX11_layWays_97 ?_
            refine g_nmL (fun L40 hL40 => ?_)
            have hG : ∀ k i, k ≠ 295 ∧ k ≠ 296 → L40 k i = L k i := fun k i hk => by (rw [hL40, sJ_at, if_neg (by omega)]; try exact hG k i hk)
            have p296 : L40 296 = L_34 296 := by rw [hL40, sJ_n _ _ _ (by decide)]; try exact p296
            obtain ⟨v41, ev41⟩ : ∃ y : Int32, y = x3_34 + 1 := ⟨_, rfl⟩
            try have fv41 := fadd rfl (by decide : (1 : Int32).toInt = 1) ev41 (by omega) (by omega)
            refine g_iinc C 1 v41 [(3, .int v41), (4, .int r22), (2, .int x2_12), (1, .int x1_2), (0, .ref (ad 258))] dX11_layWays_98 rfl (by rw [ev41]; rfl) (by decide) rfl ?_
            refine g_goto C 34 dX11_layWays_101 (by decide) ?_
            refine g_lv [0, 2, 3, 4] [(3, .int v41), (2, .int x2_12), (1, .int x1_2), (0, .ref (ad 258))] rfl ?_
            have nv := ixn (x := v41) (by omega)
            have iv : v41.toNatClampNeg = x3_34.toNatClampNeg + 1 := by omega
            have hL9 : L40 295 = fun c => if c = 10 * x1_2.toNatClampNeg + x2_12.toNatClampNeg then v39 else L_34 295 c := by
              funext c
              rw [hL40, sJ_at, iv26]
              by_cases e9 : c = 10 * x1_2.toNatClampNeg + x2_12.toNatClampNeg
              · rw [if_pos ⟨rfl, e9⟩, if_pos e9]
              · rw [if_neg (fun h => e9 h.2), if_neg e9]
            have cur : L40 295 (10 * x1_2.toNatClampNeg + x2_12.toNatClampNeg) = foP (bwP (vR M) x1_2.toNatClampNeg x2_12.toNatClampNeg) (fun i => vR M 8 (40 * (M 258 27).toNatClampNeg + i)) (x3_34.toNatClampNeg + 1) 0 := by
              rw [hL9]
              show (if _ then v39 else _) = _
              rw [if_pos rfl]
              by_cases e9 : (vR M 8 (40 * (M 258 27).toNatClampNeg + x3_34.toNatClampNeg)).toInt = -9
              · rw [foP_e (p := (fun i => vR M 8 (40 * (M 258 27).toNatClampNeg + i))) e9, ← j34_2]; first | (exfalso; omega) | (simp only [ev39, gv27, ev26, ev25, gv17, gv16, ev13, ev12, gv7, gv2]; exact Int64.add_zero _)
              · rw [foP_s (p := (fun i => vR M 8 (40 * (M 258 27).toNatClampNeg + i))) e9]
                show _ = (if ahV (vR M) (vR M 8 (40 * (M 258 27).toNatClampNeg + x3_34.toNatClampNeg)).toNatClampNeg x1_2.toNatClampNeg x2_12.toNatClampNeg then foP (bwP (vR M) x1_2.toNatClampNeg x2_12.toNatClampNeg) (fun i => vR M 8 (40 * (M 258 27).toNatClampNeg + i)) x3_34.toNatClampNeg 0 + (vR M 3 (vR M 8 (40 * (M 258 27).toNatClampNeg + x3_34.toNatClampNeg)).toNatClampNeg).toInt64 else foP (bwP (vR M) x1_2.toNatClampNeg x2_12.toNatClampNeg) (fun i => vR M 8 (40 * (M 258 27).toNatClampNeg + i)) x3_34.toNatClampNeg 0)
                rw [← j34_2]
                first | (exfalso; omega) | (rw [if_pos hah]; simp only [hr22, ev39, gv27, ev26, ev25, gv17, gv16, ev13, ev12, gv7, gv2]; rfl) | (rw [if_neg hah]; simp only [ev39, gv27, ev26, ev25, gv17, gv16, ev13, ev12, gv7, gv2]; exact Int64.add_zero _)
            have oth : ∀ a b, b < 10 → ¬ (a = x1_2.toNatClampNeg ∧ b = x2_12.toNatClampNeg) → L40 295 (10 * a + b) = L_34 295 (10 * a + b) := by
              intro a b hb hab
              rw [hL9]
              show (if 10 * a + b = 10 * x1_2.toNatClampNeg + x2_12.toNatClampNeg then _ else _) = _
              rw [if_neg (by omega)]
            exact ih_34 (v41, M_34, L40) ⟨by show 0 ≤ v41.toInt; omega, by show v41.toInt ≤ (vR M 7 (M 258 27).toNatClampNeg).toInt; omega, by show L40 295 (10 * x1_2.toNatClampNeg + x2_12.toNatClampNeg) = foP (bwP (vR M) x1_2.toNatClampNeg x2_12.toNatClampNeg) (fun i => vR M 8 (40 * (M 258 27).toNatClampNeg + i)) v41.toNatClampNeg 0; rw [iv]; exact cur, by show ∀ u9 v9, v9 < 10 → (u9 < x1_2.toNatClampNeg ∧ v9 < (M 258 2).toNatClampNeg ∨ (u9 = x1_2.toNatClampNeg ∧ v9 < x2_12.toNatClampNeg)) → L40 295 (10 * u9 + v9) = beV (vR M) (fun i => vR M 8 (40 * (M 258 27).toNatClampNeg + i)) (vR M 7 (M 258 27).toNatClampNeg).toNatClampNeg u9 v9; intro a b hb h9; rw [oth a b hb (by omega)]; exact j34_3 a b hb h9, hI, hF, hG⟩ (by show (41 - v41.toInt).toNat < (41 - x3_34.toInt).toNat; omega)
          ·
            have f42 := fne rfl (by decide : (0 : Int32).toInt = 0) c37
            have hah := zo_t hr34 c37
            refine g_aload_n C 4 dX11_layWays_84 rfl ?_
            refine g_get C (.ref (ad 262)) 6 in_X11_layWays_11 (List.mem_of_getElem? (i := 5) rfl) (by decide) (ce_model ad cs _ _) rfl (by decide) rfl rfl dX11_layWays_85 ?_
            refine g_iload C 0 dX11_layWays_88 rfl ?_
            refine g_iald C (by decide) (ce_m_papersOf ad cs _ _) (fin' (n := 60) rfl (by omega) (by omega)) dX11_layWays_90 ?_
            refine g_ni (fun v43 ev43 => ?_)
            have gv43 : v43 = M 262 r22.toNatClampNeg := ev43.trans (hF 262 r22.toNatClampNeg trivial)
            have tv43 := congrArg Int32.toInt gv43
            obtain ⟨bv43, dv43⟩ := (show rg 0 100000 v43 from (by rw [ev43]; exact hI 262 r22.toNatClampNeg))
            refine g_i2l C dX11_layWays_91 ?_
            refine g_nl (fun v44 ev44 => ?_)
            have fv44 := fi2l rfl ev44
            refine g_goto C 96 dX11_layWays_92 (by decide) ?_
            refine g_ladd C dX11_layWays_96 ?_
            refine g_nl (fun v45 ev45 => ?_)
            try have fv45 := fladd rfl rfl ev45 (by omega) (by omega)
            have nx1_2 := ixn (x := x1_2) (by omega)
            have nx2_12 := ixn (x := x2_12) (by omega)
            have nv26 := ixn (x := v26) (by omega)
            have iv26 : v26.toNatClampNeg = 10 * x1_2.toNatClampNeg + x2_12.toNatClampNeg := by omega
            refine g_last C (by decide) (ce_m_beats ad cs _ _) (by rw [sJ_k]; rfl) (fin' (n := 100) rfl (by omega) (by omega)) dX11_layWays_97 ?_
            refine g_nmL (fun L46 hL46 => ?_)
            have hG : ∀ k i, k ≠ 295 ∧ k ≠ 296 → L46 k i = L k i := fun k i hk => by (rw [hL46, sJ_at, if_neg (by omega)]; try exact hG k i hk)
            have p296 : L46 296 = L_34 296 := by rw [hL46, sJ_n _ _ _ (by decide)]; try exact p296
            obtain ⟨v47, ev47⟩ : ∃ y : Int32, y = x3_34 + 1 := ⟨_, rfl⟩
            try have fv47 := fadd rfl (by decide : (1 : Int32).toInt = 1) ev47 (by omega) (by omega)
            refine g_iinc C 1 v47 [(3, .int v47), (4, .int r22), (2, .int x2_12), (1, .int x1_2), (0, .ref (ad 258))] dX11_layWays_98 rfl (by rw [ev47]; rfl) (by decide) rfl ?_
            refine g_goto C 34 dX11_layWays_101 (by decide) ?_
            refine g_lv [0, 2, 3, 4] [(3, .int v47), (2, .int x2_12), (1, .int x1_2), (0, .ref (ad 258))] rfl ?_
            have nv := ixn (x := v47) (by omega)
            have iv : v47.toNatClampNeg = x3_34.toNatClampNeg + 1 := by omega
            have hL9 : L46 295 = fun c => if c = 10 * x1_2.toNatClampNeg + x2_12.toNatClampNeg then v45 else L_34 295 c := by
              funext c
              rw [hL46, sJ_at, iv26]
              by_cases e9 : c = 10 * x1_2.toNatClampNeg + x2_12.toNatClampNeg
              · rw [if_pos ⟨rfl, e9⟩, if_pos e9]
              · rw [if_neg (fun h => e9 h.2), if_neg e9]
            have cur : L46 295 (10 * x1_2.toNatClampNeg + x2_12.toNatClampNeg) = foP (bwP (vR M) x1_2.toNatClampNeg x2_12.toNatClampNeg) (fun i => vR M 8 (40 * (M 258 27).toNatClampNeg + i)) (x3_34.toNatClampNeg + 1) 0 := by
              rw [hL9]
              show (if _ then v45 else _) = _
              rw [if_pos rfl]
              by_cases e9 : (vR M 8 (40 * (M 258 27).toNatClampNeg + x3_34.toNatClampNeg)).toInt = -9
              · rw [foP_e (p := (fun i => vR M 8 (40 * (M 258 27).toNatClampNeg + i))) e9, ← j34_2]; first | (exfalso; omega) | (simp only [ev45, ev44, gv43, gv27, ev26, ev25, gv17, gv16, ev13, ev12, gv7, gv2]; exact Int64.add_zero _)
              · rw [foP_s (p := (fun i => vR M 8 (40 * (M 258 27).toNatClampNeg + i))) e9]
                show _ = (if ahV (vR M) (vR M 8 (40 * (M 258 27).toNatClampNeg + x3_34.toNatClampNeg)).toNatClampNeg x1_2.toNatClampNeg x2_12.toNatClampNeg then foP (bwP (vR M) x1_2.toNatClampNeg x2_12.toNatClampNeg) (fun i => vR M 8 (40 * (M 258 27).toNatClampNeg + i)) x3_34.toNatClampNeg 0 + (vR M 3 (vR M 8 (40 * (M 258 27).toNatClampNeg + x3_34.toNatClampNeg)).toNatClampNeg).toInt64 else foP (bwP (vR M) x1_2.toNatClampNeg x2_12.toNatClampNeg) (fun i => vR M 8 (40 * (M 258 27).toNatClampNeg + i)) x3_34.toNatClampNeg 0)
                rw [← j34_2]
                first | (exfalso; omega) | (rw [if_pos hah]; simp only [hr22, ev45, ev44, gv43, gv27, ev26, ev25, gv17, gv16, ev13, ev12, gv7, gv2]; rfl) | (rw [if_neg hah]; simp only [ev45, ev44, gv43, gv27, ev26, ev25, gv17, gv16, ev13, ev12, gv7, gv2]; exact Int64.add_zero _)
            have oth : ∀ a b, b < 10 → ¬ (a = x1_2.toNatClampNeg ∧ b = x2_12.toNatClampNeg) → L46 295 (10 * a + b) = L_34 295 (10 * a + b) := by
              intro a b hb hab
              rw [hL9]
              show (if 10 * a + b = 10 * x1_2.toNatClampNeg + x2_12.toNatClampNeg then _ else _) = _
              rw [if_neg (by omega)]
            exact ih_34 (v47, M_34, L46) ⟨by show 0 ≤ v47.toInt; omega, by show v47.toInt ≤ (vR M 7 (M 258 27).toNatClampNeg).toInt; omega, by show L46 295 (10 * x1_2.toNatClampNeg + x2_12.toNatClampNeg) = foP (bwP (vR M) x1_2.toNatClampNeg x2_12.toNatClampNeg) (fun i => vR M 8 (40 * (M 258 27).toNatClampNeg + i)) v47.toNatClampNeg 0; rw [iv]; exact cur, by show ∀ u9 v9, v9 < 10 → (u9 < x1_2.toNatClampNeg ∧ v9 < (M 258 2).toNatClampNeg ∨ (u9 = x1_2.toNatClampNeg ∧ v9 < x2_12.toNatClampNeg)) → L46 295 (10 * u9 + v9) = beV (vR M) (fun i => vR M 8 (40 * (M 258 27).toNatClampNeg + i)) (vR M 7 (M 258 27).toNatClampNeg).toNatClampNeg u9 v9; intro a b hb h9; rw [oth a b hb (by omega)]; exact j34_3 a b hb h9, hI, hF, hG⟩ (by show (41 - v47.toInt).toNat < (41 - x3_34.toInt).toNat; omega)
