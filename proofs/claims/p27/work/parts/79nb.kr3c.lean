set_option maxHeartbeats 4000000 in
set_option maxRecDepth 100000 in
theorem k_X11_layWays (l : Launch) (D : va_G) (ad : Nat → Nat) (cs : Nat → ClassId) (M : MI) (L : ML)  (hI : IR M) (hX : hasX (vR M) (M 258 27)) (hB8 : ∀ i : Nat, (vR M 8 i).toInt = -9 ∨ (0 ≤ (vR M 8 i).toInt ∧ (vR M 8 i).toInt ≤ 59)) : Cv l yX11_layWays wsX11_layWays ({ frames := 2, cells := 0, slots := 0, locals := 48 }) D ad cs [.ref (ad 258)] M L (fun M1 L1 => (CL (M 258 2).toNatClampNeg (M 258 2).toNatClampNeg (wv (L1 296)) ∧ ∀ a, a < (M 258 2).toNatClampNeg → ∀ b, b < (M 258 2).toNatClampNeg → wv (L1 296) a b = wS (vR M) (fun i => vR M 8 (40 * (M 258 27).toNatClampNeg + i)) (vR M 7 (M 258 27).toNatClampNeg).toNatClampNeg (M 258 2).toNatClampNeg a b) ∧ IR M1 ∧ (∀ k i, True → M1 k i = M k i) ∧ ∀ k i, k ≠ 295 ∧ k ≠ 296 → L1 k i = L k i) := by
  refine enter_v RX11 rfl [(0, .ref (ad 258))] rfl (Nat.le_of_ble_eq_true rfl) (by decide +kernel) rfl ?_
  intro p e s m below meth c C hr
  have hF : ∀ k i, True → M k i = M k i := fun _ _ _ => rfl
  have hG : ∀ k i, k ≠ 295 ∧ k ≠ 296 → L k i = L k i := fun _ _ _ => rfl
  obtain ⟨ca, cb⟩ := (show rg 0 10 (M 258 2) from hI 258 2)
  have n02 := ixn ca
  have hX1 := hX.1
  have hX2 := hX.2
  obtain ⟨sza, szb⟩ := (show rg 0 40 (vR M 7 (M 258 27).toNatClampNeg) from hI 266 _)
  have nsz := ixn sza
  have w2_ : (vR M 0 2).toInt = (M 258 9).toInt := rfl
  obtain ⟨y2a, y2b⟩ := (show rg 0 8 (M 258 9) from hI 258 9)
  have nX := ixn hX1
  have p295 : L 295 = L 295 := rfl
  have p296 : L 296 = L 296 := rfl
  have hI0 := hI
  refine g_iconst C 0 dX11_layWays_0 (by decide) ?_
  refine g_istore_n C [(1, .int 0), (0, .ref (ad 258))] dX11_layWays_1 (by decide) rfl ?_
  have zy1 : (0 : Int32).toInt = 0 := by decide
  refine g_loop (α := Int32 × MI × ML) (fun a => (11 - a.1.toInt).toNat) (fun a => (0 ≤ a.1.toInt) ∧ (a.1.toInt ≤ (M 258 2).toInt) ∧ (∀ u9 v9, v9 < 10 → u9 < a.1.toNatClampNeg ∧ v9 < (M 258 2).toNatClampNeg → a.2.2 295 (10 * u9 + v9) = beV (vR M) (fun i => vR M 8 (40 * (M 258 27).toNatClampNeg + i)) (vR M 7 (M 258 27).toNatClampNeg).toNatClampNeg u9 v9) ∧ IR a.2.1 ∧ (∀ k i, True → a.2.1 k i = M k i) ∧ (∀ k i, k ≠ 295 ∧ k ≠ 296 → a.2.2 k i = L k i)) (fun a => a.2.1) (fun a => a.2.2) (fun a => [(1, .int a.1), (0, .ref (ad 258))]) ((0 : Int32), M, L) ⟨by show 0 ≤ (0 : Int32).toInt; omega, by show (0 : Int32).toInt ≤ (M 258 2).toInt; omega, by show ∀ u9 v9, v9 < 10 → u9 < (0 : Int32).toNatClampNeg ∧ v9 < (M 258 2).toNatClampNeg → L 295 (10 * u9 + v9) = beV (vR M) (fun i => vR M 8 (40 * (M 258 27).toNatClampNeg + i)) (vR M 7 (M 258 27).toNatClampNeg).toNatClampNeg u9 v9; intro a b _ h9; exact absurd h9.1 (by show ¬ a < 0; omega), hI, hF, hG⟩ rfl rfl rfl ?_
  rintro ⟨x1_2, M_2, L_2⟩ ⟨j2_0, j2_1, j2_2, hI, hF, hG⟩ ih_2
  dsimp only at j2_0 j2_1 j2_2 hI hF hG ih_2 ⊢
  have p295 : L_2 295 = L_2 295 := rfl
  have p296 : L_2 296 = L_2 296 := rfl
  have n_x1_2 := ixn (x := x1_2) (by omega)
  refine g_iload_n C 0 dX11_layWays_2 rfl ?_
  refine g_aload_n C 1 dX11_layWays_3 rfl ?_
  refine g_get C (.int (M_2 258 2)) 2 in_X11_layWays_11 (List.mem_of_getElem? (i := 1) rfl) (by decide) (ce_model ad cs _ _) rfl (by decide) rfl rfl dX11_layWays_4 ?_
  refine g_ni (fun v2 ev2 => ?_)
  have gv2 : v2 = M 258 2 := ev2.trans (hF 258 2 trivial)
  have tv2 := congrArg Int32.toInt gv2
  obtain ⟨bv2, dv2⟩ := (show rg 0 10 v2 from (by rw [ev2]; exact hI 258 2))
  refine g_icmp_ge C 116 dX11_layWays_7 (by decide) (fun c3 => ?_) (fun c3 => ?_)
  ·
    have f4 := fle rfl rfl c3
    refine g_lv [1] [(0, .ref (ad 258))] rfl ?_
    exact k_X11_layWays_116 l D ad cs M L  hI0 hX hB8  C hr _ _ hI hF hG (fun a b ha hb => j2_2 a b (by omega) (by omega))
  ·
    have f5 := fnle rfl rfl c3
    refine g_iconst C 0 dX11_layWays_10 (by decide) ?_
    refine g_istore_n C [(2, .int 0), (1, .int x1_2), (0, .ref (ad 258))] dX11_layWays_11 (by decide) rfl ?_
    have zy6 : (0 : Int32).toInt = 0 := by decide
    refine g_loop (α := Int32 × MI × ML) (fun a => (11 - a.1.toInt).toNat) (fun a => (0 ≤ a.1.toInt) ∧ (a.1.toInt ≤ (M 258 2).toInt) ∧ (∀ u9 v9, v9 < 10 → (u9 < x1_2.toNatClampNeg ∧ v9 < (M 258 2).toNatClampNeg ∨ (u9 = x1_2.toNatClampNeg ∧ v9 < a.1.toNatClampNeg)) → a.2.2 295 (10 * u9 + v9) = beV (vR M) (fun i => vR M 8 (40 * (M 258 27).toNatClampNeg + i)) (vR M 7 (M 258 27).toNatClampNeg).toNatClampNeg u9 v9) ∧ IR a.2.1 ∧ (∀ k i, True → a.2.1 k i = M k i) ∧ (∀ k i, k ≠ 295 ∧ k ≠ 296 → a.2.2 k i = L k i)) (fun a => a.2.1) (fun a => a.2.2) (fun a => [(2, .int a.1), (1, .int x1_2), (0, .ref (ad 258))]) ((0 : Int32), M_2, L_2) ⟨by show 0 ≤ (0 : Int32).toInt; omega, by show (0 : Int32).toInt ≤ (M 258 2).toInt; omega, by show ∀ u9 v9, v9 < 10 → (u9 < x1_2.toNatClampNeg ∧ v9 < (M 258 2).toNatClampNeg ∨ (u9 = x1_2.toNatClampNeg ∧ v9 < (0 : Int32).toNatClampNeg)) → L_2 295 (10 * u9 + v9) = beV (vR M) (fun i => vR M 8 (40 * (M 258 27).toNatClampNeg + i)) (vR M 7 (M 258 27).toNatClampNeg).toNatClampNeg u9 v9; intro a b hb h9; exact j2_2 a b hb (h9.elim id (fun h => absurd h.2 (by show ¬ b < 0; omega))), hI, hF, hG⟩ rfl rfl rfl ?_
    rintro ⟨x2_12, M_12, L_12⟩ ⟨j12_0, j12_1, j12_2, hI, hF, hG⟩ ih_12
    dsimp only at j12_0 j12_1 j12_2 hI hF hG ih_12 ⊢
    have p295 : L_12 295 = L_12 295 := rfl
    have p296 : L_12 296 = L_12 296 := rfl
    have n_x2_12 := ixn (x := x2_12) (by omega)
    refine g_iload_n C 0 dX11_layWays_12 rfl ?_
    refine g_aload_n C 2 dX11_layWays_13 rfl ?_
    refine g_get C (.int (M_12 258 2)) 2 in_X11_layWays_11 (List.mem_of_getElem? (i := 1) rfl) (by decide) (ce_model ad cs _ _) rfl (by decide) rfl rfl dX11_layWays_14 ?_
    refine g_ni (fun v7 ev7 => ?_)
    have gv7 : v7 = M 258 2 := ev7.trans (hF 258 2 trivial)
    have tv7 := congrArg Int32.toInt gv7
    obtain ⟨bv7, dv7⟩ := (show rg 0 10 v7 from (by rw [ev7]; exact hI 258 2))
    refine g_icmp_ge C 110 dX11_layWays_17 (by decide) (fun c8 => ?_) (fun c8 => ?_)
    ·
      have f9 := fle rfl rfl c8
      obtain ⟨v10, ev10⟩ : ∃ y : Int32, y = x1_2 + 1 := ⟨_, rfl⟩
      try have fv10 := fadd rfl (by decide : (1 : Int32).toInt = 1) ev10 (by omega) (by omega)
      refine g_iinc C 1 v10 [(1, .int v10), (2, .int x2_12), (0, .ref (ad 258))] dX11_layWays_110 rfl (by rw [ev10]; rfl) (by decide) rfl ?_
      refine g_goto C 2 dX11_layWays_113 (by decide) ?_
      refine g_lv [0, 2] [(1, .int v10), (0, .ref (ad 258))] rfl ?_
      have nv := ixn (x := v10) (by omega)
      have iv : v10.toNatClampNeg = x1_2.toNatClampNeg + 1 := by omega
      exact ih_2 (v10, M_12, L_12) ⟨by show 0 ≤ v10.toInt; omega, by show v10.toInt ≤ (M 258 2).toInt; omega, by show ∀ u9 v9, v9 < 10 → u9 < v10.toNatClampNeg ∧ v9 < (M 258 2).toNatClampNeg → L_12 295 (10 * u9 + v9) = beV (vR M) (fun i => vR M 8 (40 * (M 258 27).toNatClampNeg + i)) (vR M 7 (M 258 27).toNatClampNeg).toNatClampNeg u9 v9; rw [iv]; intro a b hb h9; exact j12_2 a b hb (by omega), hI, hF, hG⟩ (by show (11 - v10.toInt).toNat < (11 - x1_2.toInt).toNat; omega)
    ·
      have f11 := fnle rfl rfl c8
      refine g_aload_n C 2 dX11_layWays_20 rfl ?_
      refine g_get C (.ref (ad 295)) 51 in_X11_layWays_11 (List.mem_of_getElem? (i := 2) rfl) (by decide) (ce_model ad cs _ _) rfl (by decide) rfl rfl dX11_layWays_21 ?_
      refine g_bipush C 10 dX11_layWays_24 (by decide) ?_
      refine g_iload_n C 1 dX11_layWays_26 rfl ?_
      refine g_imul C dX11_layWays_27 ?_
      refine g_ni (fun v12 ev12 => ?_)
      try have fv12 := fmul (by decide : (10 : Int32).toInt = 10) rfl ev12 (by omega) (by omega)
      refine g_iload_n C 0 dX11_layWays_28 rfl ?_
      refine g_iadd C dX11_layWays_29 ?_
      refine g_ni (fun v13 ev13 => ?_)
      try have fv13 := fadd rfl rfl ev13 (by omega) (by omega)
      refine g_lconst C 0 dX11_layWays_30 (by decide) ?_
      have nx1_2 := ixn (x := x1_2) (by omega)
      have nx2_12 := ixn (x := x2_12) (by omega)
      have nv13 := ixn (x := v13) (by omega)
      have iv13 : v13.toNatClampNeg = 10 * x1_2.toNatClampNeg + x2_12.toNatClampNeg := by omega
      refine g_last C (by decide) (ce_m_beats ad cs _ _) (by rw [sJ_k]; rfl) (fin' (n := 100) rfl (by omega) (by omega)) dX11_layWays_31 ?_
      refine g_nmL (fun L14 hL14 => ?_)
      have hG : ∀ k i, k ≠ 295 ∧ k ≠ 296 → L14 k i = L k i := fun k i hk => by (rw [hL14, sJ_at, if_neg (by omega)]; try exact hG k i hk)
      have p296 : L14 296 = L_12 296 := by rw [hL14, sJ_n _ _ _ (by decide)]; try exact p296
      refine g_iconst C 0 dX11_layWays_32 (by decide) ?_
      refine g_istore_n C [(3, .int 0), (2, .int x2_12), (1, .int x1_2), (0, .ref (ad 258))] dX11_layWays_33 (by decide) rfl ?_
      have zy15 : (0 : Int32).toInt = 0 := by decide
      have oth0 : ∀ a b, b < 10 → ¬ (a = x1_2.toNatClampNeg ∧ b = x2_12.toNatClampNeg) → L14 295 (10 * a + b) = L_12 295 (10 * a + b) := by
        intro a b hb hab
        rw [hL14, sJ_at, if_neg (by rw [iv13]; omega)]
      refine g_loop (α := Int32 × MI × ML) (fun a => (41 - a.1.toInt).toNat) (fun a => (0 ≤ a.1.toInt) ∧ (a.1.toInt ≤ (vR M 7 (M 258 27).toNatClampNeg).toInt) ∧ (a.2.2 295 (10 * x1_2.toNatClampNeg + x2_12.toNatClampNeg) = foP (bwP (vR M) x1_2.toNatClampNeg x2_12.toNatClampNeg) (fun i => vR M 8 (40 * (M 258 27).toNatClampNeg + i)) a.1.toNatClampNeg 0) ∧ (∀ u9 v9, v9 < 10 → (u9 < x1_2.toNatClampNeg ∧ v9 < (M 258 2).toNatClampNeg ∨ (u9 = x1_2.toNatClampNeg ∧ v9 < x2_12.toNatClampNeg)) → a.2.2 295 (10 * u9 + v9) = beV (vR M) (fun i => vR M 8 (40 * (M 258 27).toNatClampNeg + i)) (vR M 7 (M 258 27).toNatClampNeg).toNatClampNeg u9 v9) ∧ IR a.2.1 ∧ (∀ k i, True → a.2.1 k i = M k i) ∧ (∀ k i, k ≠ 295 ∧ k ≠ 296 → a.2.2 k i = L k i)) (fun a => a.2.1) (fun a => a.2.2) (fun a => [(3, .int a.1), (2, .int x2_12), (1, .int x1_2), (0, .ref (ad 258))]) ((0 : Int32), M_12, L14) ⟨by show 0 ≤ (0 : Int32).toInt; omega, by show (0 : Int32).toInt ≤ (vR M 7 (M 258 27).toNatClampNeg).toInt; omega, by show L14 295 (10 * x1_2.toNatClampNeg + x2_12.toNatClampNeg) = foP (bwP (vR M) x1_2.toNatClampNeg x2_12.toNatClampNeg) (fun i => vR M 8 (40 * (M 258 27).toNatClampNeg + i)) (0 : Int32).toNatClampNeg 0; rw [hL14, sJ_at, if_pos ⟨rfl, by omega⟩]; rfl, by show ∀ u9 v9, v9 < 10 → (u9 < x1_2.toNatClampNeg ∧ v9 < (M 258 2).toNatClampNeg ∨ (u9 = x1_2.toNatClampNeg ∧ v9 < x2_12.toNatClampNeg)) → L14 295 (10 * u9 + v9) = beV (vR M) (fun i => vR M 8 (40 * (M 258 27).toNatClampNeg + i)) (vR M 7 (M 258 27).toNatClampNeg).toNatClampNeg u9 v9; intro a b hb h9; rw [oth0 a b hb (by omega)]; exact j12_2 a b hb h9, hI, hF, hG⟩ rfl rfl rfl ?_
      rintro ⟨x3_34, M_34, L_34⟩ ⟨j34_0, j34_1, j34_2, j34_3, hI, hF, hG⟩ ih_34
      dsimp only at j34_0 j34_1 j34_2 j34_3 hI hF hG ih_34 ⊢
      have p295 : L_34 295 = L_34 295 := rfl
      have p296 : L_34 296 = L_34 296 := rfl
      have n_x3_34 := ixn (x := x3_34) (by omega)
      have eM : M_34 = M := funext (fun k => funext (fun i => hF k i trivial))
      refine g_iload_n C 0 dX11_layWays_34 rfl ?_
      refine g_aload_n C 3 dX11_layWays_35 rfl ?_
      refine g_get C (.ref (ad 266)) 11 in_X11_layWays_11 (List.mem_of_getElem? (i := 3) rfl) (by decide) (ce_model ad cs _ _) rfl (by decide) rfl rfl dX11_layWays_36 ?_
      refine g_aload_n C 3 dX11_layWays_39 rfl ?_
      refine g_get C (.int (M_34 258 27)) 27 in_X11_layWays_11 (List.mem_of_getElem? (i := 4) rfl) (by decide) (ce_model ad cs _ _) rfl (by decide) rfl rfl dX11_layWays_40 ?_
      refine g_ni (fun v16 ev16 => ?_)
      have gv16 : v16 = M 258 27 := ev16.trans (hF 258 27 trivial)
      have tv16 := congrArg Int32.toInt gv16
      obtain ⟨bv16, dv16⟩ := (show rg 0 7 v16 from (by rw [ev16]; exact hI 258 27))
      refine g_iald C (by decide) (ce_m_boxSize ad cs _ _) (fin' (n := 8) rfl (by omega) (by omega)) dX11_layWays_43 ?_
      refine g_ni (fun v17 ev17 => ?_)
      have gv17 : v17 = M 266 v16.toNatClampNeg := ev17.trans (hF 266 v16.toNatClampNeg trivial)
      have tv17 := congrArg Int32.toInt gv17
      obtain ⟨bv17, dv17⟩ := (show rg 0 40 v17 from (by rw [ev17]; exact hI 266 v16.toNatClampNeg))
      have ts9 : v17.toInt = (vR M 7 (M 258 27).toNatClampNeg).toInt := by rw [gv17, gv16]; rfl
      refine g_icmp_ge C 104 dX11_layWays_44 (by decide) (fun c18 => ?_) (fun c18 => ?_)
      ·
        have f19 := fle rfl rfl c18
        obtain ⟨v20, ev20⟩ : ∃ y : Int32, y = x2_12 + 1 := ⟨_, rfl⟩
        try have fv20 := fadd rfl (by decide : (1 : Int32).toInt = 1) ev20 (by omega) (by omega)
        refine g_iinc C 1 v20 [(2, .int v20), (3, .int x3_34), (1, .int x1_2), (0, .ref (ad 258))] dX11_layWays_104 rfl (by rw [ev20]; rfl) (by decide) rfl ?_
        refine g_goto C 12 dX11_layWays_107 (by decide) ?_
        refine g_lv [0, 2, 3] [(2, .int v20), (1, .int x1_2), (0, .ref (ad 258))] rfl ?_
        have nv := ixn (x := v20) (by omega)
        have iv : v20.toNatClampNeg = x2_12.toNatClampNeg + 1 := by omega
        have e34 : x3_34.toNatClampNeg = (vR M 7 (M 258 27).toNatClampNeg).toNatClampNeg := by omega
        rw [e34] at j34_2
        have hall : ∀ a b, b < 10 → (a < x1_2.toNatClampNeg ∧ b < (M 258 2).toNatClampNeg ∨ (a = x1_2.toNatClampNeg ∧ b < x2_12.toNatClampNeg + 1)) → L_34 295 (10 * a + b) = beV (vR M) (fun i => vR M 8 (40 * (M 258 27).toNatClampNeg + i)) (vR M 7 (M 258 27).toNatClampNeg).toNatClampNeg a b := by
          intro a b hb hab
          by_cases e9 : a = x1_2.toNatClampNeg ∧ b = x2_12.toNatClampNeg
          · rw [e9.1, e9.2]; exact j34_2
          · exact j34_3 a b hb (by omega)
        exact ih_12 (v20, M_34, L_34) ⟨by show 0 ≤ v20.toInt; omega, by show v20.toInt ≤ (M 258 2).toInt; omega, by show ∀ u9 v9, v9 < 10 → (u9 < x1_2.toNatClampNeg ∧ v9 < (M 258 2).toNatClampNeg ∨ (u9 = x1_2.toNatClampNeg ∧ v9 < v20.toNatClampNeg)) → L_34 295 (10 * u9 + v9) = beV (vR M) (fun i => vR M 8 (40 * (M 258 27).toNatClampNeg + i)) (vR M 7 (M 258 27).toNatClampNeg).toNatClampNeg u9 v9; rw [iv]; intro a b hb h9; exact hall a b hb (by omega), hI, hF, hG⟩ (by show (11 - v20.toInt).toNat < (11 - x2_12.toInt).toNat; omega)
      ·
        have f21 := fnle rfl rfl c18
        refine g_aload_n C 3 dX11_layWays_47 rfl ?_
        refine g_iload_n C 0 dX11_layWays_48 rfl ?_
        refine g_callVi C (n := 1) (As := [.int x3_34]) (st := []) (k_X11_ballotAt l D ad cs _ _ x3_34 hI ⟨by omega, by omega⟩ (by rw [eM]; exact hX)) gX11_layWays_X11_ballotAt rfl rfl rfl (by decide +kernel) ⟨Nat.le_of_ble_eq_true rfl, Nat.le_of_ble_eq_true rfl⟩ rfl (Nat.le_of_ble_eq_true rfl) ⟨Nat.zero_le _, Nat.zero_le _⟩ (by decide) (ce_model ad cs _ _) rfl rfl dX11_layWays_49 (fun r22 M23 L24 hr22 => ?_)
        obtain ⟨hq1, hq2, hr22⟩ := hr22
        obtain rfl := hq1.symm
        obtain rfl := hq2.symm
        rw [eM] at hr22
        have tr22 := congrArg Int32.toInt hr22
        have hB9 := hB8 (40 * (M 258 27).toNatClampNeg + x3_34.toNatClampNeg)
        refine g_istore C [(4, .int r22), (3, .int x3_34), (2, .int x2_12), (1, .int x1_2), (0, .ref (ad 258))] dX11_layWays_52 (by decide) rfl ?_
        refine g_aload_n C 4 dX11_layWays_54 rfl ?_
        refine g_get C (.ref (ad 295)) 51 in_X11_layWays_11 (List.mem_of_getElem? (i := 2) rfl) (by decide) (ce_model ad cs _ _) rfl (by decide) rfl rfl dX11_layWays_55 ?_
        refine g_bipush C 10 dX11_layWays_58 (by decide) ?_
        refine g_iload_n C 3 dX11_layWays_60 rfl ?_
        refine g_imul C dX11_layWays_61 ?_
        refine g_ni (fun v25 ev25 => ?_)
        try have fv25 := fmul (by decide : (10 : Int32).toInt = 10) rfl ev25 (by omega) (by omega)
        refine g_iload_n C 2 dX11_layWays_62 rfl ?_
        refine g_iadd C dX11_layWays_63 ?_
        refine g_ni (fun v26 ev26 => ?_)
        try have fv26 := fadd rfl rfl ev26 (by omega) (by omega)
        refine g_dup2 C dX11_layWays_64 rfl rfl ?_
        have nx1_2 := ixn (x := x1_2) (by omega)
        have nx2_12 := ixn (x := x2_12) (by omega)
        have nv26 := ixn (x := v26) (by omega)
        have iv26 : v26.toNatClampNeg = 10 * x1_2.toNatClampNeg + x2_12.toNatClampNeg := by omega
        refine g_lald C (by decide) (ce_m_beats ad cs _ _) (fin' (n := 100) rfl (by omega) (by omega)) dX11_layWays_65 ?_
        refine g_nl (fun v27 ev27 => ?_)
        have gv27 : v27 = L_34 295 v26.toNatClampNeg := ev27.trans (congrFun p295 _)
        have gv27 := cg1L (f := L_34 295) gv27 iv26
        have tv27 := congrArg Int64.toInt gv27
        refine g_iload C 0 dX11_layWays_66 rfl ?_
        refine g_bipush C (-9) dX11_layWays_68 (by decide) ?_
        refine g_icmp_eq C 95 dX11_layWays_70 (by decide) (fun c28 => ?_) (fun c28 => ?_)
        ·
          have f29 := feq rfl (by decide : ((-9) : Int32).toInt = (-9)) c28
          refine g_lconst C 0 dX11_layWays_95 (by decide) ?_
          refine g_ladd C dX11_layWays_96 ?_
          refine g_nl (fun v30 ev30 => ?_)
          try have fv30 := fladd rfl (by decide : (0 : Int64).toInt = 0) ev30 (by omega) (by omega)
          have nx1_2 := ixn (x := x1_2) (by omega)
          have nx2_12 := ixn (x := x2_12) (by omega)
          have nv26 := ixn (x := v26) (by omega)
          have iv26 : v26.toNatClampNeg = 10 * x1_2.toNatClampNeg + x2_12.toNatClampNeg := by omega
          refine g_last C (by decide) (ce_m_beats ad cs _ _) (by rw [sJ_k]; rfl) (fin' (n := 100) rfl (by omega) (by omega)) dX11_layWays_97 ?_
          refine g_nmL (fun L31 hL31 => ?_)
          have hG : ∀ k i, k ≠ 295 ∧ k ≠ 296 → L31 k i = L k i := fun k i hk => by (rw [hL31, sJ_at, if_neg (by omega)]; try exact hG k i hk)
          have p296 : L31 296 = L_34 296 := by rw [hL31, sJ_n _ _ _ (by decide)]; try exact p296
          obtain ⟨v32, ev32⟩ : ∃ y : Int32, y = x3_34 + 1 := ⟨_, rfl⟩
          try have fv32 := fadd rfl (by decide : (1 : Int32).toInt = 1) ev32 (by omega) (by omega)
          refine g_iinc C 1 v32 [(3, .int v32), (4, .int r22), (2, .int x2_12), (1, .int x1_2), (0, .ref (ad 258))] dX11_layWays_98 rfl (by rw [ev32]; rfl) (by decide) rfl ?_
          refine g_goto C 34 dX11_layWays_101 (by decide) ?_
          refine g_lv [0, 2, 3, 4] [(3, .int v32), (2, .int x2_12), (1, .int x1_2), (0, .ref (ad 258))] rfl ?_
          have nv := ixn (x := v32) (by omega)
          have iv : v32.toNatClampNeg = x3_34.toNatClampNeg + 1 := by omega
          have hL9 : L31 295 = fun c => if c = 10 * x1_2.toNatClampNeg + x2_12.toNatClampNeg then v30 else L_34 295 c := by
            funext c
            rw [hL31, sJ_at, iv26]
            by_cases e9 : c = 10 * x1_2.toNatClampNeg + x2_12.toNatClampNeg
            · rw [if_pos ⟨rfl, e9⟩, if_pos e9]
            · rw [if_neg (fun h => e9 h.2), if_neg e9]
          have cur : L31 295 (10 * x1_2.toNatClampNeg + x2_12.toNatClampNeg) = foP (bwP (vR M) x1_2.toNatClampNeg x2_12.toNatClampNeg) (fun i => vR M 8 (40 * (M 258 27).toNatClampNeg + i)) (x3_34.toNatClampNeg + 1) 0 := by
            rw [hL9]
            show (if _ then v30 else _) = _
            rw [if_pos rfl]
            by_cases e9 : (vR M 8 (40 * (M 258 27).toNatClampNeg + x3_34.toNatClampNeg)).toInt = -9
            · rw [foP_e (p := (fun i => vR M 8 (40 * (M 258 27).toNatClampNeg + i))) e9, ← j34_2]; first | (exfalso; omega) | (simp only [ev30, gv27, ev26, ev25, gv17, gv16, ev13, ev12, gv7, gv2]; exact Int64.add_zero _)
            · rw [foP_s (p := (fun i => vR M 8 (40 * (M 258 27).toNatClampNeg + i))) e9]
              show _ = (if ahV (vR M) (vR M 8 (40 * (M 258 27).toNatClampNeg + x3_34.toNatClampNeg)).toNatClampNeg x1_2.toNatClampNeg x2_12.toNatClampNeg then foP (bwP (vR M) x1_2.toNatClampNeg x2_12.toNatClampNeg) (fun i => vR M 8 (40 * (M 258 27).toNatClampNeg + i)) x3_34.toNatClampNeg 0 + (vR M 3 (vR M 8 (40 * (M 258 27).toNatClampNeg + x3_34.toNatClampNeg)).toNatClampNeg).toInt64 else foP (bwP (vR M) x1_2.toNatClampNeg x2_12.toNatClampNeg) (fun i => vR M 8 (40 * (M 258 27).toNatClampNeg + i)) x3_34.toNatClampNeg 0)
              rw [← j34_2]
              first | (exfalso; omega) | (rw [if_pos hah]; simp only [hr22, ev30, gv27, ev26, ev25, gv17, gv16, ev13, ev12, gv7, gv2]; rfl) | (rw [if_neg hah]; simp only [ev30, gv27, ev26, ev25, gv17, gv16, ev13, ev12, gv7, gv2]; exact Int64.add_zero _)
          have oth : ∀ a b, b < 10 → ¬ (a = x1_2.toNatClampNeg ∧ b = x2_12.toNatClampNeg) → L31 295 (10 * a + b) = L_34 295 (10 * a + b) := by
            intro a b hb hab
            rw [hL9]
            show (if 10 * a + b = 10 * x1_2.toNatClampNeg + x2_12.toNatClampNeg then _ else _) = _
            rw [if_neg (by omega)]
          exact ih_34 (v32, M_34, L31) ⟨by show 0 ≤ v32.toInt; omega, by show v32.toInt ≤ (vR M 7 (M 258 27).toNatClampNeg).toInt; omega, by show L31 295 (10 * x1_2.toNatClampNeg + x2_12.toNatClampNeg) = foP (bwP (vR M) x1_2.toNatClampNeg x2_12.toNatClampNeg) (fun i => vR M 8 (40 * (M 258 27).toNatClampNeg + i)) v32.toNatClampNeg 0; rw [iv]; exact cur, by show ∀ u9 v9, v9 < 10 → (u9 < x1_2.toNatClampNeg ∧ v9 < (M 258 2).toNatClampNeg ∨ (u9 = x1_2.toNatClampNeg ∧ v9 < x2_12.toNatClampNeg)) → L31 295 (10 * u9 + v9) = beV (vR M) (fun i => vR M 8 (40 * (M 258 27).toNatClampNeg + i)) (vR M 7 (M 258 27).toNatClampNeg).toNatClampNeg u9 v9; intro a b hb h9; rw [oth a b hb (by omega)]; exact j34_3 a b hb h9, hI, hF, hG⟩ (by show (41 - v32.toInt).toNat < (41 - x3_34.toInt).toNat; omega)
        ·
          have f33 := fne rfl (by decide : ((-9) : Int32).toInt = (-9)) c28
          refine g_aload_n C 4 dX11_layWays_73 rfl ?_
          refine g_iload C 0 dX11_layWays_74 rfl ?_
          refine g_iload_n C 3 dX11_layWays_76 rfl ?_
          refine g_iload_n C 2 dX11_layWays_77 rfl ?_
          refine g_callVi C (n := 3) (As := [.int r22, .int x1_2, .int x2_12]) (st := [.long v27, .int v26, .ref (ad 295)]) (k_X11_isAheadOn l D ad cs _ _ r22 x1_2 x2_12 hI ⟨by omega, by omega⟩ ⟨by omega, by omega⟩) gX11_layWays_X11_isAheadOn rfl rfl rfl (by decide +kernel) ⟨Nat.le_of_ble_eq_true rfl, Nat.le_of_ble_eq_true rfl⟩ rfl (Nat.le_of_ble_eq_true rfl) ⟨Nat.zero_le _, Nat.zero_le _⟩ (by decide) (ce_model ad cs _ _) rfl rfl dX11_layWays_78 (fun r34 M35 L36 hr34 => ?_)
          obtain ⟨hq1, hq2, hr34⟩ := hr34
          obtain rfl := hq1.symm
          obtain rfl := hq2.symm
          have eM2 : M_34 = M := funext (fun k => funext (fun i => hF k i trivial))
          rw [eM2, hr22] at hr34
          obtain ⟨bar34, bbr34⟩ := zo_b hr34
          refine g_if_eq C 95 dX11_layWays_81 (by decide) (fun c37 => ?_) (fun c37 => ?_)
          ·
            have f38 := feq rfl (by decide : (0 : Int32).toInt = 0) c37
            have hah := zo_f hr34 c37
            refine g_lconst C 0 dX11_layWays_95 (by decide) ?_
            refine g_ladd C dX11_layWays_96 ?_
            refine g_nl (fun v39 ev39 => ?_)
            try have fv39 := fladd rfl (by decide : (0 : Int64).toInt = 0) ev39 (by omega) (by omega)
            have nx1_2 := ixn (x := x1_2) (by omega)
            have nx2_12 := ixn (x := x2_12) (by omega)
            have nv26 := ixn (x := v26) (by omega)
            have iv26 : v26.toNatClampNeg = 10 * x1_2.toNatClampNeg + x2_12.toNatClampNeg := by omega
            refine g_last C (by decide) (ce_m_beats ad cs _ _) (by rw [sJ_k]; rfl) (fin' (n := 100) rfl (by omega) (by omega)) dX11_layWays_97 ?_
            refine g_nmL (fun L40 hL40 => ?_)
            have hG : ∀ k i, k ≠ 295 ∧ k ≠ 296 → L40 k i = L k i := fun k i hk => by (rw [hL40, sJ_at, if_neg (by omega)]; try exact hG k i hk)
            have p296 : L40 296 = L_34 296 := by rw [hL40, sJ_n _ _ _ (by decide)]; try exact p296
            obtain ⟨v41, ev41⟩ : ∃ y : Int32, y = x3_34 + 1 := ⟨_, rfl⟩
            try have fv41 := fadd rfl (by decide : (1 : Int32).toInt = 1) ev41 (by omega) (by omega)
            refine g_iinc C 1 v41 [(3, .int v41), (4, .int r22), (2, .int x2_12), (1, .int x1_2), (0, .ref (ad 258))] dX11_layWays_98 rfl (by rw [ev41]; rfl) (by decide) rfl ?_
            refine g_goto C 34 dX11_layWays_101 (by decide) ?_
            refine g_lv [0, 2, 3, 4] [(3, .int v41), (2, .int x2_12), (1, .int x1_2), (0, .ref (ad 258))] rfl ?_
            have nv := ixn (x := v41) (by omega)
            have iv : v41.toNatClampNeg = x3_34.toNatClampNeg + 1 := by omega
            have hL9 : L40 295 = fun c => if c = 10 * x1_2.toNatClampNeg + x2_12.toNatClampNeg then v39 else L_34 295 c := by
              funext c
              rw [hL40, sJ_at, iv26]
              by_cases e9 : c = 10 * x1_2.toNatClampNeg + x2_12.toNatClampNeg
              · rw [if_pos ⟨rfl, e9⟩, if_pos e9]
              · rw [if_neg (fun h => e9 h.2), if_neg e9]
            have cur : L40 295 (10 * x1_2.toNatClampNeg + x2_12.toNatClampNeg) = foP (bwP (vR M) x1_2.toNatClampNeg x2_12.toNatClampNeg) (fun i => vR M 8 (40 * (M 258 27).toNatClampNeg + i)) (x3_34.toNatClampNeg + 1) 0 := by
              rw [hL9]
              show (if _ then v39 else _) = _
              rw [if_pos rfl]
              by_cases e9 : (vR M 8 (40 * (M 258 27).toNatClampNeg + x3_34.toNatClampNeg)).toInt = -9
              · rw [foP_e (p := (fun i => vR M 8 (40 * (M 258 27).toNatClampNeg + i))) e9, ← j34_2]; first | (exfalso; omega) | (simp only [ev39, gv27, ev26, ev25, gv17, gv16, ev13, ev12, gv7, gv2]; exact Int64.add_zero _)
              · rw [foP_s (p := (fun i => vR M 8 (40 * (M 258 27).toNatClampNeg + i))) e9]
                show _ = (if ahV (vR M) (vR M 8 (40 * (M 258 27).toNatClampNeg + x3_34.toNatClampNeg)).toNatClampNeg x1_2.toNatClampNeg x2_12.toNatClampNeg then foP (bwP (vR M) x1_2.toNatClampNeg x2_12.toNatClampNeg) (fun i => vR M 8 (40 * (M 258 27).toNatClampNeg + i)) x3_34.toNatClampNeg 0 + (vR M 3 (vR M 8 (40 * (M 258 27).toNatClampNeg + x3_34.toNatClampNeg)).toNatClampNeg).toInt64 else foP (bwP (vR M) x1_2.toNatClampNeg x2_12.toNatClampNeg) (fun i => vR M 8 (40 * (M 258 27).toNatClampNeg + i)) x3_34.toNatClampNeg 0)
                rw [← j34_2]
                first | (exfalso; omega) | (rw [if_pos hah]; simp only [hr22, ev39, gv27, ev26, ev25, gv17, gv16, ev13, ev12, gv7, gv2]; rfl) | (rw [if_neg hah]; simp only [ev39, gv27, ev26, ev25, gv17, gv16, ev13, ev12, gv7, gv2]; exact Int64.add_zero _)
            have oth : ∀ a b, b < 10 → ¬ (a = x1_2.toNatClampNeg ∧ b = x2_12.toNatClampNeg) → L40 295 (10 * a + b) = L_34 295 (10 * a + b) := by
              intro a b hb hab
              rw [hL9]
              show (if 10 * a + b = 10 * x1_2.toNatClampNeg + x2_12.toNatClampNeg then _ else _) = _
              rw [if_neg (by omega)]
            exact ih_34 (v41, M_34, L40) ⟨by show 0 ≤ v41.toInt; omega, by show v41.toInt ≤ (vR M 7 (M 258 27).toNatClampNeg).toInt; omega, by show L40 295 (10 * x1_2.toNatClampNeg + x2_12.toNatClampNeg) = foP (bwP (vR M) x1_2.toNatClampNeg x2_12.toNatClampNeg) (fun i => vR M 8 (40 * (M 258 27).toNatClampNeg + i)) v41.toNatClampNeg 0; rw [iv]; exact cur, by show ∀ u9 v9, v9 < 10 → (u9 < x1_2.toNatClampNeg ∧ v9 < (M 258 2).toNatClampNeg ∨ (u9 = x1_2.toNatClampNeg ∧ v9 < x2_12.toNatClampNeg)) → L40 295 (10 * u9 + v9) = beV (vR M) (fun i => vR M 8 (40 * (M 258 27).toNatClampNeg + i)) (vR M 7 (M 258 27).toNatClampNeg).toNatClampNeg u9 v9; intro a b hb h9; rw [oth a b hb (by omega)]; exact j34_3 a b hb h9, hI, hF, hG⟩ (by show (41 - v41.toInt).toNat < (41 - x3_34.toInt).toNat; omega)
          ·
            have f42 := fne rfl (by decide : (0 : Int32).toInt = 0) c37
            have hah := zo_t hr34 c37
            refine g_aload_n C 4 dX11_layWays_84 rfl ?_
            refine g_get C (.ref (ad 262)) 6 in_X11_layWays_11 (List.mem_of_getElem? (i := 5) rfl) (by decide) (ce_model ad cs _ _) rfl (by decide) rfl rfl dX11_layWays_85 ?_
            refine g_iload C 0 dX11_layWays_88 rfl ?_
            refine g_iald C (by decide) (ce_m_papersOf ad cs _ _) (fin' (n := 60) rfl (by omega) (by omega)) dX11_layWays_90 ?_
            refine g_ni (fun v43 ev43 => ?_)
            have gv43 : v43 = M 262 r22.toNatClampNeg := ev43.trans (hF 262 r22.toNatClampNeg trivial)
            have tv43 := congrArg Int32.toInt gv43
            obtain ⟨bv43, dv43⟩ := (show rg 0 100000 v43 from (by rw [ev43]; exact hI 262 r22.toNatClampNeg))
            refine g_i2l C dX11_layWays_91 ?_
            refine g_nl (fun v44 ev44 => ?_)
            have fv44 := fi2l rfl ev44
            refine g_goto C 96 dX11_layWays_92 (by decide) ?_
            refine g_ladd C dX11_layWays_96 ?_
            refine g_nl (fun v45 ev45 => ?_)
            try have fv45 := fladd rfl rfl ev45 (by omega) (by omega)
            have nx1_2 := ixn (x := x1_2) (by omega)
            have nx2_12 := ixn (x := x2_12) (by omega)
            have nv26 := ixn (x := v26) (by omega)
            have iv26 : v26.toNatClampNeg = 10 * x1_2.toNatClampNeg + x2_12.toNatClampNeg := by omega
            refine g_last C (by decide) (ce_m_beats ad cs _ _) (by rw [sJ_k]; rfl) (fin' (n := 100) rfl (by omega) (by omega)) dX11_layWays_97 ?_
            refine g_nmL (fun L46 hL46 => ?_)
            have hG : ∀ k i, k ≠ 295 ∧ k ≠ 296 → L46 k i = L k i := fun k i hk => by (rw [hL46, sJ_at, if_neg (by omega)]; try exact hG k i hk)
            have p296 : L46 296 = L_34 296 := by rw [hL46, sJ_n _ _ _ (by decide)]; try exact p296
            obtain ⟨v47, ev47⟩ : ∃ y : Int32, y = x3_34 + 1 := ⟨_, rfl⟩
            try have fv47 := fadd rfl (by decide : (1 : Int32).toInt = 1) ev47 (by omega) (by omega)
            refine g_iinc C 1 v47 [(3, .int v47), (4, .int r22), (2, .int x2_12), (1, .int x1_2), (0, .ref (ad 258))] dX11_layWays_98 rfl (by rw [ev47]; rfl) (by decide) rfl ?_
            refine g_goto C 34 dX11_layWays_101 (by decide) ?_
            refine g_lv [0, 2, 3, 4] [(3, .int v47), (2, .int x2_12), (1, .int x1_2), (0, .ref (ad 258))] rfl ?_
            have nv := ixn (x := v47) (by omega)
            have iv : v47.toNatClampNeg = x3_34.toNatClampNeg + 1 := by omega
            have hL9 : L46 295 = fun c => if c = 10 * x1_2.toNatClampNeg + x2_12.toNatClampNeg then v45 else L_34 295 c := by
              funext c
              rw [hL46, sJ_at, iv26]
              by_cases e9 : c = 10 * x1_2.toNatClampNeg + x2_12.toNatClampNeg
              · rw [if_pos ⟨rfl, e9⟩, if_pos e9]
              · rw [if_neg (fun h => e9 h.2), if_neg e9]
            have cur : L46 295 (10 * x1_2.toNatClampNeg + x2_12.toNatClampNeg) = foP (bwP (vR M) x1_2.toNatClampNeg x2_12.toNatClampNeg) (fun i => vR M 8 (40 * (M 258 27).toNatClampNeg + i)) (x3_34.toNatClampNeg + 1) 0 := by
              rw [hL9]
              show (if _ then v45 else _) = _
              rw [if_pos rfl]
              by_cases e9 : (vR M 8 (40 * (M 258 27).toNatClampNeg + x3_34.toNatClampNeg)).toInt = -9
              · rw [foP_e (p := (fun i => vR M 8 (40 * (M 258 27).toNatClampNeg + i))) e9, ← j34_2]; first | (exfalso; omega) | (simp only [ev45, ev44, gv43, gv27, ev26, ev25, gv17, gv16, ev13, ev12, gv7, gv2]; exact Int64.add_zero _)
              · rw [foP_s (p := (fun i => vR M 8 (40 * (M 258 27).toNatClampNeg + i))) e9]
                show _ = (if ahV (vR M) (vR M 8 (40 * (M 258 27).toNatClampNeg + x3_34.toNatClampNeg)).toNatClampNeg x1_2.toNatClampNeg x2_12.toNatClampNeg then foP (bwP (vR M) x1_2.toNatClampNeg x2_12.toNatClampNeg) (fun i => vR M 8 (40 * (M 258 27).toNatClampNeg + i)) x3_34.toNatClampNeg 0 + (vR M 3 (vR M 8 (40 * (M 258 27).toNatClampNeg + x3_34.toNatClampNeg)).toNatClampNeg).toInt64 else foP (bwP (vR M) x1_2.toNatClampNeg x2_12.toNatClampNeg) (fun i => vR M 8 (40 * (M 258 27).toNatClampNeg + i)) x3_34.toNatClampNeg 0)
                rw [← j34_2]
                first | (exfalso; omega) | (rw [if_pos hah]; simp only [hr22, ev45, ev44, gv43, gv27, ev26, ev25, gv17, gv16, ev13, ev12, gv7, gv2]; rfl) | (rw [if_neg hah]; simp only [ev45, ev44, gv43, gv27, ev26, ev25, gv17, gv16, ev13, ev12, gv7, gv2]; exact Int64.add_zero _)
            have oth : ∀ a b, b < 10 → ¬ (a = x1_2.toNatClampNeg ∧ b = x2_12.toNatClampNeg) → L46 295 (10 * a + b) = L_34 295 (10 * a + b) := by
              intro a b hb hab
              rw [hL9]
              show (if 10 * a + b = 10 * x1_2.toNatClampNeg + x2_12.toNatClampNeg then _ else _) = _
              rw [if_neg (by omega)]
            exact ih_34 (v47, M_34, L46) ⟨by show 0 ≤ v47.toInt; omega, by show v47.toInt ≤ (vR M 7 (M 258 27).toNatClampNeg).toInt; omega, by show L46 295 (10 * x1_2.toNatClampNeg + x2_12.toNatClampNeg) = foP (bwP (vR M) x1_2.toNatClampNeg x2_12.toNatClampNeg) (fun i => vR M 8 (40 * (M 258 27).toNatClampNeg + i)) v47.toNatClampNeg 0; rw [iv]; exact cur, by show ∀ u9 v9, v9 < 10 → (u9 < x1_2.toNatClampNeg ∧ v9 < (M 258 2).toNatClampNeg ∨ (u9 = x1_2.toNatClampNeg ∧ v9 < x2_12.toNatClampNeg)) → L46 295 (10 * u9 + v9) = beV (vR M) (fun i => vR M 8 (40 * (M 258 27).toNatClampNeg + i)) (vR M 7 (M 258 27).toNatClampNeg).toNatClampNeg u9 v9; intro a b hb h9; rw [oth a b hb (by omega)]; exact j34_3 a b hb h9, hI, hF, hG⟩ (by show (41 - v47.toInt).toNat < (41 - x3_34.toInt).toNat; omega)
