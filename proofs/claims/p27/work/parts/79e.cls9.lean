set_option maxHeartbeats 4000000 in
set_option maxRecDepth 100000 in
theorem v_X10_firstUnlike (l : Launch) (D : va_G) (ad : Nat → Nat) (cs : Nat → ClassId) (M : MI) (L : ML) (x : Int32) (y : Int32) (hI : IC M) (hx : hasX (vC M) x) (hy : 0 ≤ y.toInt) (h8 : ∀ i : Nat, (vC M 8 i).toInt = -9 ∨ (0 ≤ (vC M 8 i).toInt ∧ (vC M 8 i).toInt < (vC M 0 1).toInt)) (hS : ∀ b, 0 ≤ (vC M 2 b).toInt ∧ (vC M 2 b).toInt ≤ 3) : Ci l yX10_firstUnlike wsX10_firstUnlike ({ frames := 2, cells := 0, slots := 0, locals := 46 }) D ad cs [.ref (ad 0), .int x, .int y] M L (fun r M1 L1 => M1 = M ∧ L1 = L ∧ (r = unF (vC M) (x.toNatClampNeg) y ((vC M 7 (x.toNatClampNeg)).toNatClampNeg) 0)) := by
  refine enter_i RX10 rfl [(0, .ref (ad 0)), (1, .int x), (2, .int y)] rfl (Nat.le_of_ble_eq_true rfl) (by decide +kernel) rfl ?_
  intro p e s m below meth c C hr
  have hF : ∀ k i, True → M k i = M k i := fun _ _ _ => rfl
  have hG : ∀ k i, True → L k i = L k i := fun _ _ _ => rfl
  have w0 : (vC M 0 0).toInt = (M 1 0).toInt := rfl
  have w1 : (vC M 0 1).toInt = (M 3 0).toInt := rfl
  have w2 : (vC M 0 2).toInt = (M 68 0).toInt := rfl
  have w3 : (vC M 0 3).toInt = (M 81 0).toInt := rfl
  obtain ⟨y0a, y0b⟩ := (show rg 0 10 (M 1 0) from hI 1 0 rfl)
  obtain ⟨y1a, y1b⟩ := (show rg 0 60 (M 3 0) from hI 3 0 rfl)
  obtain ⟨y2a, y2b⟩ := (show rg 0 8 (M 68 0) from hI 68 0 rfl)
  obtain ⟨y3a, y3b⟩ := (show rg 0 20 (M 81 0) from hI 81 0 rfl)
  obtain ⟨hx1, hx2⟩ := hx
  obtain ⟨sza, szb⟩ := (show rg 0 40 (vC M 7 x.toNatClampNeg) from hI 70 _)
  have ns := ixn (x := vC M 7 x.toNatClampNeg) sza
  have nx := ixn (x := x) (by omega)
  refine g_iconst C 0 dX10_firstUnlike_0 (by decide) ?_
  refine g_istore_n C [(3, .int 0), (0, .ref (ad 0)), (1, .int x), (2, .int y)] dX10_firstUnlike_1 (by decide) rfl ?_
  have zy1 : (0 : Int32).toInt = 0 := by decide
  refine g_loop (α := Int32 × MI × ML) (fun a => (41 - a.1.toInt).toNat) (fun a => (0 ≤ a.1.toInt) ∧ (a.1.toInt ≤ (vC M 7 (x.toNatClampNeg)).toInt) ∧ (unF (vC M) (x.toNatClampNeg) y ((vC M 7 x.toNatClampNeg).toNatClampNeg - a.1.toNatClampNeg) (a.1.toNatClampNeg) = unF (vC M) (x.toNatClampNeg) y (vC M 7 x.toNatClampNeg).toNatClampNeg 0) ∧ IC a.2.1 ∧ (∀ k i, True → a.2.1 k i = M k i) ∧ (∀ k i, True → a.2.2 k i = L k i)) (fun a => a.2.1) (fun a => a.2.2) (fun a => [(3, .int a.1), (0, .ref (ad 0)), (1, .int x), (2, .int y)]) ((0 : Int32), M, L) ⟨by show 0 ≤ (0 : Int32).toInt; omega, by show (0 : Int32).toInt ≤ (vC M 7 (x.toNatClampNeg)).toInt; omega, by show unF (vC M) (x.toNatClampNeg) y ((vC M 7 x.toNatClampNeg).toNatClampNeg - (0 : Int32).toNatClampNeg) ((0 : Int32).toNatClampNeg) = unF (vC M) (x.toNatClampNeg) y (vC M 7 x.toNatClampNeg).toNatClampNeg 0; rfl, hI, hF, hG⟩ rfl rfl rfl ?_
  rintro ⟨x3_2, M_2, L_2⟩ ⟨j2_0, j2_1, j2_2, hI, hF, hG⟩ ih_2
  dsimp only at j2_0 j2_1 j2_2 hI hF hG ih_2 ⊢
  have n3 := ixn (x := x3_2) (by omega)
  refine g_iload_n C 0 dX10_firstUnlike_2 rfl ?_
  refine g_aload_n C 1 dX10_firstUnlike_3 rfl ?_
  refine g_get C (.ref (ad 68)) 2 in_X10_firstUnlike_10 (List.mem_of_getElem? (i := 1) rfl) (by decide) (ce_house ad cs _ _) rfl (by decide) rfl rfl dX10_firstUnlike_4 ?_
  refine g_get C (.ref (ad 70)) 2 in_X10_firstUnlike_1 (List.mem_of_getElem? (i := 2) rfl) (by decide) (ce_box ad cs _ _) rfl (by decide) rfl rfl dX10_firstUnlike_7 ?_
  refine g_iload_n C 2 dX10_firstUnlike_10 rfl ?_
  have nx := ixn (x := x) (by omega)
  refine g_iald C (by decide) (ce_xsize ad cs _ _) (fin' (n := 8) rfl (by omega) (by omega)) dX10_firstUnlike_11 ?_
  refine g_ni (fun v2 ev2 => ?_)
  have gv2 : v2 = vC M 7 x.toNatClampNeg := ev2.trans (hF 70 x.toNatClampNeg trivial)
  have tv2 := congrArg Int32.toInt gv2
  obtain ⟨bv2, dv2⟩ := (show rg 0 40 v2 from (by rw [ev2]; exact hI 70 x.toNatClampNeg))
  refine g_icmp_ge C 61 dX10_firstUnlike_12 (by decide) (fun c3 => ?_) (fun c3 => ?_)
  ·
    have f4 := fle rfl rfl c3
    refine g_bipush C (-9) dX10_firstUnlike_61 (by decide) ?_
    have zr9 : ((-9) : Int32).toInt = (-9) := by decide
    exact g_iret C hr ⟨funext (fun k => funext (fun i => hF k i trivial)), funext (fun k => funext (fun i => hG k i trivial)), (by rw [← j2_2, unF_end (by omega)])⟩ dX10_firstUnlike_63
  ·
    have f5 := fnle rfl rfl c3
    refine g_aload_n C 1 dX10_firstUnlike_15 rfl ?_
    refine g_get C (.ref (ad 68)) 2 in_X10_firstUnlike_10 (List.mem_of_getElem? (i := 1) rfl) (by decide) (ce_house ad cs _ _) rfl (by decide) rfl rfl dX10_firstUnlike_16 ?_
    refine g_get C (.ref (ad 71)) 3 in_X10_firstUnlike_1 (List.mem_of_getElem? (i := 3) rfl) (by decide) (ce_box ad cs _ _) rfl (by decide) rfl rfl dX10_firstUnlike_19 ?_
    refine g_iload_n C 2 dX10_firstUnlike_22 rfl ?_
    have hi6 : vp_in x 8 := (fin' (n := 8) rfl (by omega) (by omega))
    have nhi6 := tn hi6
    have mhi6 := ixn (x := x) (by omega)
    refine g_aald C (by decide) (ce_xplacem ad cs _ _) rfl hi6 dX10_firstUnlike_23 ?_
    refine g_iload_n C 0 dX10_firstUnlike_24 rfl ?_
    have nx3_2 := ixn (x := x3_2) (by omega)
    refine g_iald C (by omega) (ce_xplace ad cs _ _ nhi6) (fin' (n := 40) rfl (by omega) (by omega)) dX10_firstUnlike_25 ?_
    refine g_ni (fun v7 ev7 => ?_)
    have gv7 := ev7.trans (hF (73 + x.toNatClampNeg) x3_2.toNatClampNeg trivial)
    have gv7 := gv7.trans (vC8 (M := M) (by omega) (by omega) (by omega)).symm
    have tv7 := congrArg Int32.toInt gv7
    refine g_istore C [(4, .int v7), (3, .int x3_2), (0, .ref (ad 0)), (1, .int x), (2, .int y)] dX10_firstUnlike_26 (by decide) rfl ?_
    have h89 := h8 (40 * x.toNatClampNeg + x3_2.toNatClampNeg)
    have ve9 : v7 = vC M 8 (40 * x.toNatClampNeg + x3_2.toNatClampNeg) := by simp only [gv7, gv2]
    refine g_aload_n C 2 dX10_firstUnlike_28 rfl ?_
    refine g_get C (.ref (ad 3)) 1 in_X10_firstUnlike_10 (List.mem_of_getElem? (i := 4) rfl) (by decide) (ce_house ad cs _ _) rfl (by decide) rfl rfl dX10_firstUnlike_29 ?_
    refine g_iload C 0 dX10_firstUnlike_32 rfl ?_
    refine g_callVi C (n := 1) (As := [.int v7]) (st := []) (c_X0_has l D ad cs _ _ v7 ) gX10_firstUnlike_X0_has rfl rfl rfl (by decide +kernel) ⟨Nat.le_of_ble_eq_true rfl, Nat.le_of_ble_eq_true rfl⟩ rfl (Nat.le_of_ble_eq_true rfl) ⟨Nat.zero_le _, Nat.zero_le _⟩ (by decide) (ce_ball ad cs _ _) rfl rfl dX10_firstUnlike_34 (fun r8 M9 L10 hr8 => ?_)
    obtain ⟨hq1, hq2, hr8⟩ := hr8
    obtain rfl := hq1.symm
    obtain rfl := hq2.symm
    have hr8 := zo_has hr8
    rw [show M_2 3 0 = M 3 0 from hF 3 0 trivial] at hr8
    obtain ⟨bar8, bbr8⟩ := zo_b hr8
    refine g_if_eq C 55 dX10_firstUnlike_37 (by decide) (fun c11 => ?_) (fun c11 => ?_)
    ·
      have f12 := feq rfl (by decide : (0 : Int32).toInt = 0) c11
      have pr8 := zo_f hr8 c11
      try dsimp only [hasC, hasB, hasX, hasM, ofS, ofK, bt] at pr8
      obtain ⟨v13, ev13⟩ : ∃ y : Int32, y = x3_2 + 1 := ⟨_, rfl⟩
      try have fv13 := fadd rfl (by decide : (1 : Int32).toInt = 1) ev13 (by omega) (by omega)
      refine g_iinc C 1 v13 [(3, .int v13), (4, .int v7), (0, .ref (ad 0)), (1, .int x), (2, .int y)] dX10_firstUnlike_55 rfl (by rw [ev13]; rfl) (by decide) rfl ?_
      refine g_goto C 2 dX10_firstUnlike_58 (by decide) ?_
      refine g_lv [0, 2, 3, 4] [(3, .int v13), (0, .ref (ad 0)), (1, .int x), (2, .int y)] rfl ?_
      have nv := ixn (x := v13) (by omega)
      have iv : v13.toNatClampNeg = x3_2.toNatClampNeg + 1 := by omega
      have hno : ¬ ((vC M 8 (40 * x.toNatClampNeg + x3_2.toNatClampNeg)).toInt ≠ -9 ∧ ¬ ofS (vC M 2 (vC M 8 (40 * x.toNatClampNeg + x3_2.toNatClampNeg)).toNatClampNeg) y) := by rw [← ve9]; dsimp only [ofS] at *; omega
      exact ih_2 (v13, M_2, L_2) ⟨by show 0 ≤ v13.toInt; omega, by show v13.toInt ≤ (vC M 7 (x.toNatClampNeg)).toInt; omega, by show unF (vC M) (x.toNatClampNeg) y ((vC M 7 x.toNatClampNeg).toNatClampNeg - v13.toNatClampNeg) (v13.toNatClampNeg) = unF (vC M) (x.toNatClampNeg) y (vC M 7 x.toNatClampNeg).toNatClampNeg 0; rw [iv, ← j2_2, unF_go (k := x3_2.toNatClampNeg) (by omega) hno], hI, hF, hG⟩ (by show (41 - v13.toInt).toNat < (41 - x3_2.toInt).toNat; omega)
    ·
      have f14 := fne rfl (by decide : (0 : Int32).toInt = 0) c11
      have pr8 := zo_t hr8 c11
      try dsimp only [hasC, hasB, hasX, hasM, ofS, ofK, bt] at pr8
      refine g_aload_n C 2 dX10_firstUnlike_40 rfl ?_
      refine g_get C (.ref (ad 3)) 1 in_X10_firstUnlike_10 (List.mem_of_getElem? (i := 4) rfl) (by decide) (ce_house ad cs _ _) rfl (by decide) rfl rfl dX10_firstUnlike_41 ?_
      refine g_iload C 0 dX10_firstUnlike_44 rfl ?_
      refine g_iload_n C 4 dX10_firstUnlike_46 rfl ?_
      refine g_callVi C (n := 2) (As := [.int v7, .int y]) (st := []) (v_X0_isOf l D ad cs _ _ v7 y hI ⟨by omega, by omega⟩ hy (by have eM : M_2 = M := funext (fun k => funext (fun i => hF k i trivial)); rw [eM]; exact hS)) gX10_firstUnlike_X0_isOf rfl rfl rfl (by decide +kernel) ⟨Nat.le_of_ble_eq_true rfl, Nat.le_of_ble_eq_true rfl⟩ rfl (Nat.le_of_ble_eq_true rfl) ⟨Nat.zero_le _, Nat.zero_le _⟩ (by decide) (ce_ball ad cs _ _) rfl rfl dX10_firstUnlike_47 (fun r15 M16 L17 hr15 => ?_)
      obtain ⟨hq1, hq2, hr15⟩ := hr15
      obtain rfl := hq1.symm
      obtain rfl := hq2.symm
      have eM : M_2 = M := funext (fun k => funext (fun i => hF k i trivial))
      rw [eM] at hr15
      obtain ⟨bar15, bbr15⟩ := zo_b hr15
      refine g_if_ne C 55 dX10_firstUnlike_50 (by decide) (fun c18 => ?_) (fun c18 => ?_)
      ·
        have f19 := fne rfl (by decide : (0 : Int32).toInt = 0) c18
        have pr15 := zo_t hr15 c18
        try dsimp only [hasC, hasB, hasX, hasM, ofS, ofK, bt] at pr15
        obtain ⟨v20, ev20⟩ : ∃ y : Int32, y = x3_2 + 1 := ⟨_, rfl⟩
        try have fv20 := fadd rfl (by decide : (1 : Int32).toInt = 1) ev20 (by omega) (by omega)
        refine g_iinc C 1 v20 [(3, .int v20), (4, .int v7), (0, .ref (ad 0)), (1, .int x), (2, .int y)] dX10_firstUnlike_55 rfl (by rw [ev20]; rfl) (by decide) rfl ?_
        refine g_goto C 2 dX10_firstUnlike_58 (by decide) ?_
        refine g_lv [0, 2, 3, 4] [(3, .int v20), (0, .ref (ad 0)), (1, .int x), (2, .int y)] rfl ?_
        have nv := ixn (x := v20) (by omega)
        have iv : v20.toNatClampNeg = x3_2.toNatClampNeg + 1 := by omega
        have hno : ¬ ((vC M 8 (40 * x.toNatClampNeg + x3_2.toNatClampNeg)).toInt ≠ -9 ∧ ¬ ofS (vC M 2 (vC M 8 (40 * x.toNatClampNeg + x3_2.toNatClampNeg)).toNatClampNeg) y) := by rw [← ve9]; dsimp only [ofS] at *; omega
        exact ih_2 (v20, M_2, L_2) ⟨by show 0 ≤ v20.toInt; omega, by show v20.toInt ≤ (vC M 7 (x.toNatClampNeg)).toInt; omega, by show unF (vC M) (x.toNatClampNeg) y ((vC M 7 x.toNatClampNeg).toNatClampNeg - v20.toNatClampNeg) (v20.toNatClampNeg) = unF (vC M) (x.toNatClampNeg) y (vC M 7 x.toNatClampNeg).toNatClampNeg 0; rw [iv, ← j2_2, unF_go (k := x3_2.toNatClampNeg) (by omega) hno], hI, hF, hG⟩ (by show (41 - v20.toInt).toNat < (41 - x3_2.toInt).toNat; omega)
      ·
        have f21 := feq rfl (by decide : (0 : Int32).toInt = 0) c18
        have pr15 := zo_f hr15 c18
        try dsimp only [hasC, hasB, hasX, hasM, ofS, ofK, bt] at pr15
        refine g_iload_n C 1 dX10_firstUnlike_53 rfl ?_
        exact g_iret C hr ⟨funext (fun k => funext (fun i => hF k i trivial)), funext (fun k => funext (fun i => hG k i trivial)), (by rw [← j2_2, unF_hit (by omega) ⟨by omega, by rw [← ve9]; dsimp only [ofS] at *; omega⟩, of_ix (by omega)])⟩ dX10_firstUnlike_54
set_option maxHeartbeats 4000000 in
set_option maxRecDepth 100000 in
theorem v_X10_maySeat (l : Launch) (D : va_G) (ad : Nat → Nat) (cs : Nat → ClassId) (M : MI) (L : ML) (x : Int32) (y : Int32) (hI : IC M) (hk : 0 ≤ x.toInt ∧ x.toInt < 9) : Ci l yX10_maySeat wsX10_maySeat ({ frames := 1, cells := 0, slots := 0, locals := 24 }) D ad cs [.ref (ad 0), .int x, .int y] M L (fun r M1 L1 => M1 = M ∧ L1 = L ∧ (zo r (seatsOk (vC M) x y))) := by
  refine enter_i RX10 rfl [(0, .ref (ad 0)), (1, .int x), (2, .int y)] rfl (Nat.le_of_ble_eq_true rfl) (by decide +kernel) rfl ?_
  intro p e s m below meth c C hr
  have hF : ∀ k i, True → M k i = M k i := fun _ _ _ => rfl
  have hG : ∀ k i, True → L k i = L k i := fun _ _ _ => rfl
  have w0 : (vC M 0 0).toInt = (M 1 0).toInt := rfl
  have w1 : (vC M 0 1).toInt = (M 3 0).toInt := rfl
  have w2 : (vC M 0 2).toInt = (M 68 0).toInt := rfl
  have w3 : (vC M 0 3).toInt = (M 81 0).toInt := rfl
  obtain ⟨y0a, y0b⟩ := (show rg 0 10 (M 1 0) from hI 1 0 rfl)
  obtain ⟨y1a, y1b⟩ := (show rg 0 60 (M 3 0) from hI 3 0 rfl)
  obtain ⟨y2a, y2b⟩ := (show rg 0 8 (M 68 0) from hI 68 0 rfl)
  obtain ⟨y3a, y3b⟩ := (show rg 0 20 (M 81 0) from hI 81 0 rfl)
  have hk0 := hk
  obtain ⟨hk1, hk2⟩ := hk
  have z6 : (6 : Int32).toInt = 6 := by decide
  refine g_iload_n C 2 dX10_maySeat_0 rfl ?_
  refine g_iconst C 1 dX10_maySeat_1 (by decide) ?_
  refine g_icmp_lt C 21 dX10_maySeat_2 (by decide) (fun c1 => ?_) (fun c1 => ?_)
  ·
    have f2 := fl rfl (by decide : (1 : Int32).toInt = 1) c1
    refine g_iconst C 0 dX10_maySeat_21 (by decide) ?_
    have zr9 : (0 : Int32).toInt = 0 := by decide
    exact g_zret C hr rfl ⟨rfl, rfl, (by first | exact Or.inl ⟨rfl, by dsimp only [seatsOk, bt]; omega⟩ | exact Or.inr ⟨rfl, by dsimp only [seatsOk, bt]; omega⟩)⟩ dX10_maySeat_22
  ·
    have f3 := fnl rfl (by decide : (1 : Int32).toInt = 1) c1
    refine g_iload_n C 2 dX10_maySeat_5 rfl ?_
    refine g_bipush C 30 dX10_maySeat_6 (by decide) ?_
    refine g_icmp_gt C 21 dX10_maySeat_8 (by decide) (fun c4 => ?_) (fun c4 => ?_)
    ·
      have f5 := fl (by decide : (30 : Int32).toInt = 30) rfl c4
      refine g_iconst C 0 dX10_maySeat_21 (by decide) ?_
      have zr9 : (0 : Int32).toInt = 0 := by decide
      exact g_zret C hr rfl ⟨rfl, rfl, (by first | exact Or.inl ⟨rfl, by dsimp only [seatsOk, bt]; omega⟩ | exact Or.inr ⟨rfl, by dsimp only [seatsOk, bt]; omega⟩)⟩ dX10_maySeat_22
    ·
      have f6 := fnl (by decide : (30 : Int32).toInt = 30) rfl c4
      refine g_aload_n C 0 dX10_maySeat_11 rfl ?_
      refine g_get C (.ref (ad 1)) 0 in_X10_maySeat_10 (List.mem_of_getElem? (i := 1) rfl) (by decide) (ce_house ad cs _ _) rfl (by decide) rfl rfl dX10_maySeat_12 ?_
      refine g_get C (.int (M 1 0)) 0 in_X10_maySeat_2 (List.mem_of_getElem? (i := 2) rfl) (by decide) (ce_cand ad cs _ _) rfl (by decide) rfl rfl dX10_maySeat_15 ?_
      refine g_ni (fun v7 ev7 => ?_)
      have gv7 : v7 = vC M 0 0 := ev7
      have tv7 := congrArg Int32.toInt gv7
      obtain ⟨bv7, dv7⟩ := (show rg 0 10 v7 from (by rw [ev7]; exact hI 1 0 rfl))
      refine g_if_ne C 23 dX10_maySeat_18 (by decide) (fun c8 => ?_) (fun c8 => ?_)
      ·
        have f9 := fne rfl (by decide : (0 : Int32).toInt = 0) c8
        refine g_iload_n C 2 dX10_maySeat_23 rfl ?_
        refine g_aload_n C 0 dX10_maySeat_24 rfl ?_
        refine g_get C (.ref (ad 1)) 0 in_X10_maySeat_10 (List.mem_of_getElem? (i := 1) rfl) (by decide) (ce_house ad cs _ _) rfl (by decide) rfl rfl dX10_maySeat_25 ?_
        refine g_get C (.int (M 1 0)) 0 in_X10_maySeat_2 (List.mem_of_getElem? (i := 2) rfl) (by decide) (ce_cand ad cs _ _) rfl (by decide) rfl rfl dX10_maySeat_28 ?_
        refine g_ni (fun v10 ev10 => ?_)
        have gv10 : v10 = vC M 0 0 := ev10
        have tv10 := congrArg Int32.toInt gv10
        obtain ⟨bv10, dv10⟩ := (show rg 0 10 v10 from (by rw [ev10]; exact hI 1 0 rfl))
        refine g_icmp_le C 46 dX10_maySeat_31 (by decide) (fun c11 => ?_) (fun c11 => ?_)
        ·
          have f12 := fle rfl rfl c11
          refine g_iconst C 1 dX10_maySeat_46 (by decide) ?_
          refine g_goto C 51 dX10_maySeat_47 (by decide) ?_
          have zr9 : (1 : Int32).toInt = 1 := by decide
          exact g_zret C hr rfl ⟨rfl, rfl, (by first | exact Or.inl ⟨rfl, by dsimp only [seatsOk, bt]; omega⟩ | exact Or.inr ⟨rfl, by dsimp only [seatsOk, bt]; omega⟩)⟩ dX10_maySeat_51
        ·
          have f13 := fnle rfl rfl c11
          refine g_iload_n C 1 dX10_maySeat_34 rfl ?_
          refine g_bipush C 6 dX10_maySeat_35 (by decide) ?_
          refine g_getsK C (List.mem_of_getElem? (i := 3) rfl) dX10_maySeat_37 ?_
          refine g_callSi C (n := 3) (As := [.int x, .int 6, .ref (ad 401)]) (st := []) (v_isUnderK l D ad cs _ _ x 6 hI hk0 (by decide)) gX10_maySeat_X10_isUnder rfl rfl rfl (by decide +kernel) ⟨Nat.le_of_ble_eq_true rfl, Nat.le_of_ble_eq_true rfl⟩ rfl (Nat.le_of_ble_eq_true rfl) ⟨Nat.zero_le _, Nat.zero_le _⟩ rfl dX10_maySeat_40 (fun r14 M15 L16 hr14 => ?_)
          obtain ⟨hq1, hq2, hr14⟩ := hr14
          obtain rfl := hq1.symm
          obtain rfl := hq2.symm
          obtain ⟨bar14, bbr14⟩ := zo_b hr14
          refine g_if_eq C 50 dX10_maySeat_43 (by decide) (fun c17 => ?_) (fun c17 => ?_)
          ·
            have f18 := feq rfl (by decide : (0 : Int32).toInt = 0) c17
            have pr14 := zo_f hr14 c17
            try dsimp only [hasC, hasB, hasX, hasM, ofS, ofK, bt] at pr14
            refine g_iconst C 0 dX10_maySeat_50 (by decide) ?_
            have zr9 : (0 : Int32).toInt = 0 := by decide
            exact g_zret C hr rfl ⟨rfl, rfl, (by first | exact Or.inl ⟨rfl, by dsimp only [seatsOk, bt]; omega⟩ | exact Or.inr ⟨rfl, by dsimp only [seatsOk, bt]; omega⟩)⟩ dX10_maySeat_51
          ·
            have f19 := fne rfl (by decide : (0 : Int32).toInt = 0) c17
            have pr14 := zo_t hr14 c17
            try dsimp only [hasC, hasB, hasX, hasM, ofS, ofK, bt] at pr14
            refine g_iconst C 1 dX10_maySeat_46 (by decide) ?_
            refine g_goto C 51 dX10_maySeat_47 (by decide) ?_
            have zr9 : (1 : Int32).toInt = 1 := by decide
            exact g_zret C hr rfl ⟨rfl, rfl, (by first | exact Or.inl ⟨rfl, by dsimp only [seatsOk, bt]; omega⟩ | exact Or.inr ⟨rfl, by dsimp only [seatsOk, bt]; omega⟩)⟩ dX10_maySeat_51
      ·
        have f20 := feq rfl (by decide : (0 : Int32).toInt = 0) c8
        refine g_iconst C 0 dX10_maySeat_21 (by decide) ?_
        have zr9 : (0 : Int32).toInt = 0 := by decide
        exact g_zret C hr rfl ⟨rfl, rfl, (by first | exact Or.inl ⟨rfl, by dsimp only [seatsOk, bt]; omega⟩ | exact Or.inr ⟨rfl, by dsimp only [seatsOk, bt]; omega⟩)⟩ dX10_maySeat_22
