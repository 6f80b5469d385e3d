set_option maxHeartbeats 4000000 in
set_option maxRecDepth 100000 in
theorem v_X10_firstUnlike (l : Launch) (D : va_G) (ad : Nat → Nat) (cs : Nat → ClassId) (M : MI) (L : ML) (x : Int32) (y : Int32) (hI : IC M) (hx : hasX (vC M) x) (hy : 0 ≤ y.toInt) (h8 : ∀ i : Nat, (vC M 8 i).toInt = -9 ∨ (0 ≤ (vC M 8 i).toInt ∧ (vC M 8 i).toInt < (vC M 0 1).toInt)) (hS : ∀ b, 0 ≤ (vC M 2 b).toInt ∧ (vC M 2 b).toInt ≤ 3) : Ci l yX10_firstUnlike wsX10_firstUnlike ({ frames := 2, cells := 0, slots := 0, locals := 46 }) D ad cs [.ref (ad 0), .int x, .int y] M L (fun r M1 L1 => M1 = M ∧ L1 = L ∧ (r = unF (vC M) (x.toNatClampNeg) y ((vC M 7 (x.toNatClampNeg)).toNatClampNeg) 0)) := by
  refine enter_i RX10 rfl [(0, .ref (ad 0)), (1, .int x), (2, .int y)] rfl (Nat.le_of_ble_eq_true rfl) (by decide +kernel) rfl ?_
  intro p e s m below meth c C hr
  have hF : ∀ k i, True → M k i = M k i := fun _ _ _ => rfl
  have hG : ∀ k i, True → L k i = L k i := fun _ _ _ => rfl
  have w0 : (vC M 0 0).toInt = (M 1 0).toInt := rfl
  have w1 : (vC M 0 1).toInt = (M 3 0).toInt := rfl
  have w2 : (vC M 0 2).toInt = (M 68 0).toInt := rfl
  have w3 : (vC M 0 3).toInt = (M 81 0).toInt := rfl
  obtain ⟨y0a, y0b⟩ := (show rg 0 10 (M 1 0) from hI 1 0 rfl)
  obtain ⟨y1a, y1b⟩ := (show rg 0 60 (M 3 0) from hI 3 0 rfl)
  obtain ⟨y2a, y2b⟩ := (show rg 0 8 (M 68 0) from hI 68 0 rfl)
  obtain ⟨y3a, y3b⟩ := (show rg 0 20 (M 81 0) from hI 81 0 rfl)
  obtain ⟨hx1, hx2⟩ := hx
  obtain ⟨sza, szb⟩ := (show rg 0 40 (vC M 7 x.toNatClampNeg) from hI 70 _)
  have ns := ixn (x := vC M 7 x.toNatClampNeg) sza
  have nx := ixn (x := x) (by omega)
  refine g_iconst C 0 dX10_firstUnlike_0 (by decide) ?_
  refine g_istore_n C [(3, .int 0), (0, .ref (ad 0)), (1, .int x), (2, .int y)] dX10_firstUnlike_1 (by decide) rfl ?_
  have zy1 : (0 : Int32).toInt = 0 := by decide
  refine g_loop (α := Int32 × MI × ML) (fun a => (41 - a.1.toInt).toNat) (fun a => (0 ≤ a.1.toInt) ∧ (a.1.toInt ≤ (vC M 7 (x.toNatClampNeg)).toInt) ∧ (unF (vC M) (x.toNatClampNeg) y ((vC M 7 x.toNatClampNeg).toNatClampNeg - a.1.toNatClampNeg) (a.1.toNatClampNeg) = unF (vC M) (x.toNatClampNeg) y (vC M 7 x.toNatClampNeg).toNatClampNeg 0) ∧ IC a.2.1 ∧ (∀ k i, True → a.2.1 k i = M k i) ∧ (∀ k i, True → a.2.2 k i = L k i)) (fun a => a.2.1) (fun a => a.2.2) (fun a => [(3, .int a.1), (0, .ref (ad 0)), (1, .int x), (2, .int y)]) ((0 : Int32), M, L) ⟨by show 0 ≤ (0 : Int32).toInt; omega, by show (0 : Int32).toInt ≤ (vC M 7 (x.toNatClampNeg)).toInt; omega, by show unF (vC M) (x.toNatClampNeg) y ((vC M 7 x.toNatClampNeg).toNatClampNeg - (0 : Int32).toNatClampNeg) ((0 : Int32).toNatClampNeg) = unF (vC M) (x.toNatClampNeg) y (vC M 7 x.toNatClampNeg).toNatClampNeg 0; rfl, hI, hF, hG⟩ rfl rfl rfl ?_
  rintro ⟨x3_2, M_2, L_2⟩ ⟨j2_0, j2_1, j2_2, hI, hF, hG⟩ ih_2
  dsimp only at j2_0 j2_1 j2_2 hI hF hG ih_2 ⊢
  have n3 := ixn (x := x3_2) (by omega)
  refine g_iload_n C 0 dX10_firstUnlike_2 rfl ?_
  refine g_aload_n C 1 dX10_firstUnlike_3 rfl ?_
  refine g_get C (.ref (ad 68)) 2 in_X10_firstUnlike_10 (List.mem_of_getElem? (i := 1) rfl) (by decide) (ce_house ad cs _ _) rfl (by decide) rfl rfl dX10_firstUnlike_4 ?_
  refine g_get C (.ref (ad 70)) 2 in_X10_firstUnlike_1 (List.mem_of_getElem? (i := 2) rfl) (by decide) (ce_box ad cs _ _) rfl (by decide) rfl rfl dX10_firstUnlike_7 ?_
  refine g_iload_n C 2 dX10_firstUnlike_10 rfl ?_
  have nx := ixn (x := x) (by omega)
  refine g_iald C (by decide) (ce_xsize ad cs _ _) (fin' (n := 8) rfl (by omega) (by omega)) dX10_firstUnlike_11 ?_
  refine g_ni (fun v2 ev2 => ?_)
  have gv2 : v2 = vC M 7 x.toNatClampNeg := ev2.trans (hF 70 x.toNatClampNeg trivial)
  have tv2 := congrArg Int32.toInt gv2
  obtain ⟨bv2, dv2⟩ := (show rg 0 40 v2 from (by rw [ev2]; exact hI 70 x.toNatClampNeg))
  refine g_icmp_ge C 61 dX10_firstUnlike_12 (by decide) (fun c3 => ?_) (fun c3 => ?_)
  ·
    have f4 := fle rfl rfl c3
    refine g_bipush C (-9) dX10_firstUnlike_61 (by decide) ?_
    have zr9 : ((-9) : Int32).toInt = (-9) := by decide
    exact g_iret C hr ⟨funext (fun k => funext (fun i => hF k i trivial)), funext (fun k => funext (fun i => hG k i trivial)), (by rw [← j2_2, unF_end (by omega)])⟩ dX10_firstUnlike_63
  ·
    have f5 := fnle rfl rfl c3
    refine g_aload_n C 1 dX10_firstUnlike_15 rfl ?_
    refine g_get C (.ref (ad 68)) 2 in_X10_firstUnlike_10 (List.mem_of_getElem? (i := 1) rfl) (by decide) (ce_house ad cs _ _) rfl (by decide) rfl rfl dX10_firstUnlike_16 ?_
    refine g_get C (.ref (ad 71)) 3 in_X10_firstUnlike_1 (List.mem_of_getElem? (i := 3) rfl) (by decide) (ce_box ad cs _ _) rfl (by decide) rfl rfl dX10_firstUnlike_19 ?_
    refine g_iload_n C 2 dX10_firstUnlike_22 rfl ?_
    have hi6 : vp_in x 8 := (fin' (n := 8) rfl (by omega) (by omega))
    have nhi6 := tn hi6
    have mhi6 := ixn (x := x) (by omega)
    refine g_aald C (by decide) (ce_xplacem ad cs _ _) rfl hi6 dX10_firstUnlike_23 ?_
    refine g_iload_n C 0 dX10_firstUnlike_24 rfl ?_
    have nx3_2 := ixn (x := x3_2) (by omega)
    refine g_iald C (by omega) (ce_xplace ad cs _ _ nhi6) (fin' (n := 40) rfl (by omega) (by omega)) dX10_firstUnlike_25 ?_
    refine g_ni (fun v7 ev7 => ?_)
    have gv7 := ev7.trans (hF (73 + x.toNatClampNeg) x3_2.toNatClampNeg trivial)
    have gv7 := gv7.trans (vC8 (M := M) (by omega) (by omega) (by omega)).symm
    have tv7 := congrArg Int32.toInt gv7
    refine g_istore C [(4, .int v7), (3, .int x3_2), (0, .ref (ad 0)), (1, .int x), (2, .int y)] dX10_firstUnlike_26 (by decide) rfl ?_
    have h89 := h8 (40 * x.toNatClampNeg + x3_2.toNatClampNeg)
    have ve9 : v7 = vC M 8 (40 * x.toNatClampNeg + x3_2.toNatClampNeg) := by simp only [gv7, gv2]
    refine g_aload_n C 2 dX10_firstUnlike_28 rfl ?_
    refine g_get C (.ref (ad 3)) 1 in_X10_firstUnlike_10 (List.mem_of_getElem? (i := 4) rfl) (by decide) (ce_house ad cs _ _) rfl (by decide) rfl rfl dX10_firstUnlike_29 ?_
    refine g_iload C 0 dX10_firstUnlike_32 rfl ?_
    refine g_callVi C (n := 1) (As := [.int v7]) (st := []) (c_X0_has l D ad cs _ _ v7 ) gX10_firstUnlike_X0_has rfl rfl rfl (by decide +kernel) ⟨Nat.le_of_ble_eq_true rfl, Nat.le_of_ble_eq_true rfl⟩ rfl (Nat.le_of_ble_eq_true rfl) ⟨Nat.zero_le _, Nat.zero_le _⟩ (by decide) (ce_ball ad cs _ _) rfl rfl dX10_firstUnlike_34 (fun r8 M9 L10 hr8 => ?_)
    obtain ⟨hq1, hq2, hr8⟩ := hr8
    obtain rfl := hq1.symm
    obtain rfl := hq2.symm
    have hr8 := zo_has hr8
    rw [show M_2 3 0 = M 3 0 from hF 3 0 trivial] at hr8
    obtain ⟨bar8, bbr8⟩ := zo_b hr8
    refine g_if_eq C 55 dX10_firstUnlike_37 (by decide) (fun c11 => ?_) (fun c11 => ?_)
    ·
      have f12 := feq rfl (by decide : (0 : Int32).toInt = 0) c11
      have pr8 := zo_f hr8 c11
      try dsimp only [hasC, hasB, hasX, hasM, ofS, ofK, bt] at pr8
      obtain ⟨v13, ev13⟩ : ∃ y : Int32, y = x3_2 + 1 := ⟨_, rfl⟩
      try have fv13 := fadd rfl (by decide : (1 : Int32).toInt = 1) ev13 (by omega) (by omega)
      refine g_iinc C 1 v13 [(3, .int v13), (4, .int v7), (0, .ref (ad 0)), (1, .int x), (2, .int y)] dX10_firstUnlike_55 rfl (by rw [ev13]; rfl) (by decide) rfl ?_
      refine g_goto C 2 dX10_firstUnlike_58 (by decide) ?_
      refine g_lv [0, 2, 3, 4] [(3, .int v13), (0, .ref (ad 0)), (1, .int x), (2, .int y)] rfl ?_
      have nv := ixn (x := v13) (by omega)
      have iv : v13.toNatClampNeg = x3_2.toNatClampNeg + 1 := by omega
      have hno : ¬ ((vC M 8 (40 * x.toNatClampNeg + x3_2.toNatClampNeg)).toInt ≠ -9 ∧ ¬ ofS (vC M 2 (vC M 8 (40 * x.toNatClampNeg + x3_2.toNatClampNeg)).toNatClampNeg) y) := by rw [← ve9]; dsimp only [ofS] at *; omega
      exact ih_2 (v13, M_2, L_2) ⟨by show 0 ≤ v13.toInt; omega, by show v13.toInt ≤ (vC M 7 (x.toNatClampNeg)).toInt; omega, by show unF (vC M) (x.toNatClampNeg) y ((vC M 7 x.toNatClampNeg).toNatClampNeg - v13.toNatClampNeg) (v13.toNatClampNeg) = unF (vC M) (x.toNatClampNeg) y (vC M 7 x.toNatClampNeg).toNatClampNeg 0; rw [iv, ← j2_2, unF_go (k := x3_2.toNatClampNeg) (by omega) hno], hI, hF, hG⟩ (by show (41 - v13.toInt).toNat < (41 - x3_2.toInt).toNat; omega)
    ·
      have f14 := fne rfl (by decide : (0 : Int32).toInt = 0) c11
      have pr8 := zo_t hr8 c11
      try dsimp only [hasC, hasB, hasX, hasM, ofS, ofK, bt] at pr8
      refine g_aload_n C 2 dX10_firstUnlike_40 rfl ?_
      refine g_get C (.ref (ad 3)) 1 in_X10_firstUnlike_10 (List.mem_of_getElem? (i := 4) rfl) (by decide) (ce_house ad cs _ _) rfl (by decide) rfl rfl dX10_firstUnlike_41 ?_
      refine g_iload C 0 dX10_firstUnlike_44 rfl ?_
      refine g_iload_n C 4 dX10_firstUnlike_46 rfl ?_
      refine g_callVi C (n := 2) (As := [.int v7, .int y]) (st := []) (v_X0_isOf l D ad cs _ _ v7 y hI ⟨by omega, by omega⟩ hy (by have eM : M_2 = M := funext (fun k => funext (fun i => hF k i trivial)); rw [eM]; exact hS)) gX10_firstUnlike_X0_isOf rfl rfl rfl (by decide +kernel) ⟨Nat.le_of_ble_eq_true rfl, Nat.le_of_ble_eq_true rfl⟩ rfl (Nat.le_of_ble_eq_true rfl) ⟨Nat.zero_le _, Nat.zero_le _⟩ (by decide) (ce_ball ad cs _ _) rfl rfl dX10_firstUnlike_47 (fun r15 M16 L17 hr15 => ?_)
      obtain ⟨hq1, hq2, hr15⟩ := hr15
      obtain rfl := hq1.symm
      obtain rfl := hq2.symm
      have eM : M_2 = M := funext (fun k => funext (fun i => hF k i trivial))
      rw [eM] at hr15
      obtain ⟨bar15, bbr15⟩ := zo_b hr15
      refine g_if_ne C 55 dX10_firstUnlike_50 (by decide) (fun c18 => ?_) (fun c18 => ?_)
      ·
        have f19 := fne rfl (by decide : (0 : Int32).toInt = 0) c18
        have pr15 := zo_t hr15 c18
        try dsimp only [hasC, hasB, hasX, hasM, ofS, ofK, bt] at pr15
        obtain ⟨v20, ev20⟩ : ∃ y : Int32, y = x3_2 + 1 := ⟨_, rfl⟩
        try have fv20 := fadd rfl (by decide : (1 : Int32).toInt = 1) ev20 (by omega) (by omega)
        refine g_iinc C 1 v20 [(3, .int v20), (4, .int v7), (0, .ref (ad 0)), (1, .int x), (2, .int y)] dX10_firstUnlike_55 rfl (by rw [ev20]; rfl) (by decide) rfl ?_
        refine g_goto C 2 dX10_firstUnlike_58 (by decide) ?_
        refine g_lv [0, 2, 3, 4] [(3, .int v20), (0, .ref (ad 0)), (1, .int x), (2, .int y)] rfl ?_
        have nv := ixn (x := v20) (by omega)
        have iv : v20.toNatClampNeg = x3_2.toNatClampNeg + 1 := by omega
        have hno : ¬ ((vC M 8 (40 * x.toNatClampNeg + x3_2.toNatClampNeg)).toInt ≠ -9 ∧ ¬ ofS (vC M 2 (vC M 8 (40 * x.toNatClampNeg + x3_2.toNatClampNeg)).toNatClampNeg) y) := by rw [← ve9]; dsimp only [ofS] at *; omega
        exact ih_2 (v20, M_2, L_2) ⟨by show 0 ≤ v20.toInt; omega, by show v20.toInt ≤ (vC M 7 (x.toNatClampNeg)).toInt; omega, by show unF (vC M) (x.toNatClampNeg) y ((vC M 7 x.toNatClampNeg).toNatClampNeg - v20.toNatClampNeg) (v20.toNatClampNeg) = unF (vC M) (x.toNatClampNeg) y (vC M 7 x.toNatClampNeg).toNatClampNeg 0; rw [iv, ← j2_2, unF_go (k := x3_2.toNatClampNeg) (by omega) hno], hI, hF, hG⟩ (by show (41 - v20.toInt).toNat < (41 - x3_2.toInt).toNat; omega)
      ·
        have f21 := feq rfl (by decide : (0 : Int32).toInt = 0) c18
        have pr15 := zo_f hr15 c18
        try dsimp only [hasC, hasB, hasX, hasM, ofS, ofK, bt] at pr15
        refine g_iload_n C 1 dX10_firstUnlike_53 rfl ?_
        exact g_iret C hr ⟨funext (fun k => funext (fun i => hF k i trivial)), funext (fun k => funext (fun i => hG k i trivial)), (by rw [← j2_2, unF_hit (by omega) ⟨by omega, by rw [← ve9]; dsimp only [ofS] at *; omega⟩, of_ix (by omega)])⟩ dX10_firstUnlike_54
set_option maxHeartbeats 4000000 in
set_option maxRecDepth 100000 in
theorem v_X10_maySeat (l : Launch) (D : va_G) (ad : Nat → Nat) (cs : Nat → ClassId) (M : MI) (L : ML) (x : Int32) (y : Int32) (hI : IC M) (hk : 0 ≤ x.toInt ∧ x.toInt < 9) : Ci l yX10_maySeat wsX10_maySeat ({ frames := 1, cells := 0, slots := 0, locals := 24 }) D ad cs [.ref (ad 0), .int x, .int y] M L (fun r M1 L1 => M1 = M ∧ L1 = L ∧ (zo r (seatsOk (vC M) x y))) := by
  refine enter_i RX10 rfl [(0, .ref (ad 0)), (1, .int x), (2, .int y)] rfl (Nat.le_of_ble_eq_true rfl) (by decide +kernel) rfl ?_
  intro p e s m below meth c C hr
  have hF : ∀ k i, True → M k i = M k i := fun _ _ _ => rfl
  have hG : ∀ k i, True → L k i = L k i := fun _ _ _ => rfl
  have w0 : (vC M 0 0).toInt = (M 1 0).toInt := rfl
  have w1 : (vC M 0 1).toInt = (M 3 0).toInt := rfl
  have w2 : (vC M 0 2).toInt = (M 68 0).toInt := rfl
  have w3 : (vC M 0 3).toInt = (M 81 0).toInt := rfl
  obtain ⟨y0a, y0b⟩ := (show rg 0 10 (M 1 0) from hI 1 0 rfl)
  obtain ⟨y1a, y1b⟩ := (show rg 0 60 (M 3 0) from hI 3 0 rfl)
  obtain ⟨y2a, y2b⟩ := (show rg 0 8 (M 68 0) from hI 68 0 rfl)
  obtain ⟨y3a, y3b⟩ := (show rg 0 20 (M 81 0) from hI 81 0 rfl)
  have hk0 := hk
  obtain ⟨hk1, hk2⟩ := hk
  have z6 : (6 : Int32).toInt = 6 := by decide
  refine g_iload_n C 2 dX10_maySeat_0 rfl ?_
  refine g_iconst C 1 dX10_maySeat_1 (by decide) ?_
  refine g_icmp_lt C 21 dX10_maySeat_2 (by decide) (fun c1 => ?_) (fun c1 => ?_)
  ·
    have f2 := fl rfl (by decide : (1 : Int32).toInt = 1) c1
    refine g_iconst C 0 dX10_maySeat_21 (by decide) ?_
    have zr9 : (0 : Int32).toInt = 0 := by decide
    exact g_zret C hr rfl ⟨rfl, rfl, (by first | exact Or.inl ⟨rfl, by dsimp only [seatsOk, bt]; omega⟩ | exact Or.inr ⟨rfl, by dsimp only [seatsOk, bt]; omega⟩)⟩ dX10_maySeat_22
  ·
    have f3 := fnl rfl (by decide : (1 : Int32).toInt = 1) c1
    refine g_iload_n C 2 dX10_maySeat_5 rfl ?_
    refine g_bipush C 30 dX10_maySeat_6 (by decide) ?_
    refine g_icmp_gt C 21 dX10_maySeat_8 (by decide) (fun c4 => ?_) (fun c4 => ?_)
    ·
      have f5 := fl (by decide : (30 : Int32).toInt = 30) rfl c4
      refine g_iconst C 0 dX10_maySeat_21 (by decide) ?_
      have zr9 : (0 : Int32).toInt = 0 := by decide
      exact g_zret C hr rfl ⟨rfl, rfl, (by first | exact Or.inl ⟨rfl, by dsimp only [seatsOk, bt]; omega⟩ | exact Or.inr ⟨rfl, by dsimp only [seatsOk, bt]; omega⟩)⟩ dX10_maySeat_22
    ·
      have f6 := fnl (by decide : (30 : Int32).toInt = 30) rfl c4
      refine g_aload_n C 0 dX10_maySeat_11 rfl ?_
      refine g_get C (.ref (ad 1)) 0 in_X10_maySeat_10 (List.mem_of_getElem? (i := 1) rfl) (by decide) (ce_house ad cs _ _) rfl (by decide) rfl rfl dX10_maySeat_12 ?_
      refine g_get C (.int (M 1 0)) 0 in_X10_maySeat_2 (List.mem_of_getElem? (i := 2) rfl) (by decide) (ce_cand ad cs _ _) rfl (by decide) rfl rfl dX10_maySeat_15 ?_
      refine g_ni (fun v7 ev7 => ?_)
      have gv7 : v7 = vC M 0 0 := ev7
      have tv7 := congrArg Int32.toInt gv7
      obtain ⟨bv7, dv7⟩ := (show rg 0 10 v7 from (by rw [ev7]; exact hI 1 0 rfl))
      refine g_if_ne C 23 dX10_maySeat_18 (by decide) (fun c8 => ?_) (fun c8 => ?_)
      ·
        have f9 := fne rfl (by decide : (0 : Int32).toInt = 0) c8
        refine g_iload_n C 2 dX10_maySeat_23 rfl ?_
        refine g_aload_n C 0 dX10_maySeat_24 rfl ?_
        refine g_get C (.ref (ad 1)) 0 in_X10_maySeat_10 (List.mem_of_getElem? (i := 1) rfl) (by decide) (ce_house ad cs _ _) rfl (by decide) rfl rfl dX10_maySeat_25 ?_
        refine g_get C (.int (M 1 0)) 0 in_X10_maySeat_2 (List.mem_of_getElem? (i := 2) rfl) (by decide) (ce_cand ad cs _ _) rfl (by decide) rfl rfl dX10_maySeat_28 ?_
        refine g_ni (fun v10 ev10 => ?_)
        have gv10 : v10 = vC M 0 0 := ev10
        have tv10 := congrArg Int32.toInt gv10
        obtain ⟨bv10, dv10⟩ := (show rg 0 10 v10 from (by rw [ev10]; exact hI 1 0 rfl))
        refine g_icmp_le C 46 dX10_maySeat_31 (by decide) (fun c11 => ?_) (fun c11 => ?_)
        ·
          have f12 := fle rfl rfl c11
          refine g_iconst C 1 dX10_maySeat_46 (by decide) ?_
          refine g_goto C 51 dX10_maySeat_47 (by decide) ?_
          have zr9 : (1 : Int32).toInt = 1 := by decide
          exact g_zret C hr rfl ⟨rfl, rfl, (by first | exact Or.inl ⟨rfl, by dsimp only [seatsOk, bt]; omega⟩ | exact Or.inr ⟨rfl, by dsimp only [seatsOk, bt]; omega⟩)⟩ dX10_maySeat_51
        ·
          have f13 := fnle rfl rfl c11
          refine g_iload_n C 1 dX10_maySeat_34 rfl ?_
          refine g_bipush C 6 dX10_maySeat_35 (by decide) ?_
          refine g_getsK C (List.mem_of_getElem? (i := 3) rfl) dX10_maySeat_37 ?_
          refine g_callSi C (n := 3) (As := [.int x, .int 6, .ref (ad 401)]) (st := []) (v_isUnderK l D ad cs _ _ x 6 hI hk0 (by decide)) gX10_maySeat_X10_isUnder rfl rfl rfl (by decide +kernel) ⟨Nat.le_of_ble_eq_true rfl, Nat.le_of_ble_eq_true rfl⟩ rfl (Nat.le_of_ble_eq_true rfl) ⟨Nat.zero_le _, Nat.zero_le _⟩ rfl dX10_maySeat_40 (fun r14 M15 L16 hr14 => ?_)
          obtain ⟨hq1, hq2, hr14⟩ := hr14
          obtain rfl := hq1.symm
          obtain rfl := hq2.symm
          obtain ⟨bar14, bbr14⟩ := zo_b hr14
          refine g_if_eq C 50 dX10_maySeat_43 (by decide) (fun c17 => ?_) (fun c17 => ?_)
          ·
            have f18 := feq rfl (by decide : (0 : Int32).toInt = 0) c17
            have pr14 := zo_f hr14 c17
            try dsimp only [hasC, hasB, hasX, hasM, ofS, ofK, bt] at pr14
            refine g_iconst C 0 dX10_maySeat_50 (by decide) ?_
            have zr9 : (0 : Int32).toInt = 0 := by decide
            exact g_zret C hr rfl ⟨rfl, rfl, (by first | exact Or.inl ⟨rfl, by dsimp only [seatsOk, bt]; omega⟩ | exact Or.inr ⟨rfl, by dsimp only [seatsOk, bt]; omega⟩)⟩ dX10_maySeat_51
          ·
            have f19 := fne rfl (by decide : (0 : Int32).toInt = 0) c17
            have pr14 := zo_t hr14 c17
            try dsimp only [hasC, hasB, hasX, hasM, ofS, ofK, bt] at pr14
            refine g_iconst C 1 dX10_maySeat_46 (by decide) ?_
            refine g_goto C 51 dX10_maySeat_47 (by decide) ?_
            have zr9 : (1 : Int32).toInt = 1 := by decide
            exact g_zret C hr rfl ⟨rfl, rfl, (by first | exact Or.inl ⟨rfl, by dsimp only [seatsOk, bt]; omega⟩ | exact Or.inr ⟨rfl, by dsimp only [seatsOk, bt]; omega⟩)⟩ dX10_maySeat_51
      ·
        have f20 := feq rfl (by decide : (0 : Int32).toInt = 0) c8
        refine g_iconst C 0 dX10_maySeat_21 (by decide) ?_
        have zr9 : (0 : Int32).toInt = 0 := by decide
        exact g_zret C hr rfl ⟨rfl, rfl, (by first | exact Or.inl ⟨rfl, by dsimp only [seatsOk, bt]; omega⟩ | exact Or.inr ⟨rfl, by dsimp only [seatsOk, bt]; omega⟩)⟩ dX10_maySeat_22
set_option maxHeartbeats 4000000 in
set_option maxRecDepth 100000 in
theorem v_X10_count (l : Launch) (D : va_G) (ad : Nat → Nat) (cs : Nat → ClassId) (M : MI) (L : ML) (x : Int32) (y : Int32) (z : Int32) (hI : IC M) (hK : ∀ m, 0 ≤ (vC M 9 m).toInt ∧ (vC M 9 m).toInt ≤ 8) (hN : NOv (vC M)) (hB : b012 (vC M 13)) (h8 : ∀ i : Nat, (vC M 8 i).toInt = -9 ∨ (0 ≤ (vC M 8 i).toInt ∧ (vC M 8 i).toInt < (vC M 0 1).toInt)) (hS : ∀ b, 0 ≤ (vC M 2 b).toInt ∧ (vC M 2 b).toInt ≤ 3) : Ci l yX10_count wsX10_count ({ frames := 6, cells := 0, slots := 0, locals := 161 }) D ad cs [.ref (ad 0), .int x, .int y, .int z] M L (fun r M1 L1 => ((A_count (vC M) x y z).2 = vC M1 ∧ ((A_count (vC M) x y z).1 ≠ 0 → r = (A_count (vC M) x y z).1)) ∧ IC M1 ∧ (∀ k i, ¬ (k = 0 ∧ i = 8) ∧ ¬ (k = 0 ∧ i = 9) ∧ ¬ (k = 0 ∧ i = 10) ∧ ¬ (k = 0 ∧ i = 11) ∧ k ≠ 83 ∧ k ≠ 87 ∧ k ≠ 257 ∧ ¬ (88 ≤ k ∧ k < 257) → M1 k i = M k i) ∧ ∀ k i, 258 ≤ k → L1 k i = L k i) := by
  refine enter_i RX10 rfl [(0, .ref (ad 0)), (1, .int x), (2, .int y), (3, .int z)] rfl (Nat.le_of_ble_eq_true rfl) (by decide +kernel) rfl ?_
  intro p e s m below meth c C hr
  have hF : ∀ k i, ¬ (k = 0 ∧ i = 8) ∧ ¬ (k = 0 ∧ i = 9) ∧ ¬ (k = 0 ∧ i = 10) ∧ ¬ (k = 0 ∧ i = 11) ∧ k ≠ 83 ∧ k ≠ 87 ∧ k ≠ 257 ∧ ¬ (88 ≤ k ∧ k < 257) → M k i = M k i := fun _ _ _ => rfl
  have hG : ∀ k i, 258 ≤ k → L k i = L k i := fun _ _ _ => rfl
  have w0 : (vC M 0 0).toInt = (M 1 0).toInt := rfl
  have w1 : (vC M 0 1).toInt = (M 3 0).toInt := rfl
  have w2 : (vC M 0 2).toInt = (M 68 0).toInt := rfl
  have w3 : (vC M 0 3).toInt = (M 81 0).toInt := rfl
  obtain ⟨y0a, y0b⟩ := (show rg 0 10 (M 1 0) from hI 1 0 rfl)
  obtain ⟨y1a, y1b⟩ := (show rg 0 60 (M 3 0) from hI 3 0 rfl)
  obtain ⟨y2a, y2b⟩ := (show rg 0 8 (M 68 0) from hI 68 0 rfl)
  obtain ⟨y3a, y3b⟩ := (show rg 0 20 (M 81 0) from hI 81 0 rfl)
  have hI0 := hI
  have hKx := hK x.toNatClampNeg
  have k0_8 : M 0 8 = M 0 8 := rfl
  have k0_9 : M 0 9 = M 0 9 := rfl
  have k0_10 : M 0 10 = vC M 0 5 := rfl
  have k0_11 : M 0 11 = vC M 0 4 := rfl
  have q83 : M 83 = M 83 := rfl
  have q87 : M 87 = M 87 := rfl
  have q257 : M 257 = M 257 := rfl
  have q88 : ∀ k, 88 ≤ k ∧ k < 257 → M k = M k := fun _ _ => rfl
  have hV : vC M = vC M := rfl
  refine g_aload_n C 0 dX10_count_0 rfl ?_
  refine g_bipush C (-9) dX10_count_1 (by decide) ?_
  refine g_putI C 10 in_X10_count_10 (List.mem_of_getElem? (i := 1) rfl) (by decide) (ce_house ad cs _ _) rfl (by decide) rfl tyX10 tyX10_ok nmX10 rfl rfl rfl rfl (Nat.le_of_ble_eq_true rfl) (by rw [sI_k]; rfl) dX10_count_3 ?_
  refine g_nm (fun M1 hM1 => ?_)
  have zy2 : ((-9) : Int32).toInt = (-9) := by decide
  have hI : IC M1 := by rw [hM1]; exact hI.st (by intro h; rcases h with h | h <;> exact absurd h (by decide))
  have hF : ∀ k i, ¬ (k = 0 ∧ i = 8) ∧ ¬ (k = 0 ∧ i = 9) ∧ ¬ (k = 0 ∧ i = 10) ∧ ¬ (k = 0 ∧ i = 11) ∧ k ≠ 83 ∧ k ≠ 87 ∧ k ≠ 257 ∧ ¬ (88 ≤ k ∧ k < 257) → M1 k i = M k i := fun k i hk => by (rw [hM1, sI_at, if_neg (by omega)]; try exact hF k i hk)
  have k0_8 : M1 0 8 = M 0 8 := by rw [hM1, sI_at, if_neg (by decide)]; try exact k0_8
  have k0_9 : M1 0 9 = M 0 9 := by rw [hM1, sI_at, if_neg (by decide)]; try exact k0_9
  have k0_11 : M1 0 11 = vC M 0 4 := by rw [hM1, sI_at, if_neg (by decide)]; try exact k0_11
  have k0_10 : M1 0 10 = (-9) := by rw [hM1, sI_at, if_pos (by decide)]
  have q83 : M1 83 = M 83 := by rw [hM1, sI_n _ _ _ (by decide)]; try exact q83
  have q87 : M1 87 = M 87 := by rw [hM1, sI_n _ _ _ (by decide)]; try exact q87
  have q257 : M1 257 = M 257 := by rw [hM1, sI_n _ _ _ (by decide)]; try exact q257
  have q88 : ∀ k, 88 ≤ k ∧ k < 257 → M1 k = M k := fun k hk => by rw [hM1, sI_n _ _ _ (by omega)]; try exact q88 k hk
  have hV : vC M1 = sI (vC M) 0 5 ((-9)) := by rw [hM1, vC_s (c := 5) (by decide), hV]
  have hN1 : NOv (vC M1) := by rw [hV]; exact NOv_w hN _
  have eS : startV (vC M1) x = sI (startV (vC M) x) 0 5 (-9) := by rw [hV, startV_w]
  have x0 : (vC M1 0 0).toInt = (vC M 0 0).toInt := by rw [hV, sI_at, if_neg (by decide)]
  have x2 : (vC M1 0 2).toInt = (vC M 0 2).toInt := by rw [hV, sI_at, if_neg (by decide)]
  have x3 : (vC M1 0 3).toInt = (vC M 0 3).toInt := by rw [hV, sI_at, if_neg (by decide)]
  refine g_aload_n C 0 dX10_count_6 rfl ?_
  refine g_get C (.ref (ad 81)) 3 in_X10_count_10 (List.mem_of_getElem? (i := 2) rfl) (by decide) (ce_house ad cs _ _) rfl (by decide) rfl rfl dX10_count_7 ?_
  refine g_iload_n C 1 dX10_count_10 rfl ?_
  refine g_callVi C (n := 1) (As := [.int x]) (st := []) (c_X4_has l D ad cs _ _ x ) gX10_count_X4_has rfl rfl rfl (by decide +kernel) ⟨Nat.le_of_ble_eq_true rfl, Nat.le_of_ble_eq_true rfl⟩ rfl (Nat.le_of_ble_eq_true rfl) ⟨Nat.zero_le _, Nat.zero_le _⟩ (by decide) (ce_meth ad cs _ _) rfl rfl dX10_count_11 (fun r3 M4 L5 hr3 => ?_)
  obtain ⟨hq1, hq2, hr3⟩ := hr3
  obtain rfl := hq1.symm
  obtain rfl := hq2.symm
  have hr3 := zo_has hr3
  rw [show M1 81 0 = M 81 0 from hF 81 0 (by omega)] at hr3
  obtain ⟨bar3, bbr3⟩ := zo_b hr3
  refine g_if_eq C 45 dX10_count_14 (by decide) (fun c6 => ?_) (fun c6 => ?_)
  ·
    have f7 := feq rfl (by decide : (0 : Int32).toInt = 0) c6
    have pr3 := zo_f hr3 c6
    try dsimp only [hasC, hasB, hasX, hasM, ofS, ofK, bt] at pr3
    refine g_iconst C (-1) dX10_count_45 (by decide) ?_
    have hA : A_count (vC M) x y z = (-1, sI (vC M) 0 5 (-9)) := by dsimp only [A_count, hasM, hasX, seatsOk, bt]; (repeat (first | rw [if_pos (by omega)] | rw [if_neg (by omega)]))
    have zr9 : ((-1) : Int32).toInt = (-1) := by decide
    exact g_iret C hr ⟨⟨by rw [hA, hV], fun _ => by rw [hA]⟩, hI, hF, hG⟩ dX10_count_46
  ·
    have f8 := fne rfl (by decide : (0 : Int32).toInt = 0) c6
    have pr3 := zo_t hr3 c6
    try dsimp only [hasC, hasB, hasX, hasM, ofS, ofK, bt] at pr3
    refine g_aload_n C 0 dX10_count_17 rfl ?_
    refine g_get C (.ref (ad 68)) 2 in_X10_count_10 (List.mem_of_getElem? (i := 3) rfl) (by decide) (ce_house ad cs _ _) rfl (by decide) rfl rfl dX10_count_18 ?_
    refine g_iload_n C 2 dX10_count_21 rfl ?_
    refine g_callVi C (n := 1) (As := [.int y]) (st := []) (c_X1_has l D ad cs _ _ y ) gX10_count_X1_has rfl rfl rfl (by decide +kernel) ⟨Nat.le_of_ble_eq_true rfl, Nat.le_of_ble_eq_true rfl⟩ rfl (Nat.le_of_ble_eq_true rfl) ⟨Nat.zero_le _, Nat.zero_le _⟩ (by decide) (ce_box ad cs _ _) rfl rfl dX10_count_22 (fun r9 M10 L11 hr9 => ?_)
    obtain ⟨hq1, hq2, hr9⟩ := hr9
    obtain rfl := hq1.symm
    obtain rfl := hq2.symm
    have hr9 := zo_has hr9
    rw [show M1 68 0 = M 68 0 from hF 68 0 (by omega)] at hr9
    obtain ⟨bar9, bbr9⟩ := zo_b hr9
    refine g_if_eq C 45 dX10_count_25 (by decide) (fun c12 => ?_) (fun c12 => ?_)
    ·
      have f13 := feq rfl (by decide : (0 : Int32).toInt = 0) c12
      have pr9 := zo_f hr9 c12
      try dsimp only [hasC, hasB, hasX, hasM, ofS, ofK, bt] at pr9
      refine g_iconst C (-1) dX10_count_45 (by decide) ?_
      have hA : A_count (vC M) x y z = (-1, sI (vC M) 0 5 (-9)) := by dsimp only [A_count, hasM, hasX, seatsOk, bt]; (repeat (first | rw [if_pos (by omega)] | rw [if_neg (by omega)]))
      have zr9 : ((-1) : Int32).toInt = (-1) := by decide
      exact g_iret C hr ⟨⟨by rw [hA, hV], fun _ => by rw [hA]⟩, hI, hF, hG⟩ dX10_count_46
    ·
      have f14 := fne rfl (by decide : (0 : Int32).toInt = 0) c12
      have pr9 := zo_t hr9 c12
      try dsimp only [hasC, hasB, hasX, hasM, ofS, ofK, bt] at pr9
      refine g_aload_n C 0 dX10_count_28 rfl ?_
      refine g_aload_n C 0 dX10_count_29 rfl ?_
      refine g_get C (.ref (ad 81)) 3 in_X10_count_10 (List.mem_of_getElem? (i := 2) rfl) (by decide) (ce_house ad cs _ _) rfl (by decide) rfl rfl dX10_count_30 ?_
      refine g_get C (.ref (ad 82)) 1 in_X10_count_4 (List.mem_of_getElem? (i := 4) rfl) (by decide) (ce_meth ad cs _ _) rfl (by decide) rfl rfl dX10_count_33 ?_
      refine g_iload_n C 1 dX10_count_36 rfl ?_
      have nx := ixn (x := x) (by omega)
      refine g_iald C (by decide) (ce_mkind ad cs _ _) (fin' (n := 20) rfl (by omega) (by omega)) dX10_count_37 ?_
      refine g_ni (fun v15 ev15 => ?_)
      have gv15 : v15 = vC M 9 x.toNatClampNeg := ev15.trans (hF 82 x.toNatClampNeg (by omega))
      have tv15 := congrArg Int32.toInt gv15
      refine g_iload_n C 3 dX10_count_38 rfl ?_
      refine g_callVi C (n := 2) (As := [.int v15, .int z]) (st := []) (v_X10_maySeat l D ad cs _ _ v15 z hI ⟨by omega, by omega⟩) gX10_count_X10_maySeat rfl rfl rfl (by decide +kernel) ⟨Nat.le_of_ble_eq_true rfl, Nat.le_of_ble_eq_true rfl⟩ rfl (Nat.le_of_ble_eq_true rfl) ⟨Nat.zero_le _, Nat.zero_le _⟩ (by decide) (ce_house ad cs _ _) rfl rfl dX10_count_39 (fun r16 M17 L18 hr16 => ?_)
      obtain ⟨hq1, hq2, hr16⟩ := hr16
      obtain rfl := hq1.symm
      obtain rfl := hq2.symm
      dsimp only [seatsOk, bt] at hr16
      obtain ⟨bar16, bbr16⟩ := zo_b hr16
      refine g_if_ne C 47 dX10_count_42 (by decide) (fun c19 => ?_) (fun c19 => ?_)
      ·
        have f20 := fne rfl (by decide : (0 : Int32).toInt = 0) c19
        have pr16 := zo_t hr16 c19
        try dsimp only [hasC, hasB, hasX, hasM, ofS, ofK, bt] at pr16
        refine g_aload_n C 0 dX10_count_47 rfl ?_
        refine g_get C (.ref (ad 81)) 3 in_X10_count_10 (List.mem_of_getElem? (i := 2) rfl) (by decide) (ce_house ad cs _ _) rfl (by decide) rfl rfl dX10_count_48 ?_
        refine g_iload_n C 1 dX10_count_51 rfl ?_
        refine g_callVi C (n := 1) (As := [.int x]) (st := []) (v_X4_begin l D ad cs _ _ x hI ⟨by omega, by omega⟩ hN1) gX10_count_X4_begin rfl rfl rfl (by decide +kernel) ⟨Nat.le_of_ble_eq_true rfl, Nat.le_of_ble_eq_true rfl⟩ rfl (Nat.le_of_ble_eq_true rfl) ⟨Nat.zero_le _, Nat.zero_le _⟩ (by decide) (ce_meth ad cs _ _) rfl rfl dX10_count_52 (fun r21 M22 L23 hr21 => ?_)
        obtain ⟨hr21, hI, hFr21, hGr21⟩ := hr21
        have hF : ∀ k i, ¬ (k = 0 ∧ i = 8) ∧ ¬ (k = 0 ∧ i = 9) ∧ ¬ (k = 0 ∧ i = 10) ∧ ¬ (k = 0 ∧ i = 11) ∧ k ≠ 83 ∧ k ≠ 87 ∧ k ≠ 257 ∧ ¬ (88 ≤ k ∧ k < 257) → M22 k i = M k i := fun k i hk => by (rw [hFr21 k i (by omega)]; try exact hF k i hk)
        have hG : ∀ k i, 258 ≤ k → L23 k i = L k i := fun k i hk => by (rw [hGr21 k i trivial]; try exact hG k i hk)
        have hV : vC M22 = startV (sI (vC M) 0 5 ((-9))) x := by rw [hr21.1, hV]
        have k0_8 : M22 0 8 = M 0 8 := (hFr21 0 8 (by omega)).trans k0_8
        have k0_9 : M22 0 9 = M 0 9 := (hFr21 0 9 (by omega)).trans k0_9
        have k0_10 : M22 0 10 = (-9) := (hFr21 0 10 (by omega)).trans k0_10
        have k0_11 : M22 0 11 = vC M 0 4 := (hFr21 0 11 (by omega)).trans k0_11
        have q88 : ∀ k, 88 ≤ k ∧ k < 257 → M22 k = M k := fun k hk => (funext (fun i => hFr21 k i (by omega))).trans (q88 k hk)
        have q83 : M22 83 = M22 83 := rfl
        have q87 : M22 87 = M22 87 := rfl
        have q257 : M22 257 = M 257 := (funext (fun i => hFr21 257 i (by omega))).trans q257
        obtain ⟨hr21v, hr21⟩ := hr21
        rw [eS] at hr21 hr21v
        rw [sI_n _ _ _ (by decide)] at hr21
        have tr21 := congrArg Int32.toInt hr21
        have h12 := start12 (V := vC M) hB (m := x) (by omega)
        have hV : vC M22 = sI (startV (vC M) x) 0 5 (-9) := hr21v
        have y8 : vC M22 8 = vC M 8 := by rw [hV, sI_n _ _ _ (by decide)]; rfl
        have y2 : vC M22 2 = vC M 2 := by rw [hV, sI_n _ _ _ (by decide)]; rfl
        have y7 : vC M22 7 = vC M 7 := by rw [hV, sI_n _ _ _ (by decide)]; rfl
        have y02 : (vC M22 0 2).toInt = (vC M 0 2).toInt := by rw [hV, sI_at, if_neg (by decide)]; rfl
        have y01 : vC M22 0 1 = vC M 0 1 := by rw [hV, sI_at, if_neg (by decide)]; rfl
        refine g_iconst C 1 dX10_count_55 (by decide) ?_
        refine g_icmp_eq C 62 dX10_count_56 (by decide) (fun c24 => ?_) (fun c24 => ?_)
        ·
          have f25 := feq rfl (by decide : (1 : Int32).toInt = 1) c24
          refine g_aload_n C 0 dX10_count_62 rfl ?_
          refine g_get C (.ref (ad 81)) 3 in_X10_count_10 (List.mem_of_getElem? (i := 2) rfl) (by decide) (ce_house ad cs _ _) rfl (by decide) rfl rfl dX10_count_63 ?_
          refine g_get C (.ref (ad 82)) 1 in_X10_count_4 (List.mem_of_getElem? (i := 4) rfl) (by decide) (ce_meth ad cs _ _) rfl (by decide) rfl rfl dX10_count_66 ?_
          refine g_iload_n C 1 dX10_count_69 rfl ?_
          have nx := ixn (x := x) (by omega)
          refine g_iald C (by decide) (ce_mkind ad cs _ _) (fin' (n := 20) rfl (by omega) (by omega)) dX10_count_70 ?_
          refine g_ni (fun v26 ev26 => ?_)
          have gv26 : v26 = vC M 9 x.toNatClampNeg := ev26.trans (hF 82 x.toNatClampNeg (by omega))
          have tv26 := congrArg Int32.toInt gv26
          refine g_istore C [(4, .int v26), (0, .ref (ad 0)), (1, .int x), (2, .int y), (3, .int z)] dX10_count_71 (by decide) rfl ?_
          refine g_aload_n C 1 dX10_count_73 rfl ?_
          refine g_aload_n C 1 dX10_count_74 rfl ?_
          refine g_iload_n C 3 dX10_count_75 rfl ?_
          refine g_iload C 0 dX10_count_76 rfl ?_
          refine g_iconst C 1 dX10_count_78 (by decide) ?_
          refine g_icmp_ne C 86 dX10_count_79 (by decide) (fun c27 => ?_) (fun c27 => ?_)
          ·
            have f28 := fne rfl (by decide : (1 : Int32).toInt = 1) c27
            refine g_iconst C 1 dX10_count_86 (by decide) ?_
            refine g_callVi C (n := 2) (As := [.int y, .int 1]) (st := [.ref (ad 0)]) (v_X10_firstUnlike l D ad cs _ _ y 1 hI ⟨by omega, by omega⟩ (by decide) (by rw [y8, y01]; exact h8) (by rw [y2]; exact hS)) gX10_count_X10_firstUnlike rfl rfl rfl (by decide +kernel) ⟨Nat.le_of_ble_eq_true rfl, Nat.le_of_ble_eq_true rfl⟩ rfl (Nat.le_of_ble_eq_true rfl) ⟨Nat.zero_le _, Nat.zero_le _⟩ (by decide) (ce_house ad cs _ _) rfl rfl dX10_count_87 (fun r29 M30 L31 hr29 => ?_)
            obtain ⟨hq1, hq2, hr29⟩ := hr29
            obtain rfl := hq1.symm
            obtain rfl := hq2.symm
            have hr29 : r29 = unV (vC M) y (vC M 9 x.toNatClampNeg) := by rw [hr29, y7, unF_ext y8 y2]; show _ = unF (vC M) y.toNatClampNeg (if (vC M 9 x.toNatClampNeg).toInt = 1 then 3 else 1) _ 0; first | rw [if_pos (by omega)] | rw [if_neg (by omega)]
            have tr29 := congrArg Int32.toInt hr29
            refine g_putI C 10 in_X10_count_10 (List.mem_of_getElem? (i := 1) rfl) (by decide) (ce_house ad cs _ _) rfl (by decide) rfl tyX10 tyX10_ok nmX10 rfl rfl rfl rfl (Nat.le_of_ble_eq_true rfl) (by rw [sI_k]; rfl) dX10_count_90 ?_
            refine g_nm (fun M32 hM32 => ?_)
            have hI : IC M32 := by rw [hM32]; exact hI.st (by intro h; rcases h with h | h <;> exact absurd h (by decide))
            have hF : ∀ k i, ¬ (k = 0 ∧ i = 8) ∧ ¬ (k = 0 ∧ i = 9) ∧ ¬ (k = 0 ∧ i = 10) ∧ ¬ (k = 0 ∧ i = 11) ∧ k ≠ 83 ∧ k ≠ 87 ∧ k ≠ 257 ∧ ¬ (88 ≤ k ∧ k < 257) → M32 k i = M k i := fun k i hk => by (rw [hM32, sI_at, if_neg (by omega)]; try exact hF k i hk)
            have k0_8 : M32 0 8 = M 0 8 := by rw [hM32, sI_at, if_neg (by decide)]; try exact k0_8
            have k0_9 : M32 0 9 = M 0 9 := by rw [hM32, sI_at, if_neg (by decide)]; try exact k0_9
            have k0_11 : M32 0 11 = vC M 0 4 := by rw [hM32, sI_at, if_neg (by decide)]; try exact k0_11
            have k0_10 : M32 0 10 = r29 := by rw [hM32, sI_at, if_pos (by decide)]
            have q83 : M32 83 = M22 83 := by rw [hM32, sI_n _ _ _ (by decide)]; try exact q83
            have q87 : M32 87 = M22 87 := by rw [hM32, sI_n _ _ _ (by decide)]; try exact q87
            have q257 : M32 257 = M 257 := by rw [hM32, sI_n _ _ _ (by decide)]; try exact q257
            have q88 : ∀ k, 88 ≤ k ∧ k < 257 → M32 k = M k := fun k hk => by rw [hM32, sI_n _ _ _ (by omega)]; try exact q88 k hk
            have hV : vC M32 = sI (sI (startV (vC M) x) 0 5 (-9)) 0 5 r29 := by rw [hM32, vC_s (c := 5) (by decide), hV]
            refine g_aload_n C 1 dX10_count_93 rfl ?_
            refine g_get C (.int (M32 0 10)) 10 in_X10_count_10 (List.mem_of_getElem? (i := 1) rfl) (by decide) (ce_house ad cs _ _) rfl (by decide) rfl rfl dX10_count_94 ?_
            refine g_ni (fun v33 ev33 => ?_)
            have gv33 : v33 = r29 := ev33.trans k0_10
            have tv33 := congrArg Int32.toInt gv33
            refine g_bipush C (-9) dX10_count_97 (by decide) ?_
            refine g_icmp_eq C 108 dX10_count_99 (by decide) (fun c34 => ?_) (fun c34 => ?_)
            ·
              have f35 := feq rfl (by decide : ((-9) : Int32).toInt = (-9)) c34
              rcases (hI0 0 8 (Or.inl rfl)) with hg8 | hg8
              ·
                rcases (hI0 0 9 (Or.inr rfl)) with hg9 | hg9
                ·
                  refine g_aload_n C 1 dX10_count_108 rfl ?_
                  refine g_get C (.ref (ad 88)) 4 in_X10_count_10 (List.mem_of_getElem? (i := 5) rfl) (by decide) (ce_house ad cs _ _) rfl (by decide) rfl rfl dX10_count_109 ?_
                  refine g_aload_n C 1 dX10_count_112 rfl ?_
                  refine g_get C (.ref (ad 68)) 2 in_X10_count_10 (List.mem_of_getElem? (i := 3) rfl) (by decide) (ce_house ad cs _ _) rfl (by decide) rfl rfl dX10_count_113 ?_
                  refine g_iload_n C 3 dX10_count_116 rfl ?_
                  refine g_iload_n C 4 dX10_count_117 rfl ?_
                  refine g_callVv C (n := 3) (As := [.ref (ad 68), .int y, .int z]) (st := []) (s_X6_take l D ad cs _ _ y z hI ⟨by omega, by omega⟩ ⟨by omega, by omega⟩) gX10_count_X6_take rfl rfl rfl (by decide +kernel) ⟨Nat.le_of_ble_eq_true rfl, Nat.le_of_ble_eq_true rfl⟩ rfl (Nat.le_of_ble_eq_true rfl) ⟨Nat.zero_le _, Nat.zero_le _⟩ (by decide) (ce_poll ad cs _ _) rfl rfl dX10_count_118 (fun M37 L38 hr36 => ?_)
                  obtain ⟨hI, hFr36, hGr36⟩ := hr36
                  have hcr36 := hFr36
                  have hFr36 : ∀ k i, ¬ (88 ≤ k ∧ k < 257) → M37 k i = M32 k i := fun k i hk => congrFun (hcr36 k (by omega)) i
                  have hGr36 : ∀ k i, 258 ≤ k → L38 k i = L23 k i := fun k i hk => congrFun (hGr36 k hk) i
                  have hF : ∀ k i, ¬ (k = 0 ∧ i = 8) ∧ ¬ (k = 0 ∧ i = 9) ∧ ¬ (k = 0 ∧ i = 10) ∧ ¬ (k = 0 ∧ i = 11) ∧ k ≠ 83 ∧ k ≠ 87 ∧ k ≠ 257 ∧ ¬ (88 ≤ k ∧ k < 257) → M37 k i = M k i := fun k i hk => by (rw [hFr36 k i (by omega)]; try exact hF k i hk)
                  have hG : ∀ k i, 258 ≤ k → L38 k i = L k i := fun k i hk => by (rw [hGr36 k i (by omega)]; try exact hG k i hk)
                  have hV : vC M37 = sI (sI (startV (vC M) x) 0 5 (-9)) 0 5 r29 := by rw [vC_fr (fun k hk => hcr36 k (by omega)), hV]
                  have k0_8 : M37 0 8 = M 0 8 := (hFr36 0 8 (by omega)).trans k0_8
                  have k0_9 : M37 0 9 = M 0 9 := (hFr36 0 9 (by omega)).trans k0_9
                  have k0_10 : M37 0 10 = r29 := (hFr36 0 10 (by omega)).trans k0_10
                  have k0_11 : M37 0 11 = vC M 0 4 := (hFr36 0 11 (by omega)).trans k0_11
                  have q88 : ∀ k, 88 ≤ k ∧ k < 257 → M37 k = M37 k := fun _ _ => rfl
                  have q83 : M37 83 = M22 83 := (funext (fun i => hFr36 83 i (by omega))).trans q83
                  have q87 : M37 87 = M22 87 := (funext (fun i => hFr36 87 i (by omega))).trans q87
                  have q257 : M37 257 = M 257 := (funext (fun i => hFr36 257 i (by omega))).trans q257
                  refine g_aload_n C 1 dX10_count_121 rfl ?_
                  refine g_get C (.ref (ad ((M37 0 9).toNatClampNeg))) 9 in_X10_count_10 (List.mem_of_getElem? (i := 6) rfl) (by decide) (ce_house ad cs _ _) rfl (by decide) rfl rfl dX10_count_122 ?_
                  refine g_tr 125 (by rw [k0_9, hg9]; rfl) ?_
                  refine g_callVv C (n := 0) (As := []) (st := []) (s_X7_clear_a l D ad cs _ _  hI ) gX10_count_X7_clear rfl rfl rfl (by decide +kernel) ⟨Nat.le_of_ble_eq_true rfl, Nat.le_of_ble_eq_true rfl⟩ rfl (Nat.le_of_ble_eq_true rfl) ⟨Nat.zero_le _, Nat.zero_le _⟩ (by decide) (ce_ra ad cs _ _) rfl rfl dX10_count_125 (fun M40 L41 hr39 => ?_)
                  obtain ⟨hI, hFr39, hGr39⟩ := hr39
                  have hcr39 := hFr39
                  have hFr39 : ∀ k i, ¬ (88 ≤ k ∧ k < 257) → M40 k i = M37 k i := fun k i hk => congrFun (hcr39 k (by omega)) i
                  have hGr39 : ∀ k i, 258 ≤ k → L41 k i = L38 k i := fun k i hk => congrFun (hGr39 k hk) i
                  have hF : ∀ k i, ¬ (k = 0 ∧ i = 8) ∧ ¬ (k = 0 ∧ i = 9) ∧ ¬ (k = 0 ∧ i = 10) ∧ ¬ (k = 0 ∧ i = 11) ∧ k ≠ 83 ∧ k ≠ 87 ∧ k ≠ 257 ∧ ¬ (88 ≤ k ∧ k < 257) → M40 k i = M k i := fun k i hk => by (rw [hFr39 k i (by omega)]; try exact hF k i hk)
                  have hG : ∀ k i, 258 ≤ k → L41 k i = L k i := fun k i hk => by (rw [hGr39 k i (by omega)]; try exact hG k i hk)
                  have hV : vC M40 = sI (sI (startV (vC M) x) 0 5 (-9)) 0 5 r29 := by rw [vC_fr (fun k hk => hcr39 k (by omega)), hV]
                  have k0_8 : M40 0 8 = M 0 8 := (hFr39 0 8 (by omega)).trans k0_8
                  have k0_9 : M40 0 9 = M 0 9 := (hFr39 0 9 (by omega)).trans k0_9
                  have k0_10 : M40 0 10 = r29 := (hFr39 0 10 (by omega)).trans k0_10
                  have k0_11 : M40 0 11 = vC M 0 4 := (hFr39 0 11 (by omega)).trans k0_11
                  have q88 : ∀ k, 88 ≤ k ∧ k < 257 → M40 k = M40 k := fun _ _ => rfl
                  have q83 : M40 83 = M22 83 := (funext (fun i => hFr39 83 i (by omega))).trans q83
                  have q87 : M40 87 = M22 87 := (funext (fun i => hFr39 87 i (by omega))).trans q87
                  have q257 : M40 257 = M 257 := (funext (fun i => hFr39 257 i (by omega))).trans q257
                  refine g_aload_n C 1 dX10_count_128 rfl ?_
                  refine g_iload C 0 dX10_count_129 rfl ?_
                  refine g_aload_n C 1 dX10_count_131 rfl ?_
                  refine g_get C (.ref (ad ((M40 0 9).toNatClampNeg))) 9 in_X10_count_10 (List.mem_of_getElem? (i := 6) rfl) (by decide) (ce_house ad cs _ _) rfl (by decide) rfl rfl dX10_count_132 ?_
                  refine g_tr 125 (by rw [k0_9, hg9]; rfl) ?_
                  refine g_callVi C (n := 2) (As := [.int v26, .ref (ad 125)]) (st := []) (s_X10_countBy_a l D ad cs _ _ v26 hI ) gX10_count_X10_countBy rfl rfl rfl (by decide +kernel) ⟨Nat.le_of_ble_eq_true rfl, Nat.le_of_ble_eq_true rfl⟩ rfl (Nat.le_of_ble_eq_true rfl) ⟨Nat.zero_le _, Nat.zero_le _⟩ (by decide) (ce_house ad cs _ _) rfl rfl dX10_count_135 (fun r42 M43 L44 hr42 => ?_)
                  obtain ⟨hr42, hI, hFr42, hGr42⟩ := hr42
                  have hcr42 := hFr42
                  have hFr42 : ∀ k i, ¬ (88 ≤ k ∧ k < 257) → M43 k i = M40 k i := fun k i hk => congrFun (hcr42 k (by omega)) i
                  have hGr42 : ∀ k i, 258 ≤ k → L44 k i = L41 k i := fun k i hk => congrFun (hGr42 k hk) i
                  have hF : ∀ k i, ¬ (k = 0 ∧ i = 8) ∧ ¬ (k = 0 ∧ i = 9) ∧ ¬ (k = 0 ∧ i = 10) ∧ ¬ (k = 0 ∧ i = 11) ∧ k ≠ 83 ∧ k ≠ 87 ∧ k ≠ 257 ∧ ¬ (88 ≤ k ∧ k < 257) → M43 k i = M k i := fun k i hk => by (rw [hFr42 k i (by omega)]; try exact hF k i hk)
                  have hG : ∀ k i, 258 ≤ k → L44 k i = L k i := fun k i hk => by (rw [hGr42 k i (by omega)]; try exact hG k i hk)
                  have hV : vC M43 = sI (sI (startV (vC M) x) 0 5 (-9)) 0 5 r29 := by rw [vC_fr (fun k hk => hcr42 k (by omega)), hV]
                  have k0_8 : M43 0 8 = M 0 8 := (hFr42 0 8 (by omega)).trans k0_8
                  have k0_9 : M43 0 9 = M 0 9 := (hFr42 0 9 (by omega)).trans k0_9
                  have k0_10 : M43 0 10 = r29 := (hFr42 0 10 (by omega)).trans k0_10
                  have k0_11 : M43 0 11 = vC M 0 4 := (hFr42 0 11 (by omega)).trans k0_11
                  have q88 : ∀ k, 88 ≤ k ∧ k < 257 → M43 k = M43 k := fun _ _ => rfl
                  have q83 : M43 83 = M22 83 := (funext (fun i => hFr42 83 i (by omega))).trans q83
                  have q87 : M43 87 = M22 87 := (funext (fun i => hFr42 87 i (by omega))).trans q87
                  have q257 : M43 257 = M 257 := (funext (fun i => hFr42 257 i (by omega))).trans q257
                  have zr42 : r42.toInt = 0 ∨ r42.toInt = 1 := by rcases hr42 with h9 | h9 <;> rw [h9] <;> decide
                  refine g_if_ne C 144 dX10_count_138 (by decide) (fun c45 => ?_) (fun c45 => ?_)
                  ·
                    have f46 := fne rfl (by decide : (0 : Int32).toInt = 0) c45
                    refine g_aload_n C 1 dX10_count_144 rfl ?_
                    refine g_get C (.ref (ad ((M43 0 9).toNatClampNeg))) 9 in_X10_count_10 (List.mem_of_getElem? (i := 6) rfl) (by decide) (ce_house ad cs _ _) rfl (by decide) rfl rfl dX10_count_145 ?_
                    refine g_tr 125 (by rw [k0_9, hg9]; rfl) ?_
                    refine g_astore C [(5, .ref (ad 125)), (4, .int v26), (0, .ref (ad 0)), (1, .int x), (2, .int y), (3, .int z)] dX10_count_148 (by decide) rfl ?_
                    refine g_aload_n C 2 dX10_count_150 rfl ?_
                    refine g_aload_n C 2 dX10_count_151 rfl ?_
                    refine g_get C (.ref (ad ((M43 0 8).toNatClampNeg))) 8 in_X10_count_10 (List.mem_of_getElem? (i := 7) rfl) (by decide) (ce_house ad cs _ _) rfl (by decide) rfl rfl dX10_count_152 ?_
                    refine g_tr 125 (by rw [k0_8, hg8]; rfl) ?_
                    refine g_putR C (x9 := 125) 9 in_X10_count_10 (List.mem_of_getElem? (i := 6) rfl) (by decide) (ce_house ad cs _ _) rfl (by decide) rfl tyX10 tyX10_ok nmX10 rfl rfl rfl rfl (Nat.le_of_ble_eq_true rfl) (by rw [sI_k]; rfl) dX10_count_155 ?_
                    refine g_nm (fun M47 hM47 => ?_)
                    have zy48 : (125 : Int32).toInt = 125 := by decide
                    have hI : IC M47 := by rw [hM47]; exact hI.st (fun _ => Or.inl rfl)
                    have hF : ∀ k i, ¬ (k = 0 ∧ i = 8) ∧ ¬ (k = 0 ∧ i = 9) ∧ ¬ (k = 0 ∧ i = 10) ∧ ¬ (k = 0 ∧ i = 11) ∧ k ≠ 83 ∧ k ≠ 87 ∧ k ≠ 257 ∧ ¬ (88 ≤ k ∧ k < 257) → M47 k i = M k i := fun k i hk => by (rw [hM47, sI_at, if_neg (by omega)]; try exact hF k i hk)
                    have k0_8 : M47 0 8 = M 0 8 := by rw [hM47, sI_at, if_neg (by decide)]; try exact k0_8
                    have k0_10 : M47 0 10 = r29 := by rw [hM47, sI_at, if_neg (by decide)]; try exact k0_10
                    have k0_11 : M47 0 11 = vC M 0 4 := by rw [hM47, sI_at, if_neg (by decide)]; try exact k0_11
                    have k0_9 : M47 0 9 = 125 := by rw [hM47, sI_at, if_pos (by decide)]
                    have q83 : M47 83 = M22 83 := by rw [hM47, sI_n _ _ _ (by decide)]; try exact q83
                    have q87 : M47 87 = M22 87 := by rw [hM47, sI_n _ _ _ (by decide)]; try exact q87
                    have q257 : M47 257 = M 257 := by rw [hM47, sI_n _ _ _ (by decide)]; try exact q257
                    have q88 : ∀ k, 88 ≤ k ∧ k < 257 → M47 k = M43 k := fun k hk => by rw [hM47, sI_n _ _ _ (by omega)]; try exact q88 k hk
                    have hV : vC M47 = sI (sI (startV (vC M) x) 0 5 (-9)) 0 5 r29 := by rw [hM47, vC_h (by decide), hV]
                    refine g_aload_n C 2 dX10_count_158 rfl ?_
                    refine g_aload C 0 dX10_count_159 rfl ?_
                    refine g_putR C (x9 := 125) 8 in_X10_count_10 (List.mem_of_getElem? (i := 7) rfl) (by decide) (ce_house ad cs _ _) rfl (by decide) rfl tyX10 tyX10_ok nmX10 rfl rfl rfl rfl (Nat.le_of_ble_eq_true rfl) (by rw [sI_k]; rfl) dX10_count_161 ?_
                    refine g_nm (fun M49 hM49 => ?_)
                    have zy50 : (125 : Int32).toInt = 125 := by decide
                    have hI : IC M49 := by rw [hM49]; exact hI.st (fun _ => Or.inl rfl)
                    have hF : ∀ k i, ¬ (k = 0 ∧ i = 8) ∧ ¬ (k = 0 ∧ i = 9) ∧ ¬ (k = 0 ∧ i = 10) ∧ ¬ (k = 0 ∧ i = 11) ∧ k ≠ 83 ∧ k ≠ 87 ∧ k ≠ 257 ∧ ¬ (88 ≤ k ∧ k < 257) → M49 k i = M k i := fun k i hk => by (rw [hM49, sI_at, if_neg (by omega)]; try exact hF k i hk)
                    have k0_9 : M49 0 9 = 125 := by rw [hM49, sI_at, if_neg (by decide)]; try exact k0_9
                    have k0_10 : M49 0 10 = r29 := by rw [hM49, sI_at, if_neg (by decide)]; try exact k0_10
                    have k0_11 : M49 0 11 = vC M 0 4 := by rw [hM49, sI_at, if_neg (by decide)]; try exact k0_11
                    have k0_8 : M49 0 8 = 125 := by rw [hM49, sI_at, if_pos (by decide)]
                    have q83 : M49 83 = M22 83 := by rw [hM49, sI_n _ _ _ (by decide)]; try exact q83
                    have q87 : M49 87 = M22 87 := by rw [hM49, sI_n _ _ _ (by decide)]; try exact q87
                    have q257 : M49 257 = M 257 := by rw [hM49, sI_n _ _ _ (by decide)]; try exact q257
                    have q88 : ∀ k, 88 ≤ k ∧ k < 257 → M49 k = M43 k := fun k hk => by rw [hM49, sI_n _ _ _ (by omega)]; try exact q88 k hk
                    have hV : vC M49 = sI (sI (startV (vC M) x) 0 5 (-9)) 0 5 r29 := by rw [hM49, vC_h (by decide), hV]
                    refine g_aload_n C 2 dX10_count_164 rfl ?_
                    refine g_get C (.ref (ad ((M49 0 8).toNatClampNeg))) 8 in_X10_count_10 (List.mem_of_getElem? (i := 7) rfl) (by decide) (ce_house ad cs _ _) rfl (by decide) rfl rfl dX10_count_165 ?_
                    refine g_tr 125 (by rw [k0_8]; rfl) ?_
                    refine g_get C (.int (M49 125 0)) 0 in_X10_count_7 (List.mem_of_getElem? (i := 8) rfl) (by decide) (ce_ra ad cs _ _) rfl (by decide) rfl rfl dX10_count_168 ?_
                    refine g_ni (fun v51 ev51 => ?_)
                    have gv51 := ev51
                    have tv51 := congrArg Int32.toInt gv51
                    obtain ⟨bv51, dv51⟩ := (show rg 0 30 v51 from (by rw [ev51]; exact hI 125 0 (Or.inl rfl)))
                    have hA : A_count (vC M) x y z = (0, sI (startV (vC M) x) 0 5 (-9)) := by dsimp only [A_count, hasM, hasX, seatsOk, bt]; (repeat (first | rw [if_pos (by omega)] | rw [if_neg (by omega)]))
                    have er9 : r29 = -9 := Int32.toInt_inj.mp (by rw [show (-9 : Int32).toInt = -9 by decide]; omega)
                    exact g_iret C hr ⟨⟨by rw [hA, hV, sI_sI, er9], fun h => absurd (by rw [hA]) h⟩, hI, hF, hG⟩ dX10_count_171
                  ·
                    have f52 := feq rfl (by decide : (0 : Int32).toInt = 0) c45
                    refine g_bipush C (-6) dX10_count_141 (by decide) ?_
                    have hA : A_count (vC M) x y z = (0, sI (startV (vC M) x) 0 5 (-9)) := by dsimp only [A_count, hasM, hasX, seatsOk, bt]; (repeat (first | rw [if_pos (by omega)] | rw [if_neg (by omega)]))
                    have er9 : r29 = -9 := Int32.toInt_inj.mp (by rw [show (-9 : Int32).toInt = -9 by decide]; omega)
                    have zr9 : ((-6) : Int32).toInt = (-6) := by decide
                    exact g_iret C hr ⟨⟨by rw [hA, hV, sI_sI, er9], fun h => absurd (by rw [hA]) h⟩, hI, hF, hG⟩ dX10_count_143
                ·
                  refine g_aload_n C 1 dX10_count_108 rfl ?_
                  refine g_get C (.ref (ad 88)) 4 in_X10_count_10 (List.mem_of_getElem? (i := 5) rfl) (by decide) (ce_house ad cs _ _) rfl (by decide) rfl rfl dX10_count_109 ?_
                  refine g_aload_n C 1 dX10_count_112 rfl ?_
                  refine g_get C (.ref (ad 68)) 2 in_X10_count_10 (List.mem_of_getElem? (i := 3) rfl) (by decide) (ce_house ad cs _ _) rfl (by decide) rfl rfl dX10_count_113 ?_
                  refine g_iload_n C 3 dX10_count_116 rfl ?_
                  refine g_iload_n C 4 dX10_count_117 rfl ?_
                  refine g_callVv C (n := 3) (As := [.ref (ad 68), .int y, .int z]) (st := []) (s_X6_take l D ad cs _ _ y z hI ⟨by omega, by omega⟩ ⟨by omega, by omega⟩) gX10_count_X6_take rfl rfl rfl (by decide +kernel) ⟨Nat.le_of_ble_eq_true rfl, Nat.le_of_ble_eq_true rfl⟩ rfl (Nat.le_of_ble_eq_true rfl) ⟨Nat.zero_le _, Nat.zero_le _⟩ (by decide) (ce_poll ad cs _ _) rfl rfl dX10_count_118 (fun M54 L55 hr53 => ?_)
                  obtain ⟨hI, hFr53, hGr53⟩ := hr53
                  have hcr53 := hFr53
                  have hFr53 : ∀ k i, ¬ (88 ≤ k ∧ k < 257) → M54 k i = M32 k i := fun k i hk => congrFun (hcr53 k (by omega)) i
                  have hGr53 : ∀ k i, 258 ≤ k → L55 k i = L23 k i := fun k i hk => congrFun (hGr53 k hk) i
                  have hF : ∀ k i, ¬ (k = 0 ∧ i = 8) ∧ ¬ (k = 0 ∧ i = 9) ∧ ¬ (k = 0 ∧ i = 10) ∧ ¬ (k = 0 ∧ i = 11) ∧ k ≠ 83 ∧ k ≠ 87 ∧ k ≠ 257 ∧ ¬ (88 ≤ k ∧ k < 257) → M54 k i = M k i := fun k i hk => by (rw [hFr53 k i (by omega)]; try exact hF k i hk)
                  have hG : ∀ k i, 258 ≤ k → L55 k i = L k i := fun k i hk => by (rw [hGr53 k i (by omega)]; try exact hG k i hk)
                  have hV : vC M54 = sI (sI (startV (vC M) x) 0 5 (-9)) 0 5 r29 := by rw [vC_fr (fun k hk => hcr53 k (by omega)), hV]
                  have k0_8 : M54 0 8 = M 0 8 := (hFr53 0 8 (by omega)).trans k0_8
                  have k0_9 : M54 0 9 = M 0 9 := (hFr53 0 9 (by omega)).trans k0_9
                  have k0_10 : M54 0 10 = r29 := (hFr53 0 10 (by omega)).trans k0_10
                  have k0_11 : M54 0 11 = vC M 0 4 := (hFr53 0 11 (by omega)).trans k0_11
                  have q88 : ∀ k, 88 ≤ k ∧ k < 257 → M54 k = M54 k := fun _ _ => rfl
                  have q83 : M54 83 = M22 83 := (funext (fun i => hFr53 83 i (by omega))).trans q83
                  have q87 : M54 87 = M22 87 := (funext (fun i => hFr53 87 i (by omega))).trans q87
                  have q257 : M54 257 = M 257 := (funext (fun i => hFr53 257 i (by omega))).trans q257
                  refine g_aload_n C 1 dX10_count_121 rfl ?_
                  refine g_get C (.ref (ad ((M54 0 9).toNatClampNeg))) 9 in_X10_count_10 (List.mem_of_getElem? (i := 6) rfl) (by decide) (ce_house ad cs _ _) rfl (by decide) rfl rfl dX10_count_122 ?_
                  refine g_tr 191 (by rw [k0_9, hg9]; rfl) ?_
                  refine g_callVv C (n := 0) (As := []) (st := []) (s_X7_clear_b l D ad cs _ _  hI ) gX10_count_X7_clear rfl rfl rfl (by decide +kernel) ⟨Nat.le_of_ble_eq_true rfl, Nat.le_of_ble_eq_true rfl⟩ rfl (Nat.le_of_ble_eq_true rfl) ⟨Nat.zero_le _, Nat.zero_le _⟩ (by decide) (ce_rb ad cs _ _) rfl rfl dX10_count_125 (fun M57 L58 hr56 => ?_)
                  obtain ⟨hI, hFr56, hGr56⟩ := hr56
                  have hcr56 := hFr56
                  have hFr56 : ∀ k i, ¬ (88 ≤ k ∧ k < 257) → M57 k i = M54 k i := fun k i hk => congrFun (hcr56 k (by omega)) i
                  have hGr56 : ∀ k i, 258 ≤ k → L58 k i = L55 k i := fun k i hk => congrFun (hGr56 k hk) i
                  have hF : ∀ k i, ¬ (k = 0 ∧ i = 8) ∧ ¬ (k = 0 ∧ i = 9) ∧ ¬ (k = 0 ∧ i = 10) ∧ ¬ (k = 0 ∧ i = 11) ∧ k ≠ 83 ∧ k ≠ 87 ∧ k ≠ 257 ∧ ¬ (88 ≤ k ∧ k < 257) → M57 k i = M k i := fun k i hk => by (rw [hFr56 k i (by omega)]; try exact hF k i hk)
                  have hG : ∀ k i, 258 ≤ k → L58 k i = L k i := fun k i hk => by (rw [hGr56 k i (by omega)]; try exact hG k i hk)
                  have hV : vC M57 = sI (sI (startV (vC M) x) 0 5 (-9)) 0 5 r29 := by rw [vC_fr (fun k hk => hcr56 k (by omega)), hV]
                  have k0_8 : M57 0 8 = M 0 8 := (hFr56 0 8 (by omega)).trans k0_8
                  have k0_9 : M57 0 9 = M 0 9 := (hFr56 0 9 (by omega)).trans k0_9
                  have k0_10 : M57 0 10 = r29 := (hFr56 0 10 (by omega)).trans k0_10
                  have k0_11 : M57 0 11 = vC M 0 4 := (hFr56 0 11 (by omega)).trans k0_11
                  have q88 : ∀ k, 88 ≤ k ∧ k < 257 → M57 k = M57 k := fun _ _ => rfl
                  have q83 : M57 83 = M22 83 := (funext (fun i => hFr56 83 i (by omega))).trans q83
                  have q87 : M57 87 = M22 87 := (funext (fun i => hFr56 87 i (by omega))).trans q87
                  have q257 : M57 257 = M 257 := (funext (fun i => hFr56 257 i (by omega))).trans q257
                  refine g_aload_n C 1 dX10_count_128 rfl ?_
                  refine g_iload C 0 dX10_count_129 rfl ?_
                  refine g_aload_n C 1 dX10_count_131 rfl ?_
                  refine g_get C (.ref (ad ((M57 0 9).toNatClampNeg))) 9 in_X10_count_10 (List.mem_of_getElem? (i := 6) rfl) (by decide) (ce_house ad cs _ _) rfl (by decide) rfl rfl dX10_count_132 ?_
                  refine g_tr 191 (by rw [k0_9, hg9]; rfl) ?_
                  refine g_callVi C (n := 2) (As := [.int v26, .ref (ad 191)]) (st := []) (s_X10_countBy_b l D ad cs _ _ v26 hI ) gX10_count_X10_countBy rfl rfl rfl (by decide +kernel) ⟨Nat.le_of_ble_eq_true rfl, Nat.le_of_ble_eq_true rfl⟩ rfl (Nat.le_of_ble_eq_true rfl) ⟨Nat.zero_le _, Nat.zero_le _⟩ (by decide) (ce_house ad cs _ _) rfl rfl dX10_count_135 (fun r59 M60 L61 hr59 => ?_)
                  obtain ⟨hr59, hI, hFr59, hGr59⟩ := hr59
                  have hcr59 := hFr59
                  have hFr59 : ∀ k i, ¬ (88 ≤ k ∧ k < 257) → M60 k i = M57 k i := fun k i hk => congrFun (hcr59 k (by omega)) i
                  have hGr59 : ∀ k i, 258 ≤ k → L61 k i = L58 k i := fun k i hk => congrFun (hGr59 k hk) i
                  have hF : ∀ k i, ¬ (k = 0 ∧ i = 8) ∧ ¬ (k = 0 ∧ i = 9) ∧ ¬ (k = 0 ∧ i = 10) ∧ ¬ (k = 0 ∧ i = 11) ∧ k ≠ 83 ∧ k ≠ 87 ∧ k ≠ 257 ∧ ¬ (88 ≤ k ∧ k < 257) → M60 k i = M k i := fun k i hk => by (rw [hFr59 k i (by omega)]; try exact hF k i hk)
                  have hG : ∀ k i, 258 ≤ k → L61 k i = L k i := fun k i hk => by (rw [hGr59 k i (by omega)]; try exact hG k i hk)
                  have hV : vC M60 = sI (sI (startV (vC M) x) 0 5 (-9)) 0 5 r29 := by rw [vC_fr (fun k hk => hcr59 k (by omega)), hV]
                  have k0_8 : M60 0 8 = M 0 8 := (hFr59 0 8 (by omega)).trans k0_8
                  have k0_9 : M60 0 9 = M 0 9 := (hFr59 0 9 (by omega)).trans k0_9
                  have k0_10 : M60 0 10 = r29 := (hFr59 0 10 (by omega)).trans k0_10
                  have k0_11 : M60 0 11 = vC M 0 4 := (hFr59 0 11 (by omega)).trans k0_11
                  have q88 : ∀ k, 88 ≤ k ∧ k < 257 → M60 k = M60 k := fun _ _ => rfl
                  have q83 : M60 83 = M22 83 := (funext (fun i => hFr59 83 i (by omega))).trans q83
                  have q87 : M60 87 = M22 87 := (funext (fun i => hFr59 87 i (by omega))).trans q87
                  have q257 : M60 257 = M 257 := (funext (fun i => hFr59 257 i (by omega))).trans q257
                  have zr59 : r59.toInt = 0 ∨ r59.toInt = 1 := by rcases hr59 with h9 | h9 <;> rw [h9] <;> decide
                  refine g_if_ne C 144 dX10_count_138 (by decide) (fun c62 => ?_) (fun c62 => ?_)
                  ·
                    have f63 := fne rfl (by decide : (0 : Int32).toInt = 0) c62
                    refine g_aload_n C 1 dX10_count_144 rfl ?_
                    refine g_get C (.ref (ad ((M60 0 9).toNatClampNeg))) 9 in_X10_count_10 (List.mem_of_getElem? (i := 6) rfl) (by decide) (ce_house ad cs _ _) rfl (by decide) rfl rfl dX10_count_145 ?_
                    refine g_tr 191 (by rw [k0_9, hg9]; rfl) ?_
                    refine g_astore C [(5, .ref (ad 191)), (4, .int v26), (0, .ref (ad 0)), (1, .int x), (2, .int y), (3, .int z)] dX10_count_148 (by decide) rfl ?_
                    refine g_aload_n C 2 dX10_count_150 rfl ?_
                    refine g_aload_n C 2 dX10_count_151 rfl ?_
                    refine g_get C (.ref (ad ((M60 0 8).toNatClampNeg))) 8 in_X10_count_10 (List.mem_of_getElem? (i := 7) rfl) (by decide) (ce_house ad cs _ _) rfl (by decide) rfl rfl dX10_count_152 ?_
                    refine g_tr 125 (by rw [k0_8, hg8]; rfl) ?_
                    refine g_putR C (x9 := 125) 9 in_X10_count_10 (List.mem_of_getElem? (i := 6) rfl) (by decide) (ce_house ad cs _ _) rfl (by decide) rfl tyX10 tyX10_ok nmX10 rfl rfl rfl rfl (Nat.le_of_ble_eq_true rfl) (by rw [sI_k]; rfl) dX10_count_155 ?_
                    refine g_nm (fun M64 hM64 => ?_)
                    have zy65 : (125 : Int32).toInt = 125 := by decide
                    have hI : IC M64 := by rw [hM64]; exact hI.st (fun _ => Or.inl rfl)
                    have hF : ∀ k i, ¬ (k = 0 ∧ i = 8) ∧ ¬ (k = 0 ∧ i = 9) ∧ ¬ (k = 0 ∧ i = 10) ∧ ¬ (k = 0 ∧ i = 11) ∧ k ≠ 83 ∧ k ≠ 87 ∧ k ≠ 257 ∧ ¬ (88 ≤ k ∧ k < 257) → M64 k i = M k i := fun k i hk => by (rw [hM64, sI_at, if_neg (by omega)]; try exact hF k i hk)
                    have k0_8 : M64 0 8 = M 0 8 := by rw [hM64, sI_at, if_neg (by decide)]; try exact k0_8
                    have k0_10 : M64 0 10 = r29 := by rw [hM64, sI_at, if_neg (by decide)]; try exact k0_10
                    have k0_11 : M64 0 11 = vC M 0 4 := by rw [hM64, sI_at, if_neg (by decide)]; try exact k0_11
                    have k0_9 : M64 0 9 = 125 := by rw [hM64, sI_at, if_pos (by decide)]
                    have q83 : M64 83 = M22 83 := by rw [hM64, sI_n _ _ _ (by decide)]; try exact q83
                    have q87 : M64 87 = M22 87 := by rw [hM64, sI_n _ _ _ (by decide)]; try exact q87
                    have q257 : M64 257 = M 257 := by rw [hM64, sI_n _ _ _ (by decide)]; try exact q257
                    have q88 : ∀ k, 88 ≤ k ∧ k < 257 → M64 k = M60 k := fun k hk => by rw [hM64, sI_n _ _ _ (by omega)]; try exact q88 k hk
                    have hV : vC M64 = sI (sI (startV (vC M) x) 0 5 (-9)) 0 5 r29 := by rw [hM64, vC_h (by decide), hV]
                    refine g_aload_n C 2 dX10_count_158 rfl ?_
                    refine g_aload C 0 dX10_count_159 rfl ?_
                    refine g_putR C (x9 := 191) 8 in_X10_count_10 (List.mem_of_getElem? (i := 7) rfl) (by decide) (ce_house ad cs _ _) rfl (by decide) rfl tyX10 tyX10_ok nmX10 rfl rfl rfl rfl (Nat.le_of_ble_eq_true rfl) (by rw [sI_k]; rfl) dX10_count_161 ?_
                    refine g_nm (fun M66 hM66 => ?_)
                    have zy67 : (191 : Int32).toInt = 191 := by decide
                    have hI : IC M66 := by rw [hM66]; exact hI.st (fun _ => Or.inr rfl)
                    have hF : ∀ k i, ¬ (k = 0 ∧ i = 8) ∧ ¬ (k = 0 ∧ i = 9) ∧ ¬ (k = 0 ∧ i = 10) ∧ ¬ (k = 0 ∧ i = 11) ∧ k ≠ 83 ∧ k ≠ 87 ∧ k ≠ 257 ∧ ¬ (88 ≤ k ∧ k < 257) → M66 k i = M k i := fun k i hk => by (rw [hM66, sI_at, if_neg (by omega)]; try exact hF k i hk)
                    have k0_9 : M66 0 9 = 125 := by rw [hM66, sI_at, if_neg (by decide)]; try exact k0_9
                    have k0_10 : M66 0 10 = r29 := by rw [hM66, sI_at, if_neg (by decide)]; try exact k0_10
                    have k0_11 : M66 0 11 = vC M 0 4 := by rw [hM66, sI_at, if_neg (by decide)]; try exact k0_11
                    have k0_8 : M66 0 8 = 191 := by rw [hM66, sI_at, if_pos (by decide)]
                    have q83 : M66 83 = M22 83 := by rw [hM66, sI_n _ _ _ (by decide)]; try exact q83
                    have q87 : M66 87 = M22 87 := by rw [hM66, sI_n _ _ _ (by decide)]; try exact q87
                    have q257 : M66 257 = M 257 := by rw [hM66, sI_n _ _ _ (by decide)]; try exact q257
                    have q88 : ∀ k, 88 ≤ k ∧ k < 257 → M66 k = M60 k := fun k hk => by rw [hM66, sI_n _ _ _ (by omega)]; try exact q88 k hk
                    have hV : vC M66 = sI (sI (startV (vC M) x) 0 5 (-9)) 0 5 r29 := by rw [hM66, vC_h (by decide), hV]
                    refine g_aload_n C 2 dX10_count_164 rfl ?_
                    refine g_get C (.ref (ad ((M66 0 8).toNatClampNeg))) 8 in_X10_count_10 (List.mem_of_getElem? (i := 7) rfl) (by decide) (ce_house ad cs _ _) rfl (by decide) rfl rfl dX10_count_165 ?_
                    refine g_tr 191 (by rw [k0_8]; rfl) ?_
                    refine g_get C (.int (M66 191 0)) 0 in_X10_count_7 (List.mem_of_getElem? (i := 8) rfl) (by decide) (ce_rb ad cs _ _) rfl (by decide) rfl rfl dX10_count_168 ?_
                    refine g_ni (fun v68 ev68 => ?_)
                    have gv68 := ev68
                    have tv68 := congrArg Int32.toInt gv68
                    obtain ⟨bv68, dv68⟩ := (show rg 0 30 v68 from (by rw [ev68]; exact hI 191 0 (Or.inl rfl)))
                    have hA : A_count (vC M) x y z = (0, sI (startV (vC M) x) 0 5 (-9)) := by dsimp only [A_count, hasM, hasX, seatsOk, bt]; (repeat (first | rw [if_pos (by omega)] | rw [if_neg (by omega)]))
                    have er9 : r29 = -9 := Int32.toInt_inj.mp (by rw [show (-9 : Int32).toInt = -9 by decide]; omega)
                    exact g_iret C hr ⟨⟨by rw [hA, hV, sI_sI, er9], fun h => absurd (by rw [hA]) h⟩, hI, hF, hG⟩ dX10_count_171
                  ·
                    have f69 := feq rfl (by decide : (0 : Int32).toInt = 0) c62
                    refine g_bipush C (-6) dX10_count_141 (by decide) ?_
                    have hA : A_count (vC M) x y z = (0, sI (startV (vC M) x) 0 5 (-9)) := by dsimp only [A_count, hasM, hasX, seatsOk, bt]; (repeat (first | rw [if_pos (by omega)] | rw [if_neg (by omega)]))
                    have er9 : r29 = -9 := Int32.toInt_inj.mp (by rw [show (-9 : Int32).toInt = -9 by decide]; omega)
                    have zr9 : ((-6) : Int32).toInt = (-6) := by decide
                    exact g_iret C hr ⟨⟨by rw [hA, hV, sI_sI, er9], fun h => absurd (by rw [hA]) h⟩, hI, hF, hG⟩ dX10_count_143
              ·
                rcases (hI0 0 9 (Or.inr rfl)) with hg9 | hg9
                ·
                  refine g_aload_n C 1 dX10_count_108 rfl ?_
                  refine g_get C (.ref (ad 88)) 4 in_X10_count_10 (List.mem_of_getElem? (i := 5) rfl) (by decide) (ce_house ad cs _ _) rfl (by decide) rfl rfl dX10_count_109 ?_
                  refine g_aload_n C 1 dX10_count_112 rfl ?_
                  refine g_get C (.ref (ad 68)) 2 in_X10_count_10 (List.mem_of_getElem? (i := 3) rfl) (by decide) (ce_house ad cs _ _) rfl (by decide) rfl rfl dX10_count_113 ?_
                  refine g_iload_n C 3 dX10_count_116 rfl ?_
                  refine g_iload_n C 4 dX10_count_117 rfl ?_
                  refine g_callVv C (n := 3) (As := [.ref (ad 68), .int y, .int z]) (st := []) (s_X6_take l D ad cs _ _ y z hI ⟨by omega, by omega⟩ ⟨by omega, by omega⟩) gX10_count_X6_take rfl rfl rfl (by decide +kernel) ⟨Nat.le_of_ble_eq_true rfl, Nat.le_of_ble_eq_true rfl⟩ rfl (Nat.le_of_ble_eq_true rfl) ⟨Nat.zero_le _, Nat.zero_le _⟩ (by decide) (ce_poll ad cs _ _) rfl rfl dX10_count_118 (fun M71 L72 hr70 => ?_)
                  obtain ⟨hI, hFr70, hGr70⟩ := hr70
                  have hcr70 := hFr70
                  have hFr70 : ∀ k i, ¬ (88 ≤ k ∧ k < 257) → M71 k i = M32 k i := fun k i hk => congrFun (hcr70 k (by omega)) i
                  have hGr70 : ∀ k i, 258 ≤ k → L72 k i = L23 k i := fun k i hk => congrFun (hGr70 k hk) i
                  have hF : ∀ k i, ¬ (k = 0 ∧ i = 8) ∧ ¬ (k = 0 ∧ i = 9) ∧ ¬ (k = 0 ∧ i = 10) ∧ ¬ (k = 0 ∧ i = 11) ∧ k ≠ 83 ∧ k ≠ 87 ∧ k ≠ 257 ∧ ¬ (88 ≤ k ∧ k < 257) → M71 k i = M k i := fun k i hk => by (rw [hFr70 k i (by omega)]; try exact hF k i hk)
                  have hG : ∀ k i, 258 ≤ k → L72 k i = L k i := fun k i hk => by (rw [hGr70 k i (by omega)]; try exact hG k i hk)
                  have hV : vC M71 = sI (sI (startV (vC M) x) 0 5 (-9)) 0 5 r29 := by rw [vC_fr (fun k hk => hcr70 k (by omega)), hV]
                  have k0_8 : M71 0 8 = M 0 8 := (hFr70 0 8 (by omega)).trans k0_8
                  have k0_9 : M71 0 9 = M 0 9 := (hFr70 0 9 (by omega)).trans k0_9
                  have k0_10 : M71 0 10 = r29 := (hFr70 0 10 (by omega)).trans k0_10
                  have k0_11 : M71 0 11 = vC M 0 4 := (hFr70 0 11 (by omega)).trans k0_11
                  have q88 : ∀ k, 88 ≤ k ∧ k < 257 → M71 k = M71 k := fun _ _ => rfl
                  have q83 : M71 83 = M22 83 := (funext (fun i => hFr70 83 i (by omega))).trans q83
                  have q87 : M71 87 = M22 87 := (funext (fun i => hFr70 87 i (by omega))).trans q87
                  have q257 : M71 257 = M 257 := (funext (fun i => hFr70 257 i (by omega))).trans q257
                  refine g_aload_n C 1 dX10_count_121 rfl ?_
                  refine g_get C (.ref (ad ((M71 0 9).toNatClampNeg))) 9 in_X10_count_10 (List.mem_of_getElem? (i := 6) rfl) (by decide) (ce_house ad cs _ _) rfl (by decide) rfl rfl dX10_count_122 ?_
                  refine g_tr 125 (by rw [k0_9, hg9]; rfl) ?_
                  refine g_callVv C (n := 0) (As := []) (st := []) (s_X7_clear_a l D ad cs _ _  hI ) gX10_count_X7_clear rfl rfl rfl (by decide +kernel) ⟨Nat.le_of_ble_eq_true rfl, Nat.le_of_ble_eq_true rfl⟩ rfl (Nat.le_of_ble_eq_true rfl) ⟨Nat.zero_le _, Nat.zero_le _⟩ (by decide) (ce_ra ad cs _ _) rfl rfl dX10_count_125 (fun M74 L75 hr73 => ?_)
                  obtain ⟨hI, hFr73, hGr73⟩ := hr73
                  have hcr73 := hFr73
                  have hFr73 : ∀ k i, ¬ (88 ≤ k ∧ k < 257) → M74 k i = M71 k i := fun k i hk => congrFun (hcr73 k (by omega)) i
                  have hGr73 : ∀ k i, 258 ≤ k → L75 k i = L72 k i := fun k i hk => congrFun (hGr73 k hk) i
                  have hF : ∀ k i, ¬ (k = 0 ∧ i = 8) ∧ ¬ (k = 0 ∧ i = 9) ∧ ¬ (k = 0 ∧ i = 10) ∧ ¬ (k = 0 ∧ i = 11) ∧ k ≠ 83 ∧ k ≠ 87 ∧ k ≠ 257 ∧ ¬ (88 ≤ k ∧ k < 257) → M74 k i = M k i := fun k i hk => by (rw [hFr73 k i (by omega)]; try exact hF k i hk)
                  have hG : ∀ k i, 258 ≤ k → L75 k i = L k i := fun k i hk => by (rw [hGr73 k i (by omega)]; try exact hG k i hk)
                  have hV : vC M74 = sI (sI (startV (vC M) x) 0 5 (-9)) 0 5 r29 := by rw [vC_fr (fun k hk => hcr73 k (by omega)), hV]
                  have k0_8 : M74 0 8 = M 0 8 := (hFr73 0 8 (by omega)).trans k0_8
                  have k0_9 : M74 0 9 = M 0 9 := (hFr73 0 9 (by omega)).trans k0_9
                  have k0_10 : M74 0 10 = r29 := (hFr73 0 10 (by omega)).trans k0_10
                  have k0_11 : M74 0 11 = vC M 0 4 := (hFr73 0 11 (by omega)).trans k0_11
                  have q88 : ∀ k, 88 ≤ k ∧ k < 257 → M74 k = M74 k := fun _ _ => rfl
                  have q83 : M74 83 = M22 83 := (funext (fun i => hFr73 83 i (by omega))).trans q83
                  have q87 : M74 87 = M22 87 := (funext (fun i => hFr73 87 i (by omega))).trans q87
                  have q257 : M74 257 = M 257 := (funext (fun i => hFr73 257 i (by omega))).trans q257
                  refine g_aload_n C 1 dX10_count_128 rfl ?_
                  refine g_iload C 0 dX10_count_129 rfl ?_
                  refine g_aload_n C 1 dX10_count_131 rfl ?_
                  refine g_get C (.ref (ad ((M74 0 9).toNatClampNeg))) 9 in_X10_count_10 (List.mem_of_getElem? (i := 6) rfl) (by decide) (ce_house ad cs _ _) rfl (by decide) rfl rfl dX10_count_132 ?_
                  refine g_tr 125 (by rw [k0_9, hg9]; rfl) ?_
                  refine g_callVi C (n := 2) (As := [.int v26, .ref (ad 125)]) (st := []) (s_X10_countBy_a l D ad cs _ _ v26 hI ) gX10_count_X10_countBy rfl rfl rfl (by decide +kernel) ⟨Nat.le_of_ble_eq_true rfl, Nat.le_of_ble_eq_true rfl⟩ rfl (Nat.le_of_ble_eq_true rfl) ⟨Nat.zero_le _, Nat.zero_le _⟩ (by decide) (ce_house ad cs _ _) rfl rfl dX10_count_135 (fun r76 M77 L78 hr76 => ?_)
                  obtain ⟨hr76, hI, hFr76, hGr76⟩ := hr76
                  have hcr76 := hFr76
                  have hFr76 : ∀ k i, ¬ (88 ≤ k ∧ k < 257) → M77 k i = M74 k i := fun k i hk => congrFun (hcr76 k (by omega)) i
                  have hGr76 : ∀ k i, 258 ≤ k → L78 k i = L75 k i := fun k i hk => congrFun (hGr76 k hk) i
                  have hF : ∀ k i, ¬ (k = 0 ∧ i = 8) ∧ ¬ (k = 0 ∧ i = 9) ∧ ¬ (k = 0 ∧ i = 10) ∧ ¬ (k = 0 ∧ i = 11) ∧ k ≠ 83 ∧ k ≠ 87 ∧ k ≠ 257 ∧ ¬ (88 ≤ k ∧ k < 257) → M77 k i = M k i := fun k i hk => by (rw [hFr76 k i (by omega)]; try exact hF k i hk)
                  have hG : ∀ k i, 258 ≤ k → L78 k i = L k i := fun k i hk => by (rw [hGr76 k i (by omega)]; try exact hG k i hk)
                  have hV : vC M77 = sI (sI (startV (vC M) x) 0 5 (-9)) 0 5 r29 := by rw [vC_fr (fun k hk => hcr76 k (by omega)), hV]
                  have k0_8 : M77 0 8 = M 0 8 := (hFr76 0 8 (by omega)).trans k0_8
                  have k0_9 : M77 0 9 = M 0 9 := (hFr76 0 9 (by omega)).trans k0_9
                  have k0_10 : M77 0 10 = r29 := (hFr76 0 10 (by omega)).trans k0_10
                  have k0_11 : M77 0 11 = vC M 0 4 := (hFr76 0 11 (by omega)).trans k0_11
                  have q88 : ∀ k, 88 ≤ k ∧ k < 257 → M77 k = M77 k := fun _ _ => rfl
                  have q83 : M77 83 = M22 83 := (funext (fun i => hFr76 83 i (by omega))).trans q83
                  have q87 : M77 87 = M22 87 := (funext (fun i => hFr76 87 i (by omega))).trans q87
                  have q257 : M77 257 = M 257 := (funext (fun i => hFr76 257 i (by omega))).trans q257
                  have zr76 : r76.toInt = 0 ∨ r76.toInt = 1 := by rcases hr76 with h9 | h9 <;> rw [h9] <;> decide
                  refine g_if_ne C 144 dX10_count_138 (by decide) (fun c79 => ?_) (fun c79 => ?_)
                  ·
                    have f80 := fne rfl (by decide : (0 : Int32).toInt = 0) c79
                    refine g_aload_n C 1 dX10_count_144 rfl ?_
                    refine g_get C (.ref (ad ((M77 0 9).toNatClampNeg))) 9 in_X10_count_10 (List.mem_of_getElem? (i := 6) rfl) (by decide) (ce_house ad cs _ _) rfl (by decide) rfl rfl dX10_count_145 ?_
                    refine g_tr 125 (by rw [k0_9, hg9]; rfl) ?_
                    refine g_astore C [(5, .ref (ad 125)), (4, .int v26), (0, .ref (ad 0)), (1, .int x), (2, .int y), (3, .int z)] dX10_count_148 (by decide) rfl ?_
                    refine g_aload_n C 2 dX10_count_150 rfl ?_
                    refine g_aload_n C 2 dX10_count_151 rfl ?_
                    refine g_get C (.ref (ad ((M77 0 8).toNatClampNeg))) 8 in_X10_count_10 (List.mem_of_getElem? (i := 7) rfl) (by decide) (ce_house ad cs _ _) rfl (by decide) rfl rfl dX10_count_152 ?_
                    refine g_tr 191 (by rw [k0_8, hg8]; rfl) ?_
                    refine g_putR C (x9 := 191) 9 in_X10_count_10 (List.mem_of_getElem? (i := 6) rfl) (by decide) (ce_house ad cs _ _) rfl (by decide) rfl tyX10 tyX10_ok nmX10 rfl rfl rfl rfl (Nat.le_of_ble_eq_true rfl) (by rw [sI_k]; rfl) dX10_count_155 ?_
                    refine g_nm (fun M81 hM81 => ?_)
                    have zy82 : (191 : Int32).toInt = 191 := by decide
                    have hI : IC M81 := by rw [hM81]; exact hI.st (fun _ => Or.inr rfl)
                    have hF : ∀ k i, ¬ (k = 0 ∧ i = 8) ∧ ¬ (k = 0 ∧ i = 9) ∧ ¬ (k = 0 ∧ i = 10) ∧ ¬ (k = 0 ∧ i = 11) ∧ k ≠ 83 ∧ k ≠ 87 ∧ k ≠ 257 ∧ ¬ (88 ≤ k ∧ k < 257) → M81 k i = M k i := fun k i hk => by (rw [hM81, sI_at, if_neg (by omega)]; try exact hF k i hk)
                    have k0_8 : M81 0 8 = M 0 8 := by rw [hM81, sI_at, if_neg (by decide)]; try exact k0_8
                    have k0_10 : M81 0 10 = r29 := by rw [hM81, sI_at, if_neg (by decide)]; try exact k0_10
                    have k0_11 : M81 0 11 = vC M 0 4 := by rw [hM81, sI_at, if_neg (by decide)]; try exact k0_11
                    have k0_9 : M81 0 9 = 191 := by rw [hM81, sI_at, if_pos (by decide)]
                    have q83 : M81 83 = M22 83 := by rw [hM81, sI_n _ _ _ (by decide)]; try exact q83
                    have q87 : M81 87 = M22 87 := by rw [hM81, sI_n _ _ _ (by decide)]; try exact q87
                    have q257 : M81 257 = M 257 := by rw [hM81, sI_n _ _ _ (by decide)]; try exact q257
                    have q88 : ∀ k, 88 ≤ k ∧ k < 257 → M81 k = M77 k := fun k hk => by rw [hM81, sI_n _ _ _ (by omega)]; try exact q88 k hk
                    have hV : vC M81 = sI (sI (startV (vC M) x) 0 5 (-9)) 0 5 r29 := by rw [hM81, vC_h (by decide), hV]
                    refine g_aload_n C 2 dX10_count_158 rfl ?_
                    refine g_aload C 0 dX10_count_159 rfl ?_
                    refine g_putR C (x9 := 125) 8 in_X10_count_10 (List.mem_of_getElem? (i := 7) rfl) (by decide) (ce_house ad cs _ _) rfl (by decide) rfl tyX10 tyX10_ok nmX10 rfl rfl rfl rfl (Nat.le_of_ble_eq_true rfl) (by rw [sI_k]; rfl) dX10_count_161 ?_
                    refine g_nm (fun M83 hM83 => ?_)
                    have zy84 : (125 : Int32).toInt = 125 := by decide
                    have hI : IC M83 := by rw [hM83]; exact hI.st (fun _ => Or.inl rfl)
                    have hF : ∀ k i, ¬ (k = 0 ∧ i = 8) ∧ ¬ (k = 0 ∧ i = 9) ∧ ¬ (k = 0 ∧ i = 10) ∧ ¬ (k = 0 ∧ i = 11) ∧ k ≠ 83 ∧ k ≠ 87 ∧ k ≠ 257 ∧ ¬ (88 ≤ k ∧ k < 257) → M83 k i = M k i := fun k i hk => by (rw [hM83, sI_at, if_neg (by omega)]; try exact hF k i hk)
                    have k0_9 : M83 0 9 = 191 := by rw [hM83, sI_at, if_neg (by decide)]; try exact k0_9
                    have k0_10 : M83 0 10 = r29 := by rw [hM83, sI_at, if_neg (by decide)]; try exact k0_10
                    have k0_11 : M83 0 11 = vC M 0 4 := by rw [hM83, sI_at, if_neg (by decide)]; try exact k0_11
                    have k0_8 : M83 0 8 = 125 := by rw [hM83, sI_at, if_pos (by decide)]
                    have q83 : M83 83 = M22 83 := by rw [hM83, sI_n _ _ _ (by decide)]; try exact q83
                    have q87 : M83 87 = M22 87 := by rw [hM83, sI_n _ _ _ (by decide)]; try exact q87
                    have q257 : M83 257 = M 257 := by rw [hM83, sI_n _ _ _ (by decide)]; try exact q257
                    have q88 : ∀ k, 88 ≤ k ∧ k < 257 → M83 k = M77 k := fun k hk => by rw [hM83, sI_n _ _ _ (by omega)]; try exact q88 k hk
                    have hV : vC M83 = sI (sI (startV (vC M) x) 0 5 (-9)) 0 5 r29 := by rw [hM83, vC_h (by decide), hV]
                    refine g_aload_n C 2 dX10_count_164 rfl ?_
                    refine g_get C (.ref (ad ((M83 0 8).toNatClampNeg))) 8 in_X10_count_10 (List.mem_of_getElem? (i := 7) rfl) (by decide) (ce_house ad cs _ _) rfl (by decide) rfl rfl dX10_count_165 ?_
                    refine g_tr 125 (by rw [k0_8]; rfl) ?_
                    refine g_get C (.int (M83 125 0)) 0 in_X10_count_7 (List.mem_of_getElem? (i := 8) rfl) (by decide) (ce_ra ad cs _ _) rfl (by decide) rfl rfl dX10_count_168 ?_
                    refine g_ni (fun v85 ev85 => ?_)
                    have gv85 := ev85
                    have tv85 := congrArg Int32.toInt gv85
                    obtain ⟨bv85, dv85⟩ := (show rg 0 30 v85 from (by rw [ev85]; exact hI 125 0 (Or.inl rfl)))
                    have hA : A_count (vC M) x y z = (0, sI (startV (vC M) x) 0 5 (-9)) := by dsimp only [A_count, hasM, hasX, seatsOk, bt]; (repeat (first | rw [if_pos (by omega)] | rw [if_neg (by omega)]))
                    have er9 : r29 = -9 := Int32.toInt_inj.mp (by rw [show (-9 : Int32).toInt = -9 by decide]; omega)
                    exact g_iret C hr ⟨⟨by rw [hA, hV, sI_sI, er9], fun h => absurd (by rw [hA]) h⟩, hI, hF, hG⟩ dX10_count_171
                  ·
                    have f86 := feq rfl (by decide : (0 : Int32).toInt = 0) c79
                    refine g_bipush C (-6) dX10_count_141 (by decide) ?_
                    have hA : A_count (vC M) x y z = (0, sI (startV (vC M) x) 0 5 (-9)) := by dsimp only [A_count, hasM, hasX, seatsOk, bt]; (repeat (first | rw [if_pos (by omega)] | rw [if_neg (by omega)]))
                    have er9 : r29 = -9 := Int32.toInt_inj.mp (by rw [show (-9 : Int32).toInt = -9 by decide]; omega)
                    have zr9 : ((-6) : Int32).toInt = (-6) := by decide
                    exact g_iret C hr ⟨⟨by rw [hA, hV, sI_sI, er9], fun h => absurd (by rw [hA]) h⟩, hI, hF, hG⟩ dX10_count_143
                ·
                  refine g_aload_n C 1 dX10_count_108 rfl ?_
                  refine g_get C (.ref (ad 88)) 4 in_X10_count_10 (List.mem_of_getElem? (i := 5) rfl) (by decide) (ce_house ad cs _ _) rfl (by decide) rfl rfl dX10_count_109 ?_
                  refine g_aload_n C 1 dX10_count_112 rfl ?_
                  refine g_get C (.ref (ad 68)) 2 in_X10_count_10 (List.mem_of_getElem? (i := 3) rfl) (by decide) (ce_house ad cs _ _) rfl (by decide) rfl rfl dX10_count_113 ?_
                  refine g_iload_n C 3 dX10_count_116 rfl ?_
                  refine g_iload_n C 4 dX10_count_117 rfl ?_
                  refine g_callVv C (n := 3) (As := [.ref (ad 68), .int y, .int z]) (st := []) (s_X6_take l D ad cs _ _ y z hI ⟨by omega, by omega⟩ ⟨by omega, by omega⟩) gX10_count_X6_take rfl rfl rfl (by decide +kernel) ⟨Nat.le_of_ble_eq_true rfl, Nat.le_of_ble_eq_true rfl⟩ rfl (Nat.le_of_ble_eq_true rfl) ⟨Nat.zero_le _, Nat.zero_le _⟩ (by decide) (ce_poll ad cs _ _) rfl rfl dX10_count_118 (fun M88 L89 hr87 => ?_)
                  obtain ⟨hI, hFr87, hGr87⟩ := hr87
                  have hcr87 := hFr87
                  have hFr87 : ∀ k i, ¬ (88 ≤ k ∧ k < 257) → M88 k i = M32 k i := fun k i hk => congrFun (hcr87 k (by omega)) i
                  have hGr87 : ∀ k i, 258 ≤ k → L89 k i = L23 k i := fun k i hk => congrFun (hGr87 k hk) i
                  have hF : ∀ k i, ¬ (k = 0 ∧ i = 8) ∧ ¬ (k = 0 ∧ i = 9) ∧ ¬ (k = 0 ∧ i = 10) ∧ ¬ (k = 0 ∧ i = 11) ∧ k ≠ 83 ∧ k ≠ 87 ∧ k ≠ 257 ∧ ¬ (88 ≤ k ∧ k < 257) → M88 k i = M k i := fun k i hk => by (rw [hFr87 k i (by omega)]; try exact hF k i hk)
                  have hG : ∀ k i, 258 ≤ k → L89 k i = L k i := fun k i hk => by (rw [hGr87 k i (by omega)]; try exact hG k i hk)
                  have hV : vC M88 = sI (sI (startV (vC M) x) 0 5 (-9)) 0 5 r29 := by rw [vC_fr (fun k hk => hcr87 k (by omega)), hV]
                  have k0_8 : M88 0 8 = M 0 8 := (hFr87 0 8 (by omega)).trans k0_8
                  have k0_9 : M88 0 9 = M 0 9 := (hFr87 0 9 (by omega)).trans k0_9
                  have k0_10 : M88 0 10 = r29 := (hFr87 0 10 (by omega)).trans k0_10
                  have k0_11 : M88 0 11 = vC M 0 4 := (hFr87 0 11 (by omega)).trans k0_11
                  have q88 : ∀ k, 88 ≤ k ∧ k < 257 → M88 k = M88 k := fun _ _ => rfl
                  have q83 : M88 83 = M22 83 := (funext (fun i => hFr87 83 i (by omega))).trans q83
                  have q87 : M88 87 = M22 87 := (funext (fun i => hFr87 87 i (by omega))).trans q87
                  have q257 : M88 257 = M 257 := (funext (fun i => hFr87 257 i (by omega))).trans q257
                  refine g_aload_n C 1 dX10_count_121 rfl ?_
                  refine g_get C (.ref (ad ((M88 0 9).toNatClampNeg))) 9 in_X10_count_10 (List.mem_of_getElem? (i := 6) rfl) (by decide) (ce_house ad cs _ _) rfl (by decide) rfl rfl dX10_count_122 ?_
                  refine g_tr 191 (by rw [k0_9, hg9]; rfl) ?_
                  refine g_callVv C (n := 0) (As := []) (st := []) (s_X7_clear_b l D ad cs _ _  hI ) gX10_count_X7_clear rfl rfl rfl (by decide +kernel) ⟨Nat.le_of_ble_eq_true rfl, Nat.le_of_ble_eq_true rfl⟩ rfl (Nat.le_of_ble_eq_true rfl) ⟨Nat.zero_le _, Nat.zero_le _⟩ (by decide) (ce_rb ad cs _ _) rfl rfl dX10_count_125 (fun M91 L92 hr90 => ?_)
                  obtain ⟨hI, hFr90, hGr90⟩ := hr90
                  have hcr90 := hFr90
                  have hFr90 : ∀ k i, ¬ (88 ≤ k ∧ k < 257) → M91 k i = M88 k i := fun k i hk => congrFun (hcr90 k (by omega)) i
                  have hGr90 : ∀ k i, 258 ≤ k → L92 k i = L89 k i := fun k i hk => congrFun (hGr90 k hk) i
                  have hF : ∀ k i, ¬ (k = 0 ∧ i = 8) ∧ ¬ (k = 0 ∧ i = 9) ∧ ¬ (k = 0 ∧ i = 10) ∧ ¬ (k = 0 ∧ i = 11) ∧ k ≠ 83 ∧ k ≠ 87 ∧ k ≠ 257 ∧ ¬ (88 ≤ k ∧ k < 257) → M91 k i = M k i := fun k i hk => by (rw [hFr90 k i (by omega)]; try exact hF k i hk)
                  have hG : ∀ k i, 258 ≤ k → L92 k i = L k i := fun k i hk => by (rw [hGr90 k i (by omega)]; try exact hG k i hk)
                  have hV : vC M91 = sI (sI (startV (vC M) x) 0 5 (-9)) 0 5 r29 := by rw [vC_fr (fun k hk => hcr90 k (by omega)), hV]
                  have k0_8 : M91 0 8 = M 0 8 := (hFr90 0 8 (by omega)).trans k0_8
                  have k0_9 : M91 0 9 = M 0 9 := (hFr90 0 9 (by omega)).trans k0_9
                  have k0_10 : M91 0 10 = r29 := (hFr90 0 10 (by omega)).trans k0_10
                  have k0_11 : M91 0 11 = vC M 0 4 := (hFr90 0 11 (by omega)).trans k0_11
                  have q88 : ∀ k, 88 ≤ k ∧ k < 257 → M91 k = M91 k := fun _ _ => rfl
                  have q83 : M91 83 = M22 83 := (funext (fun i => hFr90 83 i (by omega))).trans q83
                  have q87 : M91 87 = M22 87 := (funext (fun i => hFr90 87 i (by omega))).trans q87
                  have q257 : M91 257 = M 257 := (funext (fun i => hFr90 257 i (by omega))).trans q257
                  refine g_aload_n C 1 dX10_count_128 rfl ?_
                  refine g_iload C 0 dX10_count_129 rfl ?_
                  refine g_aload_n C 1 dX10_count_131 rfl ?_
                  refine g_get C (.ref (ad ((M91 0 9).toNatClampNeg))) 9 in_X10_count_10 (List.mem_of_getElem? (i := 6) rfl) (by decide) (ce_house ad cs _ _) rfl (by decide) rfl rfl dX10_count_132 ?_
                  refine g_tr 191 (by rw [k0_9, hg9]; rfl) ?_
                  refine g_callVi C (n := 2) (As := [.int v26, .ref (ad 191)]) (st := []) (s_X10_countBy_b l D ad cs _ _ v26 hI ) gX10_count_X10_countBy rfl rfl rfl (by decide +kernel) ⟨Nat.le_of_ble_eq_true rfl, Nat.le_of_ble_eq_true rfl⟩ rfl (Nat.le_of_ble_eq_true rfl) ⟨Nat.zero_le _, Nat.zero_le _⟩ (by decide) (ce_house ad cs _ _) rfl rfl dX10_count_135 (fun r93 M94 L95 hr93 => ?_)
                  obtain ⟨hr93, hI, hFr93, hGr93⟩ := hr93
                  have hcr93 := hFr93
                  have hFr93 : ∀ k i, ¬ (88 ≤ k ∧ k < 257) → M94 k i = M91 k i := fun k i hk => congrFun (hcr93 k (by omega)) i
                  have hGr93 : ∀ k i, 258 ≤ k → L95 k i = L92 k i := fun k i hk => congrFun (hGr93 k hk) i
                  have hF : ∀ k i, ¬ (k = 0 ∧ i = 8) ∧ ¬ (k = 0 ∧ i = 9) ∧ ¬ (k = 0 ∧ i = 10) ∧ ¬ (k = 0 ∧ i = 11) ∧ k ≠ 83 ∧ k ≠ 87 ∧ k ≠ 257 ∧ ¬ (88 ≤ k ∧ k < 257) → M94 k i = M k i := fun k i hk => by (rw [hFr93 k i (by omega)]; try exact hF k i hk)
                  have hG : ∀ k i, 258 ≤ k → L95 k i = L k i := fun k i hk => by (rw [hGr93 k i (by omega)]; try exact hG k i hk)
                  have hV : vC M94 = sI (sI (startV (vC M) x) 0 5 (-9)) 0 5 r29 := by rw [vC_fr (fun k hk => hcr93 k (by omega)), hV]
                  have k0_8 : M94 0 8 = M 0 8 := (hFr93 0 8 (by omega)).trans k0_8
                  have k0_9 : M94 0 9 = M 0 9 := (hFr93 0 9 (by omega)).trans k0_9
                  have k0_10 : M94 0 10 = r29 := (hFr93 0 10 (by omega)).trans k0_10
                  have k0_11 : M94 0 11 = vC M 0 4 := (hFr93 0 11 (by omega)).trans k0_11
                  have q88 : ∀ k, 88 ≤ k ∧ k < 257 → M94 k = M94 k := fun _ _ => rfl
                  have q83 : M94 83 = M22 83 := (funext (fun i => hFr93 83 i (by omega))).trans q83
                  have q87 : M94 87 = M22 87 := (funext (fun i => hFr93 87 i (by omega))).trans q87
                  have q257 : M94 257 = M 257 := (funext (fun i => hFr93 257 i (by omega))).trans q257
                  have zr93 : r93.toInt = 0 ∨ r93.toInt = 1 := by rcases hr93 with h9 | h9 <;> rw [h9] <;> decide
                  refine g_if_ne C 144 dX10_count_138 (by decide) (fun c96 => ?_) (fun c96 => ?_)
                  ·
                    have f97 := fne rfl (by decide : (0 : Int32).toInt = 0) c96
                    refine g_aload_n C 1 dX10_count_144 rfl ?_
                    refine g_get C (.ref (ad ((M94 0 9).toNatClampNeg))) 9 in_X10_count_10 (List.mem_of_getElem? (i := 6) rfl) (by decide) (ce_house ad cs _ _) rfl (by decide) rfl rfl dX10_count_145 ?_
                    refine g_tr 191 (by rw [k0_9, hg9]; rfl) ?_
                    refine g_astore C [(5, .ref (ad 191)), (4, .int v26), (0, .ref (ad 0)), (1, .int x), (2, .int y), (3, .int z)] dX10_count_148 (by decide) rfl ?_
                    refine g_aload_n C 2 dX10_count_150 rfl ?_
                    refine g_aload_n C 2 dX10_count_151 rfl ?_
                    refine g_get C (.ref (ad ((M94 0 8).toNatClampNeg))) 8 in_X10_count_10 (List.mem_of_getElem? (i := 7) rfl) (by decide) (ce_house ad cs _ _) rfl (by decide) rfl rfl dX10_count_152 ?_
                    refine g_tr 191 (by rw [k0_8, hg8]; rfl) ?_
                    refine g_putR C (x9 := 191) 9 in_X10_count_10 (List.mem_of_getElem? (i := 6) rfl) (by decide) (ce_house ad cs _ _) rfl (by decide) rfl tyX10 tyX10_ok nmX10 rfl rfl rfl rfl (Nat.le_of_ble_eq_true rfl) (by rw [sI_k]; rfl) dX10_count_155 ?_
                    refine g_nm (fun M98 hM98 => ?_)
                    have zy99 : (191 : Int32).toInt = 191 := by decide
                    have hI : IC M98 := by rw [hM98]; exact hI.st (fun _ => Or.inr rfl)
                    have hF : ∀ k i, ¬ (k = 0 ∧ i = 8) ∧ ¬ (k = 0 ∧ i = 9) ∧ ¬ (k = 0 ∧ i = 10) ∧ ¬ (k = 0 ∧ i = 11) ∧ k ≠ 83 ∧ k ≠ 87 ∧ k ≠ 257 ∧ ¬ (88 ≤ k ∧ k < 257) → M98 k i = M k i := fun k i hk => by (rw [hM98, sI_at, if_neg (by omega)]; try exact hF k i hk)
                    have k0_8 : M98 0 8 = M 0 8 := by rw [hM98, sI_at, if_neg (by decide)]; try exact k0_8
                    have k0_10 : M98 0 10 = r29 := by rw [hM98, sI_at, if_neg (by decide)]; try exact k0_10
                    have k0_11 : M98 0 11 = vC M 0 4 := by rw [hM98, sI_at, if_neg (by decide)]; try exact k0_11
                    have k0_9 : M98 0 9 = 191 := by rw [hM98, sI_at, if_pos (by decide)]
                    have q83 : M98 83 = M22 83 := by rw [hM98, sI_n _ _ _ (by decide)]; try exact q83
                    have q87 : M98 87 = M22 87 := by rw [hM98, sI_n _ _ _ (by decide)]; try exact q87
                    have q257 : M98 257 = M 257 := by rw [hM98, sI_n _ _ _ (by decide)]; try exact q257
                    have q88 : ∀ k, 88 ≤ k ∧ k < 257 → M98 k = M94 k := fun k hk => by rw [hM98, sI_n _ _ _ (by omega)]; try exact q88 k hk
                    have hV : vC M98 = sI (sI (startV (vC M) x) 0 5 (-9)) 0 5 r29 := by rw [hM98, vC_h (by decide), hV]
                    refine g_aload_n C 2 dX10_count_158 rfl ?_
                    refine g_aload C 0 dX10_count_159 rfl ?_
                    refine g_putR C (x9 := 191) 8 in_X10_count_10 (List.mem_of_getElem? (i := 7) rfl) (by decide) (ce_house ad cs _ _) rfl (by decide) rfl tyX10 tyX10_ok nmX10 rfl rfl rfl rfl (Nat.le_of_ble_eq_true rfl) (by rw [sI_k]; rfl) dX10_count_161 ?_
                    refine g_nm (fun M100 hM100 => ?_)
                    have zy101 : (191 : Int32).toInt = 191 := by decide
                    have hI : IC M100 := by rw [hM100]; exact hI.st (fun _ => Or.inr rfl)
                    have hF : ∀ k i, ¬ (k = 0 ∧ i = 8) ∧ ¬ (k = 0 ∧ i = 9) ∧ ¬ (k = 0 ∧ i = 10) ∧ ¬ (k = 0 ∧ i = 11) ∧ k ≠ 83 ∧ k ≠ 87 ∧ k ≠ 257 ∧ ¬ (88 ≤ k ∧ k < 257) → M100 k i = M k i := fun k i hk => by (rw [hM100, sI_at, if_neg (by omega)]; try exact hF k i hk)
                    have k0_9 : M100 0 9 = 191 := by rw [hM100, sI_at, if_neg (by decide)]; try exact k0_9
                    have k0_10 : M100 0 10 = r29 := by rw [hM100, sI_at, if_neg (by decide)]; try exact k0_10
                    have k0_11 : M100 0 11 = vC M 0 4 := by rw [hM100, sI_at, if_neg (by decide)]; try exact k0_11
                    have k0_8 : M100 0 8 = 191 := by rw [hM100, sI_at, if_pos (by decide)]
                    have q83 : M100 83 = M22 83 := by rw [hM100, sI_n _ _ _ (by decide)]; try exact q83
                    have q87 : M100 87 = M22 87 := by rw [hM100, sI_n _ _ _ (by decide)]; try exact q87
                    have q257 : M100 257 = M 257 := by rw [hM100, sI_n _ _ _ (by decide)]; try exact q257
                    have q88 : ∀ k, 88 ≤ k ∧ k < 257 → M100 k = M94 k := fun k hk => by rw [hM100, sI_n _ _ _ (by omega)]; try exact q88 k hk
                    have hV : vC M100 = sI (sI (startV (vC M) x) 0 5 (-9)) 0 5 r29 := by rw [hM100, vC_h (by decide), hV]
                    refine g_aload_n C 2 dX10_count_164 rfl ?_
                    refine g_get C (.ref (ad ((M100 0 8).toNatClampNeg))) 8 in_X10_count_10 (List.mem_of_getElem? (i := 7) rfl) (by decide) (ce_house ad cs _ _) rfl (by decide) rfl rfl dX10_count_165 ?_
                    refine g_tr 191 (by rw [k0_8]; rfl) ?_
                    refine g_get C (.int (M100 191 0)) 0 in_X10_count_7 (List.mem_of_getElem? (i := 8) rfl) (by decide) (ce_rb ad cs _ _) rfl (by decide) rfl rfl dX10_count_168 ?_
                    refine g_ni (fun v102 ev102 => ?_)
                    have gv102 := ev102
                    have tv102 := congrArg Int32.toInt gv102
                    obtain ⟨bv102, dv102⟩ := (show rg 0 30 v102 from (by rw [ev102]; exact hI 191 0 (Or.inl rfl)))
                    have hA : A_count (vC M) x y z = (0, sI (startV (vC M) x) 0 5 (-9)) := by dsimp only [A_count, hasM, hasX, seatsOk, bt]; (repeat (first | rw [if_pos (by omega)] | rw [if_neg (by omega)]))
                    have er9 : r29 = -9 := Int32.toInt_inj.mp (by rw [show (-9 : Int32).toInt = -9 by decide]; omega)
                    exact g_iret C hr ⟨⟨by rw [hA, hV, sI_sI, er9], fun h => absurd (by rw [hA]) h⟩, hI, hF, hG⟩ dX10_count_171
                  ·
                    have f103 := feq rfl (by decide : (0 : Int32).toInt = 0) c96
                    refine g_bipush C (-6) dX10_count_141 (by decide) ?_
                    have hA : A_count (vC M) x y z = (0, sI (startV (vC M) x) 0 5 (-9)) := by dsimp only [A_count, hasM, hasX, seatsOk, bt]; (repeat (first | rw [if_pos (by omega)] | rw [if_neg (by omega)]))
                    have er9 : r29 = -9 := Int32.toInt_inj.mp (by rw [show (-9 : Int32).toInt = -9 by decide]; omega)
                    have zr9 : ((-6) : Int32).toInt = (-6) := by decide
                    exact g_iret C hr ⟨⟨by rw [hA, hV, sI_sI, er9], fun h => absurd (by rw [hA]) h⟩, hI, hF, hG⟩ dX10_count_143
            ·
              have f104 := fne rfl (by decide : ((-9) : Int32).toInt = (-9)) c34
              refine g_aload_n C 1 dX10_count_102 rfl ?_
              refine g_iconst C 3 dX10_count_103 (by decide) ?_
              refine g_callVi C (n := 1) (As := [.int 3]) (st := []) (v_X10_found l D ad cs _ _ 3 hI ⟨by first | omega | decide, by first | omega | decide⟩) gX10_count_X10_found rfl rfl rfl (by decide +kernel) ⟨Nat.le_of_ble_eq_true rfl, Nat.le_of_ble_eq_true rfl⟩ rfl (Nat.le_of_ble_eq_true rfl) ⟨Nat.zero_le _, Nat.zero_le _⟩ (by decide) (ce_house ad cs _ _) rfl rfl dX10_count_104 (fun r105 M106 L107 hr105 => ?_)
              obtain ⟨hr105, hI, hFr105, hGr105⟩ := hr105
              have hF : ∀ k i, ¬ (k = 0 ∧ i = 8) ∧ ¬ (k = 0 ∧ i = 9) ∧ ¬ (k = 0 ∧ i = 10) ∧ ¬ (k = 0 ∧ i = 11) ∧ k ≠ 83 ∧ k ≠ 87 ∧ k ≠ 257 ∧ ¬ (88 ≤ k ∧ k < 257) → M106 k i = M k i := fun k i hk => by (rw [hFr105 k i (by omega)]; try exact hF k i hk)
              have hG : ∀ k i, 258 ≤ k → L107 k i = L k i := fun k i hk => by (rw [hGr105 k i trivial]; try exact hG k i hk)
              have hV : vC M106 = meetsV (sI (sI (startV (vC M) x) 0 5 (-9)) 0 5 r29) 3 := by rw [hr105.2, hV]
              have k0_8 : M106 0 8 = M 0 8 := (hFr105 0 8 (by omega)).trans k0_8
              have k0_9 : M106 0 9 = M 0 9 := (hFr105 0 9 (by omega)).trans k0_9
              have k0_10 : M106 0 10 = r29 := (hFr105 0 10 (by omega)).trans k0_10
              have k0_11 : M106 0 11 = M106 0 11 := rfl
              have q88 : ∀ k, 88 ≤ k ∧ k < 257 → M106 k = M k := fun k hk => (funext (fun i => hFr105 k i (by omega))).trans (q88 k hk)
              have q83 : M106 83 = M22 83 := (funext (fun i => hFr105 83 i (by omega))).trans q83
              have q87 : M106 87 = M22 87 := (funext (fun i => hFr105 87 i (by omega))).trans q87
              have q257 : M106 257 = M106 257 := rfl
              have hA : A_count (vC M) x y z = (-3, meetsV (sI (startV (vC M) x) 0 5 (unV (vC M) y (vC M 9 x.toNatClampNeg))) 3) := by dsimp only [A_count, hasM, hasX, seatsOk, bt]; (repeat (first | rw [if_pos (by omega)] | rw [if_neg (by omega)]))
              exact g_iret C hr ⟨⟨by rw [hA, hV, sI_sI, hr29], fun _ => by rw [hA]; exact hr105.1⟩, hI, hF, hG⟩ dX10_count_107
          ·
            have f108 := feq rfl (by decide : (1 : Int32).toInt = 1) c27
            refine g_iconst C 3 dX10_count_82 (by decide) ?_
            refine g_goto C 87 dX10_count_83 (by decide) ?_
            refine g_callVi C (n := 2) (As := [.int y, .int 3]) (st := [.ref (ad 0)]) (v_X10_firstUnlike l D ad cs _ _ y 3 hI ⟨by omega, by omega⟩ (by decide) (by rw [y8, y01]; exact h8) (by rw [y2]; exact hS)) gX10_count_X10_firstUnlike rfl rfl rfl (by decide +kernel) ⟨Nat.le_of_ble_eq_true rfl, Nat.le_of_ble_eq_true rfl⟩ rfl (Nat.le_of_ble_eq_true rfl) ⟨Nat.zero_le _, Nat.zero_le _⟩ (by decide) (ce_house ad cs _ _) rfl rfl dX10_count_87 (fun r109 M110 L111 hr109 => ?_)
            obtain ⟨hq1, hq2, hr109⟩ := hr109
            obtain rfl := hq1.symm
            obtain rfl := hq2.symm
            have hr109 : r109 = unV (vC M) y (vC M 9 x.toNatClampNeg) := by rw [hr109, y7, unF_ext y8 y2]; show _ = unF (vC M) y.toNatClampNeg (if (vC M 9 x.toNatClampNeg).toInt = 1 then 3 else 1) _ 0; first | rw [if_pos (by omega)] | rw [if_neg (by omega)]
            have tr109 := congrArg Int32.toInt hr109
            refine g_putI C 10 in_X10_count_10 (List.mem_of_getElem? (i := 1) rfl) (by decide) (ce_house ad cs _ _) rfl (by decide) rfl tyX10 tyX10_ok nmX10 rfl rfl rfl rfl (Nat.le_of_ble_eq_true rfl) (by rw [sI_k]; rfl) dX10_count_90 ?_
            refine g_nm (fun M112 hM112 => ?_)
            have hI : IC M112 := by rw [hM112]; exact hI.st (by intro h; rcases h with h | h <;> exact absurd h (by decide))
            have hF : ∀ k i, ¬ (k = 0 ∧ i = 8) ∧ ¬ (k = 0 ∧ i = 9) ∧ ¬ (k = 0 ∧ i = 10) ∧ ¬ (k = 0 ∧ i = 11) ∧ k ≠ 83 ∧ k ≠ 87 ∧ k ≠ 257 ∧ ¬ (88 ≤ k ∧ k < 257) → M112 k i = M k i := fun k i hk => by (rw [hM112, sI_at, if_neg (by omega)]; try exact hF k i hk)
            have k0_8 : M112 0 8 = M 0 8 := by rw [hM112, sI_at, if_neg (by decide)]; try exact k0_8
            have k0_9 : M112 0 9 = M 0 9 := by rw [hM112, sI_at, if_neg (by decide)]; try exact k0_9
            have k0_11 : M112 0 11 = vC M 0 4 := by rw [hM112, sI_at, if_neg (by decide)]; try exact k0_11
            have k0_10 : M112 0 10 = r109 := by rw [hM112, sI_at, if_pos (by decide)]
            have q83 : M112 83 = M22 83 := by rw [hM112, sI_n _ _ _ (by decide)]; try exact q83
            have q87 : M112 87 = M22 87 := by rw [hM112, sI_n _ _ _ (by decide)]; try exact q87
            have q257 : M112 257 = M 257 := by rw [hM112, sI_n _ _ _ (by decide)]; try exact q257
            have q88 : ∀ k, 88 ≤ k ∧ k < 257 → M112 k = M k := fun k hk => by rw [hM112, sI_n _ _ _ (by omega)]; try exact q88 k hk
            have hV : vC M112 = sI (sI (startV (vC M) x) 0 5 (-9)) 0 5 r109 := by rw [hM112, vC_s (c := 5) (by decide), hV]
            refine g_aload_n C 1 dX10_count_93 rfl ?_
            refine g_get C (.int (M112 0 10)) 10 in_X10_count_10 (List.mem_of_getElem? (i := 1) rfl) (by decide) (ce_house ad cs _ _) rfl (by decide) rfl rfl dX10_count_94 ?_
            refine g_ni (fun v113 ev113 => ?_)
            have gv113 : v113 = r109 := ev113.trans k0_10
            have tv113 := congrArg Int32.toInt gv113
            refine g_bipush C (-9) dX10_count_97 (by decide) ?_
            refine g_icmp_eq C 108 dX10_count_99 (by decide) (fun c114 => ?_) (fun c114 => ?_)
            ·
              have f115 := feq rfl (by decide : ((-9) : Int32).toInt = (-9)) c114
              rcases (hI0 0 8 (Or.inl rfl)) with hg8 | hg8
              ·
                rcases (hI0 0 9 (Or.inr rfl)) with hg9 | hg9
                ·
                  refine g_aload_n C 1 dX10_count_108 rfl ?_
                  refine g_get C (.ref (ad 88)) 4 in_X10_count_10 (List.mem_of_getElem? (i := 5) rfl) (by decide) (ce_house ad cs _ _) rfl (by decide) rfl rfl dX10_count_109 ?_
                  refine g_aload_n C 1 dX10_count_112 rfl ?_
                  refine g_get C (.ref (ad 68)) 2 in_X10_count_10 (List.mem_of_getElem? (i := 3) rfl) (by decide) (ce_house ad cs _ _) rfl (by decide) rfl rfl dX10_count_113 ?_
                  refine g_iload_n C 3 dX10_count_116 rfl ?_
                  refine g_iload_n C 4 dX10_count_117 rfl ?_
                  refine g_callVv C (n := 3) (As := [.ref (ad 68), .int y, .int z]) (st := []) (s_X6_take l D ad cs _ _ y z hI ⟨by omega, by omega⟩ ⟨by omega, by omega⟩) gX10_count_X6_take rfl rfl rfl (by decide +kernel) ⟨Nat.le_of_ble_eq_true rfl, Nat.le_of_ble_eq_true rfl⟩ rfl (Nat.le_of_ble_eq_true rfl) ⟨Nat.zero_le _, Nat.zero_le _⟩ (by decide) (ce_poll ad cs _ _) rfl rfl dX10_count_118 (fun M117 L118 hr116 => ?_)
                  obtain ⟨hI, hFr116, hGr116⟩ := hr116
                  have hcr116 := hFr116
                  have hFr116 : ∀ k i, ¬ (88 ≤ k ∧ k < 257) → M117 k i = M112 k i := fun k i hk => congrFun (hcr116 k (by omega)) i
                  have hGr116 : ∀ k i, 258 ≤ k → L118 k i = L23 k i := fun k i hk => congrFun (hGr116 k hk) i
                  have hF : ∀ k i, ¬ (k = 0 ∧ i = 8) ∧ ¬ (k = 0 ∧ i = 9) ∧ ¬ (k = 0 ∧ i = 10) ∧ ¬ (k = 0 ∧ i = 11) ∧ k ≠ 83 ∧ k ≠ 87 ∧ k ≠ 257 ∧ ¬ (88 ≤ k ∧ k < 257) → M117 k i = M k i := fun k i hk => by (rw [hFr116 k i (by omega)]; try exact hF k i hk)
                  have hG : ∀ k i, 258 ≤ k → L118 k i = L k i := fun k i hk => by (rw [hGr116 k i (by omega)]; try exact hG k i hk)
                  have hV : vC M117 = sI (sI (startV (vC M) x) 0 5 (-9)) 0 5 r109 := by rw [vC_fr (fun k hk => hcr116 k (by omega)), hV]
                  have k0_8 : M117 0 8 = M 0 8 := (hFr116 0 8 (by omega)).trans k0_8
                  have k0_9 : M117 0 9 = M 0 9 := (hFr116 0 9 (by omega)).trans k0_9
                  have k0_10 : M117 0 10 = r109 := (hFr116 0 10 (by omega)).trans k0_10
                  have k0_11 : M117 0 11 = vC M 0 4 := (hFr116 0 11 (by omega)).trans k0_11
                  have q88 : ∀ k, 88 ≤ k ∧ k < 257 → M117 k = M117 k := fun _ _ => rfl
                  have q83 : M117 83 = M22 83 := (funext (fun i => hFr116 83 i (by omega))).trans q83
                  have q87 : M117 87 = M22 87 := (funext (fun i => hFr116 87 i (by omega))).trans q87
                  have q257 : M117 257 = M 257 := (funext (fun i => hFr116 257 i (by omega))).trans q257
                  refine g_aload_n C 1 dX10_count_121 rfl ?_
                  refine g_get C (.ref (ad ((M117 0 9).toNatClampNeg))) 9 in_X10_count_10 (List.mem_of_getElem? (i := 6) rfl) (by decide) (ce_house ad cs _ _) rfl (by decide) rfl rfl dX10_count_122 ?_
                  refine g_tr 125 (by rw [k0_9, hg9]; rfl) ?_
                  refine g_callVv C (n := 0) (As := []) (st := []) (s_X7_clear_a l D ad cs _ _  hI ) gX10_count_X7_clear rfl rfl rfl (by decide +kernel) ⟨Nat.le_of_ble_eq_true rfl, Nat.le_of_ble_eq_true rfl⟩ rfl (Nat.le_of_ble_eq_true rfl) ⟨Nat.zero_le _, Nat.zero_le _⟩ (by decide) (ce_ra ad cs _ _) rfl rfl dX10_count_125 (fun M120 L121 hr119 => ?_)
                  obtain ⟨hI, hFr119, hGr119⟩ := hr119
                  have hcr119 := hFr119
                  have hFr119 : ∀ k i, ¬ (88 ≤ k ∧ k < 257) → M120 k i = M117 k i := fun k i hk => congrFun (hcr119 k (by omega)) i
                  have hGr119 : ∀ k i, 258 ≤ k → L121 k i = L118 k i := fun k i hk => congrFun (hGr119 k hk) i
                  have hF : ∀ k i, ¬ (k = 0 ∧ i = 8) ∧ ¬ (k = 0 ∧ i = 9) ∧ ¬ (k = 0 ∧ i = 10) ∧ ¬ (k = 0 ∧ i = 11) ∧ k ≠ 83 ∧ k ≠ 87 ∧ k ≠ 257 ∧ ¬ (88 ≤ k ∧ k < 257) → M120 k i = M k i := fun k i hk => by (rw [hFr119 k i (by omega)]; try exact hF k i hk)
                  have hG : ∀ k i, 258 ≤ k → L121 k i = L k i := fun k i hk => by (rw [hGr119 k i (by omega)]; try exact hG k i hk)
                  have hV : vC M120 = sI (sI (startV (vC M) x) 0 5 (-9)) 0 5 r109 := by rw [vC_fr (fun k hk => hcr119 k (by omega)), hV]
                  have k0_8 : M120 0 8 = M 0 8 := (hFr119 0 8 (by omega)).trans k0_8
                  have k0_9 : M120 0 9 = M 0 9 := (hFr119 0 9 (by omega)).trans k0_9
                  have k0_10 : M120 0 10 = r109 := (hFr119 0 10 (by omega)).trans k0_10
                  have k0_11 : M120 0 11 = vC M 0 4 := (hFr119 0 11 (by omega)).trans k0_11
                  have q88 : ∀ k, 88 ≤ k ∧ k < 257 → M120 k = M120 k := fun _ _ => rfl
                  have q83 : M120 83 = M22 83 := (funext (fun i => hFr119 83 i (by omega))).trans q83
                  have q87 : M120 87 = M22 87 := (funext (fun i => hFr119 87 i (by omega))).trans q87
                  have q257 : M120 257 = M 257 := (funext (fun i => hFr119 257 i (by omega))).trans q257
                  refine g_aload_n C 1 dX10_count_128 rfl ?_
                  refine g_iload C 0 dX10_count_129 rfl ?_
                  refine g_aload_n C 1 dX10_count_131 rfl ?_
                  refine g_get C (.ref (ad ((M120 0 9).toNatClampNeg))) 9 in_X10_count_10 (List.mem_of_getElem? (i := 6) rfl) (by decide) (ce_house ad cs _ _) rfl (by decide) rfl rfl dX10_count_132 ?_
                  refine g_tr 125 (by rw [k0_9, hg9]; rfl) ?_
                  refine g_callVi C (n := 2) (As := [.int v26, .ref (ad 125)]) (st := []) (s_X10_countBy_a l D ad cs _ _ v26 hI ) gX10_count_X10_countBy rfl rfl rfl (by decide +kernel) ⟨Nat.le_of_ble_eq_true rfl, Nat.le_of_ble_eq_true rfl⟩ rfl (Nat.le_of_ble_eq_true rfl) ⟨Nat.zero_le _, Nat.zero_le _⟩ (by decide) (ce_house ad cs _ _) rfl rfl dX10_count_135 (fun r122 M123 L124 hr122 => ?_)
                  obtain ⟨hr122, hI, hFr122, hGr122⟩ := hr122
                  have hcr122 := hFr122
                  have hFr122 : ∀ k i, ¬ (88 ≤ k ∧ k < 257) → M123 k i = M120 k i := fun k i hk => congrFun (hcr122 k (by omega)) i
                  have hGr122 : ∀ k i, 258 ≤ k → L124 k i = L121 k i := fun k i hk => congrFun (hGr122 k hk) i
                  have hF : ∀ k i, ¬ (k = 0 ∧ i = 8) ∧ ¬ (k = 0 ∧ i = 9) ∧ ¬ (k = 0 ∧ i = 10) ∧ ¬ (k = 0 ∧ i = 11) ∧ k ≠ 83 ∧ k ≠ 87 ∧ k ≠ 257 ∧ ¬ (88 ≤ k ∧ k < 257) → M123 k i = M k i := fun k i hk => by (rw [hFr122 k i (by omega)]; try exact hF k i hk)
                  have hG : ∀ k i, 258 ≤ k → L124 k i = L k i := fun k i hk => by (rw [hGr122 k i (by omega)]; try exact hG k i hk)
                  have hV : vC M123 = sI (sI (startV (vC M) x) 0 5 (-9)) 0 5 r109 := by rw [vC_fr (fun k hk => hcr122 k (by omega)), hV]
                  have k0_8 : M123 0 8 = M 0 8 := (hFr122 0 8 (by omega)).trans k0_8
                  have k0_9 : M123 0 9 = M 0 9 := (hFr122 0 9 (by omega)).trans k0_9
                  have k0_10 : M123 0 10 = r109 := (hFr122 0 10 (by omega)).trans k0_10
                  have k0_11 : M123 0 11 = vC M 0 4 := (hFr122 0 11 (by omega)).trans k0_11
                  have q88 : ∀ k, 88 ≤ k ∧ k < 257 → M123 k = M123 k := fun _ _ => rfl
                  have q83 : M123 83 = M22 83 := (funext (fun i => hFr122 83 i (by omega))).trans q83
                  have q87 : M123 87 = M22 87 := (funext (fun i => hFr122 87 i (by omega))).trans q87
                  have q257 : M123 257 = M 257 := (funext (fun i => hFr122 257 i (by omega))).trans q257
                  have zr122 : r122.toInt = 0 ∨ r122.toInt = 1 := by rcases hr122 with h9 | h9 <;> rw [h9] <;> decide
                  refine g_if_ne C 144 dX10_count_138 (by decide) (fun c125 => ?_) (fun c125 => ?_)
                  ·
                    have f126 := fne rfl (by decide : (0 : Int32).toInt = 0) c125
                    refine g_aload_n C 1 dX10_count_144 rfl ?_
                    refine g_get C (.ref (ad ((M123 0 9).toNatClampNeg))) 9 in_X10_count_10 (List.mem_of_getElem? (i := 6) rfl) (by decide) (ce_house ad cs _ _) rfl (by decide) rfl rfl dX10_count_145 ?_
                    refine g_tr 125 (by rw [k0_9, hg9]; rfl) ?_
                    refine g_astore C [(5, .ref (ad 125)), (4, .int v26), (0, .ref (ad 0)), (1, .int x), (2, .int y), (3, .int z)] dX10_count_148 (by decide) rfl ?_
                    refine g_aload_n C 2 dX10_count_150 rfl ?_
                    refine g_aload_n C 2 dX10_count_151 rfl ?_
                    refine g_get C (.ref (ad ((M123 0 8).toNatClampNeg))) 8 in_X10_count_10 (List.mem_of_getElem? (i := 7) rfl) (by decide) (ce_house ad cs _ _) rfl (by decide) rfl rfl dX10_count_152 ?_
                    refine g_tr 125 (by rw [k0_8, hg8]; rfl) ?_
                    refine g_putR C (x9 := 125) 9 in_X10_count_10 (List.mem_of_getElem? (i := 6) rfl) (by decide) (ce_house ad cs _ _) rfl (by decide) rfl tyX10 tyX10_ok nmX10 rfl rfl rfl rfl (Nat.le_of_ble_eq_true rfl) (by rw [sI_k]; rfl) dX10_count_155 ?_
                    refine g_nm (fun M127 hM127 => ?_)
                    have zy128 : (125 : Int32).toInt = 125 := by decide
                    have hI : IC M127 := by rw [hM127]; exact hI.st (fun _ => Or.inl rfl)
                    have hF : ∀ k i, ¬ (k = 0 ∧ i = 8) ∧ ¬ (k = 0 ∧ i = 9) ∧ ¬ (k = 0 ∧ i = 10) ∧ ¬ (k = 0 ∧ i = 11) ∧ k ≠ 83 ∧ k ≠ 87 ∧ k ≠ 257 ∧ ¬ (88 ≤ k ∧ k < 257) → M127 k i = M k i := fun k i hk => by (rw [hM127, sI_at, if_neg (by omega)]; try exact hF k i hk)
                    have k0_8 : M127 0 8 = M 0 8 := by rw [hM127, sI_at, if_neg (by decide)]; try exact k0_8
                    have k0_10 : M127 0 10 = r109 := by rw [hM127, sI_at, if_neg (by decide)]; try exact k0_10
                    have k0_11 : M127 0 11 = vC M 0 4 := by rw [hM127, sI_at, if_neg (by decide)]; try exact k0_11
                    have k0_9 : M127 0 9 = 125 := by rw [hM127, sI_at, if_pos (by decide)]
                    have q83 : M127 83 = M22 83 := by rw [hM127, sI_n _ _ _ (by decide)]; try exact q83
                    have q87 : M127 87 = M22 87 := by rw [hM127, sI_n _ _ _ (by decide)]; try exact q87
                    have q257 : M127 257 = M 257 := by rw [hM127, sI_n _ _ _ (by decide)]; try exact q257
                    have q88 : ∀ k, 88 ≤ k ∧ k < 257 → M127 k = M123 k := fun k hk => by rw [hM127, sI_n _ _ _ (by omega)]; try exact q88 k hk
                    have hV : vC M127 = sI (sI (startV (vC M) x) 0 5 (-9)) 0 5 r109 := by rw [hM127, vC_h (by decide), hV]
                    refine g_aload_n C 2 dX10_count_158 rfl ?_
                    refine g_aload C 0 dX10_count_159 rfl ?_
                    refine g_putR C (x9 := 125) 8 in_X10_count_10 (List.mem_of_getElem? (i := 7) rfl) (by decide) (ce_house ad cs _ _) rfl (by decide) rfl tyX10 tyX10_ok nmX10 rfl rfl rfl rfl (Nat.le_of_ble_eq_true rfl) (by rw [sI_k]; rfl) dX10_count_161 ?_
                    refine g_nm (fun M129 hM129 => ?_)
                    have zy130 : (125 : Int32).toInt = 125 := by decide
                    have hI : IC M129 := by rw [hM129]; exact hI.st (fun _ => Or.inl rfl)
                    have hF : ∀ k i, ¬ (k = 0 ∧ i = 8) ∧ ¬ (k = 0 ∧ i = 9) ∧ ¬ (k = 0 ∧ i = 10) ∧ ¬ (k = 0 ∧ i = 11) ∧ k ≠ 83 ∧ k ≠ 87 ∧ k ≠ 257 ∧ ¬ (88 ≤ k ∧ k < 257) → M129 k i = M k i := fun k i hk => by (rw [hM129, sI_at, if_neg (by omega)]; try exact hF k i hk)
                    have k0_9 : M129 0 9 = 125 := by rw [hM129, sI_at, if_neg (by decide)]; try exact k0_9
                    have k0_10 : M129 0 10 = r109 := by rw [hM129, sI_at, if_neg (by decide)]; try exact k0_10
                    have k0_11 : M129 0 11 = vC M 0 4 := by rw [hM129, sI_at, if_neg (by decide)]; try exact k0_11
                    have k0_8 : M129 0 8 = 125 := by rw [hM129, sI_at, if_pos (by decide)]
                    have q83 : M129 83 = M22 83 := by rw [hM129, sI_n _ _ _ (by decide)]; try exact q83
                    have q87 : M129 87 = M22 87 := by rw [hM129, sI_n _ _ _ (by decide)]; try exact q87
                    have q257 : M129 257 = M 257 := by rw [hM129, sI_n _ _ _ (by decide)]; try exact q257
                    have q88 : ∀ k, 88 ≤ k ∧ k < 257 → M129 k = M123 k := fun k hk => by rw [hM129, sI_n _ _ _ (by omega)]; try exact q88 k hk
                    have hV : vC M129 = sI (sI (startV (vC M) x) 0 5 (-9)) 0 5 r109 := by rw [hM129, vC_h (by decide), hV]
                    refine g_aload_n C 2 dX10_count_164 rfl ?_
                    refine g_get C (.ref (ad ((M129 0 8).toNatClampNeg))) 8 in_X10_count_10 (List.mem_of_getElem? (i := 7) rfl) (by decide) (ce_house ad cs _ _) rfl (by decide) rfl rfl dX10_count_165 ?_
                    refine g_tr 125 (by rw [k0_8]; rfl) ?_
                    refine g_get C (.int (M129 125 0)) 0 in_X10_count_7 (List.mem_of_getElem? (i := 8) rfl) (by decide) (ce_ra ad cs _ _) rfl (by decide) rfl rfl dX10_count_168 ?_
                    refine g_ni (fun v131 ev131 => ?_)
                    have gv131 := ev131
                    have tv131 := congrArg Int32.toInt gv131
                    obtain ⟨bv131, dv131⟩ := (show rg 0 30 v131 from (by rw [ev131]; exact hI 125 0 (Or.inl rfl)))
                    have hA : A_count (vC M) x y z = (0, sI (startV (vC M) x) 0 5 (-9)) := by dsimp only [A_count, hasM, hasX, seatsOk, bt]; (repeat (first | rw [if_pos (by omega)] | rw [if_neg (by omega)]))
                    have er9 : r109 = -9 := Int32.toInt_inj.mp (by rw [show (-9 : Int32).toInt = -9 by decide]; omega)
                    exact g_iret C hr ⟨⟨by rw [hA, hV, sI_sI, er9], fun h => absurd (by rw [hA]) h⟩, hI, hF, hG⟩ dX10_count_171
                  ·
                    have f132 := feq rfl (by decide : (0 : Int32).toInt = 0) c125
                    refine g_bipush C (-6) dX10_count_141 (by decide) ?_
                    have hA : A_count (vC M) x y z = (0, sI (startV (vC M) x) 0 5 (-9)) := by dsimp only [A_count, hasM, hasX, seatsOk, bt]; (repeat (first | rw [if_pos (by omega)] | rw [if_neg (by omega)]))
                    have er9 : r109 = -9 := Int32.toInt_inj.mp (by rw [show (-9 : Int32).toInt = -9 by decide]; omega)
                    have zr9 : ((-6) : Int32).toInt = (-6) := by decide
                    exact g_iret C hr ⟨⟨by rw [hA, hV, sI_sI, er9], fun h => absurd (by rw [hA]) h⟩, hI, hF, hG⟩ dX10_count_143
                ·
                  refine g_aload_n C 1 dX10_count_108 rfl ?_
                  refine g_get C (.ref (ad 88)) 4 in_X10_count_10 (List.mem_of_getElem? (i := 5) rfl) (by decide) (ce_house ad cs _ _) rfl (by decide) rfl rfl dX10_count_109 ?_
                  refine g_aload_n C 1 dX10_count_112 rfl ?_
                  refine g_get C (.ref (ad 68)) 2 in_X10_count_10 (List.mem_of_getElem? (i := 3) rfl) (by decide) (ce_house ad cs _ _) rfl (by decide) rfl rfl dX10_count_113 ?_
                  refine g_iload_n C 3 dX10_count_116 rfl ?_
                  refine g_iload_n C 4 dX10_count_117 rfl ?_
                  refine g_callVv C (n := 3) (As := [.ref (ad 68), .int y, .int z]) (st := []) (s_X6_take l D ad cs _ _ y z hI ⟨by omega, by omega⟩ ⟨by omega, by omega⟩) gX10_count_X6_take rfl rfl rfl (by decide +kernel) ⟨Nat.le_of_ble_eq_true rfl, Nat.le_of_ble_eq_true rfl⟩ rfl (Nat.le_of_ble_eq_true rfl) ⟨Nat.zero_le _, Nat.zero_le _⟩ (by decide) (ce_poll ad cs _ _) rfl rfl dX10_count_118 (fun M134 L135 hr133 => ?_)
                  obtain ⟨hI, hFr133, hGr133⟩ := hr133
                  have hcr133 := hFr133
                  have hFr133 : ∀ k i, ¬ (88 ≤ k ∧ k < 257) → M134 k i = M112 k i := fun k i hk => congrFun (hcr133 k (by omega)) i
                  have hGr133 : ∀ k i, 258 ≤ k → L135 k i = L23 k i := fun k i hk => congrFun (hGr133 k hk) i
                  have hF : ∀ k i, ¬ (k = 0 ∧ i = 8) ∧ ¬ (k = 0 ∧ i = 9) ∧ ¬ (k = 0 ∧ i = 10) ∧ ¬ (k = 0 ∧ i = 11) ∧ k ≠ 83 ∧ k ≠ 87 ∧ k ≠ 257 ∧ ¬ (88 ≤ k ∧ k < 257) → M134 k i = M k i := fun k i hk => by (rw [hFr133 k i (by omega)]; try exact hF k i hk)
                  have hG : ∀ k i, 258 ≤ k → L135 k i = L k i := fun k i hk => by (rw [hGr133 k i (by omega)]; try exact hG k i hk)
                  have hV : vC M134 = sI (sI (startV (vC M) x) 0 5 (-9)) 0 5 r109 := by rw [vC_fr (fun k hk => hcr133 k (by omega)), hV]
                  have k0_8 : M134 0 8 = M 0 8 := (hFr133 0 8 (by omega)).trans k0_8
                  have k0_9 : M134 0 9 = M 0 9 := (hFr133 0 9 (by omega)).trans k0_9
                  have k0_10 : M134 0 10 = r109 := (hFr133 0 10 (by omega)).trans k0_10
                  have k0_11 : M134 0 11 = vC M 0 4 := (hFr133 0 11 (by omega)).trans k0_11
                  have q88 : ∀ k, 88 ≤ k ∧ k < 257 → M134 k = M134 k := fun _ _ => rfl
                  have q83 : M134 83 = M22 83 := (funext (fun i => hFr133 83 i (by omega))).trans q83
                  have q87 : M134 87 = M22 87 := (funext (fun i => hFr133 87 i (by omega))).trans q87
                  have q257 : M134 257 = M 257 := (funext (fun i => hFr133 257 i (by omega))).trans q257
                  refine g_aload_n C 1 dX10_count_121 rfl ?_
                  refine g_get C (.ref (ad ((M134 0 9).toNatClampNeg))) 9 in_X10_count_10 (List.mem_of_getElem? (i := 6) rfl) (by decide) (ce_house ad cs _ _) rfl (by decide) rfl rfl dX10_count_122 ?_
                  refine g_tr 191 (by rw [k0_9, hg9]; rfl) ?_
                  refine g_callVv C (n := 0) (As := []) (st := []) (s_X7_clear_b l D ad cs _ _  hI ) gX10_count_X7_clear rfl rfl rfl (by decide +kernel) ⟨Nat.le_of_ble_eq_true rfl, Nat.le_of_ble_eq_true rfl⟩ rfl (Nat.le_of_ble_eq_true rfl) ⟨Nat.zero_le _, Nat.zero_le _⟩ (by decide) (ce_rb ad cs _ _) rfl rfl dX10_count_125 (fun M137 L138 hr136 => ?_)
                  obtain ⟨hI, hFr136, hGr136⟩ := hr136
                  have hcr136 := hFr136
                  have hFr136 : ∀ k i, ¬ (88 ≤ k ∧ k < 257) → M137 k i = M134 k i := fun k i hk => congrFun (hcr136 k (by omega)) i
                  have hGr136 : ∀ k i, 258 ≤ k → L138 k i = L135 k i := fun k i hk => congrFun (hGr136 k hk) i
                  have hF : ∀ k i, ¬ (k = 0 ∧ i = 8) ∧ ¬ (k = 0 ∧ i = 9) ∧ ¬ (k = 0 ∧ i = 10) ∧ ¬ (k = 0 ∧ i = 11) ∧ k ≠ 83 ∧ k ≠ 87 ∧ k ≠ 257 ∧ ¬ (88 ≤ k ∧ k < 257) → M137 k i = M k i := fun k i hk => by (rw [hFr136 k i (by omega)]; try exact hF k i hk)
                  have hG : ∀ k i, 258 ≤ k → L138 k i = L k i := fun k i hk => by (rw [hGr136 k i (by omega)]; try exact hG k i hk)
                  have hV : vC M137 = sI (sI (startV (vC M) x) 0 5 (-9)) 0 5 r109 := by rw [vC_fr (fun k hk => hcr136 k (by omega)), hV]
                  have k0_8 : M137 0 8 = M 0 8 := (hFr136 0 8 (by omega)).trans k0_8
                  have k0_9 : M137 0 9 = M 0 9 := (hFr136 0 9 (by omega)).trans k0_9
                  have k0_10 : M137 0 10 = r109 := (hFr136 0 10 (by omega)).trans k0_10
                  have k0_11 : M137 0 11 = vC M 0 4 := (hFr136 0 11 (by omega)).trans k0_11
                  have q88 : ∀ k, 88 ≤ k ∧ k < 257 → M137 k = M137 k := fun _ _ => rfl
                  have q83 : M137 83 = M22 83 := (funext (fun i => hFr136 83 i (by omega))).trans q83
                  have q87 : M137 87 = M22 87 := (funext (fun i => hFr136 87 i (by omega))).trans q87
                  have q257 : M137 257 = M 257 := (funext (fun i => hFr136 257 i (by omega))).trans q257
                  refine g_aload_n C 1 dX10_count_128 rfl ?_
                  refine g_iload C 0 dX10_count_129 rfl ?_
                  refine g_aload_n C 1 dX10_count_131 rfl ?_
                  refine g_get C (.ref (ad ((M137 0 9).toNatClampNeg))) 9 in_X10_count_10 (List.mem_of_getElem? (i := 6) rfl) (by decide) (ce_house ad cs _ _) rfl (by decide) rfl rfl dX10_count_132 ?_
                  refine g_tr 191 (by rw [k0_9, hg9]; rfl) ?_
                  refine g_callVi C (n := 2) (As := [.int v26, .ref (ad 191)]) (st := []) (s_X10_countBy_b l D ad cs _ _ v26 hI ) gX10_count_X10_countBy rfl rfl rfl (by decide +kernel) ⟨Nat.le_of_ble_eq_true rfl, Nat.le_of_ble_eq_true rfl⟩ rfl (Nat.le_of_ble_eq_true rfl) ⟨Nat.zero_le _, Nat.zero_le _⟩ (by decide) (ce_house ad cs _ _) rfl rfl dX10_count_135 (fun r139 M140 L141 hr139 => ?_)
                  obtain ⟨hr139, hI, hFr139, hGr139⟩ := hr139
                  have hcr139 := hFr139
                  have hFr139 : ∀ k i, ¬ (88 ≤ k ∧ k < 257) → M140 k i = M137 k i := fun k i hk => congrFun (hcr139 k (by omega)) i
                  have hGr139 : ∀ k i, 258 ≤ k → L141 k i = L138 k i := fun k i hk => congrFun (hGr139 k hk) i
                  have hF : ∀ k i, ¬ (k = 0 ∧ i = 8) ∧ ¬ (k = 0 ∧ i = 9) ∧ ¬ (k = 0 ∧ i = 10) ∧ ¬ (k = 0 ∧ i = 11) ∧ k ≠ 83 ∧ k ≠ 87 ∧ k ≠ 257 ∧ ¬ (88 ≤ k ∧ k < 257) → M140 k i = M k i := fun k i hk => by (rw [hFr139 k i (by omega)]; try exact hF k i hk)
                  have hG : ∀ k i, 258 ≤ k → L141 k i = L k i := fun k i hk => by (rw [hGr139 k i (by omega)]; try exact hG k i hk)
                  have hV : vC M140 = sI (sI (startV (vC M) x) 0 5 (-9)) 0 5 r109 := by rw [vC_fr (fun k hk => hcr139 k (by omega)), hV]
                  have k0_8 : M140 0 8 = M 0 8 := (hFr139 0 8 (by omega)).trans k0_8
                  have k0_9 : M140 0 9 = M 0 9 := (hFr139 0 9 (by omega)).trans k0_9
                  have k0_10 : M140 0 10 = r109 := (hFr139 0 10 (by omega)).trans k0_10
                  have k0_11 : M140 0 11 = vC M 0 4 := (hFr139 0 11 (by omega)).trans k0_11
                  have q88 : ∀ k, 88 ≤ k ∧ k < 257 → M140 k = M140 k := fun _ _ => rfl
                  have q83 : M140 83 = M22 83 := (funext (fun i => hFr139 83 i (by omega))).trans q83
                  have q87 : M140 87 = M22 87 := (funext (fun i => hFr139 87 i (by omega))).trans q87
                  have q257 : M140 257 = M 257 := (funext (fun i => hFr139 257 i (by omega))).trans q257
                  have zr139 : r139.toInt = 0 ∨ r139.toInt = 1 := by rcases hr139 with h9 | h9 <;> rw [h9] <;> decide
                  refine g_if_ne C 144 dX10_count_138 (by decide) (fun c142 => ?_) (fun c142 => ?_)
                  ·
                    have f143 := fne rfl (by decide : (0 : Int32).toInt = 0) c142
                    refine g_aload_n C 1 dX10_count_144 rfl ?_
                    refine g_get C (.ref (ad ((M140 0 9).toNatClampNeg))) 9 in_X10_count_10 (List.mem_of_getElem? (i := 6) rfl) (by decide) (ce_house ad cs _ _) rfl (by decide) rfl rfl dX10_count_145 ?_
                    refine g_tr 191 (by rw [k0_9, hg9]; rfl) ?_
                    refine g_astore C [(5, .ref (ad 191)), (4, .int v26), (0, .ref (ad 0)), (1, .int x), (2, .int y), (3, .int z)] dX10_count_148 (by decide) rfl ?_
                    refine g_aload_n C 2 dX10_count_150 rfl ?_
                    refine g_aload_n C 2 dX10_count_151 rfl ?_
                    refine g_get C (.ref (ad ((M140 0 8).toNatClampNeg))) 8 in_X10_count_10 (List.mem_of_getElem? (i := 7) rfl) (by decide) (ce_house ad cs _ _) rfl (by decide) rfl rfl dX10_count_152 ?_
                    refine g_tr 125 (by rw [k0_8, hg8]; rfl) ?_
                    refine g_putR C (x9 := 125) 9 in_X10_count_10 (List.mem_of_getElem? (i := 6) rfl) (by decide) (ce_house ad cs _ _) rfl (by decide) rfl tyX10 tyX10_ok nmX10 rfl rfl rfl rfl (Nat.le_of_ble_eq_true rfl) (by rw [sI_k]; rfl) dX10_count_155 ?_
                    refine g_nm (fun M144 hM144 => ?_)
                    have zy145 : (125 : Int32).toInt = 125 := by decide
                    have hI : IC M144 := by rw [hM144]; exact hI.st (fun _ => Or.inl rfl)
                    have hF : ∀ k i, ¬ (k = 0 ∧ i = 8) ∧ ¬ (k = 0 ∧ i = 9) ∧ ¬ (k = 0 ∧ i = 10) ∧ ¬ (k = 0 ∧ i = 11) ∧ k ≠ 83 ∧ k ≠ 87 ∧ k ≠ 257 ∧ ¬ (88 ≤ k ∧ k < 257) → M144 k i = M k i := fun k i hk => by (rw [hM144, sI_at, if_neg (by omega)]; try exact hF k i hk)
                    have k0_8 : M144 0 8 = M 0 8 := by rw [hM144, sI_at, if_neg (by decide)]; try exact k0_8
                    have k0_10 : M144 0 10 = r109 := by rw [hM144, sI_at, if_neg (by decide)]; try exact k0_10
                    have k0_11 : M144 0 11 = vC M 0 4 := by rw [hM144, sI_at, if_neg (by decide)]; try exact k0_11
                    have k0_9 : M144 0 9 = 125 := by rw [hM144, sI_at, if_pos (by decide)]
                    have q83 : M144 83 = M22 83 := by rw [hM144, sI_n _ _ _ (by decide)]; try exact q83
                    have q87 : M144 87 = M22 87 := by rw [hM144, sI_n _ _ _ (by decide)]; try exact q87
                    have q257 : M144 257 = M 257 := by rw [hM144, sI_n _ _ _ (by decide)]; try exact q257
                    have q88 : ∀ k, 88 ≤ k ∧ k < 257 → M144 k = M140 k := fun k hk => by rw [hM144, sI_n _ _ _ (by omega)]; try exact q88 k hk
                    have hV : vC M144 = sI (sI (startV (vC M) x) 0 5 (-9)) 0 5 r109 := by rw [hM144, vC_h (by decide), hV]
                    refine g_aload_n C 2 dX10_count_158 rfl ?_
                    refine g_aload C 0 dX10_count_159 rfl ?_
                    refine g_putR C (x9 := 191) 8 in_X10_count_10 (List.mem_of_getElem? (i := 7) rfl) (by decide) (ce_house ad cs _ _) rfl (by decide) rfl tyX10 tyX10_ok nmX10 rfl rfl rfl rfl (Nat.le_of_ble_eq_true rfl) (by rw [sI_k]; rfl) dX10_count_161 ?_
                    refine g_nm (fun M146 hM146 => ?_)
                    have zy147 : (191 : Int32).toInt = 191 := by decide
                    have hI : IC M146 := by rw [hM146]; exact hI.st (fun _ => Or.inr rfl)
                    have hF : ∀ k i, ¬ (k = 0 ∧ i = 8) ∧ ¬ (k = 0 ∧ i = 9) ∧ ¬ (k = 0 ∧ i = 10) ∧ ¬ (k = 0 ∧ i = 11) ∧ k ≠ 83 ∧ k ≠ 87 ∧ k ≠ 257 ∧ ¬ (88 ≤ k ∧ k < 257) → M146 k i = M k i := fun k i hk => by (rw [hM146, sI_at, if_neg (by omega)]; try exact hF k i hk)
                    have k0_9 : M146 0 9 = 125 := by rw [hM146, sI_at, if_neg (by decide)]; try exact k0_9
                    have k0_10 : M146 0 10 = r109 := by rw [hM146, sI_at, if_neg (by decide)]; try exact k0_10
                    have k0_11 : M146 0 11 = vC M 0 4 := by rw [hM146, sI_at, if_neg (by decide)]; try exact k0_11
                    have k0_8 : M146 0 8 = 191 := by rw [hM146, sI_at, if_pos (by decide)]
                    have q83 : M146 83 = M22 83 := by rw [hM146, sI_n _ _ _ (by decide)]; try exact q83
                    have q87 : M146 87 = M22 87 := by rw [hM146, sI_n _ _ _ (by decide)]; try exact q87
                    have q257 : M146 257 = M 257 := by rw [hM146, sI_n _ _ _ (by decide)]; try exact q257
                    have q88 : ∀ k, 88 ≤ k ∧ k < 257 → M146 k = M140 k := fun k hk => by rw [hM146, sI_n _ _ _ (by omega)]; try exact q88 k hk
                    have hV : vC M146 = sI (sI (startV (vC M) x) 0 5 (-9)) 0 5 r109 := by rw [hM146, vC_h (by decide), hV]
                    refine g_aload_n C 2 dX10_count_164 rfl ?_
                    refine g_get C (.ref (ad ((M146 0 8).toNatClampNeg))) 8 in_X10_count_10 (List.mem_of_getElem? (i := 7) rfl) (by decide) (ce_house ad cs _ _) rfl (by decide) rfl rfl dX10_count_165 ?_
                    refine g_tr 191 (by rw [k0_8]; rfl) ?_
                    refine g_get C (.int (M146 191 0)) 0 in_X10_count_7 (List.mem_of_getElem? (i := 8) rfl) (by decide) (ce_rb ad cs _ _) rfl (by decide) rfl rfl dX10_count_168 ?_
                    refine g_ni (fun v148 ev148 => ?_)
                    have gv148 := ev148
                    have tv148 := congrArg Int32.toInt gv148
                    obtain ⟨bv148, dv148⟩ := (show rg 0 30 v148 from (by rw [ev148]; exact hI 191 0 (Or.inl rfl)))
                    have hA : A_count (vC M) x y z = (0, sI (startV (vC M) x) 0 5 (-9)) := by dsimp only [A_count, hasM, hasX, seatsOk, bt]; (repeat (first | rw [if_pos (by omega)] | rw [if_neg (by omega)]))
                    have er9 : r109 = -9 := Int32.toInt_inj.mp (by rw [show (-9 : Int32).toInt = -9 by decide]; omega)
                    exact g_iret C hr ⟨⟨by rw [hA, hV, sI_sI, er9], fun h => absurd (by rw [hA]) h⟩, hI, hF, hG⟩ dX10_count_171
                  ·
                    have f149 := feq rfl (by decide : (0 : Int32).toInt = 0) c142
                    refine g_bipush C (-6) dX10_count_141 (by decide) ?_
                    have hA : A_count (vC M) x y z = (0, sI (startV (vC M) x) 0 5 (-9)) := by dsimp only [A_count, hasM, hasX, seatsOk, bt]; (repeat (first | rw [if_pos (by omega)] | rw [if_neg (by omega)]))
                    have er9 : r109 = -9 := Int32.toInt_inj.mp (by rw [show (-9 : Int32).toInt = -9 by decide]; omega)
                    have zr9 : ((-6) : Int32).toInt = (-6) := by decide
                    exact g_iret C hr ⟨⟨by rw [hA, hV, sI_sI, er9], fun h => absurd (by rw [hA]) h⟩, hI, hF, hG⟩ dX10_count_143
              ·
                rcases (hI0 0 9 (Or.inr rfl)) with hg9 | hg9
                ·
                  refine g_aload_n C 1 dX10_count_108 rfl ?_
                  refine g_get C (.ref (ad 88)) 4 in_X10_count_10 (List.mem_of_getElem? (i := 5) rfl) (by decide) (ce_house ad cs _ _) rfl (by decide) rfl rfl dX10_count_109 ?_
                  refine g_aload_n C 1 dX10_count_112 rfl ?_
                  refine g_get C (.ref (ad 68)) 2 in_X10_count_10 (List.mem_of_getElem? (i := 3) rfl) (by decide) (ce_house ad cs _ _) rfl (by decide) rfl rfl dX10_count_113 ?_
                  refine g_iload_n C 3 dX10_count_116 rfl ?_
                  refine g_iload_n C 4 dX10_count_117 rfl ?_
                  refine g_callVv C (n := 3) (As := [.ref (ad 68), .int y, .int z]) (st := []) (s_X6_take l D ad cs _ _ y z hI ⟨by omega, by omega⟩ ⟨by omega, by omega⟩) gX10_count_X6_take rfl rfl rfl (by decide +kernel) ⟨Nat.le_of_ble_eq_true rfl, Nat.le_of_ble_eq_true rfl⟩ rfl (Nat.le_of_ble_eq_true rfl) ⟨Nat.zero_le _, Nat.zero_le _⟩ (by decide) (ce_poll ad cs _ _) rfl rfl dX10_count_118 (fun M151 L152 hr150 => ?_)
                  obtain ⟨hI, hFr150, hGr150⟩ := hr150
                  have hcr150 := hFr150
                  have hFr150 : ∀ k i, ¬ (88 ≤ k ∧ k < 257) → M151 k i = M112 k i := fun k i hk => congrFun (hcr150 k (by omega)) i
                  have hGr150 : ∀ k i, 258 ≤ k → L152 k i = L23 k i := fun k i hk => congrFun (hGr150 k hk) i
                  have hF : ∀ k i, ¬ (k = 0 ∧ i = 8) ∧ ¬ (k = 0 ∧ i = 9) ∧ ¬ (k = 0 ∧ i = 10) ∧ ¬ (k = 0 ∧ i = 11) ∧ k ≠ 83 ∧ k ≠ 87 ∧ k ≠ 257 ∧ ¬ (88 ≤ k ∧ k < 257) → M151 k i = M k i := fun k i hk => by (rw [hFr150 k i (by omega)]; try exact hF k i hk)
                  have hG : ∀ k i, 258 ≤ k → L152 k i = L k i := fun k i hk => by (rw [hGr150 k i (by omega)]; try exact hG k i hk)
                  have hV : vC M151 = sI (sI (startV (vC M) x) 0 5 (-9)) 0 5 r109 := by rw [vC_fr (fun k hk => hcr150 k (by omega)), hV]
                  have k0_8 : M151 0 8 = M 0 8 := (hFr150 0 8 (by omega)).trans k0_8
                  have k0_9 : M151 0 9 = M 0 9 := (hFr150 0 9 (by omega)).trans k0_9
                  have k0_10 : M151 0 10 = r109 := (hFr150 0 10 (by omega)).trans k0_10
                  have k0_11 : M151 0 11 = vC M 0 4 := (hFr150 0 11 (by omega)).trans k0_11
                  have q88 : ∀ k, 88 ≤ k ∧ k < 257 → M151 k = M151 k := fun _ _ => rfl
                  have q83 : M151 83 = M22 83 := (funext (fun i => hFr150 83 i (by omega))).trans q83
                  have q87 : M151 87 = M22 87 := (funext (fun i => hFr150 87 i (by omega))).trans q87
                  have q257 : M151 257 = M 257 := (funext (fun i => hFr150 257 i (by omega))).trans q257
                  refine g_aload_n C 1 dX10_count_121 rfl ?_
                  refine g_get C (.ref (ad ((M151 0 9).toNatClampNeg))) 9 in_X10_count_10 (List.mem_of_getElem? (i := 6) rfl) (by decide) (ce_house ad cs _ _) rfl (by decide) rfl rfl dX10_count_122 ?_
                  refine g_tr 125 (by rw [k0_9, hg9]; rfl) ?_
                  refine g_callVv C (n := 0) (As := []) (st := []) (s_X7_clear_a l D ad cs _ _  hI ) gX10_count_X7_clear rfl rfl rfl (by decide +kernel) ⟨Nat.le_of_ble_eq_true rfl, Nat.le_of_ble_eq_true rfl⟩ rfl (Nat.le_of_ble_eq_true rfl) ⟨Nat.zero_le _, Nat.zero_le _⟩ (by decide) (ce_ra ad cs _ _) rfl rfl dX10_count_125 (fun M154 L155 hr153 => ?_)
                  obtain ⟨hI, hFr153, hGr153⟩ := hr153
                  have hcr153 := hFr153
                  have hFr153 : ∀ k i, ¬ (88 ≤ k ∧ k < 257) → M154 k i = M151 k i := fun k i hk => congrFun (hcr153 k (by omega)) i
                  have hGr153 : ∀ k i, 258 ≤ k → L155 k i = L152 k i := fun k i hk => congrFun (hGr153 k hk) i
                  have hF : ∀ k i, ¬ (k = 0 ∧ i = 8) ∧ ¬ (k = 0 ∧ i = 9) ∧ ¬ (k = 0 ∧ i = 10) ∧ ¬ (k = 0 ∧ i = 11) ∧ k ≠ 83 ∧ k ≠ 87 ∧ k ≠ 257 ∧ ¬ (88 ≤ k ∧ k < 257) → M154 k i = M k i := fun k i hk => by (rw [hFr153 k i (by omega)]; try exact hF k i hk)
                  have hG : ∀ k i, 258 ≤ k → L155 k i = L k i := fun k i hk => by (rw [hGr153 k i (by omega)]; try exact hG k i hk)
                  have hV : vC M154 = sI (sI (startV (vC M) x) 0 5 (-9)) 0 5 r109 := by rw [vC_fr (fun k hk => hcr153 k (by omega)), hV]
                  have k0_8 : M154 0 8 = M 0 8 := (hFr153 0 8 (by omega)).trans k0_8
                  have k0_9 : M154 0 9 = M 0 9 := (hFr153 0 9 (by omega)).trans k0_9
                  have k0_10 : M154 0 10 = r109 := (hFr153 0 10 (by omega)).trans k0_10
                  have k0_11 : M154 0 11 = vC M 0 4 := (hFr153 0 11 (by omega)).trans k0_11
                  have q88 : ∀ k, 88 ≤ k ∧ k < 257 → M154 k = M154 k := fun _ _ => rfl
                  have q83 : M154 83 = M22 83 := (funext (fun i => hFr153 83 i (by omega))).trans q83
                  have q87 : M154 87 = M22 87 := (funext (fun i => hFr153 87 i (by omega))).trans q87
                  have q257 : M154 257 = M 257 := (funext (fun i => hFr153 257 i (by omega))).trans q257
                  refine g_aload_n C 1 dX10_count_128 rfl ?_
                  refine g_iload C 0 dX10_count_129 rfl ?_
                  refine g_aload_n C 1 dX10_count_131 rfl ?_
                  refine g_get C (.ref (ad ((M154 0 9).toNatClampNeg))) 9 in_X10_count_10 (List.mem_of_getElem? (i := 6) rfl) (by decide) (ce_house ad cs _ _) rfl (by decide) rfl rfl dX10_count_132 ?_
                  refine g_tr 125 (by rw [k0_9, hg9]; rfl) ?_
                  refine g_callVi C (n := 2) (As := [.int v26, .ref (ad 125)]) (st := []) (s_X10_countBy_a l D ad cs _ _ v26 hI ) gX10_count_X10_countBy rfl rfl rfl (by decide +kernel) ⟨Nat.le_of_ble_eq_true rfl, Nat.le_of_ble_eq_true rfl⟩ rfl (Nat.le_of_ble_eq_true rfl) ⟨Nat.zero_le _, Nat.zero_le _⟩ (by decide) (ce_house ad cs _ _) rfl rfl dX10_count_135 (fun r156 M157 L158 hr156 => ?_)
                  obtain ⟨hr156, hI, hFr156, hGr156⟩ := hr156
                  have hcr156 := hFr156
                  have hFr156 : ∀ k i, ¬ (88 ≤ k ∧ k < 257) → M157 k i = M154 k i := fun k i hk => congrFun (hcr156 k (by omega)) i
                  have hGr156 : ∀ k i, 258 ≤ k → L158 k i = L155 k i := fun k i hk => congrFun (hGr156 k hk) i
                  have hF : ∀ k i, ¬ (k = 0 ∧ i = 8) ∧ ¬ (k = 0 ∧ i = 9) ∧ ¬ (k = 0 ∧ i = 10) ∧ ¬ (k = 0 ∧ i = 11) ∧ k ≠ 83 ∧ k ≠ 87 ∧ k ≠ 257 ∧ ¬ (88 ≤ k ∧ k < 257) → M157 k i = M k i := fun k i hk => by (rw [hFr156 k i (by omega)]; try exact hF k i hk)
                  have hG : ∀ k i, 258 ≤ k → L158 k i = L k i := fun k i hk => by (rw [hGr156 k i (by omega)]; try exact hG k i hk)
                  have hV : vC M157 = sI (sI (startV (vC M) x) 0 5 (-9)) 0 5 r109 := by rw [vC_fr (fun k hk => hcr156 k (by omega)), hV]
                  have k0_8 : M157 0 8 = M 0 8 := (hFr156 0 8 (by omega)).trans k0_8
                  have k0_9 : M157 0 9 = M 0 9 := (hFr156 0 9 (by omega)).trans k0_9
                  have k0_10 : M157 0 10 = r109 := (hFr156 0 10 (by omega)).trans k0_10
                  have k0_11 : M157 0 11 = vC M 0 4 := (hFr156 0 11 (by omega)).trans k0_11
                  have q88 : ∀ k, 88 ≤ k ∧ k < 257 → M157 k = M157 k := fun _ _ => rfl
                  have q83 : M157 83 = M22 83 := (funext (fun i => hFr156 83 i (by omega))).trans q83
                  have q87 : M157 87 = M22 87 := (funext (fun i => hFr156 87 i (by omega))).trans q87
                  have q257 : M157 257 = M 257 := (funext (fun i => hFr156 257 i (by omega))).trans q257
                  have zr156 : r156.toInt = 0 ∨ r156.toInt = 1 := by rcases hr156 with h9 | h9 <;> rw [h9] <;> decide
                  refine g_if_ne C 144 dX10_count_138 (by decide) (fun c159 => ?_) (fun c159 => ?_)
                  ·
                    have f160 := fne rfl (by decide : (0 : Int32).toInt = 0) c159
                    refine g_aload_n C 1 dX10_count_144 rfl ?_
                    refine g_get C (.ref (ad ((M157 0 9).toNatClampNeg))) 9 in_X10_count_10 (List.mem_of_getElem? (i := 6) rfl) (by decide) (ce_house ad cs _ _) rfl (by decide) rfl rfl dX10_count_145 ?_
                    refine g_tr 125 (by rw [k0_9, hg9]; rfl) ?_
                    refine g_astore C [(5, .ref (ad 125)), (4, .int v26), (0, .ref (ad 0)), (1, .int x), (2, .int y), (3, .int z)] dX10_count_148 (by decide) rfl ?_
                    refine g_aload_n C 2 dX10_count_150 rfl ?_
                    refine g_aload_n C 2 dX10_count_151 rfl ?_
                    refine g_get C (.ref (ad ((M157 0 8).toNatClampNeg))) 8 in_X10_count_10 (List.mem_of_getElem? (i := 7) rfl) (by decide) (ce_house ad cs _ _) rfl (by decide) rfl rfl dX10_count_152 ?_
                    refine g_tr 191 (by rw [k0_8, hg8]; rfl) ?_
                    refine g_putR C (x9 := 191) 9 in_X10_count_10 (List.mem_of_getElem? (i := 6) rfl) (by decide) (ce_house ad cs _ _) rfl (by decide) rfl tyX10 tyX10_ok nmX10 rfl rfl rfl rfl (Nat.le_of_ble_eq_true rfl) (by rw [sI_k]; rfl) dX10_count_155 ?_
                    refine g_nm (fun M161 hM161 => ?_)
                    have zy162 : (191 : Int32).toInt = 191 := by decide
                    have hI : IC M161 := by rw [hM161]; exact hI.st (fun _ => Or.inr rfl)
                    have hF : ∀ k i, ¬ (k = 0 ∧ i = 8) ∧ ¬ (k = 0 ∧ i = 9) ∧ ¬ (k = 0 ∧ i = 10) ∧ ¬ (k = 0 ∧ i = 11) ∧ k ≠ 83 ∧ k ≠ 87 ∧ k ≠ 257 ∧ ¬ (88 ≤ k ∧ k < 257) → M161 k i = M k i := fun k i hk => by (rw [hM161, sI_at, if_neg (by omega)]; try exact hF k i hk)
                    have k0_8 : M161 0 8 = M 0 8 := by rw [hM161, sI_at, if_neg (by decide)]; try exact k0_8
                    have k0_10 : M161 0 10 = r109 := by rw [hM161, sI_at, if_neg (by decide)]; try exact k0_10
                    have k0_11 : M161 0 11 = vC M 0 4 := by rw [hM161, sI_at, if_neg (by decide)]; try exact k0_11
                    have k0_9 : M161 0 9 = 191 := by rw [hM161, sI_at, if_pos (by decide)]
                    have q83 : M161 83 = M22 83 := by rw [hM161, sI_n _ _ _ (by decide)]; try exact q83
                    have q87 : M161 87 = M22 87 := by rw [hM161, sI_n _ _ _ (by decide)]; try exact q87
                    have q257 : M161 257 = M 257 := by rw [hM161, sI_n _ _ _ (by decide)]; try exact q257
                    have q88 : ∀ k, 88 ≤ k ∧ k < 257 → M161 k = M157 k := fun k hk => by rw [hM161, sI_n _ _ _ (by omega)]; try exact q88 k hk
                    have hV : vC M161 = sI (sI (startV (vC M) x) 0 5 (-9)) 0 5 r109 := by rw [hM161, vC_h (by decide), hV]
                    refine g_aload_n C 2 dX10_count_158 rfl ?_
                    refine g_aload C 0 dX10_count_159 rfl ?_
                    refine g_putR C (x9 := 125) 8 in_X10_count_10 (List.mem_of_getElem? (i := 7) rfl) (by decide) (ce_house ad cs _ _) rfl (by decide) rfl tyX10 tyX10_ok nmX10 rfl rfl rfl rfl (Nat.le_of_ble_eq_true rfl) (by rw [sI_k]; rfl) dX10_count_161 ?_
                    refine g_nm (fun M163 hM163 => ?_)
                    have zy164 : (125 : Int32).toInt = 125 := by decide
                    have hI : IC M163 := by rw [hM163]; exact hI.st (fun _ => Or.inl rfl)
                    have hF : ∀ k i, ¬ (k = 0 ∧ i = 8) ∧ ¬ (k = 0 ∧ i = 9) ∧ ¬ (k = 0 ∧ i = 10) ∧ ¬ (k = 0 ∧ i = 11) ∧ k ≠ 83 ∧ k ≠ 87 ∧ k ≠ 257 ∧ ¬ (88 ≤ k ∧ k < 257) → M163 k i = M k i := fun k i hk => by (rw [hM163, sI_at, if_neg (by omega)]; try exact hF k i hk)
                    have k0_9 : M163 0 9 = 191 := by rw [hM163, sI_at, if_neg (by decide)]; try exact k0_9
                    have k0_10 : M163 0 10 = r109 := by rw [hM163, sI_at, if_neg (by decide)]; try exact k0_10
                    have k0_11 : M163 0 11 = vC M 0 4 := by rw [hM163, sI_at, if_neg (by decide)]; try exact k0_11
                    have k0_8 : M163 0 8 = 125 := by rw [hM163, sI_at, if_pos (by decide)]
                    have q83 : M163 83 = M22 83 := by rw [hM163, sI_n _ _ _ (by decide)]; try exact q83
                    have q87 : M163 87 = M22 87 := by rw [hM163, sI_n _ _ _ (by decide)]; try exact q87
                    have q257 : M163 257 = M 257 := by rw [hM163, sI_n _ _ _ (by decide)]; try exact q257
                    have q88 : ∀ k, 88 ≤ k ∧ k < 257 → M163 k = M157 k := fun k hk => by rw [hM163, sI_n _ _ _ (by omega)]; try exact q88 k hk
                    have hV : vC M163 = sI (sI (startV (vC M) x) 0 5 (-9)) 0 5 r109 := by rw [hM163, vC_h (by decide), hV]
                    refine g_aload_n C 2 dX10_count_164 rfl ?_
                    refine g_get C (.ref (ad ((M163 0 8).toNatClampNeg))) 8 in_X10_count_10 (List.mem_of_getElem? (i := 7) rfl) (by decide) (ce_house ad cs _ _) rfl (by decide) rfl rfl dX10_count_165 ?_
                    refine g_tr 125 (by rw [k0_8]; rfl) ?_
                    refine g_get C (.int (M163 125 0)) 0 in_X10_count_7 (List.mem_of_getElem? (i := 8) rfl) (by decide) (ce_ra ad cs _ _) rfl (by decide) rfl rfl dX10_count_168 ?_
                    refine g_ni (fun v165 ev165 => ?_)
                    have gv165 := ev165
                    have tv165 := congrArg Int32.toInt gv165
                    obtain ⟨bv165, dv165⟩ := (show rg 0 30 v165 from (by rw [ev165]; exact hI 125 0 (Or.inl rfl)))
                    have hA : A_count (vC M) x y z = (0, sI (startV (vC M) x) 0 5 (-9)) := by dsimp only [A_count, hasM, hasX, seatsOk, bt]; (repeat (first | rw [if_pos (by omega)] | rw [if_neg (by omega)]))
                    have er9 : r109 = -9 := Int32.toInt_inj.mp (by rw [show (-9 : Int32).toInt = -9 by decide]; omega)
                    exact g_iret C hr ⟨⟨by rw [hA, hV, sI_sI, er9], fun h => absurd (by rw [hA]) h⟩, hI, hF, hG⟩ dX10_count_171
                  ·
                    have f166 := feq rfl (by decide : (0 : Int32).toInt = 0) c159
                    refine g_bipush C (-6) dX10_count_141 (by decide) ?_
                    have hA : A_count (vC M) x y z = (0, sI (startV (vC M) x) 0 5 (-9)) := by dsimp only [A_count, hasM, hasX, seatsOk, bt]; (repeat (first | rw [if_pos (by omega)] | rw [if_neg (by omega)]))
                    have er9 : r109 = -9 := Int32.toInt_inj.mp (by rw [show (-9 : Int32).toInt = -9 by decide]; omega)
                    have zr9 : ((-6) : Int32).toInt = (-6) := by decide
                    exact g_iret C hr ⟨⟨by rw [hA, hV, sI_sI, er9], fun h => absurd (by rw [hA]) h⟩, hI, hF, hG⟩ dX10_count_143
                ·
                  refine g_aload_n C 1 dX10_count_108 rfl ?_
                  refine g_get C (.ref (ad 88)) 4 in_X10_count_10 (List.mem_of_getElem? (i := 5) rfl) (by decide) (ce_house ad cs _ _) rfl (by decide) rfl rfl dX10_count_109 ?_
                  refine g_aload_n C 1 dX10_count_112 rfl ?_
                  refine g_get C (.ref (ad 68)) 2 in_X10_count_10 (List.mem_of_getElem? (i := 3) rfl) (by decide) (ce_house ad cs _ _) rfl (by decide) rfl rfl dX10_count_113 ?_
                  refine g_iload_n C 3 dX10_count_116 rfl ?_
                  refine g_iload_n C 4 dX10_count_117 rfl ?_
                  refine g_callVv C (n := 3) (As := [.ref (ad 68), .int y, .int z]) (st := []) (s_X6_take l D ad cs _ _ y z hI ⟨by omega, by omega⟩ ⟨by omega, by omega⟩) gX10_count_X6_take rfl rfl rfl (by decide +kernel) ⟨Nat.le_of_ble_eq_true rfl, Nat.le_of_ble_eq_true rfl⟩ rfl (Nat.le_of_ble_eq_true rfl) ⟨Nat.zero_le _, Nat.zero_le _⟩ (by decide) (ce_poll ad cs _ _) rfl rfl dX10_count_118 (fun M168 L169 hr167 => ?_)
                  obtain ⟨hI, hFr167, hGr167⟩ := hr167
                  have hcr167 := hFr167
                  have hFr167 : ∀ k i, ¬ (88 ≤ k ∧ k < 257) → M168 k i = M112 k i := fun k i hk => congrFun (hcr167 k (by omega)) i
                  have hGr167 : ∀ k i, 258 ≤ k → L169 k i = L23 k i := fun k i hk => congrFun (hGr167 k hk) i
                  have hF : ∀ k i, ¬ (k = 0 ∧ i = 8) ∧ ¬ (k = 0 ∧ i = 9) ∧ ¬ (k = 0 ∧ i = 10) ∧ ¬ (k = 0 ∧ i = 11) ∧ k ≠ 83 ∧ k ≠ 87 ∧ k ≠ 257 ∧ ¬ (88 ≤ k ∧ k < 257) → M168 k i = M k i := fun k i hk => by (rw [hFr167 k i (by omega)]; try exact hF k i hk)
                  have hG : ∀ k i, 258 ≤ k → L169 k i = L k i := fun k i hk => by (rw [hGr167 k i (by omega)]; try exact hG k i hk)
                  have hV : vC M168 = sI (sI (startV (vC M) x) 0 5 (-9)) 0 5 r109 := by rw [vC_fr (fun k hk => hcr167 k (by omega)), hV]
                  have k0_8 : M168 0 8 = M 0 8 := (hFr167 0 8 (by omega)).trans k0_8
                  have k0_9 : M168 0 9 = M 0 9 := (hFr167 0 9 (by omega)).trans k0_9
                  have k0_10 : M168 0 10 = r109 := (hFr167 0 10 (by omega)).trans k0_10
                  have k0_11 : M168 0 11 = vC M 0 4 := (hFr167 0 11 (by omega)).trans k0_11
                  have q88 : ∀ k, 88 ≤ k ∧ k < 257 → M168 k = M168 k := fun _ _ => rfl
                  have q83 : M168 83 = M22 83 := (funext (fun i => hFr167 83 i (by omega))).trans q83
                  have q87 : M168 87 = M22 87 := (funext (fun i => hFr167 87 i (by omega))).trans q87
                  have q257 : M168 257 = M 257 := (funext (fun i => hFr167 257 i (by omega))).trans q257
                  refine g_aload_n C 1 dX10_count_121 rfl ?_
                  refine g_get C (.ref (ad ((M168 0 9).toNatClampNeg))) 9 in_X10_count_10 (List.mem_of_getElem? (i := 6) rfl) (by decide) (ce_house ad cs _ _) rfl (by decide) rfl rfl dX10_count_122 ?_
                  refine g_tr 191 (by rw [k0_9, hg9]; rfl) ?_
                  refine g_callVv C (n := 0) (As := []) (st := []) (s_X7_clear_b l D ad cs _ _  hI ) gX10_count_X7_clear rfl rfl rfl (by decide +kernel) ⟨Nat.le_of_ble_eq_true rfl, Nat.le_of_ble_eq_true rfl⟩ rfl (Nat.le_of_ble_eq_true rfl) ⟨Nat.zero_le _, Nat.zero_le _⟩ (by decide) (ce_rb ad cs _ _) rfl rfl dX10_count_125 (fun M171 L172 hr170 => ?_)
                  obtain ⟨hI, hFr170, hGr170⟩ := hr170
                  have hcr170 := hFr170
                  have hFr170 : ∀ k i, ¬ (88 ≤ k ∧ k < 257) → M171 k i = M168 k i := fun k i hk => congrFun (hcr170 k (by omega)) i
                  have hGr170 : ∀ k i, 258 ≤ k → L172 k i = L169 k i := fun k i hk => congrFun (hGr170 k hk) i
                  have hF : ∀ k i, ¬ (k = 0 ∧ i = 8) ∧ ¬ (k = 0 ∧ i = 9) ∧ ¬ (k = 0 ∧ i = 10) ∧ ¬ (k = 0 ∧ i = 11) ∧ k ≠ 83 ∧ k ≠ 87 ∧ k ≠ 257 ∧ ¬ (88 ≤ k ∧ k < 257) → M171 k i = M k i := fun k i hk => by (rw [hFr170 k i (by omega)]; try exact hF k i hk)
                  have hG : ∀ k i, 258 ≤ k → L172 k i = L k i := fun k i hk => by (rw [hGr170 k i (by omega)]; try exact hG k i hk)
                  have hV : vC M171 = sI (sI (startV (vC M) x) 0 5 (-9)) 0 5 r109 := by rw [vC_fr (fun k hk => hcr170 k (by omega)), hV]
                  have k0_8 : M171 0 8 = M 0 8 := (hFr170 0 8 (by omega)).trans k0_8
                  have k0_9 : M171 0 9 = M 0 9 := (hFr170 0 9 (by omega)).trans k0_9
                  have k0_10 : M171 0 10 = r109 := (hFr170 0 10 (by omega)).trans k0_10
                  have k0_11 : M171 0 11 = vC M 0 4 := (hFr170 0 11 (by omega)).trans k0_11
                  have q88 : ∀ k, 88 ≤ k ∧ k < 257 → M171 k = M171 k := fun _ _ => rfl
                  have q83 : M171 83 = M22 83 := (funext (fun i => hFr170 83 i (by omega))).trans q83
                  have q87 : M171 87 = M22 87 := (funext (fun i => hFr170 87 i (by omega))).trans q87
                  have q257 : M171 257 = M 257 := (funext (fun i => hFr170 257 i (by omega))).trans q257
                  refine g_aload_n C 1 dX10_count_128 rfl ?_
                  refine g_iload C 0 dX10_count_129 rfl ?_
                  refine g_aload_n C 1 dX10_count_131 rfl ?_
                  refine g_get C (.ref (ad ((M171 0 9).toNatClampNeg))) 9 in_X10_count_10 (List.mem_of_getElem? (i := 6) rfl) (by decide) (ce_house ad cs _ _) rfl (by decide) rfl rfl dX10_count_132 ?_
                  refine g_tr 191 (by rw [k0_9, hg9]; rfl) ?_
                  refine g_callVi C (n := 2) (As := [.int v26, .ref (ad 191)]) (st := []) (s_X10_countBy_b l D ad cs _ _ v26 hI ) gX10_count_X10_countBy rfl rfl rfl (by decide +kernel) ⟨Nat.le_of_ble_eq_true rfl, Nat.le_of_ble_eq_true rfl⟩ rfl (Nat.le_of_ble_eq_true rfl) ⟨Nat.zero_le _, Nat.zero_le _⟩ (by decide) (ce_house ad cs _ _) rfl rfl dX10_count_135 (fun r173 M174 L175 hr173 => ?_)
                  obtain ⟨hr173, hI, hFr173, hGr173⟩ := hr173
                  have hcr173 := hFr173
                  have hFr173 : ∀ k i, ¬ (88 ≤ k ∧ k < 257) → M174 k i = M171 k i := fun k i hk => congrFun (hcr173 k (by omega)) i
                  have hGr173 : ∀ k i, 258 ≤ k → L175 k i = L172 k i := fun k i hk => congrFun (hGr173 k hk) i
                  have hF : ∀ k i, ¬ (k = 0 ∧ i = 8) ∧ ¬ (k = 0 ∧ i = 9) ∧ ¬ (k = 0 ∧ i = 10) ∧ ¬ (k = 0 ∧ i = 11) ∧ k ≠ 83 ∧ k ≠ 87 ∧ k ≠ 257 ∧ ¬ (88 ≤ k ∧ k < 257) → M174 k i = M k i := fun k i hk => by (rw [hFr173 k i (by omega)]; try exact hF k i hk)
                  have hG : ∀ k i, 258 ≤ k → L175 k i = L k i := fun k i hk => by (rw [hGr173 k i (by omega)]; try exact hG k i hk)
                  have hV : vC M174 = sI (sI (startV (vC M) x) 0 5 (-9)) 0 5 r109 := by rw [vC_fr (fun k hk => hcr173 k (by omega)), hV]
                  have k0_8 : M174 0 8 = M 0 8 := (hFr173 0 8 (by omega)).trans k0_8
                  have k0_9 : M174 0 9 = M 0 9 := (hFr173 0 9 (by omega)).trans k0_9
                  have k0_10 : M174 0 10 = r109 := (hFr173 0 10 (by omega)).trans k0_10
                  have k0_11 : M174 0 11 = vC M 0 4 := (hFr173 0 11 (by omega)).trans k0_11
                  have q88 : ∀ k, 88 ≤ k ∧ k < 257 → M174 k = M174 k := fun _ _ => rfl
                  have q83 : M174 83 = M22 83 := (funext (fun i => hFr173 83 i (by omega))).trans q83
                  have q87 : M174 87 = M22 87 := (funext (fun i => hFr173 87 i (by omega))).trans q87
                  have q257 : M174 257 = M 257 := (funext (fun i => hFr173 257 i (by omega))).trans q257
                  have zr173 : r173.toInt = 0 ∨ r173.toInt = 1 := by rcases hr173 with h9 | h9 <;> rw [h9] <;> decide
                  refine g_if_ne C 144 dX10_count_138 (by decide) (fun c176 => ?_) (fun c176 => ?_)
                  ·
                    have f177 := fne rfl (by decide : (0 : Int32).toInt = 0) c176
                    refine g_aload_n C 1 dX10_count_144 rfl ?_
                    refine g_get C (.ref (ad ((M174 0 9).toNatClampNeg))) 9 in_X10_count_10 (List.mem_of_getElem? (i := 6) rfl) (by decide) (ce_house ad cs _ _) rfl (by decide) rfl rfl dX10_count_145 ?_
                    refine g_tr 191 (by rw [k0_9, hg9]; rfl) ?_
                    refine g_astore C [(5, .ref (ad 191)), (4, .int v26), (0, .ref (ad 0)), (1, .int x), (2, .int y), (3, .int z)] dX10_count_148 (by decide) rfl ?_
                    refine g_aload_n C 2 dX10_count_150 rfl ?_
                    refine g_aload_n C 2 dX10_count_151 rfl ?_
                    refine g_get C (.ref (ad ((M174 0 8).toNatClampNeg))) 8 in_X10_count_10 (List.mem_of_getElem? (i := 7) rfl) (by decide) (ce_house ad cs _ _) rfl (by decide) rfl rfl dX10_count_152 ?_
                    refine g_tr 191 (by rw [k0_8, hg8]; rfl) ?_
                    refine g_putR C (x9 := 191) 9 in_X10_count_10 (List.mem_of_getElem? (i := 6) rfl) (by decide) (ce_house ad cs _ _) rfl (by decide) rfl tyX10 tyX10_ok nmX10 rfl rfl rfl rfl (Nat.le_of_ble_eq_true rfl) (by rw [sI_k]; rfl) dX10_count_155 ?_
                    refine g_nm (fun M178 hM178 => ?_)
                    have zy179 : (191 : Int32).toInt = 191 := by decide
                    have hI : IC M178 := by rw [hM178]; exact hI.st (fun _ => Or.inr rfl)
                    have hF : ∀ k i, ¬ (k = 0 ∧ i = 8) ∧ ¬ (k = 0 ∧ i = 9) ∧ ¬ (k = 0 ∧ i = 10) ∧ ¬ (k = 0 ∧ i = 11) ∧ k ≠ 83 ∧ k ≠ 87 ∧ k ≠ 257 ∧ ¬ (88 ≤ k ∧ k < 257) → M178 k i = M k i := fun k i hk => by (rw [hM178, sI_at, if_neg (by omega)]; try exact hF k i hk)
                    have k0_8 : M178 0 8 = M 0 8 := by rw [hM178, sI_at, if_neg (by decide)]; try exact k0_8
                    have k0_10 : M178 0 10 = r109 := by rw [hM178, sI_at, if_neg (by decide)]; try exact k0_10
                    have k0_11 : M178 0 11 = vC M 0 4 := by rw [hM178, sI_at, if_neg (by decide)]; try exact k0_11
                    have k0_9 : M178 0 9 = 191 := by rw [hM178, sI_at, if_pos (by decide)]
                    have q83 : M178 83 = M22 83 := by rw [hM178, sI_n _ _ _ (by decide)]; try exact q83
                    have q87 : M178 87 = M22 87 := by rw [hM178, sI_n _ _ _ (by decide)]; try exact q87
                    have q257 : M178 257 = M 257 := by rw [hM178, sI_n _ _ _ (by decide)]; try exact q257
                    have q88 : ∀ k, 88 ≤ k ∧ k < 257 → M178 k = M174 k := fun k hk => by rw [hM178, sI_n _ _ _ (by omega)]; try exact q88 k hk
                    have hV : vC M178 = sI (sI (startV (vC M) x) 0 5 (-9)) 0 5 r109 := by rw [hM178, vC_h (by decide), hV]
                    refine g_aload_n C 2 dX10_count_158 rfl ?_
                    refine g_aload C 0 dX10_count_159 rfl ?_
                    refine g_putR C (x9 := 191) 8 in_X10_count_10 (List.mem_of_getElem? (i := 7) rfl) (by decide) (ce_house ad cs _ _) rfl (by decide) rfl tyX10 tyX10_ok nmX10 rfl rfl rfl rfl (Nat.le_of_ble_eq_true rfl) (by rw [sI_k]; rfl) dX10_count_161 ?_
                    refine g_nm (fun M180 hM180 => ?_)
                    have zy181 : (191 : Int32).toInt = 191 := by decide
                    have hI : IC M180 := by rw [hM180]; exact hI.st (fun _ => Or.inr rfl)
                    have hF : ∀ k i, ¬ (k = 0 ∧ i = 8) ∧ ¬ (k = 0 ∧ i = 9) ∧ ¬ (k = 0 ∧ i = 10) ∧ ¬ (k = 0 ∧ i = 11) ∧ k ≠ 83 ∧ k ≠ 87 ∧ k ≠ 257 ∧ ¬ (88 ≤ k ∧ k < 257) → M180 k i = M k i := fun k i hk => by (rw [hM180, sI_at, if_neg (by omega)]; try exact hF k i hk)
                    have k0_9 : M180 0 9 = 191 := by rw [hM180, sI_at, if_neg (by decide)]; try exact k0_9
                    have k0_10 : M180 0 10 = r109 := by rw [hM180, sI_at, if_neg (by decide)]; try exact k0_10
                    have k0_11 : M180 0 11 = vC M 0 4 := by rw [hM180, sI_at, if_neg (by decide)]; try exact k0_11
                    have k0_8 : M180 0 8 = 191 := by rw [hM180, sI_at, if_pos (by decide)]
                    have q83 : M180 83 = M22 83 := by rw [hM180, sI_n _ _ _ (by decide)]; try exact q83
                    have q87 : M180 87 = M22 87 := by rw [hM180, sI_n _ _ _ (by decide)]; try exact q87
                    have q257 : M180 257 = M 257 := by rw [hM180, sI_n _ _ _ (by decide)]; try exact q257
                    have q88 : ∀ k, 88 ≤ k ∧ k < 257 → M180 k = M174 k := fun k hk => by rw [hM180, sI_n _ _ _ (by omega)]; try exact q88 k hk
                    have hV : vC M180 = sI (sI (startV (vC M) x) 0 5 (-9)) 0 5 r109 := by rw [hM180, vC_h (by decide), hV]
                    refine g_aload_n C 2 dX10_count_164 rfl ?_
                    refine g_get C (.ref (ad ((M180 0 8).toNatClampNeg))) 8 in_X10_count_10 (List.mem_of_getElem? (i := 7) rfl) (by decide) (ce_house ad cs _ _) rfl (by decide) rfl rfl dX10_count_165 ?_
                    refine g_tr 191 (by rw [k0_8]; rfl) ?_
                    refine g_get C (.int (M180 191 0)) 0 in_X10_count_7 (List.mem_of_getElem? (i := 8) rfl) (by decide) (ce_rb ad cs _ _) rfl (by decide) rfl rfl dX10_count_168 ?_
                    refine g_ni (fun v182 ev182 => ?_)
                    have gv182 := ev182
                    have tv182 := congrArg Int32.toInt gv182
                    obtain ⟨bv182, dv182⟩ := (show rg 0 30 v182 from (by rw [ev182]; exact hI 191 0 (Or.inl rfl)))
                    have hA : A_count (vC M) x y z = (0, sI (startV (vC M) x) 0 5 (-9)) := by dsimp only [A_count, hasM, hasX, seatsOk, bt]; (repeat (first | rw [if_pos (by omega)] | rw [if_neg (by omega)]))
                    have er9 : r109 = -9 := Int32.toInt_inj.mp (by rw [show (-9 : Int32).toInt = -9 by decide]; omega)
                    exact g_iret C hr ⟨⟨by rw [hA, hV, sI_sI, er9], fun h => absurd (by rw [hA]) h⟩, hI, hF, hG⟩ dX10_count_171
                  ·
                    have f183 := feq rfl (by decide : (0 : Int32).toInt = 0) c176
                    refine g_bipush C (-6) dX10_count_141 (by decide) ?_
                    have hA : A_count (vC M) x y z = (0, sI (startV (vC M) x) 0 5 (-9)) := by dsimp only [A_count, hasM, hasX, seatsOk, bt]; (repeat (first | rw [if_pos (by omega)] | rw [if_neg (by omega)]))
                    have er9 : r109 = -9 := Int32.toInt_inj.mp (by rw [show (-9 : Int32).toInt = -9 by decide]; omega)
                    have zr9 : ((-6) : Int32).toInt = (-6) := by decide
                    exact g_iret C hr ⟨⟨by rw [hA, hV, sI_sI, er9], fun h => absurd (by rw [hA]) h⟩, hI, hF, hG⟩ dX10_count_143
            ·
              have f184 := fne rfl (by decide : ((-9) : Int32).toInt = (-9)) c114
              refine g_aload_n C 1 dX10_count_102 rfl ?_
              refine g_iconst C 3 dX10_count_103 (by decide) ?_
              refine g_callVi C (n := 1) (As := [.int 3]) (st := []) (v_X10_found l D ad cs _ _ 3 hI ⟨by first | omega | decide, by first | omega | decide⟩) gX10_count_X10_found rfl rfl rfl (by decide +kernel) ⟨Nat.le_of_ble_eq_true rfl, Nat.le_of_ble_eq_true rfl⟩ rfl (Nat.le_of_ble_eq_true rfl) ⟨Nat.zero_le _, Nat.zero_le _⟩ (by decide) (ce_house ad cs _ _) rfl rfl dX10_count_104 (fun r185 M186 L187 hr185 => ?_)
              obtain ⟨hr185, hI, hFr185, hGr185⟩ := hr185
              have hF : ∀ k i, ¬ (k = 0 ∧ i = 8) ∧ ¬ (k = 0 ∧ i = 9) ∧ ¬ (k = 0 ∧ i = 10) ∧ ¬ (k = 0 ∧ i = 11) ∧ k ≠ 83 ∧ k ≠ 87 ∧ k ≠ 257 ∧ ¬ (88 ≤ k ∧ k < 257) → M186 k i = M k i := fun k i hk => by (rw [hFr185 k i (by omega)]; try exact hF k i hk)
              have hG : ∀ k i, 258 ≤ k → L187 k i = L k i := fun k i hk => by (rw [hGr185 k i trivial]; try exact hG k i hk)
              have hV : vC M186 = meetsV (sI (sI (startV (vC M) x) 0 5 (-9)) 0 5 r109) 3 := by rw [hr185.2, hV]
              have k0_8 : M186 0 8 = M 0 8 := (hFr185 0 8 (by omega)).trans k0_8
              have k0_9 : M186 0 9 = M 0 9 := (hFr185 0 9 (by omega)).trans k0_9
              have k0_10 : M186 0 10 = r109 := (hFr185 0 10 (by omega)).trans k0_10
              have k0_11 : M186 0 11 = M186 0 11 := rfl
              have q88 : ∀ k, 88 ≤ k ∧ k < 257 → M186 k = M k := fun k hk => (funext (fun i => hFr185 k i (by omega))).trans (q88 k hk)
              have q83 : M186 83 = M22 83 := (funext (fun i => hFr185 83 i (by omega))).trans q83
              have q87 : M186 87 = M22 87 := (funext (fun i => hFr185 87 i (by omega))).trans q87
              have q257 : M186 257 = M186 257 := rfl
              have hA : A_count (vC M) x y z = (-3, meetsV (sI (startV (vC M) x) 0 5 (unV (vC M) y (vC M 9 x.toNatClampNeg))) 3) := by dsimp only [A_count, hasM, hasX, seatsOk, bt]; (repeat (first | rw [if_pos (by omega)] | rw [if_neg (by omega)]))
              exact g_iret C hr ⟨⟨by rw [hA, hV, sI_sI, hr109], fun _ => by rw [hA]; exact hr185.1⟩, hI, hF, hG⟩ dX10_count_107
        ·
          have f188 := fne rfl (by decide : (1 : Int32).toInt = 1) c24
          refine g_bipush C (-4) dX10_count_59 (by decide) ?_
          have hA : A_count (vC M) x y z = (-4, sI (startV (vC M) x) 0 5 (-9)) := by dsimp only [A_count, hasM, hasX, seatsOk, bt]; (repeat (first | rw [if_pos (by omega)] | rw [if_neg (by omega)]))
          have zr9 : ((-4) : Int32).toInt = (-4) := by decide
          exact g_iret C hr ⟨⟨by rw [hA, hV], fun _ => by rw [hA]⟩, hI, hF, hG⟩ dX10_count_61
      ·
        have f189 := feq rfl (by decide : (0 : Int32).toInt = 0) c19
        have pr16 := zo_f hr16 c19
        try dsimp only [hasC, hasB, hasX, hasM, ofS, ofK, bt] at pr16
        refine g_iconst C (-1) dX10_count_45 (by decide) ?_
        have hA : A_count (vC M) x y z = (-1, sI (vC M) 0 5 (-9)) := by dsimp only [A_count, hasM, hasX, seatsOk, bt]; (repeat (first | rw [if_pos (by omega)] | rw [if_neg (by omega)]))
        have zr9 : ((-1) : Int32).toInt = (-1) := by decide
        exact g_iret C hr ⟨⟨by rw [hA, hV], fun _ => by rw [hA]⟩, hI, hF, hG⟩ dX10_count_46
