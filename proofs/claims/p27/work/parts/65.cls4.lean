set_option maxHeartbeats 4000000 in
set_option maxRecDepth 100000 in
theorem v_X1_hasPlace (l : Launch) (D : va_G) (ad : Nat → Nat) (cs : Nat → ClassId) (M : MI) (L : ML) (x : Int32) (y : Int32) (hI : IC M) (hx : hasX (vC M) x) : Ci l yX1_hasPlace wsX1_hasPlace ({ frames := 0, cells := 0, slots := 0, locals := 0 }) D ad cs [.ref (ad 68), .int x, .int y] M L (fun r M1 L1 => M1 = M ∧ L1 = L ∧ (zo r (0 ≤ y.toInt ∧ y.toInt < (vC M 7 (x.toNatClampNeg)).toInt))) := by
  refine enter_i RX1 rfl [(0, .ref (ad 68)), (1, .int x), (2, .int y)] rfl (Nat.le_of_ble_eq_true rfl) (by decide +kernel) rfl ?_
  intro p e s m below meth c C hr
  have hF : ∀ k i, True → M k i = M k i := fun _ _ _ => rfl
  have hG : ∀ k i, True → L k i = L k i := fun _ _ _ => rfl
  have w0 : (vC M 0 0).toInt = (M 1 0).toInt := rfl
  have w1 : (vC M 0 1).toInt = (M 3 0).toInt := rfl
  have w2 : (vC M 0 2).toInt = (M 68 0).toInt := rfl
  have w3 : (vC M 0 3).toInt = (M 81 0).toInt := rfl
  obtain ⟨y0a, y0b⟩ := (show rg 0 10 (M 1 0) from hI 1 0 rfl)
  obtain ⟨y1a, y1b⟩ := (show rg 0 60 (M 3 0) from hI 3 0 rfl)
  obtain ⟨y2a, y2b⟩ := (show rg 0 8 (M 68 0) from hI 68 0 rfl)
  obtain ⟨y3a, y3b⟩ := (show rg 0 20 (M 81 0) from hI 81 0 rfl)
  obtain ⟨hx1, hx2⟩ := hx
  refine g_iload_n C 2 dX1_hasPlace_0 rfl ?_
  refine g_if_lt C 18 dX1_hasPlace_1 (by decide) (fun c1 => ?_) (fun c1 => ?_)
  ·
    have f2 := fl rfl (by decide : (0 : Int32).toInt = 0) c1
    refine g_iconst C 0 dX1_hasPlace_18 (by decide) ?_
    have zr9 : (0 : Int32).toInt = 0 := by decide
    exact g_zret C hr rfl ⟨rfl, rfl, (by first | exact Or.inl ⟨rfl, by omega⟩ | exact Or.inr ⟨rfl, by omega⟩)⟩ dX1_hasPlace_19
  ·
    have f3 := fnl rfl (by decide : (0 : Int32).toInt = 0) c1
    refine g_iload_n C 2 dX1_hasPlace_4 rfl ?_
    refine g_aload_n C 0 dX1_hasPlace_5 rfl ?_
    refine g_get C (.ref (ad 70)) 2 in_X1_hasPlace_1 (List.mem_of_getElem? (i := 1) rfl) (by decide) (ce_box ad cs _ _) rfl (by decide) rfl rfl dX1_hasPlace_6 ?_
    refine g_iload_n C 1 dX1_hasPlace_9 rfl ?_
    have nx := ixn (x := x) (by omega)
    refine g_iald C (by decide) (ce_xsize ad cs _ _) (fin' (n := 8) rfl (by omega) (by omega)) dX1_hasPlace_10 ?_
    refine g_ni (fun v4 ev4 => ?_)
    have gv4 : v4 = vC M 7 x.toNatClampNeg := ev4
    have tv4 := congrArg Int32.toInt gv4
    obtain ⟨bv4, dv4⟩ := (show rg 0 40 v4 from (by rw [ev4]; exact hI 70 x.toNatClampNeg))
    refine g_icmp_ge C 18 dX1_hasPlace_11 (by decide) (fun c5 => ?_) (fun c5 => ?_)
    ·
      have f6 := fle rfl rfl c5
      refine g_iconst C 0 dX1_hasPlace_18 (by decide) ?_
      have zr9 : (0 : Int32).toInt = 0 := by decide
      exact g_zret C hr rfl ⟨rfl, rfl, (by first | exact Or.inl ⟨rfl, by omega⟩ | exact Or.inr ⟨rfl, by omega⟩)⟩ dX1_hasPlace_19
    ·
      have f7 := fnle rfl rfl c5
      refine g_iconst C 1 dX1_hasPlace_14 (by decide) ?_
      refine g_goto C 19 dX1_hasPlace_15 (by decide) ?_
      have zr9 : (1 : Int32).toInt = 1 := by decide
      exact g_zret C hr rfl ⟨rfl, rfl, (by first | exact Or.inl ⟨rfl, by omega⟩ | exact Or.inr ⟨rfl, by omega⟩)⟩ dX1_hasPlace_19
set_option maxHeartbeats 4000000 in
set_option maxRecDepth 100000 in
theorem v_X1_hasPlaces (l : Launch) (D : va_G) (ad : Nat → Nat) (cs : Nat → ClassId) (M : MI) (L : ML) (x : Int32) (y : Int32) (z : Int32) (hI : IC M) (hx : hasX (vC M) x) : Ci l yX1_hasPlaces wsX1_hasPlaces ({ frames := 0, cells := 0, slots := 0, locals := 0 }) D ad cs [.ref (ad 68), .int x, .int y, .int z] M L (fun r M1 L1 => M1 = M ∧ L1 = L ∧ (zo r (0 ≤ y.toInt ∧ 0 ≤ z.toInt ∧ y.toInt + z.toInt ≤ (vC M 7 (x.toNatClampNeg)).toInt))) := by
  refine enter_i RX1 rfl [(0, .ref (ad 68)), (1, .int x), (2, .int y), (3, .int z)] rfl (Nat.le_of_ble_eq_true rfl) (by decide +kernel) rfl ?_
  intro p e s m below meth c C hr
  have hF : ∀ k i, True → M k i = M k i := fun _ _ _ => rfl
  have hG : ∀ k i, True → L k i = L k i := fun _ _ _ => rfl
  have w0 : (vC M 0 0).toInt = (M 1 0).toInt := rfl
  have w1 : (vC M 0 1).toInt = (M 3 0).toInt := rfl
  have w2 : (vC M 0 2).toInt = (M 68 0).toInt := rfl
  have w3 : (vC M 0 3).toInt = (M 81 0).toInt := rfl
  obtain ⟨y0a, y0b⟩ := (show rg 0 10 (M 1 0) from hI 1 0 rfl)
  obtain ⟨y1a, y1b⟩ := (show rg 0 60 (M 3 0) from hI 3 0 rfl)
  obtain ⟨y2a, y2b⟩ := (show rg 0 8 (M 68 0) from hI 68 0 rfl)
  obtain ⟨y3a, y3b⟩ := (show rg 0 20 (M 81 0) from hI 81 0 rfl)
  obtain ⟨hx1, hx2⟩ := hx
  obtain ⟨sza, szb⟩ := (show rg 0 40 (vC M 7 x.toNatClampNeg) from hI 70 _)
  refine g_iload_n C 2 dX1_hasPlaces_0 rfl ?_
  refine g_if_lt C 34 dX1_hasPlaces_1 (by decide) (fun c1 => ?_) (fun c1 => ?_)
  ·
    have f2 := fl rfl (by decide : (0 : Int32).toInt = 0) c1
    refine g_iconst C 0 dX1_hasPlaces_34 (by decide) ?_
    have zr9 : (0 : Int32).toInt = 0 := by decide
    exact g_zret C hr rfl ⟨rfl, rfl, (by first | exact Or.inl ⟨rfl, by omega⟩ | exact Or.inr ⟨rfl, by omega⟩)⟩ dX1_hasPlaces_35
  ·
    have f3 := fnl rfl (by decide : (0 : Int32).toInt = 0) c1
    refine g_iload_n C 2 dX1_hasPlaces_4 rfl ?_
    refine g_aload_n C 0 dX1_hasPlaces_5 rfl ?_
    refine g_get C (.ref (ad 70)) 2 in_X1_hasPlaces_1 (List.mem_of_getElem? (i := 1) rfl) (by decide) (ce_box ad cs _ _) rfl (by decide) rfl rfl dX1_hasPlaces_6 ?_
    refine g_iload_n C 1 dX1_hasPlaces_9 rfl ?_
    have nx := ixn (x := x) (by omega)
    refine g_iald C (by decide) (ce_xsize ad cs _ _) (fin' (n := 8) rfl (by omega) (by omega)) dX1_hasPlaces_10 ?_
    refine g_ni (fun v4 ev4 => ?_)
    have gv4 : v4 = vC M 7 x.toNatClampNeg := ev4
    have tv4 := congrArg Int32.toInt gv4
    obtain ⟨bv4, dv4⟩ := (show rg 0 40 v4 from (by rw [ev4]; exact hI 70 x.toNatClampNeg))
    refine g_icmp_gt C 34 dX1_hasPlaces_11 (by decide) (fun c5 => ?_) (fun c5 => ?_)
    ·
      have f6 := fl rfl rfl c5
      refine g_iconst C 0 dX1_hasPlaces_34 (by decide) ?_
      have zr9 : (0 : Int32).toInt = 0 := by decide
      exact g_zret C hr rfl ⟨rfl, rfl, (by first | exact Or.inl ⟨rfl, by omega⟩ | exact Or.inr ⟨rfl, by omega⟩)⟩ dX1_hasPlaces_35
    ·
      have f7 := fnl rfl rfl c5
      refine g_iload_n C 3 dX1_hasPlaces_14 rfl ?_
      refine g_if_lt C 34 dX1_hasPlaces_15 (by decide) (fun c8 => ?_) (fun c8 => ?_)
      ·
        have f9 := fl rfl (by decide : (0 : Int32).toInt = 0) c8
        refine g_iconst C 0 dX1_hasPlaces_34 (by decide) ?_
        have zr9 : (0 : Int32).toInt = 0 := by decide
        exact g_zret C hr rfl ⟨rfl, rfl, (by first | exact Or.inl ⟨rfl, by omega⟩ | exact Or.inr ⟨rfl, by omega⟩)⟩ dX1_hasPlaces_35
      ·
        have f10 := fnl rfl (by decide : (0 : Int32).toInt = 0) c8
        refine g_iload_n C 3 dX1_hasPlaces_18 rfl ?_
        refine g_aload_n C 0 dX1_hasPlaces_19 rfl ?_
        refine g_get C (.ref (ad 70)) 2 in_X1_hasPlaces_1 (List.mem_of_getElem? (i := 1) rfl) (by decide) (ce_box ad cs _ _) rfl (by decide) rfl rfl dX1_hasPlaces_20 ?_
        refine g_iload_n C 1 dX1_hasPlaces_23 rfl ?_
        have nx := ixn (x := x) (by omega)
        refine g_iald C (by decide) (ce_xsize ad cs _ _) (fin' (n := 8) rfl (by omega) (by omega)) dX1_hasPlaces_24 ?_
        refine g_ni (fun v11 ev11 => ?_)
        have gv11 : v11 = vC M 7 x.toNatClampNeg := ev11
        have tv11 := congrArg Int32.toInt gv11
        obtain ⟨bv11, dv11⟩ := (show rg 0 40 v11 from (by rw [ev11]; exact hI 70 x.toNatClampNeg))
        refine g_iload_n C 2 dX1_hasPlaces_25 rfl ?_
        refine g_isub C dX1_hasPlaces_26 ?_
        refine g_ni (fun v12 ev12 => ?_)
        try have fv12 := fsub rfl rfl ev12 (by omega) (by omega)
        refine g_icmp_gt C 34 dX1_hasPlaces_27 (by decide) (fun c13 => ?_) (fun c13 => ?_)
        ·
          have f14 := fl rfl rfl c13
          refine g_iconst C 0 dX1_hasPlaces_34 (by decide) ?_
          have zr9 : (0 : Int32).toInt = 0 := by decide
          exact g_zret C hr rfl ⟨rfl, rfl, (by first | exact Or.inl ⟨rfl, by omega⟩ | exact Or.inr ⟨rfl, by omega⟩)⟩ dX1_hasPlaces_35
        ·
          have f15 := fnl rfl rfl c13
          refine g_iconst C 1 dX1_hasPlaces_30 (by decide) ?_
          refine g_goto C 35 dX1_hasPlaces_31 (by decide) ?_
          have zr9 : (1 : Int32).toInt = 1 := by decide
          exact g_zret C hr rfl ⟨rfl, rfl, (by first | exact Or.inl ⟨rfl, by omega⟩ | exact Or.inr ⟨rfl, by omega⟩)⟩ dX1_hasPlaces_35
set_option maxHeartbeats 4000000 in
set_option maxRecDepth 100000 in
theorem v_X10_missingAt (l : Launch) (D : va_G) (ad : Nat → Nat) (cs : Nat → ClassId) (M : MI) (L : ML) (x : Int32) (y : Int32) (hI : IC M) (hx : hasX (vC M) x) : Ci l yX10_missingAt wsX10_missingAt ({ frames := 1, cells := 0, slots := 0, locals := 22 }) D ad cs [.ref (ad 0), .int x, .int y] M L (fun r M1 L1 => M1 = M ∧ L1 = L ∧ (r = lacksV (vC M) x y ∧ (0 ≤ r.toInt ∧ r.toInt ≤ 2))) := by
  refine enter_i RX10 rfl [(0, .ref (ad 0)), (1, .int x), (2, .int y)] rfl (Nat.le_of_ble_eq_true rfl) (by decide +kernel) rfl ?_
  intro p e s m below meth c C hr
  have hF : ∀ k i, True → M k i = M k i := fun _ _ _ => rfl
  have hG : ∀ k i, True → L k i = L k i := fun _ _ _ => rfl
  have w0 : (vC M 0 0).toInt = (M 1 0).toInt := rfl
  have w1 : (vC M 0 1).toInt = (M 3 0).toInt := rfl
  have w2 : (vC M 0 2).toInt = (M 68 0).toInt := rfl
  have w3 : (vC M 0 3).toInt = (M 81 0).toInt := rfl
  obtain ⟨y0a, y0b⟩ := (show rg 0 10 (M 1 0) from hI 1 0 rfl)
  obtain ⟨y1a, y1b⟩ := (show rg 0 60 (M 3 0) from hI 3 0 rfl)
  obtain ⟨y2a, y2b⟩ := (show rg 0 8 (M 68 0) from hI 68 0 rfl)
  obtain ⟨y3a, y3b⟩ := (show rg 0 20 (M 81 0) from hI 81 0 rfl)
  obtain ⟨hx1, hx2⟩ := hx
  obtain ⟨sza, szb⟩ := (show rg 0 40 (vC M 7 x.toNatClampNeg) from hI 70 _)
  refine g_aload_n C 0 dX10_missingAt_0 rfl ?_
  refine g_get C (.ref (ad 68)) 2 in_X10_missingAt_10 (List.mem_of_getElem? (i := 1) rfl) (by decide) (ce_house ad cs _ _) rfl (by decide) rfl rfl dX10_missingAt_1 ?_
  refine g_iload_n C 1 dX10_missingAt_4 rfl ?_
  refine g_iload_n C 2 dX10_missingAt_5 rfl ?_
  refine g_callVi C (n := 2) (As := [.int x, .int y]) (st := []) (v_X1_hasPlace l D ad cs _ _ x y hI ⟨by omega, by omega⟩) gX10_missingAt_X1_hasPlace rfl rfl rfl (by decide +kernel) ⟨Nat.le_of_ble_eq_true rfl, Nat.le_of_ble_eq_true rfl⟩ rfl (Nat.le_of_ble_eq_true rfl) ⟨Nat.zero_le _, Nat.zero_le _⟩ (by decide) (ce_box ad cs _ _) rfl rfl dX10_missingAt_6 (fun r1 M2 L3 hr1 => ?_)
  obtain ⟨hq1, hq2, hr1⟩ := hr1
  obtain rfl := hq1.symm
  obtain rfl := hq2.symm
  obtain ⟨bar1, bbr1⟩ := zo_b hr1
  refine g_if_ne C 14 dX10_missingAt_9 (by decide) (fun c4 => ?_) (fun c4 => ?_)
  ·
    have f5 := fne rfl (by decide : (0 : Int32).toInt = 0) c4
    have pr1 := zo_t hr1 c4
    try dsimp only [hasC, hasB, hasX, hasM, ofS, ofK, bt] at pr1
    refine g_aload_n C 0 dX10_missingAt_14 rfl ?_
    refine g_get C (.ref (ad 68)) 2 in_X10_missingAt_10 (List.mem_of_getElem? (i := 1) rfl) (by decide) (ce_house ad cs _ _) rfl (by decide) rfl rfl dX10_missingAt_15 ?_
    refine g_get C (.ref (ad 71)) 3 in_X10_missingAt_1 (List.mem_of_getElem? (i := 2) rfl) (by decide) (ce_box ad cs _ _) rfl (by decide) rfl rfl dX10_missingAt_18 ?_
    refine g_iload_n C 1 dX10_missingAt_21 rfl ?_
    have hi6 : vp_in x 8 := (fin' (n := 8) rfl (by omega) (by omega))
    have nhi6 := tn hi6
    have mhi6 := ixn (x := x) (by omega)
    refine g_aald C (by decide) (ce_xplacem ad cs _ _) rfl hi6 dX10_missingAt_22 ?_
    refine g_iload_n C 2 dX10_missingAt_23 rfl ?_
    have ny := ixn (x := y) (by omega)
    refine g_iald C (by omega) (ce_xplace ad cs _ _ nhi6) (fin' (n := 40) rfl (by omega) (by omega)) dX10_missingAt_24 ?_
    refine g_ni (fun v7 ev7 => ?_)
    have gv7 := ev7
    have gv7 := gv7.trans (vC8 (M := M) (by omega) (by omega) (by omega)).symm
    have tv7 := congrArg Int32.toInt gv7
    refine g_bipush C (-9) dX10_missingAt_25 (by decide) ?_
    refine g_icmp_ne C 34 dX10_missingAt_27 (by decide) (fun c8 => ?_) (fun c8 => ?_)
    ·
      have f9 := fne rfl (by decide : ((-9) : Int32).toInt = (-9)) c8
      refine g_iconst C 0 dX10_missingAt_34 (by decide) ?_
      have zr9 : (0 : Int32).toInt = 0 := by decide
      exact g_iret C hr ⟨rfl, rfl, ⟨(by dsimp only [lacksV, hasC, hasB, hasX, hasM, ofS, ofK, bt, ix]; (repeat (first | rw [if_pos (by omega)] | rw [if_neg (by omega)])); first | done | rfl | (simp only [gv7]; done) | (simp only [gv7]; rfl) | (subst_vars; first | rfl | grind)), by decide, by decide⟩⟩ dX10_missingAt_35
    ·
      have f10 := feq rfl (by decide : ((-9) : Int32).toInt = (-9)) c8
      refine g_iconst C 1 dX10_missingAt_30 (by decide) ?_
      refine g_goto C 35 dX10_missingAt_31 (by decide) ?_
      have zr9 : (1 : Int32).toInt = 1 := by decide
      exact g_iret C hr ⟨rfl, rfl, ⟨(by dsimp only [lacksV, hasC, hasB, hasX, hasM, ofS, ofK, bt, ix]; (repeat (first | rw [if_pos (by omega)] | rw [if_neg (by omega)])); first | done | rfl | (simp only [gv7]; done) | (simp only [gv7]; rfl) | (subst_vars; first | rfl | grind)), by decide, by decide⟩⟩ dX10_missingAt_35
  ·
    have f11 := feq rfl (by decide : (0 : Int32).toInt = 0) c4
    have pr1 := zo_f hr1 c4
    try dsimp only [hasC, hasB, hasX, hasM, ofS, ofK, bt] at pr1
    refine g_iconst C 2 dX10_missingAt_12 (by decide) ?_
    have zr9 : (2 : Int32).toInt = 2 := by decide
    exact g_iret C hr ⟨rfl, rfl, ⟨(by dsimp only [lacksV, hasC, hasB, hasX, hasM, ofS, ofK, bt, ix]; (repeat (first | rw [if_pos (by omega)] | rw [if_neg (by omega)])); first | done | rfl | (simp only [ix]; done) | (simp only [ix]; rfl) | (subst_vars; first | rfl | grind)), by decide, by decide⟩⟩ dX10_missingAt_13
set_option maxHeartbeats 4000000 in
set_option maxRecDepth 100000 in
theorem v_X10_at (l : Launch) (D : va_G) (ad : Nat → Nat) (cs : Nat → ClassId) (M : MI) (L : ML) (x : Int32) (y : Int32) (hI : IC M) : Ci l yX10_at wsX10_at ({ frames := 2, cells := 0, slots := 0, locals := 44 }) D ad cs [.ref (ad 0), .int x, .int y] M L (fun r M1 L1 => (A_at (vC M) x y = (r, vC M1)) ∧ IC M1 ∧ (∀ k i, ¬ (k = 0 ∧ i = 11) ∧ k ≠ 257 → M1 k i = M k i) ∧ ∀ k i, True → L1 k i = L k i) := by
  refine enter_i RX10 rfl [(0, .ref (ad 0)), (1, .int x), (2, .int y)] rfl (Nat.le_of_ble_eq_true rfl) (by decide +kernel) rfl ?_
  intro p e s m below meth c C hr
  have hF : ∀ k i, ¬ (k = 0 ∧ i = 11) ∧ k ≠ 257 → M k i = M k i := fun _ _ _ => rfl
  have hG : ∀ k i, True → L k i = L k i := fun _ _ _ => rfl
  have w0 : (vC M 0 0).toInt = (M 1 0).toInt := rfl
  have w1 : (vC M 0 1).toInt = (M 3 0).toInt := rfl
  have w2 : (vC M 0 2).toInt = (M 68 0).toInt := rfl
  have w3 : (vC M 0 3).toInt = (M 81 0).toInt := rfl
  obtain ⟨y0a, y0b⟩ := (show rg 0 10 (M 1 0) from hI 1 0 rfl)
  obtain ⟨y1a, y1b⟩ := (show rg 0 60 (M 3 0) from hI 3 0 rfl)
  obtain ⟨y2a, y2b⟩ := (show rg 0 8 (M 68 0) from hI 68 0 rfl)
  obtain ⟨y3a, y3b⟩ := (show rg 0 20 (M 81 0) from hI 81 0 rfl)
  obtain ⟨sza, szb⟩ := (show rg 0 40 (vC M 7 x.toNatClampNeg) from hI 70 _)
  have k0_11 : M 0 11 = vC M 0 4 := rfl
  have q257 : M 257 = M 257 := rfl
  have hV : vC M = vC M := rfl
  refine g_aload_n C 0 dX10_at_0 rfl ?_
  refine g_get C (.ref (ad 68)) 2 in_X10_at_10 (List.mem_of_getElem? (i := 1) rfl) (by decide) (ce_house ad cs _ _) rfl (by decide) rfl rfl dX10_at_1 ?_
  refine g_iload_n C 1 dX10_at_4 rfl ?_
  refine g_callVi C (n := 1) (As := [.int x]) (st := []) (c_X1_has l D ad cs _ _ x ) gX10_at_X1_has rfl rfl rfl (by decide +kernel) ⟨Nat.le_of_ble_eq_true rfl, Nat.le_of_ble_eq_true rfl⟩ rfl (Nat.le_of_ble_eq_true rfl) ⟨Nat.zero_le _, Nat.zero_le _⟩ (by decide) (ce_box ad cs _ _) rfl rfl dX10_at_5 (fun r1 M2 L3 hr1 => ?_)
  obtain ⟨hq1, hq2, hr1⟩ := hr1
  obtain rfl := hq1.symm
  obtain rfl := hq2.symm
  have hr1 := zo_has hr1
  obtain ⟨bar1, bbr1⟩ := zo_b hr1
  refine g_if_ne C 13 dX10_at_8 (by decide) (fun c4 => ?_) (fun c4 => ?_)
  ·
    have f5 := fne rfl (by decide : (0 : Int32).toInt = 0) c4
    have pr1 := zo_t hr1 c4
    try dsimp only [hasC, hasB, hasX, hasM, ofS, ofK, bt] at pr1
    refine g_aload_n C 0 dX10_at_13 rfl ?_
    refine g_iload_n C 1 dX10_at_14 rfl ?_
    refine g_iload_n C 2 dX10_at_15 rfl ?_
    refine g_callVi C (n := 2) (As := [.int x, .int y]) (st := []) (v_X10_missingAt l D ad cs _ _ x y hI ⟨by omega, by omega⟩) gX10_at_X10_missingAt rfl rfl rfl (by decide +kernel) ⟨Nat.le_of_ble_eq_true rfl, Nat.le_of_ble_eq_true rfl⟩ rfl (Nat.le_of_ble_eq_true rfl) ⟨Nat.zero_le _, Nat.zero_le _⟩ (by decide) (ce_house ad cs _ _) rfl rfl dX10_at_16 (fun r6 M7 L8 hr6 => ?_)
    obtain ⟨hq1, hq2, hr6⟩ := hr6
    obtain rfl := hq1.symm
    obtain rfl := hq2.symm
    obtain ⟨hr6, bar6, bbr6⟩ := hr6
    have tr6 := congrArg Int32.toInt hr6
    refine g_istore_n C [(3, .int r6), (0, .ref (ad 0)), (1, .int x), (2, .int y)] dX10_at_19 (by decide) rfl ?_
    refine g_iload_n C 0 dX10_at_20 rfl ?_
    refine g_if_eq C 32 dX10_at_21 (by decide) (fun c9 => ?_) (fun c9 => ?_)
    ·
      have f10 := feq rfl (by decide : (0 : Int32).toInt = 0) c9
      refine g_aload_n C 1 dX10_at_32 rfl ?_
      refine g_get C (.ref (ad 68)) 2 in_X10_at_10 (List.mem_of_getElem? (i := 1) rfl) (by decide) (ce_house ad cs _ _) rfl (by decide) rfl rfl dX10_at_33 ?_
      refine g_get C (.ref (ad 71)) 3 in_X10_at_1 (List.mem_of_getElem? (i := 2) rfl) (by decide) (ce_box ad cs _ _) rfl (by decide) rfl rfl dX10_at_36 ?_
      refine g_iload_n C 2 dX10_at_39 rfl ?_
      have hl : 0 ≤ y.toInt ∧ y.toInt < (vC M 7 x.toNatClampNeg).toInt ∧ ¬ (vC M 8 (40 * x.toNatClampNeg + y.toNatClampNeg)).toInt = -9 := lk0 (show (lacksV (vC M) x y).toInt = 0 by omega)
      have hi11 : vp_in x 8 := (fin' (n := 8) rfl (by omega) (by omega))
      have nhi11 := tn hi11
      have mhi11 := ixn (x := x) (by omega)
      refine g_aald C (by decide) (ce_xplacem ad cs _ _) rfl hi11 dX10_at_40 ?_
      refine g_iload_n C 3 dX10_at_41 rfl ?_
      have ny := ixn (x := y) (by omega)
      refine g_iald C (by omega) (ce_xplace ad cs _ _ nhi11) (fin' (n := 40) rfl (by omega) (by omega)) dX10_at_42 ?_
      refine g_ni (fun v12 ev12 => ?_)
      have gv12 := ev12
      have gv12 := gv12.trans (vC8 (M := M) (by omega) (by omega) (by omega)).symm
      have tv12 := congrArg Int32.toInt gv12
      exact g_iret C hr ⟨(by dsimp only [A_at, hasC, hasB, hasX, hasM, ofS, ofK, bt, ix]; (repeat (first | rw [if_pos (by omega)] | rw [if_neg (by omega)])); first | done | rfl | (simp only [gv12, hr6]; done) | (simp only [gv12, hr6]; rfl) | (subst_vars; first | rfl | grind)), hI, hF, hG⟩ dX10_at_43
    ·
      have f13 := fne rfl (by decide : (0 : Int32).toInt = 0) c9
      refine g_aload_n C 1 dX10_at_24 rfl ?_
      refine g_iload_n C 0 dX10_at_25 rfl ?_
      refine g_callVi C (n := 1) (As := [.int r6]) (st := []) (v_X10_found l D ad cs _ _ r6 hI ⟨by first | omega | decide, by first | omega | decide⟩) gX10_at_X10_found rfl rfl rfl (by decide +kernel) ⟨Nat.le_of_ble_eq_true rfl, Nat.le_of_ble_eq_true rfl⟩ rfl (Nat.le_of_ble_eq_true rfl) ⟨Nat.zero_le _, Nat.zero_le _⟩ (by decide) (ce_house ad cs _ _) rfl rfl dX10_at_26 (fun r14 M15 L16 hr14 => ?_)
      obtain ⟨hr14, hI, hFr14, hGr14⟩ := hr14
      have hF : ∀ k i, ¬ (k = 0 ∧ i = 11) ∧ k ≠ 257 → M15 k i = M k i := fun k i hk => by (rw [hFr14 k i (by omega)]; try exact hF k i hk)
      have hG : ∀ k i, True → L16 k i = L k i := fun k i hk => by (rw [hGr14 k i trivial]; try exact hG k i hk)
      have hV : vC M15 = meetsV (vC M) r6 := by rw [hr14.2, hV]
      have k0_11 : M15 0 11 = M15 0 11 := rfl
      have q257 : M15 257 = M15 257 := rfl
      refine g_goto C 43 dX10_at_29 (by decide) ?_
      exact g_iret C hr ⟨(by dsimp only [A_at, hasC, hasB, hasX, hasM, ofS, ofK, bt, ix]; (repeat (first | rw [if_pos (by omega)] | rw [if_neg (by omega)])); rw [hV]; first | done | rfl | (simp only [hr6]; done) | (simp only [hr6]; rfl) | (subst_vars; first | rfl | grind)), hI, hF, hG⟩ dX10_at_43
  ·
    have f17 := feq rfl (by decide : (0 : Int32).toInt = 0) c4
    have pr1 := zo_f hr1 c4
    try dsimp only [hasC, hasB, hasX, hasM, ofS, ofK, bt] at pr1
    refine g_iconst C (-1) dX10_at_11 (by decide) ?_
    have zr9 : ((-1) : Int32).toInt = (-1) := by decide
    exact g_iret C hr ⟨(by dsimp only [A_at, hasC, hasB, hasX, hasM, ofS, ofK, bt, ix]; (repeat (first | rw [if_pos (by omega)] | rw [if_neg (by omega)])); first | done | rfl | (simp only [ix]; done) | (simp only [ix]; rfl) | (subst_vars; first | rfl | grind)), hI, hF, hG⟩ dX10_at_12
set_option maxHeartbeats 4000000 in
set_option maxRecDepth 100000 in
theorem v_X10_put (l : Launch) (D : va_G) (ad : Nat → Nat) (cs : Nat → ClassId) (M : MI) (L : ML) (x : Int32) (y : Int32) (b : Int32) (hI : IC M) (hS : ∀ b, 0 ≤ (vC M 2 b).toInt ∧ (vC M 2 b).toInt ≤ 3) (hXS : ∀ x, 0 ≤ (vC M 6 x).toInt ∧ (vC M 6 x).toInt ≤ 3) : Ci l yX10_put wsX10_put ({ frames := 2, cells := 0, slots := 0, locals := 46 }) D ad cs [.ref (ad 0), .int x, .int y, .int b] M L (fun r M1 L1 => (A_put (vC M) x y b = (r, vC M1)) ∧ IC M1 ∧ (∀ k i, ¬ (k = 0 ∧ i = 11) ∧ k ≠ 257 ∧ ¬ (73 ≤ k ∧ k < 81) → M1 k i = M k i) ∧ ∀ k i, True → L1 k i = L k i) := by
  refine enter_i RX10 rfl [(0, .ref (ad 0)), (1, .int x), (2, .int y), (3, .int b)] rfl (Nat.le_of_ble_eq_true rfl) (by decide +kernel) rfl ?_
  intro p e s m below meth c C hr
  have hF : ∀ k i, ¬ (k = 0 ∧ i = 11) ∧ k ≠ 257 ∧ ¬ (73 ≤ k ∧ k < 81) → M k i = M k i := fun _ _ _ => rfl
  have hG : ∀ k i, True → L k i = L k i := fun _ _ _ => rfl
  have w0 : (vC M 0 0).toInt = (M 1 0).toInt := rfl
  have w1 : (vC M 0 1).toInt = (M 3 0).toInt := rfl
  have w2 : (vC M 0 2).toInt = (M 68 0).toInt := rfl
  have w3 : (vC M 0 3).toInt = (M 81 0).toInt := rfl
  obtain ⟨y0a, y0b⟩ := (show rg 0 10 (M 1 0) from hI 1 0 rfl)
  obtain ⟨y1a, y1b⟩ := (show rg 0 60 (M 3 0) from hI 3 0 rfl)
  obtain ⟨y2a, y2b⟩ := (show rg 0 8 (M 68 0) from hI 68 0 rfl)
  obtain ⟨y3a, y3b⟩ := (show rg 0 20 (M 81 0) from hI 81 0 rfl)
  obtain ⟨sza, szb⟩ := (show rg 0 40 (vC M 7 x.toNatClampNeg) from hI 70 _)
  have hX6 := hXS x.toNatClampNeg
  have k0_11 : M 0 11 = vC M 0 4 := rfl
  have q257 : M 257 = M 257 := rfl
  have q73 : ∀ k, 73 ≤ k ∧ k < 81 → M k = M k := fun _ _ => rfl
  have hV : vC M = vC M := rfl
  refine g_aload_n C 0 dX10_put_0 rfl ?_
  refine g_get C (.ref (ad 68)) 2 in_X10_put_10 (List.mem_of_getElem? (i := 1) rfl) (by decide) (ce_house ad cs _ _) rfl (by decide) rfl rfl dX10_put_1 ?_
  refine g_iload_n C 1 dX10_put_4 rfl ?_
  refine g_callVi C (n := 1) (As := [.int x]) (st := []) (c_X1_has l D ad cs _ _ x ) gX10_put_X1_has rfl rfl rfl (by decide +kernel) ⟨Nat.le_of_ble_eq_true rfl, Nat.le_of_ble_eq_true rfl⟩ rfl (Nat.le_of_ble_eq_true rfl) ⟨Nat.zero_le _, Nat.zero_le _⟩ (by decide) (ce_box ad cs _ _) rfl rfl dX10_put_5 (fun r1 M2 L3 hr1 => ?_)
  obtain ⟨hq1, hq2, hr1⟩ := hr1
  obtain rfl := hq1.symm
  obtain rfl := hq2.symm
  have hr1 := zo_has hr1
  obtain ⟨bar1, bbr1⟩ := zo_b hr1
  refine g_if_eq C 28 dX10_put_8 (by decide) (fun c4 => ?_) (fun c4 => ?_)
  ·
    have f5 := feq rfl (by decide : (0 : Int32).toInt = 0) c4
    have pr1 := zo_f hr1 c4
    try dsimp only [hasC, hasB, hasX, hasM, ofS, ofK, bt] at pr1
    refine g_iconst C (-1) dX10_put_28 (by decide) ?_
    have zr9 : ((-1) : Int32).toInt = (-1) := by decide
    exact g_iret C hr ⟨(by dsimp only [A_put, hasC, hasB, hasX, hasM, ofS, ofK, bt, ix]; (repeat (first | rw [if_pos (by omega)] | rw [if_neg (by omega)])); first | done | rfl | (simp only [ix]; done) | (simp only [ix]; rfl) | (subst_vars; first | rfl | grind)), hI, hF, hG⟩ dX10_put_29
  ·
    have f6 := fne rfl (by decide : (0 : Int32).toInt = 0) c4
    have pr1 := zo_t hr1 c4
    try dsimp only [hasC, hasB, hasX, hasM, ofS, ofK, bt] at pr1
    refine g_iload_n C 3 dX10_put_11 rfl ?_
    refine g_bipush C (-9) dX10_put_12 (by decide) ?_
    refine g_icmp_eq C 30 dX10_put_14 (by decide) (fun c7 => ?_) (fun c7 => ?_)
    ·
      have f8 := feq rfl (by decide : ((-9) : Int32).toInt = (-9)) c7
      refine g_aload_n C 0 dX10_put_30 rfl ?_
      refine g_get C (.ref (ad 68)) 2 in_X10_put_10 (List.mem_of_getElem? (i := 1) rfl) (by decide) (ce_house ad cs _ _) rfl (by decide) rfl rfl dX10_put_31 ?_
      refine g_iload_n C 1 dX10_put_34 rfl ?_
      refine g_iload_n C 2 dX10_put_35 rfl ?_
      refine g_callVi C (n := 2) (As := [.int x, .int y]) (st := []) (v_X1_hasPlace l D ad cs _ _ x y hI ⟨by omega, by omega⟩) gX10_put_X1_hasPlace rfl rfl rfl (by decide +kernel) ⟨Nat.le_of_ble_eq_true rfl, Nat.le_of_ble_eq_true rfl⟩ rfl (Nat.le_of_ble_eq_true rfl) ⟨Nat.zero_le _, Nat.zero_le _⟩ (by decide) (ce_box ad cs _ _) rfl rfl dX10_put_36 (fun r9 M10 L11 hr9 => ?_)
      obtain ⟨hq1, hq2, hr9⟩ := hr9
      obtain rfl := hq1.symm
      obtain rfl := hq2.symm
      obtain ⟨bar9, bbr9⟩ := zo_b hr9
      refine g_if_ne C 48 dX10_put_39 (by decide) (fun c12 => ?_) (fun c12 => ?_)
      ·
        have f13 := fne rfl (by decide : (0 : Int32).toInt = 0) c12
        have pr9 := zo_t hr9 c12
        try dsimp only [hasC, hasB, hasX, hasM, ofS, ofK, bt] at pr9
        refine g_iload_n C 3 dX10_put_48 rfl ?_
        refine g_bipush C (-9) dX10_put_49 (by decide) ?_
        refine g_icmp_eq C 81 dX10_put_51 (by decide) (fun c14 => ?_) (fun c14 => ?_)
        ·
          have f15 := feq rfl (by decide : ((-9) : Int32).toInt = (-9)) c14
          refine g_aload_n C 0 dX10_put_81 rfl ?_
          refine g_get C (.ref (ad 68)) 2 in_X10_put_10 (List.mem_of_getElem? (i := 1) rfl) (by decide) (ce_house ad cs _ _) rfl (by decide) rfl rfl dX10_put_82 ?_
          refine g_get C (.ref (ad 71)) 3 in_X10_put_1 (List.mem_of_getElem? (i := 4) rfl) (by decide) (ce_box ad cs _ _) rfl (by decide) rfl rfl dX10_put_85 ?_
          refine g_iload_n C 1 dX10_put_88 rfl ?_
          have hi16 : vp_in x 8 := (fin' (n := 8) rfl (by omega) (by omega))
          have nhi16 := tn hi16
          have mhi16 := ixn (x := x) (by omega)
          refine g_aald C (by decide) (ce_xplacem ad cs _ _) rfl hi16 dX10_put_89 ?_
          refine g_iload_n C 2 dX10_put_90 rfl ?_
          refine g_iload_n C 3 dX10_put_91 rfl ?_
          have ny := ixn (x := y) (by omega)
          refine g_iast C (by omega) (ce_xplace ad cs _ _ nhi16) (by rw [sI_k]; exact (ce_xplace ad cs _ _ nhi16)) (fin' (n := 40) rfl (by omega) (by omega)) dX10_put_92 ?_
          refine g_nm (fun M17 hM17 => ?_)
          have hI : IC M17 := by rw [hM17]; exact hI.st (bC_free (by omega) (by omega) (by omega) (by omega) (by omega) (by omega) (by omega))
          have hF : ∀ k i, ¬ (k = 0 ∧ i = 11) ∧ k ≠ 257 ∧ ¬ (73 ≤ k ∧ k < 81) → M17 k i = M k i := fun k i hk => by (rw [hM17, sI_at, if_neg (by omega)]; try exact hF k i hk)
          have k0_11 : M17 0 11 = vC M 0 4 := by rw [hM17, sI_n _ _ _ (by omega)]; try exact k0_11
          have q257 : M17 257 = M 257 := by rw [hM17, sI_n _ _ _ (by omega)]; try exact q257
          have hV : vC M17 = sI (vC M) 8 (40 * x.toNatClampNeg + y.toNatClampNeg) b := by rw [hM17, vC_pl (by omega) (by omega) (by show (y.toNatClampNeg : Int) < (vC M 7 x.toNatClampNeg).toInt; omega), hV]
          refine g_iconst C 1 dX10_put_93 (by decide) ?_
          have zr9 : (1 : Int32).toInt = 1 := by decide
          exact g_iret C hr ⟨(by dsimp only [A_put, hasC, hasB, hasX, hasM, ofS, ofK, bt, ix]; (repeat (first | rw [if_pos (by omega)] | rw [if_neg (by omega)])); rw [hV]; first | done | rfl | (simp only [ix]; done) | (simp only [ix]; rfl) | (subst_vars; first | rfl | grind)), hI, hF, hG⟩ dX10_put_94
        ·
          have f18 := fne rfl (by decide : ((-9) : Int32).toInt = (-9)) c14
          refine g_aload_n C 0 dX10_put_54 rfl ?_
          refine g_get C (.ref (ad 3)) 1 in_X10_put_10 (List.mem_of_getElem? (i := 2) rfl) (by decide) (ce_house ad cs _ _) rfl (by decide) rfl rfl dX10_put_55 ?_
          refine g_iload_n C 3 dX10_put_58 rfl ?_
          refine g_aload_n C 0 dX10_put_59 rfl ?_
          refine g_get C (.ref (ad 68)) 2 in_X10_put_10 (List.mem_of_getElem? (i := 1) rfl) (by decide) (ce_house ad cs _ _) rfl (by decide) rfl rfl dX10_put_60 ?_
          refine g_get C (.ref (ad 69)) 1 in_X10_put_1 (List.mem_of_getElem? (i := 3) rfl) (by decide) (ce_box ad cs _ _) rfl (by decide) rfl rfl dX10_put_63 ?_
          refine g_iload_n C 1 dX10_put_66 rfl ?_
          have nx := ixn (x := x) (by omega)
          refine g_iald C (by decide) (ce_xsort ad cs _ _) (fin' (n := 8) rfl (by omega) (by omega)) dX10_put_67 ?_
          refine g_ni (fun v19 ev19 => ?_)
          have gv19 : v19 = vC M 6 x.toNatClampNeg := ev19
          have tv19 := congrArg Int32.toInt gv19
          refine g_callVi C (n := 2) (As := [.int b, .int v19]) (st := []) (v_X0_isOf l D ad cs _ _ b v19 hI ⟨by omega, by omega⟩ (by first | omega | decide) hS) gX10_put_X0_isOf rfl rfl rfl (by decide +kernel) ⟨Nat.le_of_ble_eq_true rfl, Nat.le_of_ble_eq_true rfl⟩ rfl (Nat.le_of_ble_eq_true rfl) ⟨Nat.zero_le _, Nat.zero_le _⟩ (by decide) (ce_ball ad cs _ _) rfl rfl dX10_put_68 (fun r20 M21 L22 hr20 => ?_)
          obtain ⟨hq1, hq2, hr20⟩ := hr20
          obtain rfl := hq1.symm
          obtain rfl := hq2.symm
          obtain ⟨bar20, bbr20⟩ := zo_b hr20
          refine g_if_ne C 81 dX10_put_71 (by decide) (fun c23 => ?_) (fun c23 => ?_)
          ·
            have f24 := fne rfl (by decide : (0 : Int32).toInt = 0) c23
            have pr20 := zo_t hr20 c23
            try dsimp only [hasC, hasB, hasX, hasM, ofS, ofK, bt] at pr20
            refine g_aload_n C 0 dX10_put_81 rfl ?_
            refine g_get C (.ref (ad 68)) 2 in_X10_put_10 (List.mem_of_getElem? (i := 1) rfl) (by decide) (ce_house ad cs _ _) rfl (by decide) rfl rfl dX10_put_82 ?_
            refine g_get C (.ref (ad 71)) 3 in_X10_put_1 (List.mem_of_getElem? (i := 4) rfl) (by decide) (ce_box ad cs _ _) rfl (by decide) rfl rfl dX10_put_85 ?_
            refine g_iload_n C 1 dX10_put_88 rfl ?_
            have hi25 : vp_in x 8 := (fin' (n := 8) rfl (by omega) (by omega))
            have nhi25 := tn hi25
            have mhi25 := ixn (x := x) (by omega)
            refine g_aald C (by decide) (ce_xplacem ad cs _ _) rfl hi25 dX10_put_89 ?_
            refine g_iload_n C 2 dX10_put_90 rfl ?_
            refine g_iload_n C 3 dX10_put_91 rfl ?_
            have ny := ixn (x := y) (by omega)
            refine g_iast C (by omega) (ce_xplace ad cs _ _ nhi25) (by rw [sI_k]; exact (ce_xplace ad cs _ _ nhi25)) (fin' (n := 40) rfl (by omega) (by omega)) dX10_put_92 ?_
            refine g_nm (fun M26 hM26 => ?_)
            have hI : IC M26 := by rw [hM26]; exact hI.st (bC_free (by omega) (by omega) (by omega) (by omega) (by omega) (by omega) (by omega))
            have hF : ∀ k i, ¬ (k = 0 ∧ i = 11) ∧ k ≠ 257 ∧ ¬ (73 ≤ k ∧ k < 81) → M26 k i = M k i := fun k i hk => by (rw [hM26, sI_at, if_neg (by omega)]; try exact hF k i hk)
            have k0_11 : M26 0 11 = vC M 0 4 := by rw [hM26, sI_n _ _ _ (by omega)]; try exact k0_11
            have q257 : M26 257 = M 257 := by rw [hM26, sI_n _ _ _ (by omega)]; try exact q257
            have hV : vC M26 = sI (vC M) 8 (40 * x.toNatClampNeg + y.toNatClampNeg) b := by rw [hM26, vC_pl (by omega) (by omega) (by show (y.toNatClampNeg : Int) < (vC M 7 x.toNatClampNeg).toInt; omega), hV]
            refine g_iconst C 1 dX10_put_93 (by decide) ?_
            have zr9 : (1 : Int32).toInt = 1 := by decide
            exact g_iret C hr ⟨(by dsimp only [A_put, hasC, hasB, hasX, hasM, ofS, ofK, bt, ix]; (repeat (first | rw [if_pos (by omega)] | rw [if_neg (by omega)])); rw [hV]; first | done | rfl | (simp only [gv19]; done) | (simp only [gv19]; rfl) | (subst_vars; first | rfl | grind)), hI, hF, hG⟩ dX10_put_94
          ·
            have f27 := feq rfl (by decide : (0 : Int32).toInt = 0) c23
            have pr20 := zo_f hr20 c23
            try dsimp only [hasC, hasB, hasX, hasM, ofS, ofK, bt] at pr20
            refine g_aload_n C 0 dX10_put_74 rfl ?_
            refine g_bipush C 6 dX10_put_75 (by decide) ?_
            refine g_callVi C (n := 1) (As := [.int 6]) (st := []) (v_X10_found l D ad cs _ _ 6 hI ⟨by first | omega | decide, by first | omega | decide⟩) gX10_put_X10_found rfl rfl rfl (by decide +kernel) ⟨Nat.le_of_ble_eq_true rfl, Nat.le_of_ble_eq_true rfl⟩ rfl (Nat.le_of_ble_eq_true rfl) ⟨Nat.zero_le _, Nat.zero_le _⟩ (by decide) (ce_house ad cs _ _) rfl rfl dX10_put_77 (fun r28 M29 L30 hr28 => ?_)
            obtain ⟨hr28, hI, hFr28, hGr28⟩ := hr28
            have hF : ∀ k i, ¬ (k = 0 ∧ i = 11) ∧ k ≠ 257 ∧ ¬ (73 ≤ k ∧ k < 81) → M29 k i = M k i := fun k i hk => by (rw [hFr28 k i (by omega)]; try exact hF k i hk)
            have hG : ∀ k i, True → L30 k i = L k i := fun k i hk => by (rw [hGr28 k i trivial]; try exact hG k i hk)
            have hV : vC M29 = meetsV (vC M) 6 := by rw [hr28.2, hV]
            have k0_11 : M29 0 11 = M29 0 11 := rfl
            have q73 : ∀ k, 73 ≤ k ∧ k < 81 → M29 k = M k := fun k hk => (funext (fun i => hFr28 k i (by omega))).trans (q73 k hk)
            have q257 : M29 257 = M29 257 := rfl
            exact g_iret C hr ⟨(by dsimp only [A_put, hasC, hasB, hasX, hasM, ofS, ofK, bt, ix]; (repeat (first | rw [if_pos (by omega)] | rw [if_neg (by omega)])); rw [hV]; first | done | rfl | (simp only [gv19]; done) | (simp only [gv19]; rfl) | (subst_vars; first | rfl | grind)), hI, hF, hG⟩ dX10_put_80
      ·
        have f31 := feq rfl (by decide : (0 : Int32).toInt = 0) c12
        have pr9 := zo_f hr9 c12
        try dsimp only [hasC, hasB, hasX, hasM, ofS, ofK, bt] at pr9
        refine g_aload_n C 0 dX10_put_42 rfl ?_
        refine g_iconst C 2 dX10_put_43 (by decide) ?_
        refine g_callVi C (n := 1) (As := [.int 2]) (st := []) (v_X10_found l D ad cs _ _ 2 hI ⟨by first | omega | decide, by first | omega | decide⟩) gX10_put_X10_found rfl rfl rfl (by decide +kernel) ⟨Nat.le_of_ble_eq_true rfl, Nat.le_of_ble_eq_true rfl⟩ rfl (Nat.le_of_ble_eq_true rfl) ⟨Nat.zero_le _, Nat.zero_le _⟩ (by decide) (ce_house ad cs _ _) rfl rfl dX10_put_44 (fun r32 M33 L34 hr32 => ?_)
        obtain ⟨hr32, hI, hFr32, hGr32⟩ := hr32
        have hF : ∀ k i, ¬ (k = 0 ∧ i = 11) ∧ k ≠ 257 ∧ ¬ (73 ≤ k ∧ k < 81) → M33 k i = M k i := fun k i hk => by (rw [hFr32 k i (by omega)]; try exact hF k i hk)
        have hG : ∀ k i, True → L34 k i = L k i := fun k i hk => by (rw [hGr32 k i trivial]; try exact hG k i hk)
        have hV : vC M33 = meetsV (vC M) 2 := by rw [hr32.2, hV]
        have k0_11 : M33 0 11 = M33 0 11 := rfl
        have q73 : ∀ k, 73 ≤ k ∧ k < 81 → M33 k = M k := fun k hk => (funext (fun i => hFr32 k i (by omega))).trans (q73 k hk)
        have q257 : M33 257 = M33 257 := rfl
        exact g_iret C hr ⟨(by dsimp only [A_put, hasC, hasB, hasX, hasM, ofS, ofK, bt, ix]; (repeat (first | rw [if_pos (by omega)] | rw [if_neg (by omega)])); rw [hV]; first | done | rfl | (simp only [ix]; done) | (simp only [ix]; rfl) | (subst_vars; first | rfl | grind)), hI, hF, hG⟩ dX10_put_47
    ·
      have f35 := fne rfl (by decide : ((-9) : Int32).toInt = (-9)) c7
      refine g_aload_n C 0 dX10_put_17 rfl ?_
      refine g_get C (.ref (ad 3)) 1 in_X10_put_10 (List.mem_of_getElem? (i := 2) rfl) (by decide) (ce_house ad cs _ _) rfl (by decide) rfl rfl dX10_put_18 ?_
      refine g_iload_n C 3 dX10_put_21 rfl ?_
      refine g_callVi C (n := 1) (As := [.int b]) (st := []) (c_X0_has l D ad cs _ _ b ) gX10_put_X0_has rfl rfl rfl (by decide +kernel) ⟨Nat.le_of_ble_eq_true rfl, Nat.le_of_ble_eq_true rfl⟩ rfl (Nat.le_of_ble_eq_true rfl) ⟨Nat.zero_le _, Nat.zero_le _⟩ (by decide) (ce_ball ad cs _ _) rfl rfl dX10_put_22 (fun r36 M37 L38 hr36 => ?_)
      obtain ⟨hq1, hq2, hr36⟩ := hr36
      obtain rfl := hq1.symm
      obtain rfl := hq2.symm
      have hr36 := zo_has hr36
      obtain ⟨bar36, bbr36⟩ := zo_b hr36
      refine g_if_ne C 30 dX10_put_25 (by decide) (fun c39 => ?_) (fun c39 => ?_)
      ·
        have f40 := fne rfl (by decide : (0 : Int32).toInt = 0) c39
        have pr36 := zo_t hr36 c39
        try dsimp only [hasC, hasB, hasX, hasM, ofS, ofK, bt] at pr36
        refine g_aload_n C 0 dX10_put_30 rfl ?_
        refine g_get C (.ref (ad 68)) 2 in_X10_put_10 (List.mem_of_getElem? (i := 1) rfl) (by decide) (ce_house ad cs _ _) rfl (by decide) rfl rfl dX10_put_31 ?_
        refine g_iload_n C 1 dX10_put_34 rfl ?_
        refine g_iload_n C 2 dX10_put_35 rfl ?_
        refine g_callVi C (n := 2) (As := [.int x, .int y]) (st := []) (v_X1_hasPlace l D ad cs _ _ x y hI ⟨by omega, by omega⟩) gX10_put_X1_hasPlace rfl rfl rfl (by decide +kernel) ⟨Nat.le_of_ble_eq_true rfl, Nat.le_of_ble_eq_true rfl⟩ rfl (Nat.le_of_ble_eq_true rfl) ⟨Nat.zero_le _, Nat.zero_le _⟩ (by decide) (ce_box ad cs _ _) rfl rfl dX10_put_36 (fun r41 M42 L43 hr41 => ?_)
        obtain ⟨hq1, hq2, hr41⟩ := hr41
        obtain rfl := hq1.symm
        obtain rfl := hq2.symm
        obtain ⟨bar41, bbr41⟩ := zo_b hr41
        refine g_if_ne C 48 dX10_put_39 (by decide) (fun c44 => ?_) (fun c44 => ?_)
        ·
          have f45 := fne rfl (by decide : (0 : Int32).toInt = 0) c44
          have pr41 := zo_t hr41 c44
          try dsimp only [hasC, hasB, hasX, hasM, ofS, ofK, bt] at pr41
          refine g_iload_n C 3 dX10_put_48 rfl ?_
          refine g_bipush C (-9) dX10_put_49 (by decide) ?_
          refine g_icmp_eq C 81 dX10_put_51 (by decide) (fun c46 => ?_) (fun c46 => ?_)
          ·
            have f47 := feq rfl (by decide : ((-9) : Int32).toInt = (-9)) c46
            refine g_aload_n C 0 dX10_put_81 rfl ?_
            refine g_get C (.ref (ad 68)) 2 in_X10_put_10 (List.mem_of_getElem? (i := 1) rfl) (by decide) (ce_house ad cs _ _) rfl (by decide) rfl rfl dX10_put_82 ?_
            refine g_get C (.ref (ad 71)) 3 in_X10_put_1 (List.mem_of_getElem? (i := 4) rfl) (by decide) (ce_box ad cs _ _) rfl (by decide) rfl rfl dX10_put_85 ?_
            refine g_iload_n C 1 dX10_put_88 rfl ?_
            have hi48 : vp_in x 8 := (fin' (n := 8) rfl (by omega) (by omega))
            have nhi48 := tn hi48
            have mhi48 := ixn (x := x) (by omega)
            refine g_aald C (by decide) (ce_xplacem ad cs _ _) rfl hi48 dX10_put_89 ?_
            refine g_iload_n C 2 dX10_put_90 rfl ?_
            refine g_iload_n C 3 dX10_put_91 rfl ?_
            have ny := ixn (x := y) (by omega)
            refine g_iast C (by omega) (ce_xplace ad cs _ _ nhi48) (by rw [sI_k]; exact (ce_xplace ad cs _ _ nhi48)) (fin' (n := 40) rfl (by omega) (by omega)) dX10_put_92 ?_
            refine g_nm (fun M49 hM49 => ?_)
            have hI : IC M49 := by rw [hM49]; exact hI.st (bC_free (by omega) (by omega) (by omega) (by omega) (by omega) (by omega) (by omega))
            have hF : ∀ k i, ¬ (k = 0 ∧ i = 11) ∧ k ≠ 257 ∧ ¬ (73 ≤ k ∧ k < 81) → M49 k i = M k i := fun k i hk => by (rw [hM49, sI_at, if_neg (by omega)]; try exact hF k i hk)
            have k0_11 : M49 0 11 = vC M 0 4 := by rw [hM49, sI_n _ _ _ (by omega)]; try exact k0_11
            have q257 : M49 257 = M 257 := by rw [hM49, sI_n _ _ _ (by omega)]; try exact q257
            have hV : vC M49 = sI (vC M) 8 (40 * x.toNatClampNeg + y.toNatClampNeg) b := by rw [hM49, vC_pl (by omega) (by omega) (by show (y.toNatClampNeg : Int) < (vC M 7 x.toNatClampNeg).toInt; omega), hV]
            refine g_iconst C 1 dX10_put_93 (by decide) ?_
            have zr9 : (1 : Int32).toInt = 1 := by decide
            exact g_iret C hr ⟨(by dsimp only [A_put, hasC, hasB, hasX, hasM, ofS, ofK, bt, ix]; (repeat (first | rw [if_pos (by omega)] | rw [if_neg (by omega)])); rw [hV]; first | done | rfl | (simp only [ix]; done) | (simp only [ix]; rfl) | (subst_vars; first | rfl | grind)), hI, hF, hG⟩ dX10_put_94
          ·
            have f50 := fne rfl (by decide : ((-9) : Int32).toInt = (-9)) c46
            refine g_aload_n C 0 dX10_put_54 rfl ?_
            refine g_get C (.ref (ad 3)) 1 in_X10_put_10 (List.mem_of_getElem? (i := 2) rfl) (by decide) (ce_house ad cs _ _) rfl (by decide) rfl rfl dX10_put_55 ?_
            refine g_iload_n C 3 dX10_put_58 rfl ?_
            refine g_aload_n C 0 dX10_put_59 rfl ?_
            refine g_get C (.ref (ad 68)) 2 in_X10_put_10 (List.mem_of_getElem? (i := 1) rfl) (by decide) (ce_house ad cs _ _) rfl (by decide) rfl rfl dX10_put_60 ?_
            refine g_get C (.ref (ad 69)) 1 in_X10_put_1 (List.mem_of_getElem? (i := 3) rfl) (by decide) (ce_box ad cs _ _) rfl (by decide) rfl rfl dX10_put_63 ?_
            refine g_iload_n C 1 dX10_put_66 rfl ?_
            have nx := ixn (x := x) (by omega)
            refine g_iald C (by decide) (ce_xsort ad cs _ _) (fin' (n := 8) rfl (by omega) (by omega)) dX10_put_67 ?_
            refine g_ni (fun v51 ev51 => ?_)
            have gv51 : v51 = vC M 6 x.toNatClampNeg := ev51
            have tv51 := congrArg Int32.toInt gv51
            refine g_callVi C (n := 2) (As := [.int b, .int v51]) (st := []) (v_X0_isOf l D ad cs _ _ b v51 hI ⟨by omega, by omega⟩ (by first | omega | decide) hS) gX10_put_X0_isOf rfl rfl rfl (by decide +kernel) ⟨Nat.le_of_ble_eq_true rfl, Nat.le_of_ble_eq_true rfl⟩ rfl (Nat.le_of_ble_eq_true rfl) ⟨Nat.zero_le _, Nat.zero_le _⟩ (by decide) (ce_ball ad cs _ _) rfl rfl dX10_put_68 (fun r52 M53 L54 hr52 => ?_)
            obtain ⟨hq1, hq2, hr52⟩ := hr52
            obtain rfl := hq1.symm
            obtain rfl := hq2.symm
            obtain ⟨bar52, bbr52⟩ := zo_b hr52
            refine g_if_ne C 81 dX10_put_71 (by decide) (fun c55 => ?_) (fun c55 => ?_)
            ·
              have f56 := fne rfl (by decide : (0 : Int32).toInt = 0) c55
              have pr52 := zo_t hr52 c55
              try dsimp only [hasC, hasB, hasX, hasM, ofS, ofK, bt] at pr52
              refine g_aload_n C 0 dX10_put_81 rfl ?_
              refine g_get C (.ref (ad 68)) 2 in_X10_put_10 (List.mem_of_getElem? (i := 1) rfl) (by decide) (ce_house ad cs _ _) rfl (by decide) rfl rfl dX10_put_82 ?_
              refine g_get C (.ref (ad 71)) 3 in_X10_put_1 (List.mem_of_getElem? (i := 4) rfl) (by decide) (ce_box ad cs _ _) rfl (by decide) rfl rfl dX10_put_85 ?_
              refine g_iload_n C 1 dX10_put_88 rfl ?_
              have hi57 : vp_in x 8 := (fin' (n := 8) rfl (by omega) (by omega))
              have nhi57 := tn hi57
              have mhi57 := ixn (x := x) (by omega)
              refine g_aald C (by decide) (ce_xplacem ad cs _ _) rfl hi57 dX10_put_89 ?_
              refine g_iload_n C 2 dX10_put_90 rfl ?_
              refine g_iload_n C 3 dX10_put_91 rfl ?_
              have ny := ixn (x := y) (by omega)
              refine g_iast C (by omega) (ce_xplace ad cs _ _ nhi57) (by rw [sI_k]; exact (ce_xplace ad cs _ _ nhi57)) (fin' (n := 40) rfl (by omega) (by omega)) dX10_put_92 ?_
              refine g_nm (fun M58 hM58 => ?_)
              have hI : IC M58 := by rw [hM58]; exact hI.st (bC_free (by omega) (by omega) (by omega) (by omega) (by omega) (by omega) (by omega))
              have hF : ∀ k i, ¬ (k = 0 ∧ i = 11) ∧ k ≠ 257 ∧ ¬ (73 ≤ k ∧ k < 81) → M58 k i = M k i := fun k i hk => by (rw [hM58, sI_at, if_neg (by omega)]; try exact hF k i hk)
              have k0_11 : M58 0 11 = vC M 0 4 := by rw [hM58, sI_n _ _ _ (by omega)]; try exact k0_11
              have q257 : M58 257 = M 257 := by rw [hM58, sI_n _ _ _ (by omega)]; try exact q257
              have hV : vC M58 = sI (vC M) 8 (40 * x.toNatClampNeg + y.toNatClampNeg) b := by rw [hM58, vC_pl (by omega) (by omega) (by show (y.toNatClampNeg : Int) < (vC M 7 x.toNatClampNeg).toInt; omega), hV]
              refine g_iconst C 1 dX10_put_93 (by decide) ?_
              have zr9 : (1 : Int32).toInt = 1 := by decide
              exact g_iret C hr ⟨(by dsimp only [A_put, hasC, hasB, hasX, hasM, ofS, ofK, bt, ix]; (repeat (first | rw [if_pos (by omega)] | rw [if_neg (by omega)])); rw [hV]; first | done | rfl | (simp only [gv51]; done) | (simp only [gv51]; rfl) | (subst_vars; first | rfl | grind)), hI, hF, hG⟩ dX10_put_94
            ·
              have f59 := feq rfl (by decide : (0 : Int32).toInt = 0) c55
              have pr52 := zo_f hr52 c55
              try dsimp only [hasC, hasB, hasX, hasM, ofS, ofK, bt] at pr52
              refine g_aload_n C 0 dX10_put_74 rfl ?_
              refine g_bipush C 6 dX10_put_75 (by decide) ?_
              refine g_callVi C (n := 1) (As := [.int 6]) (st := []) (v_X10_found l D ad cs _ _ 6 hI ⟨by first | omega | decide, by first | omega | decide⟩) gX10_put_X10_found rfl rfl rfl (by decide +kernel) ⟨Nat.le_of_ble_eq_true rfl, Nat.le_of_ble_eq_true rfl⟩ rfl (Nat.le_of_ble_eq_true rfl) ⟨Nat.zero_le _, Nat.zero_le _⟩ (by decide) (ce_house ad cs _ _) rfl rfl dX10_put_77 (fun r60 M61 L62 hr60 => ?_)
              obtain ⟨hr60, hI, hFr60, hGr60⟩ := hr60
              have hF : ∀ k i, ¬ (k = 0 ∧ i = 11) ∧ k ≠ 257 ∧ ¬ (73 ≤ k ∧ k < 81) → M61 k i = M k i := fun k i hk => by (rw [hFr60 k i (by omega)]; try exact hF k i hk)
              have hG : ∀ k i, True → L62 k i = L k i := fun k i hk => by (rw [hGr60 k i trivial]; try exact hG k i hk)
              have hV : vC M61 = meetsV (vC M) 6 := by rw [hr60.2, hV]
              have k0_11 : M61 0 11 = M61 0 11 := rfl
              have q73 : ∀ k, 73 ≤ k ∧ k < 81 → M61 k = M k := fun k hk => (funext (fun i => hFr60 k i (by omega))).trans (q73 k hk)
              have q257 : M61 257 = M61 257 := rfl
              exact g_iret C hr ⟨(by dsimp only [A_put, hasC, hasB, hasX, hasM, ofS, ofK, bt, ix]; (repeat (first | rw [if_pos (by omega)] | rw [if_neg (by omega)])); rw [hV]; first | done | rfl | (simp only [gv51]; done) | (simp only [gv51]; rfl) | (subst_vars; first | rfl | grind)), hI, hF, hG⟩ dX10_put_80
        ·
          have f63 := feq rfl (by decide : (0 : Int32).toInt = 0) c44
          have pr41 := zo_f hr41 c44
          try dsimp only [hasC, hasB, hasX, hasM, ofS, ofK, bt] at pr41
          refine g_aload_n C 0 dX10_put_42 rfl ?_
          refine g_iconst C 2 dX10_put_43 (by decide) ?_
          refine g_callVi C (n := 1) (As := [.int 2]) (st := []) (v_X10_found l D ad cs _ _ 2 hI ⟨by first | omega | decide, by first | omega | decide⟩) gX10_put_X10_found rfl rfl rfl (by decide +kernel) ⟨Nat.le_of_ble_eq_true rfl, Nat.le_of_ble_eq_true rfl⟩ rfl (Nat.le_of_ble_eq_true rfl) ⟨Nat.zero_le _, Nat.zero_le _⟩ (by decide) (ce_house ad cs _ _) rfl rfl dX10_put_44 (fun r64 M65 L66 hr64 => ?_)
          obtain ⟨hr64, hI, hFr64, hGr64⟩ := hr64
          have hF : ∀ k i, ¬ (k = 0 ∧ i = 11) ∧ k ≠ 257 ∧ ¬ (73 ≤ k ∧ k < 81) → M65 k i = M k i := fun k i hk => by (rw [hFr64 k i (by omega)]; try exact hF k i hk)
          have hG : ∀ k i, True → L66 k i = L k i := fun k i hk => by (rw [hGr64 k i trivial]; try exact hG k i hk)
          have hV : vC M65 = meetsV (vC M) 2 := by rw [hr64.2, hV]
          have k0_11 : M65 0 11 = M65 0 11 := rfl
          have q73 : ∀ k, 73 ≤ k ∧ k < 81 → M65 k = M k := fun k hk => (funext (fun i => hFr64 k i (by omega))).trans (q73 k hk)
          have q257 : M65 257 = M65 257 := rfl
          exact g_iret C hr ⟨(by dsimp only [A_put, hasC, hasB, hasX, hasM, ofS, ofK, bt, ix]; (repeat (first | rw [if_pos (by omega)] | rw [if_neg (by omega)])); rw [hV]; first | done | rfl | (simp only [ix]; done) | (simp only [ix]; rfl) | (subst_vars; first | rfl | grind)), hI, hF, hG⟩ dX10_put_47
      ·
        have f67 := feq rfl (by decide : (0 : Int32).toInt = 0) c39
        have pr36 := zo_f hr36 c39
        try dsimp only [hasC, hasB, hasX, hasM, ofS, ofK, bt] at pr36
        refine g_iconst C (-1) dX10_put_28 (by decide) ?_
        have zr9 : ((-1) : Int32).toInt = (-1) := by decide
        exact g_iret C hr ⟨(by dsimp only [A_put, hasC, hasB, hasX, hasM, ofS, ofK, bt, ix]; (repeat (first | rw [if_pos (by omega)] | rw [if_neg (by omega)])); first | done | rfl | (simp only [ix]; done) | (simp only [ix]; rfl) | (subst_vars; first | rfl | grind)), hI, hF, hG⟩ dX10_put_29
set_option maxHeartbeats 4000000 in
set_option maxRecDepth 100000 in
theorem v_X4_come (l : Launch) (D : va_G) (ad : Nat → Nat) (cs : Nat → ClassId) (M : MI) (L : ML) (x : Int32) (y : Int32) (z : Int32) (u : Int32) (hI : IC M) : Ci l yX4_come wsX4_come ({ frames := 0, cells := 0, slots := 0, locals := 0 }) D ad cs [.ref (ad 81), .int x, .int y, .int z, .int u] M L (fun r M1 L1 => ((if (vC M 0 3).toInt = 20 then ((-2 : Int32), vC M) else (vC M 0 3, sI (sI (sI (sI (sI (vC M) 9 (vC M 0 3).toNatClampNeg x) 10 (vC M 0 3).toNatClampNeg y) 11 (vC M 0 3).toNatClampNeg z) 12 (vC M 0 3).toNatClampNeg u) 0 3 (vC M 0 3 + 1))) = (r, vC M1)) ∧ IC M1 ∧ (∀ k i, ¬ (k = 81 ∧ i = 0) ∧ k ≠ 82 ∧ k ≠ 84 ∧ k ≠ 85 ∧ k ≠ 86 → M1 k i = M k i) ∧ ∀ k i, True → L1 k i = L k i) := by
  refine enter_i RX4 rfl [(0, .ref (ad 81)), (1, .int x), (2, .int y), (3, .int z), (4, .int u)] rfl (Nat.le_of_ble_eq_true rfl) (by decide +kernel) rfl ?_
  intro p e s m below meth c C hr
  have hF : ∀ k i, ¬ (k = 81 ∧ i = 0) ∧ k ≠ 82 ∧ k ≠ 84 ∧ k ≠ 85 ∧ k ≠ 86 → M k i = M k i := fun _ _ _ => rfl
  have hG : ∀ k i, True → L k i = L k i := fun _ _ _ => rfl
  have w0 : (vC M 0 0).toInt = (M 1 0).toInt := rfl
  have w1 : (vC M 0 1).toInt = (M 3 0).toInt := rfl
  have w2 : (vC M 0 2).toInt = (M 68 0).toInt := rfl
  have w3 : (vC M 0 3).toInt = (M 81 0).toInt := rfl
  obtain ⟨y0a, y0b⟩ := (show rg 0 10 (M 1 0) from hI 1 0 rfl)
  obtain ⟨y1a, y1b⟩ := (show rg 0 60 (M 3 0) from hI 3 0 rfl)
  obtain ⟨y2a, y2b⟩ := (show rg 0 8 (M 68 0) from hI 68 0 rfl)
  obtain ⟨y3a, y3b⟩ := (show rg 0 20 (M 81 0) from hI 81 0 rfl)
  have k81_0 : M 81 0 = vC M 0 3 := rfl
  have q82 : M 82 = M 82 := rfl
  have q84 : M 84 = M 84 := rfl
  have q85 : M 85 = M 85 := rfl
  have q86 : M 86 = M 86 := rfl
  have hV : vC M = vC M := rfl
  refine g_aload_n C 0 dX4_come_0 rfl ?_
  refine g_get C (.int (M 81 0)) 0 in_X4_come_4 (List.mem_of_getElem? (i := 1) rfl) (by decide) (ce_meth ad cs _ _) rfl (by decide) rfl rfl dX4_come_1 ?_
  refine g_ni (fun v1 ev1 => ?_)
  have gv1 : v1 = vC M 0 3 := ev1.trans k81_0
  have tv1 := congrArg Int32.toInt gv1
  obtain ⟨bv1, dv1⟩ := (show rg 0 20 v1 from (by rw [ev1]; exact hI 81 0 rfl))
  refine g_bipush C 20 dX4_come_4 (by decide) ?_
  refine g_icmp_ne C 12 dX4_come_6 (by decide) (fun c2 => ?_) (fun c2 => ?_)
  ·
    have f3 := fne rfl (by decide : (20 : Int32).toInt = 20) c2
    refine g_aload_n C 0 dX4_come_12 rfl ?_
    refine g_get C (.ref (ad 82)) 1 in_X4_come_4 (List.mem_of_getElem? (i := 2) rfl) (by decide) (ce_meth ad cs _ _) rfl (by decide) rfl rfl dX4_come_13 ?_
    refine g_aload_n C 0 dX4_come_16 rfl ?_
    refine g_get C (.int (M 81 0)) 0 in_X4_come_4 (List.mem_of_getElem? (i := 1) rfl) (by decide) (ce_meth ad cs _ _) rfl (by decide) rfl rfl dX4_come_17 ?_
    refine g_ni (fun v4 ev4 => ?_)
    have gv4 : v4 = vC M 0 3 := ev4.trans k81_0
    have tv4 := congrArg Int32.toInt gv4
    obtain ⟨bv4, dv4⟩ := (show rg 0 20 v4 from (by rw [ev4]; exact hI 81 0 rfl))
    refine g_iload_n C 1 dX4_come_20 rfl ?_
    have nv4 := ixn (x := v4) (by omega)
    refine g_iast C (by decide) (ce_mkind ad cs _ _) (by rw [sI_k]; rfl) (fin' (n := 20) rfl (by omega) (by omega)) dX4_come_21 ?_
    refine g_nm (fun M5 hM5 => ?_)
    have hI : IC M5 := by rw [hM5]; exact hI.st (bC_free (by decide) (by decide) (by decide) (by decide) (by decide) (by decide) (by decide))
    have hF : ∀ k i, ¬ (k = 81 ∧ i = 0) ∧ k ≠ 82 ∧ k ≠ 84 ∧ k ≠ 85 ∧ k ≠ 86 → M5 k i = M k i := fun k i hk => by (rw [hM5, sI_at, if_neg (by omega)]; try exact hF k i hk)
    have k81_0 : M5 81 0 = vC M 0 3 := by rw [hM5, sI_n _ _ _ (by decide)]; try exact k81_0
    have q84 : M5 84 = M 84 := by rw [hM5, sI_n _ _ _ (by decide)]; try exact q84
    have q85 : M5 85 = M 85 := by rw [hM5, sI_n _ _ _ (by decide)]; try exact q85
    have q86 : M5 86 = M 86 := by rw [hM5, sI_n _ _ _ (by decide)]; try exact q86
    have hV : vC M5 = sI (vC M) 9 v4.toNatClampNeg x := by rw [hM5, vC_a (c := 9) (by decide), hV]
    refine g_aload_n C 0 dX4_come_22 rfl ?_
    refine g_get C (.ref (ad 85)) 4 in_X4_come_4 (List.mem_of_getElem? (i := 3) rfl) (by decide) (ce_meth ad cs _ _) rfl (by decide) rfl rfl dX4_come_23 ?_
    refine g_aload_n C 0 dX4_come_26 rfl ?_
    refine g_get C (.int (M5 81 0)) 0 in_X4_come_4 (List.mem_of_getElem? (i := 1) rfl) (by decide) (ce_meth ad cs _ _) rfl (by decide) rfl rfl dX4_come_27 ?_
    refine g_ni (fun v6 ev6 => ?_)
    have gv6 : v6 = vC M 0 3 := ev6.trans k81_0
    have tv6 := congrArg Int32.toInt gv6
    obtain ⟨bv6, dv6⟩ := (show rg 0 20 v6 from (by rw [ev6]; exact hI 81 0 rfl))
    refine g_iload_n C 2 dX4_come_30 rfl ?_
    have nv6 := ixn (x := v6) (by omega)
    refine g_iast C (by decide) (ce_mrank ad cs _ _) (by rw [sI_k]; rfl) (fin' (n := 20) rfl (by omega) (by omega)) dX4_come_31 ?_
    refine g_nm (fun M7 hM7 => ?_)
    have hI : IC M7 := by rw [hM7]; exact hI.st (bC_free (by decide) (by decide) (by decide) (by decide) (by decide) (by decide) (by decide))
    have hF : ∀ k i, ¬ (k = 81 ∧ i = 0) ∧ k ≠ 82 ∧ k ≠ 84 ∧ k ≠ 85 ∧ k ≠ 86 → M7 k i = M k i := fun k i hk => by (rw [hM7, sI_at, if_neg (by omega)]; try exact hF k i hk)
    have k81_0 : M7 81 0 = vC M 0 3 := by rw [hM7, sI_n _ _ _ (by decide)]; try exact k81_0
    have q84 : M7 84 = M 84 := by rw [hM7, sI_n _ _ _ (by decide)]; try exact q84
    have q86 : M7 86 = M 86 := by rw [hM7, sI_n _ _ _ (by decide)]; try exact q86
    have hV : vC M7 = sI (sI (vC M) 9 v4.toNatClampNeg x) 10 v6.toNatClampNeg y := by rw [hM7, vC_a (c := 10) (by decide), hV]
    refine g_aload_n C 0 dX4_come_32 rfl ?_
    refine g_get C (.ref (ad 86)) 5 in_X4_come_4 (List.mem_of_getElem? (i := 4) rfl) (by decide) (ce_meth ad cs _ _) rfl (by decide) rfl rfl dX4_come_33 ?_
    refine g_aload_n C 0 dX4_come_36 rfl ?_
    refine g_get C (.int (M7 81 0)) 0 in_X4_come_4 (List.mem_of_getElem? (i := 1) rfl) (by decide) (ce_meth ad cs _ _) rfl (by decide) rfl rfl dX4_come_37 ?_
    refine g_ni (fun v8 ev8 => ?_)
    have gv8 : v8 = vC M 0 3 := ev8.trans k81_0
    have tv8 := congrArg Int32.toInt gv8
    obtain ⟨bv8, dv8⟩ := (show rg 0 20 v8 from (by rw [ev8]; exact hI 81 0 rfl))
    refine g_iload_n C 3 dX4_come_40 rfl ?_
    have nv8 := ixn (x := v8) (by omega)
    refine g_iast C (by decide) (ce_mmarks ad cs _ _) (by rw [sI_k]; rfl) (fin' (n := 20) rfl (by omega) (by omega)) dX4_come_41 ?_
    refine g_nm (fun M9 hM9 => ?_)
    have hI : IC M9 := by rw [hM9]; exact hI.st (bC_free (by decide) (by decide) (by decide) (by decide) (by decide) (by decide) (by decide))
    have hF : ∀ k i, ¬ (k = 81 ∧ i = 0) ∧ k ≠ 82 ∧ k ≠ 84 ∧ k ≠ 85 ∧ k ≠ 86 → M9 k i = M k i := fun k i hk => by (rw [hM9, sI_at, if_neg (by omega)]; try exact hF k i hk)
    have k81_0 : M9 81 0 = vC M 0 3 := by rw [hM9, sI_n _ _ _ (by decide)]; try exact k81_0
    have q84 : M9 84 = M 84 := by rw [hM9, sI_n _ _ _ (by decide)]; try exact q84
    have hV : vC M9 = sI (sI (sI (vC M) 9 v4.toNatClampNeg x) 10 v6.toNatClampNeg y) 11 v8.toNatClampNeg z := by rw [hM9, vC_a (c := 11) (by decide), hV]
    refine g_aload_n C 0 dX4_come_42 rfl ?_
    refine g_get C (.ref (ad 84)) 3 in_X4_come_4 (List.mem_of_getElem? (i := 5) rfl) (by decide) (ce_meth ad cs _ _) rfl (by decide) rfl rfl dX4_come_43 ?_
    refine g_aload_n C 0 dX4_come_46 rfl ?_
    refine g_get C (.int (M9 81 0)) 0 in_X4_come_4 (List.mem_of_getElem? (i := 1) rfl) (by decide) (ce_meth ad cs _ _) rfl (by decide) rfl rfl dX4_come_47 ?_
    refine g_ni (fun v10 ev10 => ?_)
    have gv10 : v10 = vC M 0 3 := ev10.trans k81_0
    have tv10 := congrArg Int32.toInt gv10
    obtain ⟨bv10, dv10⟩ := (show rg 0 20 v10 from (by rw [ev10]; exact hI 81 0 rfl))
    refine g_iload C 4 dX4_come_50 rfl ?_
    have nv10 := ixn (x := v10) (by omega)
    refine g_iast C (by decide) (ce_mneed ad cs _ _) (by rw [sI_k]; rfl) (fin' (n := 20) rfl (by omega) (by omega)) dX4_come_52 ?_
    refine g_nm (fun M11 hM11 => ?_)
    have hI : IC M11 := by rw [hM11]; exact hI.st (bC_free (by decide) (by decide) (by decide) (by decide) (by decide) (by decide) (by decide))
    have hF : ∀ k i, ¬ (k = 81 ∧ i = 0) ∧ k ≠ 82 ∧ k ≠ 84 ∧ k ≠ 85 ∧ k ≠ 86 → M11 k i = M k i := fun k i hk => by (rw [hM11, sI_at, if_neg (by omega)]; try exact hF k i hk)
    have k81_0 : M11 81 0 = vC M 0 3 := by rw [hM11, sI_n _ _ _ (by decide)]; try exact k81_0
    have hV : vC M11 = sI (sI (sI (sI (vC M) 9 v4.toNatClampNeg x) 10 v6.toNatClampNeg y) 11 v8.toNatClampNeg z) 12 v10.toNatClampNeg u := by rw [hM11, vC_a (c := 12) (by decide), hV]
    refine g_aload_n C 0 dX4_come_53 rfl ?_
    refine g_dup C dX4_come_54 rfl ?_
    refine g_get C (.int (M11 81 0)) 0 in_X4_come_4 (List.mem_of_getElem? (i := 1) rfl) (by decide) (ce_meth ad cs _ _) rfl (by decide) rfl rfl dX4_come_55 ?_
    refine g_ni (fun v12 ev12 => ?_)
    have gv12 : v12 = vC M 0 3 := ev12.trans k81_0
    have tv12 := congrArg Int32.toInt gv12
    obtain ⟨bv12, dv12⟩ := (show rg 0 20 v12 from (by rw [ev12]; exact hI 81 0 rfl))
    refine g_iconst C 1 dX4_come_58 (by decide) ?_
    refine g_iadd C dX4_come_59 ?_
    refine g_ni (fun v13 ev13 => ?_)
    try have fv13 := fadd rfl (by decide : (1 : Int32).toInt = 1) ev13 (by omega) (by omega)
    refine g_putI C 0 in_X4_come_4 (List.mem_of_getElem? (i := 1) rfl) (by decide) (ce_meth ad cs _ _) rfl (by decide) rfl tyX4 tyX4_ok nmX4 rfl rfl rfl rfl (Nat.le_of_ble_eq_true rfl) (by rw [sI_k]; rfl) dX4_come_60 ?_
    refine g_nm (fun M14 hM14 => ?_)
    have hI : IC M14 := by rw [hM14]; exact hI.st (fun _ => ⟨by first | omega | decide, by first | omega | decide⟩)
    have hF : ∀ k i, ¬ (k = 81 ∧ i = 0) ∧ k ≠ 82 ∧ k ≠ 84 ∧ k ≠ 85 ∧ k ≠ 86 → M14 k i = M k i := fun k i hk => by (rw [hM14, sI_at, if_neg (by omega)]; try exact hF k i hk)
    have k81_0 : M14 81 0 = v13 := by rw [hM14, sI_at, if_pos (by decide)]
    have hV : vC M14 = sI (sI (sI (sI (sI (vC M) 9 v4.toNatClampNeg x) 10 v6.toNatClampNeg y) 11 v8.toNatClampNeg z) 12 v10.toNatClampNeg u) 0 3 v13 := by rw [hM14, vC_s (c := 3) (by decide), hV]
    refine g_aload_n C 0 dX4_come_63 rfl ?_
    refine g_get C (.int (M14 81 0)) 0 in_X4_come_4 (List.mem_of_getElem? (i := 1) rfl) (by decide) (ce_meth ad cs _ _) rfl (by decide) rfl rfl dX4_come_64 ?_
    refine g_ni (fun v15 ev15 => ?_)
    have gv15 : v15 = v13 := ev15.trans k81_0
    have tv15 := congrArg Int32.toInt gv15
    obtain ⟨bv15, dv15⟩ := (show rg 0 20 v15 from (by rw [ev15]; exact hI 81 0 rfl))
    refine g_iconst C 1 dX4_come_67 (by decide) ?_
    refine g_isub C dX4_come_68 ?_
    refine g_ni (fun v16 ev16 => ?_)
    try have fv16 := fsub rfl (by decide : (1 : Int32).toInt = 1) ev16 (by omega) (by omega)
    exact g_iret C hr ⟨(by (repeat (first | rw [if_pos (by omega)] | rw [if_neg (by omega)])); rw [hV]; first | done | rfl | (simp only [ev16, gv15, ev13, gv12, gv10, gv8, gv6, gv4, gv1, inc_dec]; done) | (simp only [ev16, gv15, ev13, gv12, gv10, gv8, gv6, gv4, gv1, inc_dec]; rfl) | (subst_vars; first | rfl | grind)), hI, hF, hG⟩ dX4_come_69
  ·
    have f17 := feq rfl (by decide : (20 : Int32).toInt = 20) c2
    refine g_bipush C (-2) dX4_come_9 (by decide) ?_
    have zr9 : ((-2) : Int32).toInt = (-2) := by decide
    exact g_iret C hr ⟨(by (repeat (first | rw [if_pos (by omega)] | rw [if_neg (by omega)])); first | done | rfl | (simp only [gv1, inc_dec]; done) | (simp only [gv1, inc_dec]; rfl) | (subst_vars; first | rfl | grind)), hI, hF, hG⟩ dX4_come_11
set_option maxHeartbeats 4000000 in
set_option maxRecDepth 100000 in
theorem v_X10_method (l : Launch) (D : va_G) (ad : Nat → Nat) (cs : Nat → ClassId) (M : MI) (L : ML) (x : Int32) (y : Int32) (z : Int32) (u : Int32) (hI : IC M) : Ci l yX10_method wsX10_method ({ frames := 1, cells := 0, slots := 0, locals := 24 }) D ad cs [.ref (ad 0), .int x, .int y, .int z, .int u] M L (fun r M1 L1 => (A_method (vC M) x y z u = (r, vC M1)) ∧ IC M1 ∧ (∀ k i, ¬ (k = 81 ∧ i = 0) ∧ k ≠ 82 ∧ k ≠ 84 ∧ k ≠ 85 ∧ k ≠ 86 → M1 k i = M k i) ∧ ∀ k i, True → L1 k i = L k i) := by
  refine enter_i RX10 rfl [(0, .ref (ad 0)), (1, .int x), (2, .int y), (3, .int z), (4, .int u)] rfl (Nat.le_of_ble_eq_true rfl) (by decide +kernel) rfl ?_
  intro p e s m below meth c C hr
  have hF : ∀ k i, ¬ (k = 81 ∧ i = 0) ∧ k ≠ 82 ∧ k ≠ 84 ∧ k ≠ 85 ∧ k ≠ 86 → M k i = M k i := fun _ _ _ => rfl
  have hG : ∀ k i, True → L k i = L k i := fun _ _ _ => rfl
  have w0 : (vC M 0 0).toInt = (M 1 0).toInt := rfl
  have w1 : (vC M 0 1).toInt = (M 3 0).toInt := rfl
  have w2 : (vC M 0 2).toInt = (M 68 0).toInt := rfl
  have w3 : (vC M 0 3).toInt = (M 81 0).toInt := rfl
  obtain ⟨y0a, y0b⟩ := (show rg 0 10 (M 1 0) from hI 1 0 rfl)
  obtain ⟨y1a, y1b⟩ := (show rg 0 60 (M 3 0) from hI 3 0 rfl)
  obtain ⟨y2a, y2b⟩ := (show rg 0 8 (M 68 0) from hI 68 0 rfl)
  obtain ⟨y3a, y3b⟩ := (show rg 0 20 (M 81 0) from hI 81 0 rfl)
  have k81_0 : M 81 0 = vC M 0 3 := rfl
  have q82 : M 82 = M 82 := rfl
  have q84 : M 84 = M 84 := rfl
  have q85 : M 85 = M 85 := rfl
  have q86 : M 86 = M 86 := rfl
  have hV : vC M = vC M := rfl
  refine g_iload_n C 1 dX10_method_0 rfl ?_
  refine g_callSi C (n := 1) (As := [.int x]) (st := []) (c_X10_isKind l D ad cs _ _ x ) gX10_method_X10_isKind rfl rfl rfl (by decide +kernel) ⟨Nat.le_of_ble_eq_true rfl, Nat.le_of_ble_eq_true rfl⟩ rfl (Nat.le_of_ble_eq_true rfl) ⟨Nat.zero_le _, Nat.zero_le _⟩ rfl dX10_method_1 (fun r1 M2 L3 hr1 => ?_)
  obtain ⟨hq1, hq2, hr1⟩ := hr1
  obtain rfl := hq1.symm
  obtain rfl := hq2.symm
  have hr1 := zo_lt hr1 (by decide : (9 : Int32).toInt = 9)
  obtain ⟨bar1, bbr1⟩ := zo_b hr1
  refine g_if_eq C 37 dX10_method_4 (by decide) (fun c4 => ?_) (fun c4 => ?_)
  ·
    have f5 := feq rfl (by decide : (0 : Int32).toInt = 0) c4
    have pr1 := zo_f hr1 c4
    try dsimp only [hasC, hasB, hasX, hasM, ofS, ofK, bt] at pr1
    refine g_iconst C (-1) dX10_method_37 (by decide) ?_
    have zr9 : ((-1) : Int32).toInt = (-1) := by decide
    exact g_iret C hr ⟨(by dsimp only [A_method, hasC, hasB, hasX, hasM, ofS, ofK, bt, ix]; (repeat (first | rw [if_pos (by omega)] | rw [if_neg (by omega)])); first | done | rfl | (simp only [ix]; done) | (simp only [ix]; rfl) | (subst_vars; first | rfl | grind)), hI, hF, hG⟩ dX10_method_38
  ·
    have f6 := fne rfl (by decide : (0 : Int32).toInt = 0) c4
    have pr1 := zo_t hr1 c4
    try dsimp only [hasC, hasB, hasX, hasM, ofS, ofK, bt] at pr1
    refine g_iload_n C 3 dX10_method_7 rfl ?_
    refine g_if_lt C 37 dX10_method_8 (by decide) (fun c7 => ?_) (fun c7 => ?_)
    ·
      have f8 := fl rfl (by decide : (0 : Int32).toInt = 0) c7
      refine g_iconst C (-1) dX10_method_37 (by decide) ?_
      have zr9 : ((-1) : Int32).toInt = (-1) := by decide
      exact g_iret C hr ⟨(by dsimp only [A_method, hasC, hasB, hasX, hasM, ofS, ofK, bt, ix]; (repeat (first | rw [if_pos (by omega)] | rw [if_neg (by omega)])); first | done | rfl | (simp only [ix]; done) | (simp only [ix]; rfl) | (subst_vars; first | rfl | grind)), hI, hF, hG⟩ dX10_method_38
    ·
      have f9 := fnl rfl (by decide : (0 : Int32).toInt = 0) c7
      refine g_iload_n C 3 dX10_method_11 rfl ?_
      refine g_sipush C 255 dX10_method_12 (by decide) ?_
      refine g_icmp_gt C 37 dX10_method_15 (by decide) (fun c10 => ?_) (fun c10 => ?_)
      ·
        have f11 := fl (by decide : (255 : Int32).toInt = 255) rfl c10
        refine g_iconst C (-1) dX10_method_37 (by decide) ?_
        have zr9 : ((-1) : Int32).toInt = (-1) := by decide
        exact g_iret C hr ⟨(by dsimp only [A_method, hasC, hasB, hasX, hasM, ofS, ofK, bt, ix]; (repeat (first | rw [if_pos (by omega)] | rw [if_neg (by omega)])); first | done | rfl | (simp only [ix]; done) | (simp only [ix]; rfl) | (subst_vars; first | rfl | grind)), hI, hF, hG⟩ dX10_method_38
      ·
        have f12 := fnl (by decide : (255 : Int32).toInt = 255) rfl c10
        refine g_iload C 4 dX10_method_18 rfl ?_
        refine g_bipush C (-9) dX10_method_20 (by decide) ?_
        refine g_icmp_eq C 39 dX10_method_22 (by decide) (fun c13 => ?_) (fun c13 => ?_)
        ·
          have f14 := feq rfl (by decide : ((-9) : Int32).toInt = (-9)) c13
          refine g_aload_n C 0 dX10_method_39 rfl ?_
          refine g_get C (.ref (ad 81)) 3 in_X10_method_10 (List.mem_of_getElem? (i := 1) rfl) (by decide) (ce_house ad cs _ _) rfl (by decide) rfl rfl dX10_method_40 ?_
          refine g_iload_n C 1 dX10_method_43 rfl ?_
          refine g_iload_n C 2 dX10_method_44 rfl ?_
          refine g_iload_n C 3 dX10_method_45 rfl ?_
          refine g_iload C 4 dX10_method_46 rfl ?_
          refine g_callVi C (n := 4) (As := [.int x, .int y, .int z, .int u]) (st := []) (v_X4_come l D ad cs _ _ x y z u hI ) gX10_method_X4_come rfl rfl rfl (by decide +kernel) ⟨Nat.le_of_ble_eq_true rfl, Nat.le_of_ble_eq_true rfl⟩ rfl (Nat.le_of_ble_eq_true rfl) ⟨Nat.zero_le _, Nat.zero_le _⟩ (by decide) (ce_meth ad cs _ _) rfl rfl dX10_method_48 (fun r15 M16 L17 hr15 => ?_)
          obtain ⟨hr15, hI, hFr15, hGr15⟩ := hr15
          have hF : ∀ k i, ¬ (k = 81 ∧ i = 0) ∧ k ≠ 82 ∧ k ≠ 84 ∧ k ≠ 85 ∧ k ≠ 86 → M16 k i = M k i := fun k i hk => by (rw [hFr15 k i (by omega)]; try exact hF k i hk)
          have hG : ∀ k i, True → L17 k i = L k i := fun k i hk => by (rw [hGr15 k i trivial]; try exact hG k i hk)
          have k81_0 : M16 81 0 = M16 81 0 := rfl
          have q82 : M16 82 = M16 82 := rfl
          have q84 : M16 84 = M16 84 := rfl
          have q85 : M16 85 = M16 85 := rfl
          have q86 : M16 86 = M16 86 := rfl
          exact g_iret C hr ⟨(by dsimp only [A_method, bt, hasM]; rw [if_pos (by omega)]; exact hr15), hI, hF, hG⟩ dX10_method_51
        ·
          have f18 := fne rfl (by decide : ((-9) : Int32).toInt = (-9)) c13
          refine g_aload_n C 0 dX10_method_25 rfl ?_
          refine g_get C (.ref (ad 81)) 3 in_X10_method_10 (List.mem_of_getElem? (i := 1) rfl) (by decide) (ce_house ad cs _ _) rfl (by decide) rfl rfl dX10_method_26 ?_
          refine g_iload C 4 dX10_method_29 rfl ?_
          refine g_callVi C (n := 1) (As := [.int u]) (st := []) (c_X4_has l D ad cs _ _ u ) gX10_method_X4_has rfl rfl rfl (by decide +kernel) ⟨Nat.le_of_ble_eq_true rfl, Nat.le_of_ble_eq_true rfl⟩ rfl (Nat.le_of_ble_eq_true rfl) ⟨Nat.zero_le _, Nat.zero_le _⟩ (by decide) (ce_meth ad cs _ _) rfl rfl dX10_method_31 (fun r19 M20 L21 hr19 => ?_)
          obtain ⟨hq1, hq2, hr19⟩ := hr19
          obtain rfl := hq1.symm
          obtain rfl := hq2.symm
          have hr19 := zo_has hr19
          obtain ⟨bar19, bbr19⟩ := zo_b hr19
          refine g_if_ne C 39 dX10_method_34 (by decide) (fun c22 => ?_) (fun c22 => ?_)
          ·
            have f23 := fne rfl (by decide : (0 : Int32).toInt = 0) c22
            have pr19 := zo_t hr19 c22
            try dsimp only [hasC, hasB, hasX, hasM, ofS, ofK, bt] at pr19
            refine g_aload_n C 0 dX10_method_39 rfl ?_
            refine g_get C (.ref (ad 81)) 3 in_X10_method_10 (List.mem_of_getElem? (i := 1) rfl) (by decide) (ce_house ad cs _ _) rfl (by decide) rfl rfl dX10_method_40 ?_
            refine g_iload_n C 1 dX10_method_43 rfl ?_
            refine g_iload_n C 2 dX10_method_44 rfl ?_
            refine g_iload_n C 3 dX10_method_45 rfl ?_
            refine g_iload C 4 dX10_method_46 rfl ?_
            refine g_callVi C (n := 4) (As := [.int x, .int y, .int z, .int u]) (st := []) (v_X4_come l D ad cs _ _ x y z u hI ) gX10_method_X4_come rfl rfl rfl (by decide +kernel) ⟨Nat.le_of_ble_eq_true rfl, Nat.le_of_ble_eq_true rfl⟩ rfl (Nat.le_of_ble_eq_true rfl) ⟨Nat.zero_le _, Nat.zero_le _⟩ (by decide) (ce_meth ad cs _ _) rfl rfl dX10_method_48 (fun r24 M25 L26 hr24 => ?_)
            obtain ⟨hr24, hI, hFr24, hGr24⟩ := hr24
            have hF : ∀ k i, ¬ (k = 81 ∧ i = 0) ∧ k ≠ 82 ∧ k ≠ 84 ∧ k ≠ 85 ∧ k ≠ 86 → M25 k i = M k i := fun k i hk => by (rw [hFr24 k i (by omega)]; try exact hF k i hk)
            have hG : ∀ k i, True → L26 k i = L k i := fun k i hk => by (rw [hGr24 k i trivial]; try exact hG k i hk)
            have k81_0 : M25 81 0 = M25 81 0 := rfl
            have q82 : M25 82 = M25 82 := rfl
            have q84 : M25 84 = M25 84 := rfl
            have q85 : M25 85 = M25 85 := rfl
            have q86 : M25 86 = M25 86 := rfl
            exact g_iret C hr ⟨(by dsimp only [A_method, bt, hasM]; rw [if_pos (by omega)]; exact hr24), hI, hF, hG⟩ dX10_method_51
          ·
            have f27 := feq rfl (by decide : (0 : Int32).toInt = 0) c22
            have pr19 := zo_f hr19 c22
            try dsimp only [hasC, hasB, hasX, hasM, ofS, ofK, bt] at pr19
            refine g_iconst C (-1) dX10_method_37 (by decide) ?_
            have zr9 : ((-1) : Int32).toInt = (-1) := by decide
            exact g_iret C hr ⟨(by dsimp only [A_method, hasC, hasB, hasX, hasM, ofS, ofK, bt, ix]; (repeat (first | rw [if_pos (by omega)] | rw [if_neg (by omega)])); first | done | rfl | (simp only [ix]; done) | (simp only [ix]; rfl) | (subst_vars; first | rfl | grind)), hI, hF, hG⟩ dX10_method_38
set_option maxHeartbeats 4000000 in
set_option maxRecDepth 100000 in
theorem v_X10_methodOf (l : Launch) (D : va_G) (ad : Nat → Nat) (cs : Nat → ClassId) (M : MI) (L : ML) (x : Int32) (y : Int32) (hI : IC M) : Ci l yX10_methodOf wsX10_methodOf ({ frames := 1, cells := 0, slots := 0, locals := 21 }) D ad cs [.ref (ad 0), .int x, .int y] M L (fun r M1 L1 => M1 = M ∧ L1 = L ∧ (r = A_methodOf (vC M) x y)) := by
  refine enter_i RX10 rfl [(0, .ref (ad 0)), (1, .int x), (2, .int y)] rfl (Nat.le_of_ble_eq_true rfl) (by decide +kernel) rfl ?_
  intro p e s m below meth c C hr
  have hF : ∀ k i, True → M k i = M k i := fun _ _ _ => rfl
  have hG : ∀ k i, True → L k i = L k i := fun _ _ _ => rfl
  have w0 : (vC M 0 0).toInt = (M 1 0).toInt := rfl
  have w1 : (vC M 0 1).toInt = (M 3 0).toInt := rfl
  have w2 : (vC M 0 2).toInt = (M 68 0).toInt := rfl
  have w3 : (vC M 0 3).toInt = (M 81 0).toInt := rfl
  obtain ⟨y0a, y0b⟩ := (show rg 0 10 (M 1 0) from hI 1 0 rfl)
  obtain ⟨y1a, y1b⟩ := (show rg 0 60 (M 3 0) from hI 3 0 rfl)
  obtain ⟨y2a, y2b⟩ := (show rg 0 8 (M 68 0) from hI 68 0 rfl)
  obtain ⟨y3a, y3b⟩ := (show rg 0 20 (M 81 0) from hI 81 0 rfl)
  refine g_aload_n C 0 dX10_methodOf_0 rfl ?_
  refine g_get C (.ref (ad 81)) 3 in_X10_methodOf_10 (List.mem_of_getElem? (i := 1) rfl) (by decide) (ce_house ad cs _ _) rfl (by decide) rfl rfl dX10_methodOf_1 ?_
  refine g_iload_n C 1 dX10_methodOf_4 rfl ?_
  refine g_callVi C (n := 1) (As := [.int x]) (st := []) (c_X4_has l D ad cs _ _ x ) gX10_methodOf_X4_has rfl rfl rfl (by decide +kernel) ⟨Nat.le_of_ble_eq_true rfl, Nat.le_of_ble_eq_true rfl⟩ rfl (Nat.le_of_ble_eq_true rfl) ⟨Nat.zero_le _, Nat.zero_le _⟩ (by decide) (ce_meth ad cs _ _) rfl rfl dX10_methodOf_5 (fun r1 M2 L3 hr1 => ?_)
  obtain ⟨hq1, hq2, hr1⟩ := hr1
  obtain rfl := hq1.symm
  obtain rfl := hq2.symm
  have hr1 := zo_has hr1
  obtain ⟨bar1, bbr1⟩ := zo_b hr1
  refine g_if_ne C 13 dX10_methodOf_8 (by decide) (fun c4 => ?_) (fun c4 => ?_)
  ·
    have f5 := fne rfl (by decide : (0 : Int32).toInt = 0) c4
    have pr1 := zo_t hr1 c4
    try dsimp only [hasC, hasB, hasX, hasM, ofS, ofK, bt] at pr1
    refine g_iload_n C 2 dX10_methodOf_13 rfl ?_
    by_cases hsw : y.toInt < 0 ∨ 3 < y.toInt
    ·
      refine g_tableOut C 92 dX10_methodOf_14 hsw (by decide) ?_
      refine g_iconst C (-1) dX10_methodOf_92 (by decide) ?_
      have zr9 : ((-1) : Int32).toInt = (-1) := by decide
      exact g_iret C hr ⟨rfl, rfl, (by dsimp only [A_methodOf, hasC, hasB, hasX, hasM, ofS, ofK, bt, ix]; (repeat (first | rw [if_pos (by omega)] | rw [if_neg (by omega)])); first | done | rfl | (simp only [ix]; done) | (simp only [ix]; rfl) | (subst_vars; first | rfl | grind))⟩ dX10_methodOf_93
    ·
      have hsw1 : ¬ y.toInt < 0 := fun h => hsw (Or.inl h)
      have hsw2 : ¬ 3 < y.toInt := fun h => hsw (Or.inr h)
      rcases (show y.toInt = 0 ∨ y.toInt = 1 ∨ y.toInt = 2 ∨ y.toInt = 3 by omega) with hq | hq | hq | hq
      ·
        refine g_tableIn C 44 dX10_methodOf_14 hsw1 hsw2 (off := 30) (by rw [hq]; rfl) (by decide) ?_
        refine g_aload_n C 0 dX10_methodOf_44 rfl ?_
        refine g_get C (.ref (ad 81)) 3 in_X10_methodOf_10 (List.mem_of_getElem? (i := 1) rfl) (by decide) (ce_house ad cs _ _) rfl (by decide) rfl rfl dX10_methodOf_45 ?_
        refine g_get C (.ref (ad 82)) 1 in_X10_methodOf_4 (List.mem_of_getElem? (i := 2) rfl) (by decide) (ce_meth ad cs _ _) rfl (by decide) rfl rfl dX10_methodOf_48 ?_
        refine g_iload_n C 1 dX10_methodOf_51 rfl ?_
        have nx := ixn (x := x) (by omega)
        refine g_iald C (by decide) (ce_mkind ad cs _ _) (fin' (n := 20) rfl (by omega) (by omega)) dX10_methodOf_52 ?_
        refine g_ni (fun v6 ev6 => ?_)
        have gv6 : v6 = vC M 9 x.toNatClampNeg := ev6
        have tv6 := congrArg Int32.toInt gv6
        exact g_iret C hr ⟨rfl, rfl, (by dsimp only [A_methodOf, hasC, hasB, hasX, hasM, ofS, ofK, bt, ix]; (repeat (first | rw [if_pos (by omega)] | rw [if_neg (by omega)])); first | done | rfl | (simp only [gv6]; done) | (simp only [gv6]; rfl) | (subst_vars; first | rfl | grind))⟩ dX10_methodOf_53
      ·
        refine g_tableIn C 54 dX10_methodOf_14 hsw1 hsw2 (off := 40) (by rw [hq]; rfl) (by decide) ?_
        refine g_aload_n C 0 dX10_methodOf_54 rfl ?_
        refine g_get C (.ref (ad 81)) 3 in_X10_methodOf_10 (List.mem_of_getElem? (i := 1) rfl) (by decide) (ce_house ad cs _ _) rfl (by decide) rfl rfl dX10_methodOf_55 ?_
        refine g_get C (.ref (ad 83)) 2 in_X10_methodOf_4 (List.mem_of_getElem? (i := 3) rfl) (by decide) (ce_meth ad cs _ _) rfl (by decide) rfl rfl dX10_methodOf_58 ?_
        refine g_iload_n C 1 dX10_methodOf_61 rfl ?_
        have nx := ixn (x := x) (by omega)
        refine g_iald C (by decide) (ce_mbegun ad cs _ _) (fin' (n := 20) rfl (by omega) (by omega)) dX10_methodOf_62 ?_
        refine g_ni (fun v7 ev7 => ?_)
        have gv7 : v7 = vC M 13 x.toNatClampNeg := ev7
        have tv7 := congrArg Int32.toInt gv7
        exact g_iret C hr ⟨rfl, rfl, (by dsimp only [A_methodOf, hasC, hasB, hasX, hasM, ofS, ofK, bt, ix]; (repeat (first | rw [if_pos (by omega)] | rw [if_neg (by omega)])); first | done | rfl | (simp only [gv7]; done) | (simp only [gv7]; rfl) | (subst_vars; first | rfl | grind))⟩ dX10_methodOf_63
      ·
        refine g_tableIn C 64 dX10_methodOf_14 hsw1 hsw2 (off := 50) (by rw [hq]; rfl) (by decide) ?_
        refine g_aload_n C 0 dX10_methodOf_64 rfl ?_
        refine g_get C (.ref (ad 81)) 3 in_X10_methodOf_10 (List.mem_of_getElem? (i := 1) rfl) (by decide) (ce_house ad cs _ _) rfl (by decide) rfl rfl dX10_methodOf_65 ?_
        refine g_get C (.ref (ad 83)) 2 in_X10_methodOf_4 (List.mem_of_getElem? (i := 3) rfl) (by decide) (ce_meth ad cs _ _) rfl (by decide) rfl rfl dX10_methodOf_68 ?_
        refine g_iload_n C 1 dX10_methodOf_71 rfl ?_
        have nx := ixn (x := x) (by omega)
        refine g_iald C (by decide) (ce_mbegun ad cs _ _) (fin' (n := 20) rfl (by omega) (by omega)) dX10_methodOf_72 ?_
        refine g_ni (fun v8 ev8 => ?_)
        have gv8 : v8 = vC M 13 x.toNatClampNeg := ev8
        have tv8 := congrArg Int32.toInt gv8
        refine g_if_ne C 80 dX10_methodOf_73 (by decide) (fun c9 => ?_) (fun c9 => ?_)
        ·
          have f10 := fne rfl (by decide : (0 : Int32).toInt = 0) c9
          refine g_iconst C 1 dX10_methodOf_80 (by decide) ?_
          have zr9 : (1 : Int32).toInt = 1 := by decide
          exact g_iret C hr ⟨rfl, rfl, (by dsimp only [A_methodOf, hasC, hasB, hasX, hasM, ofS, ofK, bt, ix]; (repeat (first | rw [if_pos (by omega)] | rw [if_neg (by omega)])); first | done | rfl | (simp only [gv8]; done) | (simp only [gv8]; rfl) | (subst_vars; first | rfl | grind))⟩ dX10_methodOf_81
        ·
          have f11 := feq rfl (by decide : (0 : Int32).toInt = 0) c9
          refine g_iconst C 0 dX10_methodOf_76 (by decide) ?_
          refine g_goto C 81 dX10_methodOf_77 (by decide) ?_
          have zr9 : (0 : Int32).toInt = 0 := by decide
          exact g_iret C hr ⟨rfl, rfl, (by dsimp only [A_methodOf, hasC, hasB, hasX, hasM, ofS, ofK, bt, ix]; (repeat (first | rw [if_pos (by omega)] | rw [if_neg (by omega)])); first | done | rfl | (simp only [gv8]; done) | (simp only [gv8]; rfl) | (subst_vars; first | rfl | grind))⟩ dX10_methodOf_81
      ·
        refine g_tableIn C 82 dX10_methodOf_14 hsw1 hsw2 (off := 68) (by rw [hq]; rfl) (by decide) ?_
        refine g_aload_n C 0 dX10_methodOf_82 rfl ?_
        refine g_get C (.ref (ad 81)) 3 in_X10_methodOf_10 (List.mem_of_getElem? (i := 1) rfl) (by decide) (ce_house ad cs _ _) rfl (by decide) rfl rfl dX10_methodOf_83 ?_
        refine g_get C (.ref (ad 84)) 3 in_X10_methodOf_4 (List.mem_of_getElem? (i := 4) rfl) (by decide) (ce_meth ad cs _ _) rfl (by decide) rfl rfl dX10_methodOf_86 ?_
        refine g_iload_n C 1 dX10_methodOf_89 rfl ?_
        have nx := ixn (x := x) (by omega)
        refine g_iald C (by decide) (ce_mneed ad cs _ _) (fin' (n := 20) rfl (by omega) (by omega)) dX10_methodOf_90 ?_
        refine g_ni (fun v12 ev12 => ?_)
        have gv12 : v12 = vC M 12 x.toNatClampNeg := ev12
        have tv12 := congrArg Int32.toInt gv12
        exact g_iret C hr ⟨rfl, rfl, (by dsimp only [A_methodOf, hasC, hasB, hasX, hasM, ofS, ofK, bt, ix]; (repeat (first | rw [if_pos (by omega)] | rw [if_neg (by omega)])); first | done | rfl | (simp only [gv12]; done) | (simp only [gv12]; rfl) | (subst_vars; first | rfl | grind))⟩ dX10_methodOf_91
  ·
    have f13 := feq rfl (by decide : (0 : Int32).toInt = 0) c4
    have pr1 := zo_f hr1 c4
    try dsimp only [hasC, hasB, hasX, hasM, ofS, ofK, bt] at pr1
    refine g_iconst C (-1) dX10_methodOf_11 (by decide) ?_
    have zr9 : ((-1) : Int32).toInt = (-1) := by decide
    exact g_iret C hr ⟨rfl, rfl, (by dsimp only [A_methodOf, hasC, hasB, hasX, hasM, ofS, ofK, bt, ix]; (repeat (first | rw [if_pos (by omega)] | rw [if_neg (by omega)])); first | done | rfl | (simp only [ix]; done) | (simp only [ix]; rfl) | (subst_vars; first | rfl | grind))⟩ dX10_methodOf_12
set_option maxHeartbeats 4000000 in
set_option maxRecDepth 100000 in
theorem v_X10_under (l : Launch) (D : va_G) (ad : Nat → Nat) (cs : Nat → ClassId) (M : MI) (L : ML) (x : Int32) (y : Int32) (hI : IC M) (hK : ∀ m, 0 ≤ (vC M 9 m).toInt ∧ (vC M 9 m).toInt ≤ 8) : Ci l yX10_under wsX10_under ({ frames := 1, cells := 0, slots := 0, locals := 24 }) D ad cs [.ref (ad 0), .int x, .int y] M L (fun r M1 L1 => M1 = M ∧ L1 = L ∧ (r = A_under (vC M) x y)) := by
  refine enter_i RX10 rfl [(0, .ref (ad 0)), (1, .int x), (2, .int y)] rfl (Nat.le_of_ble_eq_true rfl) (by decide +kernel) rfl ?_
  intro p e s m below meth c C hr
  have hF : ∀ k i, True → M k i = M k i := fun _ _ _ => rfl
  have hG : ∀ k i, True → L k i = L k i := fun _ _ _ => rfl
  have w0 : (vC M 0 0).toInt = (M 1 0).toInt := rfl
  have w1 : (vC M 0 1).toInt = (M 3 0).toInt := rfl
  have w2 : (vC M 0 2).toInt = (M 68 0).toInt := rfl
  have w3 : (vC M 0 3).toInt = (M 81 0).toInt := rfl
  obtain ⟨y0a, y0b⟩ := (show rg 0 10 (M 1 0) from hI 1 0 rfl)
  obtain ⟨y1a, y1b⟩ := (show rg 0 60 (M 3 0) from hI 3 0 rfl)
  obtain ⟨y2a, y2b⟩ := (show rg 0 8 (M 68 0) from hI 68 0 rfl)
  obtain ⟨y3a, y3b⟩ := (show rg 0 20 (M 81 0) from hI 81 0 rfl)
  have hKx := hK x.toNatClampNeg
  refine g_aload_n C 0 dX10_under_0 rfl ?_
  refine g_get C (.ref (ad 81)) 3 in_X10_under_10 (List.mem_of_getElem? (i := 1) rfl) (by decide) (ce_house ad cs _ _) rfl (by decide) rfl rfl dX10_under_1 ?_
  refine g_iload_n C 1 dX10_under_4 rfl ?_
  refine g_callVi C (n := 1) (As := [.int x]) (st := []) (c_X4_has l D ad cs _ _ x ) gX10_under_X4_has rfl rfl rfl (by decide +kernel) ⟨Nat.le_of_ble_eq_true rfl, Nat.le_of_ble_eq_true rfl⟩ rfl (Nat.le_of_ble_eq_true rfl) ⟨Nat.zero_le _, Nat.zero_le _⟩ (by decide) (ce_meth ad cs _ _) rfl rfl dX10_under_5 (fun r1 M2 L3 hr1 => ?_)
  obtain ⟨hq1, hq2, hr1⟩ := hr1
  obtain rfl := hq1.symm
  obtain rfl := hq2.symm
  have hr1 := zo_has hr1
  obtain ⟨bar1, bbr1⟩ := zo_b hr1
  refine g_if_eq C 18 dX10_under_8 (by decide) (fun c4 => ?_) (fun c4 => ?_)
  ·
    have f5 := feq rfl (by decide : (0 : Int32).toInt = 0) c4
    have pr1 := zo_f hr1 c4
    try dsimp only [hasC, hasB, hasX, hasM, ofS, ofK, bt] at pr1
    refine g_iconst C (-1) dX10_under_18 (by decide) ?_
    have zr9 : ((-1) : Int32).toInt = (-1) := by decide
    exact g_iret C hr ⟨rfl, rfl, (by dsimp only [A_under, hasC, hasB, hasX, hasM, ofS, ofK, bt, ix]; (repeat (first | rw [if_pos (by omega)] | rw [if_neg (by omega)])); first | done | rfl | (simp only [ix]; done) | (simp only [ix]; rfl) | (subst_vars; first | rfl | grind))⟩ dX10_under_19
  ·
    have f6 := fne rfl (by decide : (0 : Int32).toInt = 0) c4
    have pr1 := zo_t hr1 c4
    try dsimp only [hasC, hasB, hasX, hasM, ofS, ofK, bt] at pr1
    refine g_iload_n C 2 dX10_under_11 rfl ?_
    refine g_callSi C (n := 1) (As := [.int y]) (st := []) (c_X10_isKind l D ad cs _ _ y ) gX10_under_X10_isKind rfl rfl rfl (by decide +kernel) ⟨Nat.le_of_ble_eq_true rfl, Nat.le_of_ble_eq_true rfl⟩ rfl (Nat.le_of_ble_eq_true rfl) ⟨Nat.zero_le _, Nat.zero_le _⟩ rfl dX10_under_12 (fun r7 M8 L9 hr7 => ?_)
    obtain ⟨hq1, hq2, hr7⟩ := hr7
    obtain rfl := hq1.symm
    obtain rfl := hq2.symm
    have hr7 := zo_lt hr7 (by decide : (9 : Int32).toInt = 9)
    obtain ⟨bar7, bbr7⟩ := zo_b hr7
    refine g_if_ne C 20 dX10_under_15 (by decide) (fun c10 => ?_) (fun c10 => ?_)
    ·
      have f11 := fne rfl (by decide : (0 : Int32).toInt = 0) c10
      have pr7 := zo_t hr7 c10
      try dsimp only [hasC, hasB, hasX, hasM, ofS, ofK, bt] at pr7
      refine g_aload_n C 0 dX10_under_20 rfl ?_
      refine g_get C (.ref (ad 81)) 3 in_X10_under_10 (List.mem_of_getElem? (i := 1) rfl) (by decide) (ce_house ad cs _ _) rfl (by decide) rfl rfl dX10_under_21 ?_
      refine g_get C (.ref (ad 82)) 1 in_X10_under_4 (List.mem_of_getElem? (i := 2) rfl) (by decide) (ce_meth ad cs _ _) rfl (by decide) rfl rfl dX10_under_24 ?_
      refine g_iload_n C 1 dX10_under_27 rfl ?_
      have nx := ixn (x := x) (by omega)
      refine g_iald C (by decide) (ce_mkind ad cs _ _) (fin' (n := 20) rfl (by omega) (by omega)) dX10_under_28 ?_
      refine g_ni (fun v12 ev12 => ?_)
      have gv12 : v12 = vC M 9 x.toNatClampNeg := ev12
      have tv12 := congrArg Int32.toInt gv12
      refine g_iload_n C 2 dX10_under_29 rfl ?_
      refine g_getsK C (List.mem_of_getElem? (i := 3) rfl) dX10_under_30 ?_
      refine g_callSi C (n := 3) (As := [.int v12, .int y, .ref (ad 401)]) (st := []) (v_isUnderK l D ad cs _ _ v12 y hI ⟨by omega, by omega⟩ (by omega)) gX10_under_X10_isUnder rfl rfl rfl (by decide +kernel) ⟨Nat.le_of_ble_eq_true rfl, Nat.le_of_ble_eq_true rfl⟩ rfl (Nat.le_of_ble_eq_true rfl) ⟨Nat.zero_le _, Nat.zero_le _⟩ rfl dX10_under_33 (fun r13 M14 L15 hr13 => ?_)
      obtain ⟨hq1, hq2, hr13⟩ := hr13
      obtain rfl := hq1.symm
      obtain rfl := hq2.symm
      obtain ⟨bar13, bbr13⟩ := zo_b hr13
      refine g_if_eq C 43 dX10_under_36 (by decide) (fun c16 => ?_) (fun c16 => ?_)
      ·
        have f17 := feq rfl (by decide : (0 : Int32).toInt = 0) c16
        have pr13 := zo_f hr13 c16
        try dsimp only [hasC, hasB, hasX, hasM, ofS, ofK, bt] at pr13
        refine g_iconst C 0 dX10_under_43 (by decide) ?_
        have zr9 : (0 : Int32).toInt = 0 := by decide
        exact g_iret C hr ⟨rfl, rfl, (by dsimp only [A_under, hasC, hasB, hasX, hasM, ofS, ofK, bt, ix]; (repeat (first | rw [if_pos (by omega)] | rw [if_neg (by omega)])); first | done | rfl | (simp only [gv12]; done) | (simp only [gv12]; rfl) | (subst_vars; first | rfl | grind))⟩ dX10_under_44
      ·
        have f18 := fne rfl (by decide : (0 : Int32).toInt = 0) c16
        have pr13 := zo_t hr13 c16
        try dsimp only [hasC, hasB, hasX, hasM, ofS, ofK, bt] at pr13
        refine g_iconst C 1 dX10_under_39 (by decide) ?_
        refine g_goto C 44 dX10_under_40 (by decide) ?_
        have zr9 : (1 : Int32).toInt = 1 := by decide
        exact g_iret C hr ⟨rfl, rfl, (by dsimp only [A_under, hasC, hasB, hasX, hasM, ofS, ofK, bt, ix]; (repeat (first | rw [if_pos (by omega)] | rw [if_neg (by omega)])); first | done | rfl | (simp only [gv12]; done) | (simp only [gv12]; rfl) | (subst_vars; first | rfl | grind))⟩ dX10_under_44
    ·
      have f19 := feq rfl (by decide : (0 : Int32).toInt = 0) c10
      have pr7 := zo_f hr7 c10
      try dsimp only [hasC, hasB, hasX, hasM, ofS, ofK, bt] at pr7
      refine g_iconst C (-1) dX10_under_18 (by decide) ?_
      have zr9 : ((-1) : Int32).toInt = (-1) := by decide
      exact g_iret C hr ⟨rfl, rfl, (by dsimp only [A_under, hasC, hasB, hasX, hasM, ofS, ofK, bt, ix]; (repeat (first | rw [if_pos (by omega)] | rw [if_neg (by omega)])); first | done | rfl | (simp only [ix]; done) | (simp only [ix]; rfl) | (subst_vars; first | rfl | grind))⟩ dX10_under_19
set_option maxHeartbeats 4000000 in
set_option maxRecDepth 100000 in
theorem v_X10_where (l : Launch) (D : va_G) (ad : Nat → Nat) (cs : Nat → ClassId) (M : MI) (L : ML)  (hI : IC M) : Ci l yX10_where wsX10_where ({ frames := 0, cells := 0, slots := 0, locals := 0 }) D ad cs [.ref (ad 0)] M L (fun r M1 L1 => M1 = M ∧ L1 = L ∧ (r = vC M 0 5)) := by
  refine enter_i RX10 rfl [(0, .ref (ad 0))] rfl (Nat.le_of_ble_eq_true rfl) (by decide +kernel) rfl ?_
  intro p e s m below meth c C hr
  have hF : ∀ k i, True → M k i = M k i := fun _ _ _ => rfl
  have hG : ∀ k i, True → L k i = L k i := fun _ _ _ => rfl
  have w0 : (vC M 0 0).toInt = (M 1 0).toInt := rfl
  have w1 : (vC M 0 1).toInt = (M 3 0).toInt := rfl
  have w2 : (vC M 0 2).toInt = (M 68 0).toInt := rfl
  have w3 : (vC M 0 3).toInt = (M 81 0).toInt := rfl
  obtain ⟨y0a, y0b⟩ := (show rg 0 10 (M 1 0) from hI 1 0 rfl)
  obtain ⟨y1a, y1b⟩ := (show rg 0 60 (M 3 0) from hI 3 0 rfl)
  obtain ⟨y2a, y2b⟩ := (show rg 0 8 (M 68 0) from hI 68 0 rfl)
  obtain ⟨y3a, y3b⟩ := (show rg 0 20 (M 81 0) from hI 81 0 rfl)
  refine g_aload_n C 0 dX10_where_0 rfl ?_
  refine g_get C (.int (M 0 10)) 10 in_X10_where_10 (List.mem_of_getElem? (i := 1) rfl) (by decide) (ce_house ad cs _ _) rfl (by decide) rfl rfl dX10_where_1 ?_
  refine g_ni (fun v1 ev1 => ?_)
  have gv1 : v1 = vC M 0 5 := ev1
  have tv1 := congrArg Int32.toInt gv1
  exact g_iret C hr ⟨rfl, rfl, gv1⟩ dX10_where_4
set_option maxHeartbeats 4000000 in
set_option maxRecDepth 100000 in
theorem v_X10_finding (l : Launch) (D : va_G) (ad : Nat → Nat) (cs : Nat → ClassId) (M : MI) (L : ML)  (hI : IC M) : Ci l yX10_finding wsX10_finding ({ frames := 0, cells := 0, slots := 0, locals := 0 }) D ad cs [.ref (ad 0)] M L (fun r M1 L1 => M1 = M ∧ L1 = L ∧ (r = vC M 0 4)) := by
  refine enter_i RX10 rfl [(0, .ref (ad 0))] rfl (Nat.le_of_ble_eq_true rfl) (by decide +kernel) rfl ?_
  intro p e s m below meth c C hr
  have hF : ∀ k i, True → M k i = M k i := fun _ _ _ => rfl
  have hG : ∀ k i, True → L k i = L k i := fun _ _ _ => rfl
  have w0 : (vC M 0 0).toInt = (M 1 0).toInt := rfl
  have w1 : (vC M 0 1).toInt = (M 3 0).toInt := rfl
  have w2 : (vC M 0 2).toInt = (M 68 0).toInt := rfl
  have w3 : (vC M 0 3).toInt = (M 81 0).toInt := rfl
  obtain ⟨y0a, y0b⟩ := (show rg 0 10 (M 1 0) from hI 1 0 rfl)
  obtain ⟨y1a, y1b⟩ := (show rg 0 60 (M 3 0) from hI 3 0 rfl)
  obtain ⟨y2a, y2b⟩ := (show rg 0 8 (M 68 0) from hI 68 0 rfl)
  obtain ⟨y3a, y3b⟩ := (show rg 0 20 (M 81 0) from hI 81 0 rfl)
  refine g_aload_n C 0 dX10_finding_0 rfl ?_
  refine g_get C (.int (M 0 11)) 11 in_X10_finding_10 (List.mem_of_getElem? (i := 1) rfl) (by decide) (ce_house ad cs _ _) rfl (by decide) rfl rfl dX10_finding_1 ?_
  refine g_ni (fun v1 ev1 => ?_)
  have gv1 : v1 = vC M 0 4 := ev1
  have tv1 := congrArg Int32.toInt gv1
  exact g_iret C hr ⟨rfl, rfl, gv1⟩ dX10_finding_4
set_option maxHeartbeats 4000000 in
set_option maxRecDepth 100000 in
theorem v_X10_findings (l : Launch) (D : va_G) (ad : Nat → Nat) (cs : Nat → ClassId) (M : MI) (L : ML) (x : Int32) (hI : IC M) : Ci l yX10_findings wsX10_findings ({ frames := 0, cells := 0, slots := 0, locals := 0 }) D ad cs [.ref (ad 0), .int x] M L (fun r M1 L1 => M1 = M ∧ L1 = L ∧ (r = A_findings (vC M) x)) := by
  refine enter_i RX10 rfl [(0, .ref (ad 0)), (1, .int x)] rfl (Nat.le_of_ble_eq_true rfl) (by decide +kernel) rfl ?_
  intro p e s m below meth c C hr
  have hF : ∀ k i, True → M k i = M k i := fun _ _ _ => rfl
  have hG : ∀ k i, True → L k i = L k i := fun _ _ _ => rfl
  have w0 : (vC M 0 0).toInt = (M 1 0).toInt := rfl
  have w1 : (vC M 0 1).toInt = (M 3 0).toInt := rfl
  have w2 : (vC M 0 2).toInt = (M 68 0).toInt := rfl
  have w3 : (vC M 0 3).toInt = (M 81 0).toInt := rfl
  obtain ⟨y0a, y0b⟩ := (show rg 0 10 (M 1 0) from hI 1 0 rfl)
  obtain ⟨y1a, y1b⟩ := (show rg 0 60 (M 3 0) from hI 3 0 rfl)
  obtain ⟨y2a, y2b⟩ := (show rg 0 8 (M 68 0) from hI 68 0 rfl)
  obtain ⟨y3a, y3b⟩ := (show rg 0 20 (M 81 0) from hI 81 0 rfl)
  refine g_iload_n C 1 dX10_findings_0 rfl ?_
  refine g_iconst C 1 dX10_findings_1 (by decide) ?_
  refine g_icmp_lt C 20 dX10_findings_2 (by decide) (fun c1 => ?_) (fun c1 => ?_)
  ·
    have f2 := fl rfl (by decide : (1 : Int32).toInt = 1) c1
    refine g_iconst C (-1) dX10_findings_20 (by decide) ?_
    have zr9 : ((-1) : Int32).toInt = (-1) := by decide
    exact g_iret C hr ⟨rfl, rfl, (by dsimp only [A_findings, hasC, hasB, hasX, hasM, ofS, ofK, bt, ix]; (repeat (first | rw [if_pos (by omega)] | rw [if_neg (by omega)])); first | done | rfl | (simp only [ix]; done) | (simp only [ix]; rfl) | (subst_vars; first | rfl | grind))⟩ dX10_findings_21
  ·
    have f3 := fnl rfl (by decide : (1 : Int32).toInt = 1) c1
    refine g_iload_n C 1 dX10_findings_5 rfl ?_
    refine g_bipush C 6 dX10_findings_6 (by decide) ?_
    refine g_icmp_gt C 20 dX10_findings_8 (by decide) (fun c4 => ?_) (fun c4 => ?_)
    ·
      have f5 := fl (by decide : (6 : Int32).toInt = 6) rfl c4
      refine g_iconst C (-1) dX10_findings_20 (by decide) ?_
      have zr9 : ((-1) : Int32).toInt = (-1) := by decide
      exact g_iret C hr ⟨rfl, rfl, (by dsimp only [A_findings, hasC, hasB, hasX, hasM, ofS, ofK, bt, ix]; (repeat (first | rw [if_pos (by omega)] | rw [if_neg (by omega)])); first | done | rfl | (simp only [ix]; done) | (simp only [ix]; rfl) | (subst_vars; first | rfl | grind))⟩ dX10_findings_21
    ·
      have f6 := fnl (by decide : (6 : Int32).toInt = 6) rfl c4
      refine g_aload_n C 0 dX10_findings_11 rfl ?_
      refine g_get C (.ref (ad 257)) 12 in_X10_findings_10 (List.mem_of_getElem? (i := 1) rfl) (by decide) (ce_house ad cs _ _) rfl (by decide) rfl rfl dX10_findings_12 ?_
      refine g_iload_n C 1 dX10_findings_15 rfl ?_
      have nx := ixn (x := x) (by omega)
      refine g_iald C (by decide) (ce_times ad cs _ _) (fin' (n := 7) rfl (by omega) (by omega)) dX10_findings_16 ?_
      refine g_ni (fun v7 ev7 => ?_)
      have gv7 : v7 = vC M 14 x.toNatClampNeg := ev7
      have tv7 := congrArg Int32.toInt gv7
      refine g_goto C 21 dX10_findings_17 (by decide) ?_
      exact g_iret C hr ⟨rfl, rfl, (by dsimp only [A_findings, hasC, hasB, hasX, hasM, ofS, ofK, bt, ix]; (repeat (first | rw [if_pos (by omega)] | rw [if_neg (by omega)])); first | done | rfl | (simp only [gv7]; done) | (simp only [gv7]; rfl) | (subst_vars; first | rfl | grind))⟩ dX10_findings_21
