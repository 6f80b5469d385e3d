set_option maxHeartbeats 4000000 in
set_option maxRecDepth 100000 in
theorem v_X0_papersAt (l : Launch) (D : va_G) (ad : Nat → Nat) (cs : Nat → ClassId) (M : MI) (L : ML) (b : Int32) (hI : IC M) : Ci l yX0_papersAt wsX0_papersAt ({ frames := 1, cells := 0, slots := 0, locals := 21 }) D ad cs [.ref (ad 3), .int b] M L (fun r M1 L1 => M1 = M ∧ L1 = L ∧ (r = if hasB (vC M) b then vC M 3 (b.toNatClampNeg) else 0)) := by
  refine enter_i RX0 rfl [(0, .ref (ad 3)), (1, .int b)] rfl (Nat.le_of_ble_eq_true rfl) (by decide +kernel) rfl ?_
  intro p e s m below meth c C hr
  have hF : ∀ k i, True → M k i = M k i := fun _ _ _ => rfl
  have hG : ∀ k i, True → L k i = L k i := fun _ _ _ => rfl
  have w0 : (vC M 0 0).toInt = (M 1 0).toInt := rfl
  have w1 : (vC M 0 1).toInt = (M 3 0).toInt := rfl
  have w2 : (vC M 0 2).toInt = (M 68 0).toInt := rfl
  have w3 : (vC M 0 3).toInt = (M 81 0).toInt := rfl
  obtain ⟨y0a, y0b⟩ := (show rg 0 10 (M 1 0) from hI 1 0 rfl)
  obtain ⟨y1a, y1b⟩ := (show rg 0 60 (M 3 0) from hI 3 0 rfl)
  obtain ⟨y2a, y2b⟩ := (show rg 0 8 (M 68 0) from hI 68 0 rfl)
  obtain ⟨y3a, y3b⟩ := (show rg 0 20 (M 81 0) from hI 81 0 rfl)
  refine g_aload_n C 0 dX0_papersAt_0 rfl ?_
  refine g_iload_n C 1 dX0_papersAt_1 rfl ?_
  refine g_callVi C (n := 1) (As := [.int b]) (st := []) (c_X0_has l D ad cs _ _ b ) gX0_papersAt_X0_has rfl rfl rfl (by decide +kernel) ⟨Nat.le_of_ble_eq_true rfl, Nat.le_of_ble_eq_true rfl⟩ rfl (Nat.le_of_ble_eq_true rfl) ⟨Nat.zero_le _, Nat.zero_le _⟩ (by decide) (ce_ball ad cs _ _) rfl rfl dX0_papersAt_2 (fun r1 M2 L3 hr1 => ?_)
  obtain ⟨hq1, hq2, hr1⟩ := hr1
  obtain rfl := hq1.symm
  obtain rfl := hq2.symm
  have hr1 := zo_has hr1
  obtain ⟨bar1, bbr1⟩ := zo_b hr1
  refine g_if_eq C 17 dX0_papersAt_5 (by decide) (fun c4 => ?_) (fun c4 => ?_)
  ·
    have f5 := feq rfl (by decide : (0 : Int32).toInt = 0) c4
    have pr1 := zo_f hr1 c4
    try dsimp only [hasC, hasB, hasX, hasM, ofS, ofK, bt] at pr1
    refine g_iconst C 0 dX0_papersAt_17 (by decide) ?_
    have zr9 : (0 : Int32).toInt = 0 := by decide
    exact g_iret C hr ⟨rfl, rfl, (by dsimp only [ix, hasC, hasB, hasX, hasM, ofS, ofK, bt, ix]; (repeat (first | rw [if_pos (by omega)] | rw [if_neg (by omega)])); first | done | rfl | (simp only [ix]; done) | (simp only [ix]; rfl) | (subst_vars; first | rfl | grind))⟩ dX0_papersAt_18
  ·
    have f6 := fne rfl (by decide : (0 : Int32).toInt = 0) c4
    have pr1 := zo_t hr1 c4
    try dsimp only [hasC, hasB, hasX, hasM, ofS, ofK, bt] at pr1
    refine g_aload_n C 0 dX0_papersAt_8 rfl ?_
    refine g_get C (.ref (ad 5)) 2 in_X0_papersAt_0 (List.mem_of_getElem? (i := 1) rfl) (by decide) (ce_ball ad cs _ _) rfl (by decide) rfl rfl dX0_papersAt_9 ?_
    refine g_iload_n C 1 dX0_papersAt_12 rfl ?_
    have nb := ixn (x := b) (by omega)
    refine g_iald C (by decide) (ce_bpapers ad cs _ _) (fin' (n := 60) rfl (by omega) (by omega)) dX0_papersAt_13 ?_
    refine g_ni (fun v7 ev7 => ?_)
    have gv7 : v7 = vC M 3 b.toNatClampNeg := ev7
    have tv7 := congrArg Int32.toInt gv7
    refine g_goto C 18 dX0_papersAt_14 (by decide) ?_
    exact g_iret C hr ⟨rfl, rfl, (by dsimp only [ix, hasC, hasB, hasX, hasM, ofS, ofK, bt, ix]; (repeat (first | rw [if_pos (by omega)] | rw [if_neg (by omega)])); first | done | rfl | (simp only [gv7]; done) | (simp only [gv7]; rfl) | (subst_vars; first | rfl | grind))⟩ dX0_papersAt_18
set_option maxHeartbeats 4000000 in
set_option maxRecDepth 100000 in
theorem v_X10_thousandths (l : Launch) (D : va_G) (ad : Nat → Nat) (cs : Nat → ClassId) (M : MI) (L : ML) (x : Int32) (y : Int32) (hI : IC M) : Ci l yX10_thousandths wsX10_thousandths ({ frames := 0, cells := 0, slots := 0, locals := 0 }) D ad cs [.int x, .int y] M L (fun r M1 L1 => M1 = M ∧ L1 = L ∧ (r = if y.toInt < 1 then 0 else 1000 * x / y)) := by
  refine enter_i RX10 rfl [(0, .int x), (1, .int y)] rfl (Nat.le_of_ble_eq_true rfl) (by decide +kernel) rfl ?_
  intro p e s m below meth c C hr
  have hF : ∀ k i, True → M k i = M k i := fun _ _ _ => rfl
  have hG : ∀ k i, True → L k i = L k i := fun _ _ _ => rfl
  have w0 : (vC M 0 0).toInt = (M 1 0).toInt := rfl
  have w1 : (vC M 0 1).toInt = (M 3 0).toInt := rfl
  have w2 : (vC M 0 2).toInt = (M 68 0).toInt := rfl
  have w3 : (vC M 0 3).toInt = (M 81 0).toInt := rfl
  obtain ⟨y0a, y0b⟩ := (show rg 0 10 (M 1 0) from hI 1 0 rfl)
  obtain ⟨y1a, y1b⟩ := (show rg 0 60 (M 3 0) from hI 3 0 rfl)
  obtain ⟨y2a, y2b⟩ := (show rg 0 8 (M 68 0) from hI 68 0 rfl)
  obtain ⟨y3a, y3b⟩ := (show rg 0 20 (M 81 0) from hI 81 0 rfl)
  refine g_iload_n C 1 dX10_thousandths_0 rfl ?_
  refine g_iconst C 1 dX10_thousandths_1 (by decide) ?_
  refine g_icmp_ge C 9 dX10_thousandths_2 (by decide) (fun c1 => ?_) (fun c1 => ?_)
  ·
    have f2 := fle (by decide : (1 : Int32).toInt = 1) rfl c1
    refine g_sipush C 1000 dX10_thousandths_9 (by decide) ?_
    refine g_iload_n C 0 dX10_thousandths_12 rfl ?_
    refine g_imul C dX10_thousandths_13 ?_
    refine g_ni (fun v3 ev3 => ?_)
    try have fv3 := fmul (by decide : (1000 : Int32).toInt = 1000) rfl ev3 (by omega) (by omega)
    refine g_iload_n C 1 dX10_thousandths_14 rfl ?_
    refine g_idiv C dX10_thousandths_15 (by intro h9; have h8 := congrArg Int32.toInt h9; have h7 : (0 : Int32).toInt = 0 := (by decide); omega) ?_
    refine g_ni (fun v4 ev4 => ?_)
    try have fv4 := idivI ev4 (by omega) (by omega)
    exact g_iret C hr ⟨rfl, rfl, (by (repeat (first | rw [if_pos (by omega)] | rw [if_neg (by omega)])); first | done | rfl | (simp only [ev4, ev3]; done) | (simp only [ev4, ev3]; rfl) | (subst_vars; first | rfl | grind))⟩ dX10_thousandths_16
  ·
    have f5 := fnle (by decide : (1 : Int32).toInt = 1) rfl c1
    refine g_iconst C 0 dX10_thousandths_5 (by decide) ?_
    refine g_goto C 16 dX10_thousandths_6 (by decide) ?_
    have zr9 : (0 : Int32).toInt = 0 := by decide
    exact g_iret C hr ⟨rfl, rfl, (by (repeat (first | rw [if_pos (by omega)] | rw [if_neg (by omega)])); first | done | rfl | (simp only [ix]; done) | (simp only [ix]; rfl) | (subst_vars; first | rfl | grind))⟩ dX10_thousandths_16
set_option maxHeartbeats 4000000 in
set_option maxRecDepth 100000 in
theorem v_X10_papersIn (l : Launch) (D : va_G) (ad : Nat → Nat) (cs : Nat → ClassId) (M : MI) (L : ML) (x : Int32) (hI : IC M) (hx : hasX (vC M) x) (h8 : ∀ i : Nat, (vC M 8 i).toInt = -9 ∨ (0 ≤ (vC M 8 i).toInt ∧ (vC M 8 i).toInt < (vC M 0 1).toInt)) : Ci l yX10_papersIn wsX10_papersIn ({ frames := 2, cells := 0, slots := 0, locals := 42 }) D ad cs [.ref (ad 0), .int x] M L (fun r M1 L1 => M1 = M ∧ L1 = L ∧ (r = sumP (vC M) (x.toNatClampNeg) ((vC M 7 (x.toNatClampNeg)).toNatClampNeg))) := by
  refine enter_i RX10 rfl [(0, .ref (ad 0)), (1, .int x)] rfl (Nat.le_of_ble_eq_true rfl) (by decide +kernel) rfl ?_
  intro p e s m below meth c C hr
  have hF : ∀ k i, True → M k i = M k i := fun _ _ _ => rfl
  have hG : ∀ k i, True → L k i = L k i := fun _ _ _ => rfl
  have w0 : (vC M 0 0).toInt = (M 1 0).toInt := rfl
  have w1 : (vC M 0 1).toInt = (M 3 0).toInt := rfl
  have w2 : (vC M 0 2).toInt = (M 68 0).toInt := rfl
  have w3 : (vC M 0 3).toInt = (M 81 0).toInt := rfl
  obtain ⟨y0a, y0b⟩ := (show rg 0 10 (M 1 0) from hI 1 0 rfl)
  obtain ⟨y1a, y1b⟩ := (show rg 0 60 (M 3 0) from hI 3 0 rfl)
  obtain ⟨y2a, y2b⟩ := (show rg 0 8 (M 68 0) from hI 68 0 rfl)
  obtain ⟨y3a, y3b⟩ := (show rg 0 20 (M 81 0) from hI 81 0 rfl)
  obtain ⟨hx1, hx2⟩ := hx
  obtain ⟨sza, szb⟩ := (show rg 0 40 (vC M 7 x.toNatClampNeg) from hI 70 _)
  have ns := ixn (x := vC M 7 x.toNatClampNeg) sza
  have nx := ixn (x := x) (by omega)
  refine g_iconst C 0 dX10_papersIn_0 (by decide) ?_
  refine g_istore_n C [(2, .int 0), (0, .ref (ad 0)), (1, .int x)] dX10_papersIn_1 (by decide) rfl ?_
  refine g_iconst C 0 dX10_papersIn_2 (by decide) ?_
  refine g_istore_n C [(3, .int 0), (2, .int 0), (0, .ref (ad 0)), (1, .int x)] dX10_papersIn_3 (by decide) rfl ?_
  have zy1 : (0 : Int32).toInt = 0 := by decide
  have zy2 : (0 : Int32).toInt = 0 := by decide
  refine g_loop (α := Int32 × Int32 × MI × ML) (fun a => (41 - a.1.toInt).toNat) (fun a => (0 ≤ a.1.toInt) ∧ (a.1.toInt ≤ (vC M 7 (x.toNatClampNeg)).toInt) ∧ (a.2.1 = sumP (vC M) (x.toNatClampNeg) (a.1.toNatClampNeg)) ∧ IC a.2.2.1 ∧ (∀ k i, True → a.2.2.1 k i = M k i) ∧ (∀ k i, True → a.2.2.2 k i = L k i)) (fun a => a.2.2.1) (fun a => a.2.2.2) (fun a => [(3, .int a.1), (2, .int a.2.1), (0, .ref (ad 0)), (1, .int x)]) ((0 : Int32), (0 : Int32), M, L) ⟨by show 0 ≤ (0 : Int32).toInt; omega, by show (0 : Int32).toInt ≤ (vC M 7 (x.toNatClampNeg)).toInt; omega, by show (0 : Int32) = sumP (vC M) (x.toNatClampNeg) ((0 : Int32).toNatClampNeg); rfl, hI, hF, hG⟩ rfl rfl rfl ?_
  rintro ⟨x3_4, x2_4, M_4, L_4⟩ ⟨j4_0, j4_1, j4_2, hI, hF, hG⟩ ih_4
  dsimp only at j4_0 j4_1 j4_2 hI hF hG ih_4 ⊢
  have n3 := ixn (x := x3_4) (by omega)
  refine g_iload_n C 0 dX10_papersIn_4 rfl ?_
  refine g_aload_n C 2 dX10_papersIn_5 rfl ?_
  refine g_get C (.ref (ad 68)) 2 in_X10_papersIn_10 (List.mem_of_getElem? (i := 1) rfl) (by decide) (ce_house ad cs _ _) rfl (by decide) rfl rfl dX10_papersIn_6 ?_
  refine g_get C (.ref (ad 70)) 2 in_X10_papersIn_1 (List.mem_of_getElem? (i := 2) rfl) (by decide) (ce_box ad cs _ _) rfl (by decide) rfl rfl dX10_papersIn_9 ?_
  refine g_iload_n C 3 dX10_papersIn_12 rfl ?_
  have nx := ixn (x := x) (by omega)
  refine g_iald C (by decide) (ce_xsize ad cs _ _) (fin' (n := 8) rfl (by omega) (by omega)) dX10_papersIn_13 ?_
  refine g_ni (fun v3 ev3 => ?_)
  have gv3 : v3 = vC M 7 x.toNatClampNeg := ev3.trans (hF 70 x.toNatClampNeg trivial)
  have tv3 := congrArg Int32.toInt gv3
  obtain ⟨bv3, dv3⟩ := (show rg 0 40 v3 from (by rw [ev3]; exact hI 70 x.toNatClampNeg))
  refine g_icmp_ge C 44 dX10_papersIn_14 (by decide) (fun c4 => ?_) (fun c4 => ?_)
  ·
    have f5 := fle rfl rfl c4
    refine g_iload_n C 1 dX10_papersIn_44 rfl ?_
    exact g_iret C hr ⟨funext (fun k => funext (fun i => hF k i trivial)), funext (fun k => funext (fun i => hG k i trivial)), (by rw [j4_2, show x3_4.toNatClampNeg = (vC M 7 x.toNatClampNeg).toNatClampNeg by omega])⟩ dX10_papersIn_45
  ·
    have f6 := fnle rfl rfl c4
    refine g_iload_n C 1 dX10_papersIn_17 rfl ?_
    refine g_aload_n C 2 dX10_papersIn_18 rfl ?_
    refine g_get C (.ref (ad 3)) 1 in_X10_papersIn_10 (List.mem_of_getElem? (i := 3) rfl) (by decide) (ce_house ad cs _ _) rfl (by decide) rfl rfl dX10_papersIn_19 ?_
    refine g_aload_n C 2 dX10_papersIn_22 rfl ?_
    refine g_get C (.ref (ad 68)) 2 in_X10_papersIn_10 (List.mem_of_getElem? (i := 1) rfl) (by decide) (ce_house ad cs _ _) rfl (by decide) rfl rfl dX10_papersIn_23 ?_
    refine g_get C (.ref (ad 71)) 3 in_X10_papersIn_1 (List.mem_of_getElem? (i := 4) rfl) (by decide) (ce_box ad cs _ _) rfl (by decide) rfl rfl dX10_papersIn_26 ?_
    refine g_iload_n C 3 dX10_papersIn_29 rfl ?_
    have hi7 : vp_in x 8 := (fin' (n := 8) rfl (by omega) (by omega))
    have nhi7 := tn hi7
    have mhi7 := ixn (x := x) (by omega)
    refine g_aald C (by decide) (ce_xplacem ad cs _ _) rfl hi7 dX10_papersIn_30 ?_
    refine g_iload_n C 0 dX10_papersIn_31 rfl ?_
    have nx3_4 := ixn (x := x3_4) (by omega)
    refine g_iald C (by omega) (ce_xplace ad cs _ _ nhi7) (fin' (n := 40) rfl (by omega) (by omega)) dX10_papersIn_32 ?_
    refine g_ni (fun v8 ev8 => ?_)
    have gv8 := ev8.trans (hF (73 + x.toNatClampNeg) x3_4.toNatClampNeg trivial)
    have gv8 := gv8.trans (vC8 (M := M) (by omega) (by omega) (by omega)).symm
    have tv8 := congrArg Int32.toInt gv8
    refine g_callVi C (n := 1) (As := [.int v8]) (st := [.int x2_4]) (v_X0_papersAt l D ad cs _ _ v8 hI ) gX10_papersIn_X0_papersAt rfl rfl rfl (by decide +kernel) ⟨Nat.le_of_ble_eq_true rfl, Nat.le_of_ble_eq_true rfl⟩ rfl (Nat.le_of_ble_eq_true rfl) ⟨Nat.zero_le _, Nat.zero_le _⟩ (by decide) (ce_ball ad cs _ _) rfl rfl dX10_papersIn_33 (fun r9 M10 L11 hr9 => ?_)
    obtain ⟨hq1, hq2, hr9⟩ := hr9
    obtain rfl := hq1.symm
    obtain rfl := hq2.symm
    have pa9 := hr9
    refine g_iadd C dX10_papersIn_36 ?_
    refine g_ni (fun v12 ev12 => ?_)
    try have fv12 := fadd rfl rfl ev12 (by omega) (by omega)
    refine g_istore_n C [(2, .int v12), (3, .int x3_4), (0, .ref (ad 0)), (1, .int x)] dX10_papersIn_37 (by decide) rfl ?_
    obtain ⟨v13, ev13⟩ : ∃ y : Int32, y = x3_4 + 1 := ⟨_, rfl⟩
    try have fv13 := fadd rfl (by decide : (1 : Int32).toInt = 1) ev13 (by omega) (by omega)
    refine g_iinc C 1 v13 [(3, .int v13), (2, .int v12), (0, .ref (ad 0)), (1, .int x)] dX10_papersIn_38 rfl (by rw [ev13]; rfl) (by decide) rfl ?_
    refine g_goto C 4 dX10_papersIn_41 (by decide) ?_
    have nv := ixn (x := v13) (by omega)
    have iv : v13.toNatClampNeg = x3_4.toNatClampNeg + 1 := by omega
    have h89 := h8 (40 * x.toNatClampNeg + x3_4.toNatClampNeg)
    have eM : M_4 = M := funext (fun k => funext (fun i => hF k i trivial))
    rw [eM] at pa9
    exact ih_4 (v13, v12, M_4, L_4) ⟨by show 0 ≤ v13.toInt; omega, by show v13.toInt ≤ (vC M 7 (x.toNatClampNeg)).toInt; omega, by show v12 = sumP (vC M) (x.toNatClampNeg) (v13.toNatClampNeg); rw [iv]; show _ = sumP (vC M) x.toNatClampNeg x3_4.toNatClampNeg + (if (vC M 8 (40 * x.toNatClampNeg + x3_4.toNatClampNeg)).toInt = -9 then 0 else vC M 3 (vC M 8 (40 * x.toNatClampNeg + x3_4.toNatClampNeg)).toNatClampNeg); rw [← j4_2]; simp only [ev12, gv8, gv3, pa9]; by_cases e9 : (vC M 8 (40 * x.toNatClampNeg + x3_4.toNatClampNeg)).toInt = -9; (rw [if_pos e9, if_neg (by dsimp only [hasB]; omega)]); (rw [if_neg e9, if_pos (by dsimp only [hasB]; omega)]), hI, hF, hG⟩ (by show (41 - v13.toInt).toNat < (41 - x3_4.toInt).toNat; omega)
set_option maxHeartbeats 4000000 in
set_option maxRecDepth 100000 in
theorem v_X0_allPoints (l : Launch) (D : va_G) (ad : Nat → Nat) (cs : Nat → ClassId) (M : MI) (L : ML) (b : Int32) (hI : IC M) (hb : 0 ≤ b.toInt ∧ b.toInt < 60) : Ci l yX0_allPoints wsX0_allPoints ({ frames := 0, cells := 0, slots := 0, locals := 0 }) D ad cs [.ref (ad 3), .int b] M L (fun r M1 L1 => M1 = M ∧ L1 = L ∧ (r = sumM (vC M) (b.toNatClampNeg) 10)) := by
  refine enter_i RX0 rfl [(0, .ref (ad 3)), (1, .int b)] rfl (Nat.le_of_ble_eq_true rfl) (by decide +kernel) rfl ?_
  intro p e s m below meth c C hr
  have hF : ∀ k i, True → M k i = M k i := fun _ _ _ => rfl
  have hG : ∀ k i, True → L k i = L k i := fun _ _ _ => rfl
  have w0 : (vC M 0 0).toInt = (M 1 0).toInt := rfl
  have w1 : (vC M 0 1).toInt = (M 3 0).toInt := rfl
  have w2 : (vC M 0 2).toInt = (M 68 0).toInt := rfl
  have w3 : (vC M 0 3).toInt = (M 81 0).toInt := rfl
  obtain ⟨y0a, y0b⟩ := (show rg 0 10 (M 1 0) from hI 1 0 rfl)
  obtain ⟨y1a, y1b⟩ := (show rg 0 60 (M 3 0) from hI 3 0 rfl)
  obtain ⟨y2a, y2b⟩ := (show rg 0 8 (M 68 0) from hI 68 0 rfl)
  obtain ⟨y3a, y3b⟩ := (show rg 0 20 (M 81 0) from hI 81 0 rfl)
  obtain ⟨hb1, hb2⟩ := hb
  have nb := ixn (x := b) (by omega)
  refine g_iconst C 0 dX0_allPoints_0 (by decide) ?_
  refine g_istore_n C [(2, .int 0), (0, .ref (ad 3)), (1, .int b)] dX0_allPoints_1 (by decide) rfl ?_
  refine g_iconst C 0 dX0_allPoints_2 (by decide) ?_
  refine g_istore_n C [(3, .int 0), (2, .int 0), (0, .ref (ad 3)), (1, .int b)] dX0_allPoints_3 (by decide) rfl ?_
  have zy1 : (0 : Int32).toInt = 0 := by decide
  have zy2 : (0 : Int32).toInt = 0 := by decide
  refine g_loop (α := Int32 × Int32 × MI × ML) (fun a => (11 - a.1.toInt).toNat) (fun a => (0 ≤ a.1.toInt) ∧ (a.1.toInt ≤ 10) ∧ (a.2.1 = sumM (vC M) (b.toNatClampNeg) (a.1.toNatClampNeg)) ∧ IC a.2.2.1 ∧ (∀ k i, True → a.2.2.1 k i = M k i) ∧ (∀ k i, True → a.2.2.2 k i = L k i)) (fun a => a.2.2.1) (fun a => a.2.2.2) (fun a => [(3, .int a.1), (2, .int a.2.1), (0, .ref (ad 3)), (1, .int b)]) ((0 : Int32), (0 : Int32), M, L) ⟨by show 0 ≤ (0 : Int32).toInt; omega, by show (0 : Int32).toInt ≤ 10; omega, by show (0 : Int32) = sumM (vC M) (b.toNatClampNeg) ((0 : Int32).toNatClampNeg); rfl, hI, hF, hG⟩ rfl rfl rfl ?_
  rintro ⟨x3_4, x2_4, M_4, L_4⟩ ⟨j4_0, j4_1, j4_2, hI, hF, hG⟩ ih_4
  dsimp only at j4_0 j4_1 j4_2 hI hF hG ih_4 ⊢
  have n3 := ixn (x := x3_4) (by omega)
  refine g_iload_n C 0 dX0_allPoints_4 rfl ?_
  refine g_bipush C 10 dX0_allPoints_5 (by decide) ?_
  refine g_icmp_ge C 27 dX0_allPoints_7 (by decide) (fun c3 => ?_) (fun c3 => ?_)
  ·
    have f4 := fle (by decide : (10 : Int32).toInt = 10) rfl c3
    refine g_iload_n C 1 dX0_allPoints_27 rfl ?_
    exact g_iret C hr ⟨funext (fun k => funext (fun i => hF k i trivial)), funext (fun k => funext (fun i => hG k i trivial)), (by rw [j4_2, show x3_4.toNatClampNeg = 10 by omega])⟩ dX0_allPoints_28
  ·
    have f5 := fnle (by decide : (10 : Int32).toInt = 10) rfl c3
    refine g_iload_n C 1 dX0_allPoints_10 rfl ?_
    refine g_aload_n C 2 dX0_allPoints_11 rfl ?_
    refine g_get C (.ref (ad 7)) 4 in_X0_allPoints_0 (List.mem_of_getElem? (i := 1) rfl) (by decide) (ce_ball ad cs _ _) rfl (by decide) rfl rfl dX0_allPoints_12 ?_
    refine g_iload_n C 3 dX0_allPoints_15 rfl ?_
    have hi6 : vp_in b 60 := (fin' (n := 60) rfl (by omega) (by omega))
    have nhi6 := tn hi6
    have mhi6 := ixn (x := b) (by omega)
    refine g_aald C (by decide) (ce_browm ad cs _ _) rfl hi6 dX0_allPoints_16 ?_
    refine g_iload_n C 0 dX0_allPoints_17 rfl ?_
    have nx3_4 := ixn (x := x3_4) (by omega)
    refine g_iald C (by omega) (ce_brow ad cs _ _ nhi6) (fin' (n := 10) rfl (by omega) (by omega)) dX0_allPoints_18 ?_
    refine g_ni (fun v7 ev7 => ?_)
    have gv7 := ev7.trans (hF (8 + b.toNatClampNeg) x3_4.toNatClampNeg trivial)
    have gv7 := gv7.trans (vC5 (M := M) (by omega) (by omega)).symm
    have tv7 := congrArg Int32.toInt gv7
    obtain ⟨bv7, dv7⟩ := (show rg 0 9 v7 from (by rw [ev7]; exact hI.row _ (by omega) (by omega)))
    refine g_iadd C dX0_allPoints_19 ?_
    refine g_ni (fun v8 ev8 => ?_)
    try have fv8 := fadd rfl rfl ev8 (by omega) (by omega)
    refine g_istore_n C [(2, .int v8), (3, .int x3_4), (0, .ref (ad 3)), (1, .int b)] dX0_allPoints_20 (by decide) rfl ?_
    obtain ⟨v9, ev9⟩ : ∃ y : Int32, y = x3_4 + 1 := ⟨_, rfl⟩
    try have fv9 := fadd rfl (by decide : (1 : Int32).toInt = 1) ev9 (by omega) (by omega)
    refine g_iinc C 1 v9 [(3, .int v9), (2, .int v8), (0, .ref (ad 3)), (1, .int b)] dX0_allPoints_21 rfl (by rw [ev9]; rfl) (by decide) rfl ?_
    refine g_goto C 4 dX0_allPoints_24 (by decide) ?_
    have nv := ixn (x := v9) (by omega)
    have iv : v9.toNatClampNeg = x3_4.toNatClampNeg + 1 := by omega
    exact ih_4 (v9, v8, M_4, L_4) ⟨by show 0 ≤ v9.toInt; omega, by show v9.toInt ≤ 10; omega, by show v8 = sumM (vC M) (b.toNatClampNeg) (v9.toNatClampNeg); rw [iv]; show _ = sumM (vC M) b.toNatClampNeg x3_4.toNatClampNeg + vC M 5 (10 * b.toNatClampNeg + x3_4.toNatClampNeg); rw [← j4_2]; first | done | (simp only [ev8, gv7]; done) | (simp only [ev8, gv7]; rfl), hI, hF, hG⟩ (by show (11 - v9.toInt).toNat < (11 - x3_4.toInt).toNat; omega)
