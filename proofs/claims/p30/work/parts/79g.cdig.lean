set_option maxHeartbeats 4000000 in
set_option maxRecDepth 100000 in
theorem v_X10_digestBallot (l : Launch) (D : va_G) (ad : Nat → Nat) (cs : Nat → ClassId) (M : MI) (L : ML) (y : Int64) (b : Int32) (hI : IC M) (hb : hasB (vC M) b) (hS : ∀ b, 0 ≤ (vC M 2 b).toInt ∧ (vC M 2 b).toInt ≤ 3) : Cl l yX10_digestBallot wsX10_digestBallot ({ frames := 4, cells := 0, slots := 0, locals := 89 }) D ad cs [.ref (ad 0), .long y, .int b] M L (fun r M1 L1 => M1 = M ∧ L1 = L ∧ (r = dgB (vC M) (b.toNatClampNeg) y)) := by
  refine enter_l RX10 rfl [(0, .ref (ad 0)), (1, .long y), (3, .int b)] rfl (Nat.le_of_ble_eq_true rfl) (by decide +kernel) rfl ?_
  intro p e s m below meth c C hr
  have hF : ∀ k i, True → M k i = M k i := fun _ _ _ => rfl
  have hG : ∀ k i, True → L k i = L k i := fun _ _ _ => rfl
  have w0 : (vC M 0 0).toInt = (M 1 0).toInt := rfl
  have w1 : (vC M 0 1).toInt = (M 3 0).toInt := rfl
  have w2 : (vC M 0 2).toInt = (M 68 0).toInt := rfl
  have w3 : (vC M 0 3).toInt = (M 81 0).toInt := rfl
  obtain ⟨y0a, y0b⟩ := (show rg 0 10 (M 1 0) from hI 1 0 rfl)
  obtain ⟨y1a, y1b⟩ := (show rg 0 60 (M 3 0) from hI 3 0 rfl)
  obtain ⟨y2a, y2b⟩ := (show rg 0 8 (M 68 0) from hI 68 0 rfl)
  obtain ⟨y3a, y3b⟩ := (show rg 0 20 (M 81 0) from hI 81 0 rfl)
  obtain ⟨hb1, hb2⟩ := hb
  refine g_lload_n C 1 dX10_digestBallot_0 rfl ?_
  refine g_lstore C [(4, .long y), (0, .ref (ad 0)), (1, .long y), (3, .int b)] dX10_digestBallot_1 (by decide) rfl ?_
  refine g_iconst C 3 dX10_digestBallot_3 (by decide) ?_
  refine g_aload_n C 1 dX10_digestBallot_4 rfl ?_
  refine g_iload_n C 3 dX10_digestBallot_5 rfl ?_
  refine g_callVi C (n := 1) (As := [.int b]) (st := [.int 3]) (v_X10_written l D ad cs _ _ b hI ⟨by omega, by omega⟩ hS) gX10_digestBallot_X10_written rfl rfl rfl (by decide +kernel) ⟨Nat.le_of_ble_eq_true rfl, Nat.le_of_ble_eq_true rfl⟩ rfl (Nat.le_of_ble_eq_true rfl) ⟨Nat.zero_le _, Nat.zero_le _⟩ (by decide) (ce_house ad cs _ _) rfl rfl dX10_digestBallot_6 (fun r1 M2 L3 hr1 => ?_)
  obtain ⟨hq1, hq2, hr1⟩ := hr1
  obtain rfl := hq1.symm
  obtain rfl := hq2.symm
  obtain ⟨hr1, bar1, bbr1⟩ := hr1
  have hr1 : r1 = nwV (vC M) b.toNatClampNeg := hr1
  have tr1 := congrArg Int32.toInt hr1
  have nn9 := ixn (x := nwV (vC M) b.toNatClampNeg) (by omega)
  refine g_iadd C dX10_digestBallot_9 ?_
  refine g_ni (fun v4 ev4 => ?_)
  try have fv4 := fadd (by decide : (3 : Int32).toInt = 3) rfl ev4 (by omega) (by omega)
  refine g_istore C [(6, .int v4), (4, .long y), (0, .ref (ad 0)), (1, .long y), (3, .int b)] dX10_digestBallot_10 (by decide) rfl ?_
  refine g_iconst C 0 dX10_digestBallot_12 (by decide) ?_
  refine g_istore C [(7, .int 0), (6, .int v4), (4, .long y), (0, .ref (ad 0)), (1, .long y), (3, .int b)] dX10_digestBallot_13 (by decide) rfl ?_
  have zy5 : (0 : Int32).toInt = 0 := by decide
  refine g_loop (α := Int32 × Int64 × MI × ML) (fun a => (14 - a.1.toInt).toNat) (fun a => (0 ≤ a.1.toInt) ∧ (a.1.toInt ≤ 3 + (nwV (vC M) b.toNatClampNeg).toInt) ∧ (a.2.1 = dg (tlV (vC M) b.toNatClampNeg) a.1.toNatClampNeg y) ∧ IC a.2.2.1 ∧ (∀ k i, True → a.2.2.1 k i = M k i) ∧ (∀ k i, True → a.2.2.2 k i = L k i)) (fun a => a.2.2.1) (fun a => a.2.2.2) (fun a => [(7, .int a.1), (6, .int v4), (4, .long a.2.1), (0, .ref (ad 0)), (1, .long y), (3, .int b)]) ((0 : Int32), y, M, L) ⟨by show 0 ≤ (0 : Int32).toInt; omega, by show (0 : Int32).toInt ≤ 3 + (nwV (vC M) b.toNatClampNeg).toInt; omega, by show y = dg (tlV (vC M) b.toNatClampNeg) (0 : Int32).toNatClampNeg y; rw [dg_0], hI, hF, hG⟩ rfl rfl rfl ?_
  rintro ⟨x7_15, x4_15, M_15, L_15⟩ ⟨j15_0, j15_1, j15_2, hI, hF, hG⟩ ih_15
  dsimp only at j15_0 j15_1 j15_2 hI hF hG ih_15 ⊢
  have n_x7_15 := ixn (x := x7_15) (by omega)
  refine g_iload C 0 dX10_digestBallot_15 rfl ?_
  refine g_iload C 1 dX10_digestBallot_17 rfl ?_
  refine g_icmp_ge C 45 dX10_digestBallot_19 (by decide) (fun c6 => ?_) (fun c6 => ?_)
  ·
    have f7 := fle rfl rfl c6
    refine g_lload C 2 dX10_digestBallot_45 rfl ?_
    exact g_lret C hr ⟨funext (fun k => funext (fun i => hF k i trivial)), funext (fun k => funext (fun i => hG k i trivial)), (by rw [j15_2]; show _ = dg (tlV (vC M) b.toNatClampNeg) (3 + (nwV (vC M) b.toNatClampNeg).toNatClampNeg) y; congr 1; omega)⟩ dX10_digestBallot_47
  ·
    have f8 := fnle rfl rfl c6
    refine g_ldc2 C 31 (List.mem_of_getElem? (i := 1) rfl) dX10_digestBallot_22 ?_
    refine g_lload C 2 dX10_digestBallot_25 rfl ?_
    refine g_lmul C dX10_digestBallot_27 ?_
    refine g_nl (fun v9 ev9 => ?_)
    try have fv9 := prodI ev9
    refine g_aload_n C 3 dX10_digestBallot_28 rfl ?_
    refine g_iload_n C 5 dX10_digestBallot_29 rfl ?_
    refine g_iload C 0 dX10_digestBallot_30 rfl ?_
    refine g_callVi C (n := 2) (As := [.int b, .int x7_15]) (st := [.long v9]) (v_X10_told l D ad cs _ _ b x7_15 hI (by have eM : M_15 = M := funext (fun k => funext (fun i => hF k i trivial)); rw [eM]; exact hS)) gX10_digestBallot_X10_told rfl rfl rfl (by decide +kernel) ⟨Nat.le_of_ble_eq_true rfl, Nat.le_of_ble_eq_true rfl⟩ rfl (Nat.le_of_ble_eq_true rfl) ⟨Nat.zero_le _, Nat.zero_le _⟩ (by decide) (ce_house ad cs _ _) rfl rfl dX10_digestBallot_32 (fun r10 M11 L12 hr10 => ?_)
    obtain ⟨hq1, hq2, hr10⟩ := hr10
    obtain rfl := hq1.symm
    obtain rfl := hq2.symm
    have eM : M_15 = M := funext (fun k => funext (fun i => hF k i trivial))
    rw [eM] at hr10
    rw [told_tl ⟨by omega, by omega⟩ (by omega) (by omega)] at hr10
    refine g_i2l C dX10_digestBallot_35 ?_
    refine g_nl (fun v13 ev13 => ?_)
    have fv13 := fi2l rfl ev13
    refine g_ladd C dX10_digestBallot_36 ?_
    refine g_nl (fun v14 ev14 => ?_)
    try have fv14 := fladd rfl rfl ev14 (by omega) (by omega)
    refine g_lstore C [(4, .long v14), (7, .int x7_15), (6, .int v4), (0, .ref (ad 0)), (1, .long y), (3, .int b)] dX10_digestBallot_37 (by decide) rfl ?_
    obtain ⟨v15, ev15⟩ : ∃ y : Int32, y = x7_15 + 1 := ⟨_, rfl⟩
    try have fv15 := fadd rfl (by decide : (1 : Int32).toInt = 1) ev15 (by omega) (by omega)
    refine g_iinc C 1 v15 [(7, .int v15), (4, .long v14), (6, .int v4), (0, .ref (ad 0)), (1, .long y), (3, .int b)] dX10_digestBallot_39 rfl (by rw [ev15]; rfl) (by decide) rfl ?_
    refine g_goto C 15 dX10_digestBallot_42 (by decide) ?_
    refine g_lv [0, 2, 1, 3, 4, 5] [(7, .int v15), (6, .int v4), (4, .long v14), (0, .ref (ad 0)), (1, .long y), (3, .int b)] rfl ?_
    have nv := ixn (x := v15) (by omega)
    have iv : v15.toNatClampNeg = x7_15.toNatClampNeg + 1 := by omega
    exact ih_15 (v15, v14, M_15, L_15) ⟨by show 0 ≤ v15.toInt; omega, by show v15.toInt ≤ 3 + (nwV (vC M) b.toNatClampNeg).toInt; omega, by show v14 = dg (tlV (vC M) b.toNatClampNeg) v15.toNatClampNeg y; rw [iv, dg_s, ← j15_2, ← hr10]; first | done | (simp only [ev14, ev13, ev9, ev4, hr1]; done) | (simp only [ev14, ev13, ev9, ev4, hr1]; rfl), hI, hF, hG⟩ (by show (14 - v15.toInt).toNat < (14 - x7_15.toInt).toNat; omega)
set_option maxHeartbeats 4000000 in
set_option maxRecDepth 100000 in
theorem v_X10_digest (l : Launch) (D : va_G) (ad : Nat → Nat) (cs : Nat → ClassId) (M : MI) (L : ML)  (hI : IC M) (hS : ∀ b, 0 ≤ (vC M 2 b).toInt ∧ (vC M 2 b).toInt ≤ 3) : Cl l yX10_digest wsX10_digest ({ frames := 5, cells := 0, slots := 0, locals := 116 }) D ad cs [.ref (ad 0)] M L (fun r M1 L1 => M1 = M ∧ L1 = L ∧ (r = A_digest (vC M))) := by
  refine enter_l RX10 rfl [(0, .ref (ad 0))] rfl (Nat.le_of_ble_eq_true rfl) (by decide +kernel) rfl ?_
  intro p e s m below meth c C hr
  have hF : ∀ k i, True → M k i = M k i := fun _ _ _ => rfl
  have hG : ∀ k i, True → L k i = L k i := fun _ _ _ => rfl
  have w0 : (vC M 0 0).toInt = (M 1 0).toInt := rfl
  have w1 : (vC M 0 1).toInt = (M 3 0).toInt := rfl
  have w2 : (vC M 0 2).toInt = (M 68 0).toInt := rfl
  have w3 : (vC M 0 3).toInt = (M 81 0).toInt := rfl
  obtain ⟨y0a, y0b⟩ := (show rg 0 10 (M 1 0) from hI 1 0 rfl)
  obtain ⟨y1a, y1b⟩ := (show rg 0 60 (M 3 0) from hI 3 0 rfl)
  obtain ⟨y2a, y2b⟩ := (show rg 0 8 (M 68 0) from hI 68 0 rfl)
  obtain ⟨y3a, y3b⟩ := (show rg 0 20 (M 81 0) from hI 81 0 rfl)
  have n00 := ixn (x := vC M 0 0) (by omega)
  have n01 := ixn (x := vC M 0 1) (by omega)
  have n02 := ixn (x := vC M 0 2) (by omega)
  have n03 := ixn (x := vC M 0 3) (by omega)
  refine g_ldc2 C 17 (List.mem_of_getElem? (i := 1) rfl) dX10_digest_0 ?_
  refine g_lstore_n C [(1, .long 17), (0, .ref (ad 0))] dX10_digest_3 (by decide) rfl ?_
  refine g_iconst C 0 dX10_digest_4 (by decide) ?_
  refine g_istore_n C [(3, .int 0), (1, .long 17), (0, .ref (ad 0))] dX10_digest_5 (by decide) rfl ?_
  have zy1 : (0 : Int32).toInt = 0 := by decide
  have zy2 : (17 : Int64).toInt = 17 := by decide
  refine g_loop (α := Int32 × Int64 × MI × ML) (fun a => (11 - a.1.toInt).toNat) (fun a => (0 ≤ a.1.toInt) ∧ (a.1.toInt ≤ (vC M 0 0).toInt) ∧ (a.2.1 = dg (vC M 1) a.1.toNatClampNeg 17) ∧ IC a.2.2.1 ∧ (∀ k i, True → a.2.2.1 k i = M k i) ∧ (∀ k i, True → a.2.2.2 k i = L k i)) (fun a => a.2.2.1) (fun a => a.2.2.2) (fun a => [(3, .int a.1), (1, .long a.2.1), (0, .ref (ad 0))]) ((0 : Int32), (17 : Int64), M, L) ⟨by show 0 ≤ (0 : Int32).toInt; omega, by show (0 : Int32).toInt ≤ (vC M 0 0).toInt; omega, by show (17 : Int64) = dg (vC M 1) (0 : Int32).toNatClampNeg 17; rw [dg_0], hI, hF, hG⟩ rfl rfl rfl ?_
  rintro ⟨x3_6, x1_6, M_6, L_6⟩ ⟨j6_0, j6_1, j6_2, hI, hF, hG⟩ ih_6
  dsimp only at j6_0 j6_1 j6_2 hI hF hG ih_6 ⊢
  have n_x3_6 := ixn (x := x3_6) (by omega)
  refine g_iload_n C 0 dX10_digest_6 rfl ?_
  refine g_aload_n C 2 dX10_digest_7 rfl ?_
  refine g_get C (.ref (ad 1)) 0 in_X10_digest_10 (List.mem_of_getElem? (i := 2) rfl) (by decide) (ce_house ad cs _ _) rfl (by decide) rfl rfl dX10_digest_8 ?_
  refine g_get C (.int (M_6 1 0)) 0 in_X10_digest_2 (List.mem_of_getElem? (i := 3) rfl) (by decide) (ce_cand ad cs _ _) rfl (by decide) rfl rfl dX10_digest_11 ?_
  refine g_ni (fun v3 ev3 => ?_)
  have gv3 : v3 = vC M 0 0 := ev3.trans (hF 1 0 trivial)
  have tv3 := congrArg Int32.toInt gv3
  obtain ⟨bv3, dv3⟩ := (show rg 0 10 v3 from (by rw [ev3]; exact hI 1 0 rfl))
  refine g_icmp_ge C 40 dX10_digest_14 (by decide) (fun c4 => ?_) (fun c4 => ?_)
  ·
    have f5 := fle rfl rfl c4
    have jh1 : x1_6 = dH1 (vC M) := by rw [j6_2, show x3_6.toNatClampNeg = (vC M 0 0).toNatClampNeg by omega]; rfl
    refine g_iconst C 0 dX10_digest_40 (by decide) ?_
    refine g_istore_n C [(3, .int 0), (1, .long x1_6), (0, .ref (ad 0))] dX10_digest_41 (by decide) rfl ?_
    have zy6 : (0 : Int32).toInt = 0 := by decide
    refine g_loop (α := Int32 × Int64 × MI × ML) (fun a => (61 - a.1.toInt).toNat) (fun a => (0 ≤ a.1.toInt) ∧ (a.1.toInt ≤ (vC M 0 1).toInt) ∧ (a.2.1 = dgO (dgB (vC M)) a.1.toNatClampNeg (dH1 (vC M))) ∧ IC a.2.2.1 ∧ (∀ k i, True → a.2.2.1 k i = M k i) ∧ (∀ k i, True → a.2.2.2 k i = L k i)) (fun a => a.2.2.1) (fun a => a.2.2.2) (fun a => [(3, .int a.1), (1, .long a.2.1), (0, .ref (ad 0))]) ((0 : Int32), x1_6, M_6, L_6) ⟨by show 0 ≤ (0 : Int32).toInt; omega, by show (0 : Int32).toInt ≤ (vC M 0 1).toInt; omega, by show x1_6 = dgO (dgB (vC M)) (0 : Int32).toNatClampNeg (dH1 (vC M)); rw [dgO_0]; exact jh1, hI, hF, hG⟩ rfl rfl rfl ?_
    rintro ⟨x3_42, x1_42, M_42, L_42⟩ ⟨j42_0, j42_1, j42_2, hI, hF, hG⟩ ih_42
    dsimp only at j42_0 j42_1 j42_2 hI hF hG ih_42 ⊢
    have n_x3_42 := ixn (x := x3_42) (by omega)
    refine g_iload_n C 0 dX10_digest_42 rfl ?_
    refine g_aload_n C 2 dX10_digest_43 rfl ?_
    refine g_get C (.ref (ad 3)) 1 in_X10_digest_10 (List.mem_of_getElem? (i := 6) rfl) (by decide) (ce_house ad cs _ _) rfl (by decide) rfl rfl dX10_digest_44 ?_
    refine g_get C (.int (M_42 3 0)) 0 in_X10_digest_0 (List.mem_of_getElem? (i := 7) rfl) (by decide) (ce_ball ad cs _ _) rfl (by decide) rfl rfl dX10_digest_47 ?_
    refine g_ni (fun v7 ev7 => ?_)
    have gv7 : v7 = vC M 0 1 := ev7.trans (hF 3 0 trivial)
    have tv7 := congrArg Int32.toInt gv7
    obtain ⟨bv7, dv7⟩ := (show rg 0 60 v7 from (by rw [ev7]; exact hI 3 0 rfl))
    refine g_icmp_ge C 66 dX10_digest_50 (by decide) (fun c8 => ?_) (fun c8 => ?_)
    ·
      have f9 := fle rfl rfl c8
      have jh2 : x1_42 = dH2 (vC M) := by rw [j42_2, show x3_42.toNatClampNeg = (vC M 0 1).toNatClampNeg by omega]; rfl
      refine g_iconst C 0 dX10_digest_66 (by decide) ?_
      refine g_istore_n C [(3, .int 0), (1, .long x1_42), (0, .ref (ad 0))] dX10_digest_67 (by decide) rfl ?_
      have zy10 : (0 : Int32).toInt = 0 := by decide
      refine g_loop (α := Int32 × Int64 × MI × ML) (fun a => (9 - a.1.toInt).toNat) (fun a => (0 ≤ a.1.toInt) ∧ (a.1.toInt ≤ (vC M 0 2).toInt) ∧ (a.2.1 = dgO (dgX (vC M)) a.1.toNatClampNeg (dH2 (vC M))) ∧ IC a.2.2.1 ∧ (∀ k i, True → a.2.2.1 k i = M k i) ∧ (∀ k i, True → a.2.2.2 k i = L k i)) (fun a => a.2.2.1) (fun a => a.2.2.2) (fun a => [(3, .int a.1), (1, .long a.2.1), (0, .ref (ad 0))]) ((0 : Int32), x1_42, M_42, L_42) ⟨by show 0 ≤ (0 : Int32).toInt; omega, by show (0 : Int32).toInt ≤ (vC M 0 2).toInt; omega, by show x1_42 = dgO (dgX (vC M)) (0 : Int32).toNatClampNeg (dH2 (vC M)); rw [dgO_0]; exact jh2, hI, hF, hG⟩ rfl rfl rfl ?_
      rintro ⟨x3_68, x1_68, M_68, L_68⟩ ⟨j68_0, j68_1, j68_2, hI, hF, hG⟩ ih_68
      dsimp only at j68_0 j68_1 j68_2 hI hF hG ih_68 ⊢
      have n_x3_68 := ixn (x := x3_68) (by omega)
      refine g_iload_n C 0 dX10_digest_68 rfl ?_
      refine g_aload_n C 2 dX10_digest_69 rfl ?_
      refine g_get C (.ref (ad 68)) 2 in_X10_digest_10 (List.mem_of_getElem? (i := 8) rfl) (by decide) (ce_house ad cs _ _) rfl (by decide) rfl rfl dX10_digest_70 ?_
      refine g_get C (.int (M_68 68 0)) 0 in_X10_digest_1 (List.mem_of_getElem? (i := 9) rfl) (by decide) (ce_box ad cs _ _) rfl (by decide) rfl rfl dX10_digest_73 ?_
      refine g_ni (fun v11 ev11 => ?_)
      have gv11 : v11 = vC M 0 2 := ev11.trans (hF 68 0 trivial)
      have tv11 := congrArg Int32.toInt gv11
      obtain ⟨bv11, dv11⟩ := (show rg 0 8 v11 from (by rw [ev11]; exact hI 68 0 rfl))
      refine g_icmp_ge C 128 dX10_digest_76 (by decide) (fun c12 => ?_) (fun c12 => ?_)
      ·
        have f13 := fle rfl rfl c12
        have jh3 : x1_68 = dH3 (vC M) := by rw [j68_2, show x3_68.toNatClampNeg = (vC M 0 2).toNatClampNeg by omega]; rfl
        refine g_iconst C 0 dX10_digest_128 (by decide) ?_
        refine g_istore_n C [(3, .int 0), (1, .long x1_68), (0, .ref (ad 0))] dX10_digest_129 (by decide) rfl ?_
        have zy14 : (0 : Int32).toInt = 0 := by decide
        refine g_loop (α := Int32 × Int64 × MI × ML) (fun a => (21 - a.1.toInt).toNat) (fun a => (0 ≤ a.1.toInt) ∧ (a.1.toInt ≤ (vC M 0 3).toInt) ∧ (a.2.1 = dgO (dgM (vC M)) a.1.toNatClampNeg (dH3 (vC M))) ∧ IC a.2.2.1 ∧ (∀ k i, True → a.2.2.1 k i = M k i) ∧ (∀ k i, True → a.2.2.2 k i = L k i)) (fun a => a.2.2.1) (fun a => a.2.2.2) (fun a => [(3, .int a.1), (1, .long a.2.1), (0, .ref (ad 0))]) ((0 : Int32), x1_68, M_68, L_68) ⟨by show 0 ≤ (0 : Int32).toInt; omega, by show (0 : Int32).toInt ≤ (vC M 0 3).toInt; omega, by show x1_68 = dgO (dgM (vC M)) (0 : Int32).toNatClampNeg (dH3 (vC M)); rw [dgO_0]; exact jh3, hI, hF, hG⟩ rfl rfl rfl ?_
        rintro ⟨x3_130, x1_130, M_130, L_130⟩ ⟨j130_0, j130_1, j130_2, hI, hF, hG⟩ ih_130
        dsimp only at j130_0 j130_1 j130_2 hI hF hG ih_130 ⊢
        have n_x3_130 := ixn (x := x3_130) (by omega)
        refine g_iload_n C 0 dX10_digest_130 rfl ?_
        refine g_aload_n C 2 dX10_digest_131 rfl ?_
        refine g_get C (.ref (ad 81)) 3 in_X10_digest_10 (List.mem_of_getElem? (i := 12) rfl) (by decide) (ce_house ad cs _ _) rfl (by decide) rfl rfl dX10_digest_132 ?_
        refine g_get C (.int (M_130 81 0)) 0 in_X10_digest_4 (List.mem_of_getElem? (i := 13) rfl) (by decide) (ce_meth ad cs _ _) rfl (by decide) rfl rfl dX10_digest_135 ?_
        refine g_ni (fun v15 ev15 => ?_)
        have gv15 : v15 = vC M 0 3 := ev15.trans (hF 81 0 trivial)
        have tv15 := congrArg Int32.toInt gv15
        obtain ⟨bv15, dv15⟩ := (show rg 0 20 v15 from (by rw [ev15]; exact hI 81 0 rfl))
        refine g_icmp_ge C 177 dX10_digest_138 (by decide) (fun c16 => ?_) (fun c16 => ?_)
        ·
          have f17 := fle rfl rfl c16
          refine g_lload_n C 1 dX10_digest_177 rfl ?_
          exact g_lret C hr ⟨funext (fun k => funext (fun i => hF k i trivial)), funext (fun k => funext (fun i => hG k i trivial)), (by rw [j130_2, show x3_130.toNatClampNeg = (vC M 0 3).toNatClampNeg by omega]; rfl)⟩ dX10_digest_178
        ·
          have f18 := fnle rfl rfl c16
          refine g_iconst C 0 dX10_digest_141 (by decide) ?_
          refine g_istore C [(4, .int 0), (3, .int x3_130), (1, .long x1_130), (0, .ref (ad 0))] dX10_digest_142 (by decide) rfl ?_
          have zy19 : (0 : Int32).toInt = 0 := by decide
          refine g_loop (α := Int32 × Int64 × MI × ML) (fun a => (5 - a.1.toInt).toNat) (fun a => (0 ≤ a.1.toInt) ∧ (a.1.toInt ≤ 4) ∧ (a.2.1 = dg (fun w => A_methodOf (vC M) (Int32.ofNat x3_130.toNatClampNeg) (Int32.ofNat w)) a.1.toNatClampNeg x1_130) ∧ IC a.2.2.1 ∧ (∀ k i, True → a.2.2.1 k i = M k i) ∧ (∀ k i, True → a.2.2.2 k i = L k i)) (fun a => a.2.2.1) (fun a => a.2.2.2) (fun a => [(4, .int a.1), (3, .int x3_130), (1, .long a.2.1), (0, .ref (ad 0))]) ((0 : Int32), x1_130, M_130, L_130) ⟨by show 0 ≤ (0 : Int32).toInt; omega, by show (0 : Int32).toInt ≤ 4; omega, by show x1_130 = dg (fun w => A_methodOf (vC M) (Int32.ofNat x3_130.toNatClampNeg) (Int32.ofNat w)) (0 : Int32).toNatClampNeg x1_130; rw [dg_0], hI, hF, hG⟩ rfl rfl rfl ?_
          rintro ⟨x4_144, x1_144, M_144, L_144⟩ ⟨j144_0, j144_1, j144_2, hI, hF, hG⟩ ih_144
          dsimp only at j144_0 j144_1 j144_2 hI hF hG ih_144 ⊢
          have n_x4_144 := ixn (x := x4_144) (by omega)
          refine g_iload C 0 dX10_digest_144 rfl ?_
          refine g_iconst C 3 dX10_digest_146 (by decide) ?_
          refine g_icmp_gt C 171 dX10_digest_147 (by decide) (fun c20 => ?_) (fun c20 => ?_)
          ·
            have f21 := fl (by decide : (3 : Int32).toInt = 3) rfl c20
            obtain ⟨v22, ev22⟩ : ∃ y : Int32, y = x3_130 + 1 := ⟨_, rfl⟩
            try have fv22 := fadd rfl (by decide : (1 : Int32).toInt = 1) ev22 (by omega) (by omega)
            refine g_iinc C 1 v22 [(3, .int v22), (4, .int x4_144), (1, .long x1_144), (0, .ref (ad 0))] dX10_digest_171 rfl (by rw [ev22]; rfl) (by decide) rfl ?_
            refine g_goto C 130 dX10_digest_174 (by decide) ?_
            refine g_lv [0, 2, 3] [(3, .int v22), (1, .long x1_144), (0, .ref (ad 0))] rfl ?_
            have nv := ixn (x := v22) (by omega)
            have iv : v22.toNatClampNeg = x3_130.toNatClampNeg + 1 := by omega
            exact ih_130 (v22, x1_144, M_144, L_144) ⟨by show 0 ≤ v22.toInt; omega, by show v22.toInt ≤ (vC M 0 3).toInt; omega, by show x1_144 = dgO (dgM (vC M)) v22.toNatClampNeg (dH3 (vC M)); rw [iv, dgO_s, ← j130_2, j144_2, show x4_144.toNatClampNeg = 4 by omega]; rfl, hI, hF, hG⟩ (by show (21 - v22.toInt).toNat < (21 - x3_130.toInt).toNat; omega)
          ·
            have f23 := fnl (by decide : (3 : Int32).toInt = 3) rfl c20
            refine g_ldc2 C 31 (List.mem_of_getElem? (i := 4) rfl) dX10_digest_150 ?_
            refine g_lload_n C 2 dX10_digest_153 rfl ?_
            refine g_lmul C dX10_digest_154 ?_
            refine g_nl (fun v24 ev24 => ?_)
            try have fv24 := prodI ev24
            refine g_aload_n C 3 dX10_digest_155 rfl ?_
            refine g_iload_n C 1 dX10_digest_156 rfl ?_
            refine g_iload C 0 dX10_digest_157 rfl ?_
            refine g_callVi C (n := 2) (As := [.int x3_130, .int x4_144]) (st := [.long v24]) (v_X10_methodOf l D ad cs _ _ x3_130 x4_144 hI ) gX10_digest_X10_methodOf rfl rfl rfl (by decide +kernel) ⟨Nat.le_of_ble_eq_true rfl, Nat.le_of_ble_eq_true rfl⟩ rfl (Nat.le_of_ble_eq_true rfl) ⟨Nat.zero_le _, Nat.zero_le _⟩ (by decide) (ce_house ad cs _ _) rfl rfl dX10_digest_159 (fun r25 M26 L27 hr25 => ?_)
            obtain ⟨hq1, hq2, hr25⟩ := hr25
            obtain rfl := hq1.symm
            obtain rfl := hq2.symm
            have eM : M_144 = M := funext (fun k => funext (fun i => hF k i trivial))
            rw [eM] at hr25
            refine g_i2l C dX10_digest_162 ?_
            refine g_nl (fun v28 ev28 => ?_)
            have fv28 := fi2l rfl ev28
            refine g_ladd C dX10_digest_163 ?_
            refine g_nl (fun v29 ev29 => ?_)
            try have fv29 := fladd rfl rfl ev29 (by omega) (by omega)
            refine g_lstore_n C [(1, .long v29), (4, .int x4_144), (3, .int x3_130), (0, .ref (ad 0))] dX10_digest_164 (by decide) rfl ?_
            obtain ⟨v30, ev30⟩ : ∃ y : Int32, y = x4_144 + 1 := ⟨_, rfl⟩
            try have fv30 := fadd rfl (by decide : (1 : Int32).toInt = 1) ev30 (by omega) (by omega)
            refine g_iinc C 1 v30 [(4, .int v30), (1, .long v29), (3, .int x3_130), (0, .ref (ad 0))] dX10_digest_165 rfl (by rw [ev30]; rfl) (by decide) rfl ?_
            refine g_goto C 144 dX10_digest_168 (by decide) ?_
            refine g_lv [0, 2, 1, 3] [(4, .int v30), (3, .int x3_130), (1, .long v29), (0, .ref (ad 0))] rfl ?_
            have nv := ixn (x := v30) (by omega)
            have iv : v30.toNatClampNeg = x4_144.toNatClampNeg + 1 := by omega
            exact ih_144 (v30, v29, M_144, L_144) ⟨by show 0 ≤ v30.toInt; omega, by show v30.toInt ≤ 4; omega, by show v29 = dg (fun w => A_methodOf (vC M) (Int32.ofNat x3_130.toNatClampNeg) (Int32.ofNat w)) v30.toNatClampNeg x1_130; rw [iv, dg_s, ← j144_2, of_ix (x := x3_130) (by omega), of_ix (x := x4_144) (by omega)]; first | done | (simp only [ev29, ev28, hr25, ev24, gv15, gv11, gv7, gv3]; done) | (simp only [ev29, ev28, hr25, ev24, gv15, gv11, gv7, gv3]; rfl), hI, hF, hG⟩ (by show (5 - v30.toInt).toNat < (5 - x4_144.toInt).toNat; omega)
      ·
        have f31 := fnle rfl rfl c12
        obtain ⟨sza, szb⟩ := (show rg 0 40 (vC M 7 x3_68.toNatClampNeg) from (by have h9 := hI 70 x3_68.toNatClampNeg; rw [hF 70 _ trivial] at h9; exact h9))
        have ns7 := ixn (x := vC M 7 x3_68.toNatClampNeg) sza
        refine g_iconst C 0 dX10_digest_79 (by decide) ?_
        refine g_istore C [(4, .int 0), (3, .int x3_68), (1, .long x1_68), (0, .ref (ad 0))] dX10_digest_80 (by decide) rfl ?_
        have zy32 : (0 : Int32).toInt = 0 := by decide
        refine g_loop (α := Int32 × Int64 × MI × ML) (fun a => (41 - a.1.toInt).toNat) (fun a => (0 ≤ a.1.toInt) ∧ (a.1.toInt ≤ (vC M 7 x3_68.toNatClampNeg).toInt) ∧ (a.2.1 = dg (fun i => vC M 8 (40 * x3_68.toNatClampNeg + i)) a.1.toNatClampNeg x1_68) ∧ IC a.2.2.1 ∧ (∀ k i, True → a.2.2.1 k i = M k i) ∧ (∀ k i, True → a.2.2.2 k i = L k i)) (fun a => a.2.2.1) (fun a => a.2.2.2) (fun a => [(4, .int a.1), (3, .int x3_68), (1, .long a.2.1), (0, .ref (ad 0))]) ((0 : Int32), x1_68, M_68, L_68) ⟨by show 0 ≤ (0 : Int32).toInt; omega, by show (0 : Int32).toInt ≤ (vC M 7 x3_68.toNatClampNeg).toInt; omega, by show x1_68 = dg (fun i => vC M 8 (40 * x3_68.toNatClampNeg + i)) (0 : Int32).toNatClampNeg x1_68; rw [dg_0], hI, hF, hG⟩ rfl rfl rfl ?_
        rintro ⟨x4_82, x1_82, M_82, L_82⟩ ⟨j82_0, j82_1, j82_2, hI, hF, hG⟩ ih_82
        dsimp only at j82_0 j82_1 j82_2 hI hF hG ih_82 ⊢
        have n_x4_82 := ixn (x := x4_82) (by omega)
        refine g_iload C 0 dX10_digest_82 rfl ?_
        refine g_aload_n C 3 dX10_digest_84 rfl ?_
        refine g_get C (.ref (ad 68)) 2 in_X10_digest_10 (List.mem_of_getElem? (i := 8) rfl) (by decide) (ce_house ad cs _ _) rfl (by decide) rfl rfl dX10_digest_85 ?_
        refine g_get C (.ref (ad 70)) 2 in_X10_digest_1 (List.mem_of_getElem? (i := 10) rfl) (by decide) (ce_box ad cs _ _) rfl (by decide) rfl rfl dX10_digest_88 ?_
        refine g_iload_n C 1 dX10_digest_91 rfl ?_
        have nx3_68 := ixn (x := x3_68) (by omega)
        refine g_iald C (by decide) (ce_xsize ad cs _ _) (fin' (n := 8) rfl (by omega) (by omega)) dX10_digest_92 ?_
        refine g_ni (fun v33 ev33 => ?_)
        have gv33 : v33 = vC M 7 x3_68.toNatClampNeg := ev33.trans (hF 70 x3_68.toNatClampNeg trivial)
        have tv33 := congrArg Int32.toInt gv33
        obtain ⟨bv33, dv33⟩ := (show rg 0 40 v33 from (by rw [ev33]; exact hI 70 x3_68.toNatClampNeg))
        refine g_icmp_ge C 122 dX10_digest_93 (by decide) (fun c34 => ?_) (fun c34 => ?_)
        ·
          have f35 := fle rfl rfl c34
          obtain ⟨v36, ev36⟩ : ∃ y : Int32, y = x3_68 + 1 := ⟨_, rfl⟩
          try have fv36 := fadd rfl (by decide : (1 : Int32).toInt = 1) ev36 (by omega) (by omega)
          refine g_iinc C 1 v36 [(3, .int v36), (4, .int x4_82), (1, .long x1_82), (0, .ref (ad 0))] dX10_digest_122 rfl (by rw [ev36]; rfl) (by decide) rfl ?_
          refine g_goto C 68 dX10_digest_125 (by decide) ?_
          refine g_lv [0, 2, 3] [(3, .int v36), (1, .long x1_82), (0, .ref (ad 0))] rfl ?_
          have nv := ixn (x := v36) (by omega)
          have iv : v36.toNatClampNeg = x3_68.toNatClampNeg + 1 := by omega
          exact ih_68 (v36, x1_82, M_82, L_82) ⟨by show 0 ≤ v36.toInt; omega, by show v36.toInt ≤ (vC M 0 2).toInt; omega, by show x1_82 = dgO (dgX (vC M)) v36.toNatClampNeg (dH2 (vC M)); rw [iv, dgO_s, ← j68_2, j82_2, show x4_82.toNatClampNeg = (vC M 7 x3_68.toNatClampNeg).toNatClampNeg by omega]; rfl, hI, hF, hG⟩ (by show (9 - v36.toInt).toNat < (9 - x3_68.toInt).toNat; omega)
        ·
          have f37 := fnle rfl rfl c34
          refine g_ldc2 C 31 (List.mem_of_getElem? (i := 4) rfl) dX10_digest_96 ?_
          refine g_lload_n C 2 dX10_digest_99 rfl ?_
          refine g_lmul C dX10_digest_100 ?_
          refine g_nl (fun v38 ev38 => ?_)
          try have fv38 := prodI ev38
          refine g_aload_n C 3 dX10_digest_101 rfl ?_
          refine g_get C (.ref (ad 68)) 2 in_X10_digest_10 (List.mem_of_getElem? (i := 8) rfl) (by decide) (ce_house ad cs _ _) rfl (by decide) rfl rfl dX10_digest_102 ?_
          refine g_get C (.ref (ad 71)) 3 in_X10_digest_1 (List.mem_of_getElem? (i := 11) rfl) (by decide) (ce_box ad cs _ _) rfl (by decide) rfl rfl dX10_digest_105 ?_
          refine g_iload_n C 1 dX10_digest_108 rfl ?_
          have hi39 : vp_in x3_68 8 := (fin' (n := 8) rfl (by omega) (by omega))
          have nhi39 := tn hi39
          have mhi39 := ixn (x := x3_68) (by omega)
          refine g_aald C (by decide) (ce_xplacem ad cs _ _) rfl hi39 dX10_digest_109 ?_
          refine g_iload C 0 dX10_digest_110 rfl ?_
          have nx4_82 := ixn (x := x4_82) (by omega)
          refine g_iald C (by omega) (ce_xplace ad cs _ _ nhi39) (fin' (n := 40) rfl (by omega) (by omega)) dX10_digest_112 ?_
          refine g_ni (fun v40 ev40 => ?_)
          have gv40 := ev40.trans (hF (73 + x3_68.toNatClampNeg) x4_82.toNatClampNeg trivial)
          have gv40 := gv40.trans (vC8 (M := M) (by omega) (by omega) (by omega)).symm
          have tv40 := congrArg Int32.toInt gv40
          refine g_i2l C dX10_digest_113 ?_
          refine g_nl (fun v41 ev41 => ?_)
          have fv41 := fi2l rfl ev41
          refine g_ladd C dX10_digest_114 ?_
          refine g_nl (fun v42 ev42 => ?_)
          try have fv42 := fladd rfl rfl ev42 (by omega) (by omega)
          refine g_lstore_n C [(1, .long v42), (4, .int x4_82), (3, .int x3_68), (0, .ref (ad 0))] dX10_digest_115 (by decide) rfl ?_
          obtain ⟨v43, ev43⟩ : ∃ y : Int32, y = x4_82 + 1 := ⟨_, rfl⟩
          try have fv43 := fadd rfl (by decide : (1 : Int32).toInt = 1) ev43 (by omega) (by omega)
          refine g_iinc C 1 v43 [(4, .int v43), (1, .long v42), (3, .int x3_68), (0, .ref (ad 0))] dX10_digest_116 rfl (by rw [ev43]; rfl) (by decide) rfl ?_
          refine g_goto C 82 dX10_digest_119 (by decide) ?_
          refine g_lv [0, 2, 1, 3] [(4, .int v43), (3, .int x3_68), (1, .long v42), (0, .ref (ad 0))] rfl ?_
          have nv := ixn (x := v43) (by omega)
          have iv : v43.toNatClampNeg = x4_82.toNatClampNeg + 1 := by omega
          exact ih_82 (v43, v42, M_82, L_82) ⟨by show 0 ≤ v43.toInt; omega, by show v43.toInt ≤ (vC M 7 x3_68.toNatClampNeg).toInt; omega, by show v42 = dg (fun i => vC M 8 (40 * x3_68.toNatClampNeg + i)) v43.toNatClampNeg x1_68; rw [iv, dg_s, ← j82_2]; first | done | (simp only [ev42, ev41, gv40, ev38, gv33, gv11, gv7, gv3]; done) | (simp only [ev42, ev41, gv40, ev38, gv33, gv11, gv7, gv3]; rfl), hI, hF, hG⟩ (by show (41 - v43.toInt).toNat < (41 - x4_82.toInt).toNat; omega)
    ·
      have f44 := fnle rfl rfl c8
      refine g_aload_n C 2 dX10_digest_53 rfl ?_
      refine g_lload_n C 1 dX10_digest_54 rfl ?_
      refine g_iload_n C 0 dX10_digest_55 rfl ?_
      refine g_callVl C (n := 2) (As := [.long x1_42, .int x3_42]) (st := []) (v_X10_digestBallot l D ad cs _ _ x1_42 x3_42 hI (by (have eM : M_42 = M := funext (fun k => funext (fun i => hF k i trivial))); rw [eM]; exact ⟨by omega, by omega⟩) (by (have eM : M_42 = M := funext (fun k => funext (fun i => hF k i trivial))); rw [eM]; exact hS)) gX10_digest_X10_digestBallot rfl rfl rfl (by decide +kernel) ⟨Nat.le_of_ble_eq_true rfl, Nat.le_of_ble_eq_true rfl⟩ rfl (Nat.le_of_ble_eq_true rfl) ⟨Nat.zero_le _, Nat.zero_le _⟩ (by decide) (ce_house ad cs _ _) rfl rfl dX10_digest_56 (fun r45 M46 L47 hr45 => ?_)
      obtain ⟨hq1, hq2, hr45⟩ := hr45
      obtain rfl := hq1.symm
      obtain rfl := hq2.symm
      have eM : M_42 = M := funext (fun k => funext (fun i => hF k i trivial))
      rw [eM] at hr45
      refine g_lstore_n C [(1, .long r45), (3, .int x3_42), (0, .ref (ad 0))] dX10_digest_59 (by decide) rfl ?_
      obtain ⟨v48, ev48⟩ : ∃ y : Int32, y = x3_42 + 1 := ⟨_, rfl⟩
      try have fv48 := fadd rfl (by decide : (1 : Int32).toInt = 1) ev48 (by omega) (by omega)
      refine g_iinc C 1 v48 [(3, .int v48), (1, .long r45), (0, .ref (ad 0))] dX10_digest_60 rfl (by rw [ev48]; rfl) (by decide) rfl ?_
      refine g_goto C 42 dX10_digest_63 (by decide) ?_
      have nv := ixn (x := v48) (by omega)
      have iv : v48.toNatClampNeg = x3_42.toNatClampNeg + 1 := by omega
      exact ih_42 (v48, r45, M_42, L_42) ⟨by show 0 ≤ v48.toInt; omega, by show v48.toInt ≤ (vC M 0 1).toInt; omega, by show r45 = dgO (dgB (vC M)) v48.toNatClampNeg (dH1 (vC M)); rw [iv, dgO_s, ← j42_2]; first | done | (simp only [hr45, gv7, gv3]; done) | (simp only [hr45, gv7, gv3]; rfl), hI, hF, hG⟩ (by show (61 - v48.toInt).toNat < (61 - x3_42.toInt).toNat; omega)
  ·
    have f49 := fnle rfl rfl c4
    refine g_ldc2 C 31 (List.mem_of_getElem? (i := 4) rfl) dX10_digest_17 ?_
    refine g_lload_n C 1 dX10_digest_20 rfl ?_
    refine g_lmul C dX10_digest_21 ?_
    refine g_nl (fun v50 ev50 => ?_)
    try have fv50 := prodI ev50
    refine g_aload_n C 2 dX10_digest_22 rfl ?_
    refine g_get C (.ref (ad 1)) 0 in_X10_digest_10 (List.mem_of_getElem? (i := 2) rfl) (by decide) (ce_house ad cs _ _) rfl (by decide) rfl rfl dX10_digest_23 ?_
    refine g_get C (.ref (ad 2)) 1 in_X10_digest_2 (List.mem_of_getElem? (i := 5) rfl) (by decide) (ce_cand ad cs _ _) rfl (by decide) rfl rfl dX10_digest_26 ?_
    refine g_iload_n C 0 dX10_digest_29 rfl ?_
    have nx3_6 := ixn (x := x3_6) (by omega)
    refine g_iald C (by decide) (ce_crow ad cs _ _) (fin' (n := 10) rfl (by omega) (by omega)) dX10_digest_30 ?_
    refine g_ni (fun v51 ev51 => ?_)
    have gv51 : v51 = vC M 1 x3_6.toNatClampNeg := ev51.trans (hF 2 x3_6.toNatClampNeg trivial)
    have tv51 := congrArg Int32.toInt gv51
    obtain ⟨bv51, dv51⟩ := (show rg 0 9 v51 from (by rw [ev51]; exact hI 2 x3_6.toNatClampNeg))
    refine g_i2l C dX10_digest_31 ?_
    refine g_nl (fun v52 ev52 => ?_)
    have fv52 := fi2l rfl ev52
    refine g_ladd C dX10_digest_32 ?_
    refine g_nl (fun v53 ev53 => ?_)
    try have fv53 := fladd rfl rfl ev53 (by omega) (by omega)
    refine g_lstore_n C [(1, .long v53), (3, .int x3_6), (0, .ref (ad 0))] dX10_digest_33 (by decide) rfl ?_
    obtain ⟨v54, ev54⟩ : ∃ y : Int32, y = x3_6 + 1 := ⟨_, rfl⟩
    try have fv54 := fadd rfl (by decide : (1 : Int32).toInt = 1) ev54 (by omega) (by omega)
    refine g_iinc C 1 v54 [(3, .int v54), (1, .long v53), (0, .ref (ad 0))] dX10_digest_34 rfl (by rw [ev54]; rfl) (by decide) rfl ?_
    refine g_goto C 6 dX10_digest_37 (by decide) ?_
    have nv := ixn (x := v54) (by omega)
    have iv : v54.toNatClampNeg = x3_6.toNatClampNeg + 1 := by omega
    exact ih_6 (v54, v53, M_6, L_6) ⟨by show 0 ≤ v54.toInt; omega, by show v54.toInt ≤ (vC M 0 0).toInt; omega, by show v53 = dg (vC M 1) v54.toNatClampNeg 17; rw [iv, dg_s, ← j6_2]; first | done | (simp only [ev53, ev52, gv51, ev50, gv3]; done) | (simp only [ev53, ev52, gv51, ev50, gv3]; rfl), hI, hF, hG⟩ (by show (11 - v54.toInt).toNat < (11 - x3_6.toInt).toNat; omega)
