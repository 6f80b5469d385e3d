set_option maxHeartbeats 4000000 in
set_option maxRecDepth 100000 in
theorem k_X5_isMoreByDivisor (l : Launch) (D : va_G) (ad : Nat → Nat) (cs : Nat → ClassId) (M : MI) (L : ML) (x : Int32) (y : Int32) (z : Int32) (hI : IC M) (hx : 0 ≤ x.toInt ∧ x.toInt < 10) (hy : 0 ≤ y.toInt ∧ y.toInt < 10) : Ci l yX5_isMoreByDivisor wsX5_isMoreByDivisor ({ frames := 0, cells := 0, slots := 0, locals := 0 }) D ad cs [.ref (ad 93), .int x, .int y, .int z] M L (fun r M1 L1 => M1 = M ∧ L1 = L ∧ (zo r ((L 91 (y.toNatClampNeg) * (1 + z * M 94 (x.toNatClampNeg)).toInt64).toInt < (L 91 (x.toNatClampNeg) * (1 + z * M 94 (y.toNatClampNeg)).toInt64).toInt))) := by
  refine enter_i RX5 rfl [(0, .ref (ad 93)), (1, .int x), (2, .int y), (3, .int z)] rfl (Nat.le_of_ble_eq_true rfl) (by decide +kernel) rfl ?_
  intro p e s m below meth c C hr
  have hF : ∀ k i, True → M k i = M k i := fun _ _ _ => rfl
  have hG : ∀ k i, True → L k i = L k i := fun _ _ _ => rfl
  have w0 : (vC M 0 0).toInt = (M 1 0).toInt := rfl
  have w1 : (vC M 0 1).toInt = (M 3 0).toInt := rfl
  have w2 : (vC M 0 2).toInt = (M 68 0).toInt := rfl
  have w3 : (vC M 0 3).toInt = (M 81 0).toInt := rfl
  obtain ⟨y0a, y0b⟩ := (show rg 0 10 (M 1 0) from hI 1 0 rfl)
  obtain ⟨y1a, y1b⟩ := (show rg 0 60 (M 3 0) from hI 3 0 rfl)
  obtain ⟨y2a, y2b⟩ := (show rg 0 8 (M 68 0) from hI 68 0 rfl)
  obtain ⟨y3a, y3b⟩ := (show rg 0 20 (M 81 0) from hI 81 0 rfl)
  obtain ⟨hx1, hx2⟩ := hx
  obtain ⟨hy1, hy2⟩ := hy
  refine g_iconst C 1 dX5_isMoreByDivisor_0 (by decide) ?_
  refine g_iload_n C 3 dX5_isMoreByDivisor_1 rfl ?_
  refine g_aload_n C 0 dX5_isMoreByDivisor_2 rfl ?_
  refine g_get C (.ref (ad 94)) 1 in_X5_isMoreByDivisor_5 (List.mem_of_getElem? (i := 1) rfl) (by decide) (ce_plain ad cs _ _) rfl (by decide) rfl rfl dX5_isMoreByDivisor_3 ?_
  refine g_iload_n C 1 dX5_isMoreByDivisor_6 rfl ?_
  have nx := ixn (x := x) (by omega)
  refine g_iald C (by decide) (ce_lseats ad cs _ _) (fin' (n := 10) rfl (by omega) (by omega)) dX5_isMoreByDivisor_7 ?_
  refine g_ni (fun v1 ev1 => ?_)
  have gv1 : v1 = M 94 x.toNatClampNeg := ev1
  have tv1 := congrArg Int32.toInt gv1
  refine g_imul C dX5_isMoreByDivisor_8 ?_
  refine g_ni (fun v2 ev2 => ?_)
  try have fv2 := fmul rfl rfl ev2 (by omega) (by omega)
  refine g_iadd C dX5_isMoreByDivisor_9 ?_
  refine g_ni (fun v3 ev3 => ?_)
  try have fv3 := fadd (by decide : (1 : Int32).toInt = 1) rfl ev3 (by omega) (by omega)
  refine g_i2l C dX5_isMoreByDivisor_10 ?_
  refine g_nl (fun v4 ev4 => ?_)
  have fv4 := fi2l rfl ev4
  refine g_lstore C [(4, .long v4), (0, .ref (ad 93)), (1, .int x), (2, .int y), (3, .int z)] dX5_isMoreByDivisor_11 (by decide) rfl ?_
  refine g_iconst C 1 dX5_isMoreByDivisor_13 (by decide) ?_
  refine g_iload_n C 4 dX5_isMoreByDivisor_14 rfl ?_
  refine g_aload_n C 1 dX5_isMoreByDivisor_15 rfl ?_
  refine g_get C (.ref (ad 94)) 1 in_X5_isMoreByDivisor_5 (List.mem_of_getElem? (i := 1) rfl) (by decide) (ce_plain ad cs _ _) rfl (by decide) rfl rfl dX5_isMoreByDivisor_16 ?_
  refine g_iload_n C 3 dX5_isMoreByDivisor_19 rfl ?_
  have ny := ixn (x := y) (by omega)
  refine g_iald C (by decide) (ce_lseats ad cs _ _) (fin' (n := 10) rfl (by omega) (by omega)) dX5_isMoreByDivisor_20 ?_
  refine g_ni (fun v5 ev5 => ?_)
  have gv5 : v5 = M 94 y.toNatClampNeg := ev5
  have tv5 := congrArg Int32.toInt gv5
  refine g_imul C dX5_isMoreByDivisor_21 ?_
  refine g_ni (fun v6 ev6 => ?_)
  try have fv6 := fmul rfl rfl ev6 (by omega) (by omega)
  refine g_iadd C dX5_isMoreByDivisor_22 ?_
  refine g_ni (fun v7 ev7 => ?_)
  try have fv7 := fadd (by decide : (1 : Int32).toInt = 1) rfl ev7 (by omega) (by omega)
  refine g_i2l C dX5_isMoreByDivisor_23 ?_
  refine g_nl (fun v8 ev8 => ?_)
  have fv8 := fi2l rfl ev8
  refine g_lstore C [(6, .long v8), (4, .long v4), (0, .ref (ad 93)), (1, .int x), (2, .int y), (3, .int z)] dX5_isMoreByDivisor_24 (by decide) rfl ?_
  refine g_aload_n C 2 dX5_isMoreByDivisor_26 rfl ?_
  refine g_get C (.ref (ad 88)) 0 in_X5_isMoreByDivisor_5 (List.mem_of_getElem? (i := 2) rfl) (by decide) (ce_plain ad cs _ _) rfl (by decide) rfl rfl dX5_isMoreByDivisor_27 ?_
  refine g_get C (.ref (ad 91)) 6 in_X5_isMoreByDivisor_6 (List.mem_of_getElem? (i := 3) rfl) (by decide) (ce_poll ad cs _ _) rfl (by decide) rfl rfl dX5_isMoreByDivisor_30 ?_
  refine g_iload_n C 3 dX5_isMoreByDivisor_33 rfl ?_
  have nx := ixn (x := x) (by omega)
  refine g_lald C (by decide) (ce_pupper ad cs _ _) (fin' (n := 10) rfl (by omega) (by omega)) dX5_isMoreByDivisor_34 ?_
  refine g_nl (fun v9 ev9 => ?_)
  have gv9 : v9 = L 91 x.toNatClampNeg := ev9
  have tv9 := congrArg Int64.toInt gv9
  refine g_lload C 0 dX5_isMoreByDivisor_35 rfl ?_
  refine g_lmul C dX5_isMoreByDivisor_37 ?_
  refine g_nl (fun v10 ev10 => ?_)
  try have fv10 := prodI ev10
  refine g_aload_n C 2 dX5_isMoreByDivisor_38 rfl ?_
  refine g_get C (.ref (ad 88)) 0 in_X5_isMoreByDivisor_5 (List.mem_of_getElem? (i := 2) rfl) (by decide) (ce_plain ad cs _ _) rfl (by decide) rfl rfl dX5_isMoreByDivisor_39 ?_
  refine g_get C (.ref (ad 91)) 6 in_X5_isMoreByDivisor_6 (List.mem_of_getElem? (i := 3) rfl) (by decide) (ce_poll ad cs _ _) rfl (by decide) rfl rfl dX5_isMoreByDivisor_42 ?_
  refine g_iload_n C 4 dX5_isMoreByDivisor_45 rfl ?_
  have ny := ixn (x := y) (by omega)
  refine g_lald C (by decide) (ce_pupper ad cs _ _) (fin' (n := 10) rfl (by omega) (by omega)) dX5_isMoreByDivisor_46 ?_
  refine g_nl (fun v11 ev11 => ?_)
  have gv11 : v11 = L 91 y.toNatClampNeg := ev11
  have tv11 := congrArg Int64.toInt gv11
  refine g_lload C 1 dX5_isMoreByDivisor_47 rfl ?_
  refine g_lmul C dX5_isMoreByDivisor_49 ?_
  refine g_nl (fun v12 ev12 => ?_)
  try have fv12 := prodI ev12
  refine g_lcmp C dX5_isMoreByDivisor_50 ?_
  refine g_ni (fun v13 ev13 => ?_)
  refine g_if_le C 58 dX5_isMoreByDivisor_51 (by decide) (fun c14 => ?_) (fun c14 => ?_)
  ·
    have f15 := cle rfl rfl ev13 c14
    refine g_iconst C 0 dX5_isMoreByDivisor_58 (by decide) ?_
    have zr9 : (0 : Int32).toInt = 0 := by decide
    exact g_zret C hr rfl ⟨rfl, rfl, (by have c9 := f15; simp only [ev13, ev12, gv11, ev10, gv9, ev8, ev7, ev6, gv5, ev4, ev3, ev2, gv1] at c9; first | exact Or.inl ⟨rfl, by omega⟩ | exact Or.inr ⟨rfl, by omega⟩)⟩ dX5_isMoreByDivisor_59
  ·
    have f16 := cnle rfl rfl ev13 c14
    refine g_iconst C 1 dX5_isMoreByDivisor_54 (by decide) ?_
    refine g_goto C 59 dX5_isMoreByDivisor_55 (by decide) ?_
    have zr9 : (1 : Int32).toInt = 1 := by decide
    exact g_zret C hr rfl ⟨rfl, rfl, (by have c9 := f16; simp only [ev13, ev12, gv11, ev10, gv9, ev8, ev7, ev6, gv5, ev4, ev3, ev2, gv1] at c9; first | exact Or.inl ⟨rfl, by omega⟩ | exact Or.inr ⟨rfl, by omega⟩)⟩ dX5_isMoreByDivisor_59
set_option maxHeartbeats 4000000 in
set_option maxRecDepth 100000 in
theorem k_X5_greatestByDivisor (l : Launch) (D : va_G) (ad : Nat → Nat) (cs : Nat → ClassId) (M : MI) (L : ML) (x : Int32) (hI : IC M) : Ci l yX5_greatestByDivisor wsX5_greatestByDivisor ({ frames := 1, cells := 0, slots := 0, locals := 27 }) D ad cs [.ref (ad 93), .int x] M L (fun r M1 L1 => M1 = M ∧ L1 = L ∧ (r = dvF (M 2) (L 91) (M 94) x (M 1 0).toNatClampNeg ∧ ((r.toInt = -9 ∧ (M 1 0).toInt = 0) ∨ (0 ≤ r.toInt ∧ r.toInt < 10)))) := by
  refine enter_i RX5 rfl [(0, .ref (ad 93)), (1, .int x)] rfl (Nat.le_of_ble_eq_true rfl) (by decide +kernel) rfl ?_
  intro p e s m below meth c C hr
  have hF : ∀ k i, True → M k i = M k i := fun _ _ _ => rfl
  have hG : ∀ k i, True → L k i = L k i := fun _ _ _ => rfl
  have w0 : (vC M 0 0).toInt = (M 1 0).toInt := rfl
  have w1 : (vC M 0 1).toInt = (M 3 0).toInt := rfl
  have w2 : (vC M 0 2).toInt = (M 68 0).toInt := rfl
  have w3 : (vC M 0 3).toInt = (M 81 0).toInt := rfl
  obtain ⟨y0a, y0b⟩ := (show rg 0 10 (M 1 0) from hI 1 0 rfl)
  obtain ⟨y1a, y1b⟩ := (show rg 0 60 (M 3 0) from hI 3 0 rfl)
  obtain ⟨y2a, y2b⟩ := (show rg 0 8 (M 68 0) from hI 68 0 rfl)
  obtain ⟨y3a, y3b⟩ := (show rg 0 20 (M 81 0) from hI 81 0 rfl)
  have hI0 := hI
  have n02 := ixn y0a
  refine g_bipush C (-9) dX5_greatestByDivisor_0 (by decide) ?_
  refine g_istore_n C [(2, .int ((-9))), (0, .ref (ad 93)), (1, .int x)] dX5_greatestByDivisor_2 (by decide) rfl ?_
  refine g_iconst C 0 dX5_greatestByDivisor_3 (by decide) ?_
  refine g_istore_n C [(3, .int 0), (2, .int ((-9))), (0, .ref (ad 93)), (1, .int x)] dX5_greatestByDivisor_4 (by decide) rfl ?_
  have zy1 : (0 : Int32).toInt = 0 := by decide
  have zy2 : ((-9) : Int32).toInt = (-9) := by decide
  refine g_loop (α := Int32 × Int32 × MI × ML) (fun a => (11 - a.1.toInt).toNat) (fun a => (0 ≤ a.1.toInt) ∧ (a.1.toInt ≤ (M 1 0).toInt) ∧ ((a.2.1.toInt = -9 ∧ a.1.toInt = 0) ∨ (0 ≤ a.2.1.toInt ∧ a.2.1.toInt < 10)) ∧ (a.2.1 = dvF (M 2) (L 91) (M 94) x a.1.toNatClampNeg) ∧ IC a.2.2.1 ∧ (∀ k i, True → a.2.2.1 k i = M k i) ∧ (∀ k i, True → a.2.2.2 k i = L k i)) (fun a => a.2.2.1) (fun a => a.2.2.2) (fun a => [(3, .int a.1), (2, .int a.2.1), (0, .ref (ad 93)), (1, .int x)]) ((0 : Int32), (-9 : Int32), M, L) ⟨by show 0 ≤ (0 : Int32).toInt; omega, by show (0 : Int32).toInt ≤ (M 1 0).toInt; omega, by show ((-9 : Int32).toInt = -9 ∧ (0 : Int32).toInt = 0) ∨ (0 ≤ (-9 : Int32).toInt ∧ (-9 : Int32).toInt < 10); omega, by show (-9 : Int32) = dvF (M 2) (L 91) (M 94) x (0 : Int32).toNatClampNeg; rfl, hI, hF, hG⟩ rfl rfl rfl ?_
  rintro ⟨x3_5, x2_5, M_5, L_5⟩ ⟨j5_0, j5_1, j5_2, j5_3, hI, hF, hG⟩ ih_5
  dsimp only at j5_0 j5_1 j5_2 j5_3 hI hF hG ih_5 ⊢
  have n3 := ixn (x := x3_5) (by omega)
  have bE : rg 0 9 (M 2 x3_5.toNatClampNeg) := hI0 2 _
  obtain ⟨bE1, bE2⟩ := bE
  have nE := ixn bE1
  have eM : M_5 = M := funext (fun k => funext (fun i => hF k i trivial))
  have eL : L_5 = L := funext (fun k => funext (fun i => hG k i trivial))
  refine g_iload_n C 0 dX5_greatestByDivisor_5 rfl ?_
  refine g_aload_n C 2 dX5_greatestByDivisor_6 rfl ?_
  refine g_get C (.ref (ad 88)) 0 in_X5_greatestByDivisor_5 (List.mem_of_getElem? (i := 1) rfl) (by decide) (ce_plain ad cs _ _) rfl (by decide) rfl rfl dX5_greatestByDivisor_7 ?_
  refine g_get C (.ref (ad 1)) 0 in_X5_greatestByDivisor_6 (List.mem_of_getElem? (i := 2) rfl) (by decide) (ce_poll ad cs _ _) rfl (by decide) rfl rfl dX5_greatestByDivisor_10 ?_
  refine g_get C (.int (M_5 1 0)) 0 in_X5_greatestByDivisor_2 (List.mem_of_getElem? (i := 3) rfl) (by decide) (ce_cand ad cs _ _) rfl (by decide) rfl rfl dX5_greatestByDivisor_13 ?_
  refine g_ni (fun v3 ev3 => ?_)
  have gv3 : v3 = vC M 0 0 := ev3.trans (hF 1 0 trivial)
  have tv3 := congrArg Int32.toInt gv3
  obtain ⟨bv3, dv3⟩ := (show rg 0 10 v3 from (by rw [ev3]; exact hI 1 0 rfl))
  refine g_icmp_ge C 59 dX5_greatestByDivisor_16 (by decide) (fun c4 => ?_) (fun c4 => ?_)
  ·
    have f5 := fle rfl rfl c4
    refine g_iload_n C 1 dX5_greatestByDivisor_59 rfl ?_
    exact g_iret C hr ⟨funext (fun k => funext (fun i => hF k i trivial)), funext (fun k => funext (fun i => hG k i trivial)), ⟨by rw [j5_3, show x3_5.toNatClampNeg = (M 1 0).toNatClampNeg by omega], by omega⟩⟩ dX5_greatestByDivisor_60
  ·
    have f6 := fnle rfl rfl c4
    refine g_aload_n C 2 dX5_greatestByDivisor_19 rfl ?_
    refine g_get C (.ref (ad 88)) 0 in_X5_greatestByDivisor_5 (List.mem_of_getElem? (i := 1) rfl) (by decide) (ce_plain ad cs _ _) rfl (by decide) rfl rfl dX5_greatestByDivisor_20 ?_
    refine g_get C (.ref (ad 1)) 0 in_X5_greatestByDivisor_6 (List.mem_of_getElem? (i := 2) rfl) (by decide) (ce_poll ad cs _ _) rfl (by decide) rfl rfl dX5_greatestByDivisor_23 ?_
    refine g_get C (.ref (ad 2)) 1 in_X5_greatestByDivisor_2 (List.mem_of_getElem? (i := 4) rfl) (by decide) (ce_cand ad cs _ _) rfl (by decide) rfl rfl dX5_greatestByDivisor_26 ?_
    refine g_iload_n C 0 dX5_greatestByDivisor_29 rfl ?_
    have nx3_5 := ixn (x := x3_5) (by omega)
    refine g_iald C (by decide) (ce_crow ad cs _ _) (fin' (n := 10) rfl (by omega) (by omega)) dX5_greatestByDivisor_30 ?_
    refine g_ni (fun v7 ev7 => ?_)
    have gv7 : v7 = vC M 1 x3_5.toNatClampNeg := ev7.trans (hF 2 x3_5.toNatClampNeg trivial)
    have tv7 := congrArg Int32.toInt gv7
    obtain ⟨bv7, dv7⟩ := (show rg 0 9 v7 from (by rw [ev7]; exact hI 2 x3_5.toNatClampNeg))
    have gv7 : v7 = M 2 x3_5.toNatClampNeg := gv7
    subst gv7
    refine g_istore C [(4, .int ((M 2 x3_5.toNatClampNeg))), (3, .int x3_5), (2, .int x2_5), (0, .ref (ad 93)), (1, .int x)] dX5_greatestByDivisor_31 (by decide) rfl ?_
    refine g_iload_n C 2 dX5_greatestByDivisor_33 rfl ?_
    refine g_bipush C (-9) dX5_greatestByDivisor_34 (by decide) ?_
    refine g_icmp_eq C 50 dX5_greatestByDivisor_36 (by decide) (fun c8 => ?_) (fun c8 => ?_)
    ·
      have f9 := feq rfl (by decide : ((-9) : Int32).toInt = (-9)) c8
      refine g_iload C 0 dX5_greatestByDivisor_50 rfl ?_
      refine g_istore_n C [(2, .int ((M 2 x3_5.toNatClampNeg))), (4, .int ((M 2 x3_5.toNatClampNeg))), (3, .int x3_5), (0, .ref (ad 93)), (1, .int x)] dX5_greatestByDivisor_52 (by decide) rfl ?_
      obtain ⟨v10, ev10⟩ : ∃ y : Int32, y = x3_5 + 1 := ⟨_, rfl⟩
      try have fv10 := fadd rfl (by decide : (1 : Int32).toInt = 1) ev10 (by omega) (by omega)
      refine g_iinc C 2 v10 [(3, .int v10), (2, .int ((M 2 x3_5.toNatClampNeg))), (4, .int ((M 2 x3_5.toNatClampNeg))), (0, .ref (ad 93)), (1, .int x)] dX5_greatestByDivisor_53 rfl (by rw [ev10]; rfl) (by decide) rfl ?_
      refine g_goto C 5 dX5_greatestByDivisor_56 (by decide) ?_
      refine g_lv [0, 1, 3, 4] [(3, .int v10), (2, .int ((M 2 x3_5.toNatClampNeg))), (0, .ref (ad 93)), (1, .int x)] rfl ?_
      have nv := ixn (x := v10) (by omega)
      have iv : v10.toNatClampNeg = x3_5.toNatClampNeg + 1 := by omega
      exact ih_5 (v10, ((M 2 x3_5.toNatClampNeg)), M_5, L_5) ⟨by show 0 ≤ v10.toInt; omega, by show v10.toInt ≤ (M 1 0).toInt; omega, by show (((M 2 x3_5.toNatClampNeg)).toInt = -9 ∧ v10.toInt = 0) ∨ (0 ≤ ((M 2 x3_5.toNatClampNeg)).toInt ∧ ((M 2 x3_5.toNatClampNeg)).toInt < 10); omega, by show ((M 2 x3_5.toNatClampNeg)) = dvF (M 2) (L 91) (M 94) x v10.toNatClampNeg; rw [iv]; show _ = (if (dvF (M 2) (L 91) (M 94) x x3_5.toNatClampNeg).toInt = -9 ∨ (L 91 (dvF (M 2) (L 91) (M 94) x x3_5.toNatClampNeg).toNatClampNeg * (1 + x * M 94 (M 2 x3_5.toNatClampNeg).toNatClampNeg).toInt64).toInt < (L 91 (M 2 x3_5.toNatClampNeg).toNatClampNeg * (1 + x * M 94 (dvF (M 2) (L 91) (M 94) x x3_5.toNatClampNeg).toNatClampNeg).toInt64).toInt then (M 2 x3_5.toNatClampNeg) else dvF (M 2) (L 91) (M 94) x x3_5.toNatClampNeg); rw [← j5_3]; first | rw [if_pos (by omega)] | rw [if_neg (by omega)], hI, hF, hG⟩ (by show (11 - v10.toInt).toNat < (11 - x3_5.toInt).toNat; omega)
    ·
      have f11 := fne rfl (by decide : ((-9) : Int32).toInt = (-9)) c8
      refine g_aload_n C 3 dX5_greatestByDivisor_39 rfl ?_
      refine g_iload C 0 dX5_greatestByDivisor_40 rfl ?_
      refine g_iload_n C 2 dX5_greatestByDivisor_42 rfl ?_
      refine g_iload_n C 4 dX5_greatestByDivisor_43 rfl ?_
      refine g_callVi C (n := 3) (As := [.int ((M 2 x3_5.toNatClampNeg)), .int x2_5, .int x]) (st := []) (k_X5_isMoreByDivisor l D ad cs _ _ ((M 2 x3_5.toNatClampNeg)) x2_5 x hI ⟨by omega, by omega⟩ ⟨by omega, by omega⟩) gX5_greatestByDivisor_X5_isMoreByDivisor rfl rfl rfl (by decide +kernel) ⟨Nat.le_of_ble_eq_true rfl, Nat.le_of_ble_eq_true rfl⟩ rfl (Nat.le_of_ble_eq_true rfl) ⟨Nat.zero_le _, Nat.zero_le _⟩ (by decide) (ce_plain ad cs _ _) rfl rfl dX5_greatestByDivisor_44 (fun r12 M13 L14 hr12 => ?_)
      obtain ⟨hq1, hq2, hr12⟩ := hr12
      obtain rfl := hq1.symm
      obtain rfl := hq2.symm
      rw [eM, eL] at hr12
      obtain ⟨bar12, bbr12⟩ := zo_b hr12
      refine g_if_eq C 53 dX5_greatestByDivisor_47 (by decide) (fun c15 => ?_) (fun c15 => ?_)
      ·
        have f16 := feq rfl (by decide : (0 : Int32).toInt = 0) c15
        have pr12 := zo_f hr12 c15
        try dsimp only [hasC, hasB, hasX, hasM, ofS, ofK, bt] at pr12
        obtain ⟨v17, ev17⟩ : ∃ y : Int32, y = x3_5 + 1 := ⟨_, rfl⟩
        try have fv17 := fadd rfl (by decide : (1 : Int32).toInt = 1) ev17 (by omega) (by omega)
        refine g_iinc C 1 v17 [(3, .int v17), (4, .int ((M 2 x3_5.toNatClampNeg))), (2, .int x2_5), (0, .ref (ad 93)), (1, .int x)] dX5_greatestByDivisor_53 rfl (by rw [ev17]; rfl) (by decide) rfl ?_
        refine g_goto C 5 dX5_greatestByDivisor_56 (by decide) ?_
        refine g_lv [0, 2, 3, 4] [(3, .int v17), (2, .int x2_5), (0, .ref (ad 93)), (1, .int x)] rfl ?_
        have nv := ixn (x := v17) (by omega)
        have iv : v17.toNatClampNeg = x3_5.toNatClampNeg + 1 := by omega
        exact ih_5 (v17, x2_5, M_5, L_5) ⟨by show 0 ≤ v17.toInt; omega, by show v17.toInt ≤ (M 1 0).toInt; omega, by show (x2_5.toInt = -9 ∧ v17.toInt = 0) ∨ (0 ≤ x2_5.toInt ∧ x2_5.toInt < 10); omega, by show x2_5 = dvF (M 2) (L 91) (M 94) x v17.toNatClampNeg; rw [iv]; show _ = (if (dvF (M 2) (L 91) (M 94) x x3_5.toNatClampNeg).toInt = -9 ∨ (L 91 (dvF (M 2) (L 91) (M 94) x x3_5.toNatClampNeg).toNatClampNeg * (1 + x * M 94 (M 2 x3_5.toNatClampNeg).toNatClampNeg).toInt64).toInt < (L 91 (M 2 x3_5.toNatClampNeg).toNatClampNeg * (1 + x * M 94 (dvF (M 2) (L 91) (M 94) x x3_5.toNatClampNeg).toNatClampNeg).toInt64).toInt then (M 2 x3_5.toNatClampNeg) else dvF (M 2) (L 91) (M 94) x x3_5.toNatClampNeg); rw [← j5_3]; first | rw [if_pos (by omega)] | rw [if_neg (by omega)], hI, hF, hG⟩ (by show (11 - v17.toInt).toNat < (11 - x3_5.toInt).toNat; omega)
      ·
        have f18 := fne rfl (by decide : (0 : Int32).toInt = 0) c15
        have pr12 := zo_t hr12 c15
        try dsimp only [hasC, hasB, hasX, hasM, ofS, ofK, bt] at pr12
        refine g_iload C 0 dX5_greatestByDivisor_50 rfl ?_
        refine g_istore_n C [(2, .int ((M 2 x3_5.toNatClampNeg))), (4, .int ((M 2 x3_5.toNatClampNeg))), (3, .int x3_5), (0, .ref (ad 93)), (1, .int x)] dX5_greatestByDivisor_52 (by decide) rfl ?_
        obtain ⟨v19, ev19⟩ : ∃ y : Int32, y = x3_5 + 1 := ⟨_, rfl⟩
        try have fv19 := fadd rfl (by decide : (1 : Int32).toInt = 1) ev19 (by omega) (by omega)
        refine g_iinc C 2 v19 [(3, .int v19), (2, .int ((M 2 x3_5.toNatClampNeg))), (4, .int ((M 2 x3_5.toNatClampNeg))), (0, .ref (ad 93)), (1, .int x)] dX5_greatestByDivisor_53 rfl (by rw [ev19]; rfl) (by decide) rfl ?_
        refine g_goto C 5 dX5_greatestByDivisor_56 (by decide) ?_
        refine g_lv [0, 1, 3, 4] [(3, .int v19), (2, .int ((M 2 x3_5.toNatClampNeg))), (0, .ref (ad 93)), (1, .int x)] rfl ?_
        have nv := ixn (x := v19) (by omega)
        have iv : v19.toNatClampNeg = x3_5.toNatClampNeg + 1 := by omega
        exact ih_5 (v19, ((M 2 x3_5.toNatClampNeg)), M_5, L_5) ⟨by show 0 ≤ v19.toInt; omega, by show v19.toInt ≤ (M 1 0).toInt; omega, by show (((M 2 x3_5.toNatClampNeg)).toInt = -9 ∧ v19.toInt = 0) ∨ (0 ≤ ((M 2 x3_5.toNatClampNeg)).toInt ∧ ((M 2 x3_5.toNatClampNeg)).toInt < 10); omega, by show ((M 2 x3_5.toNatClampNeg)) = dvF (M 2) (L 91) (M 94) x v19.toNatClampNeg; rw [iv]; show _ = (if (dvF (M 2) (L 91) (M 94) x x3_5.toNatClampNeg).toInt = -9 ∨ (L 91 (dvF (M 2) (L 91) (M 94) x x3_5.toNatClampNeg).toNatClampNeg * (1 + x * M 94 (M 2 x3_5.toNatClampNeg).toNatClampNeg).toInt64).toInt < (L 91 (M 2 x3_5.toNatClampNeg).toNatClampNeg * (1 + x * M 94 (dvF (M 2) (L 91) (M 94) x x3_5.toNatClampNeg).toNatClampNeg).toInt64).toInt then (M 2 x3_5.toNatClampNeg) else dvF (M 2) (L 91) (M 94) x x3_5.toNatClampNeg); rw [← j5_3]; first | rw [if_pos (by omega)] | rw [if_neg (by omega)], hI, hF, hG⟩ (by show (11 - v19.toInt).toNat < (11 - x3_5.toInt).toNat; omega)
set_option maxHeartbeats 4000000 in
set_option maxRecDepth 100000 in
theorem k_X5_sbd_a (l : Launch) (D : va_G) (ad : Nat → Nat) (cs : Nat → ClassId) (M : MI) (L : ML) (x : Int32) (hI : IC M) (hg0 : (M 125 0).toInt = 0) (hm0 : (M 125 2).toInt = 0) (hn1 : 1 ≤ (M 1 0).toInt) : Cv l yX5_seatByDivisors wsX5_seatByDivisors ({ frames := 2, cells := 0, slots := 0, locals := 51 }) D ad cs [.ref (ad 93), .int x, .ref (ad 125)] M L (fun M1 L1 => (RP (M1 125 0) (M1 126) (M1 125 2) (M1 127) (M1 128) (dvS (M 2) (foK (stF (vC M) (M 90)) (M 89) (M 88 3).toNatClampNeg (fun _ => 0)) x (M 1 0).toNatClampNeg ((M 88 4).toNatClampNeg)) (oneR (dvS (M 2) (foK (stF (vC M) (M 90)) (M 89) (M 88 3).toNatClampNeg (fun _ => 0)) x (M 1 0).toNatClampNeg ((M 88 4).toNatClampNeg)))) ∧ IC M1 ∧ (∀ k i, k ≠ 94 ∧ ¬ (k = 125 ∧ i = 0) ∧ ¬ (k = 125 ∧ i = 2) ∧ k ≠ 126 ∧ k ≠ 127 ∧ k ≠ 128 → M1 k i = M k i) ∧ ∀ k i, k ≠ 91 ∧ k ≠ 92 ∧ ¬ (131 ≤ k ∧ k < 191) → L1 k i = L k i) := by
  refine enter_v RX5 rfl [(0, .ref (ad 93)), (1, .int x), (2, .ref (ad 125))] rfl (Nat.le_of_ble_eq_true rfl) (by decide +kernel) rfl ?_
  intro p e s m below meth c C hr
  have hF : ∀ k i, k ≠ 94 ∧ ¬ (k = 125 ∧ i = 0) ∧ ¬ (k = 125 ∧ i = 2) ∧ k ≠ 126 ∧ k ≠ 127 ∧ k ≠ 128 → M k i = M k i := fun _ _ _ => rfl
  have hG : ∀ k i, k ≠ 91 ∧ k ≠ 92 ∧ ¬ (131 ≤ k ∧ k < 191) → L k i = L k i := fun _ _ _ => rfl
  have w0 : (vC M 0 0).toInt = (M 1 0).toInt := rfl
  have w1 : (vC M 0 1).toInt = (M 3 0).toInt := rfl
  have w2 : (vC M 0 2).toInt = (M 68 0).toInt := rfl
  have w3 : (vC M 0 3).toInt = (M 81 0).toInt := rfl
  obtain ⟨y0a, y0b⟩ := (show rg 0 10 (M 1 0) from hI 1 0 rfl)
  obtain ⟨y1a, y1b⟩ := (show rg 0 60 (M 3 0) from hI 3 0 rfl)
  obtain ⟨y2a, y2b⟩ := (show rg 0 8 (M 68 0) from hI 68 0 rfl)
  obtain ⟨y3a, y3b⟩ := (show rg 0 20 (M 81 0) from hI 81 0 rfl)
  have hI0 := hI
  obtain ⟨sa, sb⟩ := (show rg 0 30 (M 88 4) from (hI 88 4).2 rfl)
  have nsd := ixn sa
  have n02 := ixn y0a
  have k125_0 : M 125 0 = M 125 0 := rfl
  have k125_2 : M 125 2 = M 125 2 := rfl
  have p91 : L 91 = L 91 := rfl
  have p92 : L 92 = L 92 := rfl
  have q94 : M 94 = M 94 := rfl
  have q126 : M 126 = M 126 := rfl
  have q127 : M 127 = M 127 := rfl
  have q128 : M 128 = M 128 := rfl
  have hV : vC M = vC M := rfl
  refine g_aload_n C 0 dX5_seatByDivisors_0 rfl ?_
  refine g_get C (.ref (ad 88)) 0 in_X5_seatByDivisors_5 (List.mem_of_getElem? (i := 1) rfl) (by decide) (ce_plain ad cs _ _) rfl (by decide) rfl rfl dX5_seatByDivisors_1 ?_
  refine g_callVv C (n := 0) (As := []) (st := []) (k_X6_tallyFirstIn l D ad cs _ _  hI ) gX5_seatByDivisors_X6_tallyFirstIn rfl rfl rfl (by decide +kernel) ⟨Nat.le_of_ble_eq_true rfl, Nat.le_of_ble_eq_true rfl⟩ rfl (Nat.le_of_ble_eq_true rfl) ⟨Nat.zero_le _, Nat.zero_le _⟩ (by decide) (ce_poll ad cs _ _) rfl rfl dX5_seatByDivisors_4 (fun M2 L3 hr1 => ?_)
  obtain ⟨hr1, hI, hFr1, hGr1⟩ := hr1
  have hF : ∀ k i, k ≠ 94 ∧ ¬ (k = 125 ∧ i = 0) ∧ ¬ (k = 125 ∧ i = 2) ∧ k ≠ 126 ∧ k ≠ 127 ∧ k ≠ 128 → M2 k i = M k i := fun k i hk => by (rw [hFr1 k i trivial]; try exact hF k i hk)
  have hG : ∀ k i, k ≠ 91 ∧ k ≠ 92 ∧ ¬ (131 ≤ k ∧ k < 191) → L3 k i = L k i := fun k i hk => by (rw [hGr1 k i (by omega)]; try exact hG k i hk)
  have hV : vC M2 = vC M := by rw [vC_fr (fun k hk => funext (fun i => hFr1 k i trivial)), hV]
  have k125_0 : M2 125 0 = M 125 0 := (hFr1 125 0 trivial).trans k125_0
  have k125_2 : M2 125 2 = M 125 2 := (hFr1 125 2 trivial).trans k125_2
  have kt125_0 := congrArg Int32.toInt k125_0
  have kt125_2 := congrArg Int32.toInt k125_2
  have p91 : L3 91 = L3 91 := rfl
  have p92 : L3 92 = L3 92 := rfl
  have q94 : M2 94 = M 94 := (funext (fun i => hFr1 94 i trivial)).trans q94
  have q126 : M2 126 = M 126 := (funext (fun i => hFr1 126 i trivial)).trans q126
  have q127 : M2 127 = M 127 := (funext (fun i => hFr1 127 i trivial)).trans q127
  have q128 : M2 128 = M 128 := (funext (fun i => hFr1 128 i trivial)).trans q128
  have htf := hr1
  refine g_iconst C 0 dX5_seatByDivisors_7 (by decide) ?_
  refine g_istore_n C [(3, .int 0), (0, .ref (ad 93)), (1, .int x), (2, .ref (ad 125))] dX5_seatByDivisors_8 (by decide) rfl ?_
  have zy4 : (0 : Int32).toInt = 0 := by decide
  refine g_loop (α := Int32 × MI × ML) (fun a => (11 - a.1.toInt).toNat) (fun a => (0 ≤ a.1.toInt) ∧ (a.1.toInt ≤ 10) ∧ (∀ c : Nat, c < a.1.toNatClampNeg → a.2.1 94 c = 0) ∧ ((a.2.1 125 0).toInt = 0 ∧ (a.2.1 125 2).toInt = 0) ∧ (∀ c, c < 10 → a.2.2 91 c = (foK (stF (vC M) (M 90)) (M 89) (M 88 3).toNatClampNeg (fun _ => 0)) c) ∧ IC a.2.1 ∧ (∀ k i, k ≠ 94 ∧ ¬ (k = 125 ∧ i = 0) ∧ ¬ (k = 125 ∧ i = 2) ∧ k ≠ 126 ∧ k ≠ 127 ∧ k ≠ 128 → a.2.1 k i = M k i) ∧ (∀ k i, k ≠ 91 ∧ k ≠ 92 ∧ ¬ (131 ≤ k ∧ k < 191) → a.2.2 k i = L k i)) (fun a => a.2.1) (fun a => a.2.2) (fun a => [(3, .int a.1), (0, .ref (ad 93)), (1, .int x), (2, .ref (ad 125))]) ((0 : Int32), M2, L3) ⟨by show 0 ≤ (0 : Int32).toInt; omega, by show (0 : Int32).toInt ≤ 10; omega, by show ∀ c : Nat, c < (0 : Int32).toNatClampNeg → M2 94 c = 0; intro c hc; exact absurd hc (by show ¬ c < 0; omega), by show (M2 125 0).toInt = 0 ∧ (M2 125 2).toInt = 0; exact ⟨by rw [k125_0]; exact hg0, by rw [k125_2]; exact hm0⟩, by show ∀ c, c < 10 → L3 91 c = (foK (stF (vC M) (M 90)) (M 89) (M 88 3).toNatClampNeg (fun _ => 0)) c; exact fun c hc => (htf c hc).1, hI, hF, hG⟩ rfl rfl rfl ?_
  rintro ⟨x3_9, M_9, L_9⟩ ⟨j9_0, j9_1, j9_2, j9_3, j9_4, hI, hF, hG⟩ ih_9
  dsimp only at j9_0 j9_1 j9_2 j9_3 j9_4 hI hF hG ih_9 ⊢
  have k125_0 : M_9 125 0 = M_9 125 0 := rfl
  have k125_2 : M_9 125 2 = M_9 125 2 := rfl
  have hV : vC M_9 = vC M_9 := rfl
  have p91 : L_9 91 = L_9 91 := rfl
  have p92 : L_9 92 = L_9 92 := rfl
  have q94 : M_9 94 = M_9 94 := rfl
  have q126 : M_9 126 = M_9 126 := rfl
  have q127 : M_9 127 = M_9 127 := rfl
  have q128 : M_9 128 = M_9 128 := rfl
  have n3 := ixn (x := x3_9) (by omega)
  refine g_iload_n C 0 dX5_seatByDivisors_9 rfl ?_
  refine g_bipush C 10 dX5_seatByDivisors_10 (by decide) ?_
  refine g_icmp_ge C 28 dX5_seatByDivisors_12 (by decide) (fun c5 => ?_) (fun c5 => ?_)
  ·
    have f6 := fle (by decide : (10 : Int32).toInt = 10) rfl c5
    refine g_iconst C 0 dX5_seatByDivisors_28 (by decide) ?_
    refine g_istore_n C [(3, .int 0), (0, .ref (ad 93)), (1, .int x), (2, .ref (ad 125))] dX5_seatByDivisors_29 (by decide) rfl ?_
    have zy7 : (0 : Int32).toInt = 0 := by decide
    refine g_loop (α := Int32 × MI × ML) (fun a => (31 - a.1.toInt).toNat) (fun a => (0 ≤ a.1.toInt) ∧ (a.1.toInt ≤ (M 88 4).toInt) ∧ ((a.2.1 125 0).toInt = a.1.toInt) ∧ ((a.2.1 125 2).toInt = a.1.toInt) ∧ (∀ c, c < 10 → a.2.1 94 c = dvH (M 2) (foK (stF (vC M) (M 90)) (M 89) (M 88 3).toNatClampNeg (fun _ => 0)) x (M 1 0).toNatClampNeg a.1.toNatClampNeg c) ∧ (∀ c, c < 10 → a.2.2 91 c = (foK (stF (vC M) (M 90)) (M 89) (M 88 3).toNatClampNeg (fun _ => 0)) c) ∧ (RP (a.2.1 125 0) (a.2.1 126) (a.2.1 125 2) (a.2.1 127) (a.2.1 128) (dvS (M 2) (foK (stF (vC M) (M 90)) (M 89) (M 88 3).toNatClampNeg (fun _ => 0)) x (M 1 0).toNatClampNeg a.1.toNatClampNeg) (oneR (dvS (M 2) (foK (stF (vC M) (M 90)) (M 89) (M 88 3).toNatClampNeg (fun _ => 0)) x (M 1 0).toNatClampNeg a.1.toNatClampNeg))) ∧ IC a.2.1 ∧ (∀ k i, k ≠ 94 ∧ ¬ (k = 125 ∧ i = 0) ∧ ¬ (k = 125 ∧ i = 2) ∧ k ≠ 126 ∧ k ≠ 127 ∧ k ≠ 128 → a.2.1 k i = M k i) ∧ (∀ k i, k ≠ 91 ∧ k ≠ 92 ∧ ¬ (131 ≤ k ∧ k < 191) → a.2.2 k i = L k i)) (fun a => a.2.1) (fun a => a.2.2) (fun a => [(3, .int a.1), (0, .ref (ad 93)), (1, .int x), (2, .ref (ad 125))]) ((0 : Int32), M_9, L_9) ⟨by show 0 ≤ (0 : Int32).toInt; omega, by show (0 : Int32).toInt ≤ (M 88 4).toInt; omega, by show (M_9 125 0).toInt = (0 : Int32).toInt; rw [k125_0]; exact j9_3.1, by show (M_9 125 2).toInt = (0 : Int32).toInt; rw [k125_2]; exact j9_3.2, by show ∀ c, c < 10 → M_9 94 c = dvH (M 2) (foK (stF (vC M) (M 90)) (M 89) (M 88 3).toNatClampNeg (fun _ => 0)) x (M 1 0).toNatClampNeg (0 : Int32).toNatClampNeg c; exact fun c hc => j9_2 c (by omega), by show ∀ c, c < 10 → L_9 91 c = (foK (stF (vC M) (M 90)) (M 89) (M 88 3).toNatClampNeg (fun _ => 0)) c; exact j9_4, by show RP (M_9 125 0) (M_9 126) (M_9 125 2) (M_9 127) (M_9 128) (dvS (M 2) (foK (stF (vC M) (M 90)) (M 89) (M 88 3).toNatClampNeg (fun _ => 0)) x (M 1 0).toNatClampNeg (0 : Int32).toNatClampNeg) (oneR (dvS (M 2) (foK (stF (vC M) (M 90)) (M 89) (M 88 3).toNatClampNeg (fun _ => 0)) x (M 1 0).toNatClampNeg (0 : Int32).toNatClampNeg)); exact RP_0 (by rw [k125_0]; exact j9_3.1) (by rw [k125_2]; exact j9_3.2), hI, hF, hG⟩ rfl rfl rfl ?_
    rintro ⟨x3_30, M_30, L_30⟩ ⟨j30_0, j30_1, j30_2, j30_3, j30_4, j30_5, j30_6, hI, hF, hG⟩ ih_30
    dsimp only at j30_0 j30_1 j30_2 j30_3 j30_4 j30_5 j30_6 hI hF hG ih_30 ⊢
    have k125_0 : M_30 125 0 = M_30 125 0 := rfl
    have k125_2 : M_30 125 2 = M_30 125 2 := rfl
    have hV : vC M_30 = vC M_30 := rfl
    have p91 : L_30 91 = L_30 91 := rfl
    have p92 : L_30 92 = L_30 92 := rfl
    have q94 : M_30 94 = M_30 94 := rfl
    have q126 : M_30 126 = M_30 126 := rfl
    have q127 : M_30 127 = M_30 127 := rfl
    have q128 : M_30 128 = M_30 128 := rfl
    refine g_iload_n C 0 dX5_seatByDivisors_30 rfl ?_
    refine g_aload_n C 1 dX5_seatByDivisors_31 rfl ?_
    refine g_get C (.ref (ad 88)) 0 in_X5_seatByDivisors_5 (List.mem_of_getElem? (i := 1) rfl) (by decide) (ce_plain ad cs _ _) rfl (by decide) rfl rfl dX5_seatByDivisors_32 ?_
    refine g_get C (.int (M_30 88 4)) 4 in_X5_seatByDivisors_6 (List.mem_of_getElem? (i := 3) rfl) (by decide) (ce_poll ad cs _ _) rfl (by decide) rfl rfl dX5_seatByDivisors_35 ?_
    refine g_ni (fun v8 ev8 => ?_)
    have gv8 : v8 = M 88 4 := ev8.trans (hF 88 4 (by omega))
    have tv8 := congrArg Int32.toInt gv8
    obtain ⟨bv8, dv8⟩ := (show rg 0 30 v8 from (by rw [ev8]; exact (hI 88 4).2 rfl))
    refine g_icmp_ge C 90 dX5_seatByDivisors_38 (by decide) (fun c9 => ?_) (fun c9 => ?_)
    ·
      have f10 := fle rfl rfl c9
      exact g_vret C hr ⟨(by have e9 : x3_30.toNatClampNeg = (M 88 4).toNatClampNeg := (by have := ixn (x := x3_30) (by omega); omega); rw [e9] at j30_6; exact j30_6), hI, hF, hG⟩ dX5_seatByDivisors_90
    ·
      have f11 := fnle rfl rfl c9
      refine g_aload_n C 1 dX5_seatByDivisors_41 rfl ?_
      refine g_iload_n C 2 dX5_seatByDivisors_42 rfl ?_
      refine g_callVi C (n := 1) (As := [.int x]) (st := []) (k_X5_greatestByDivisor l D ad cs _ _ x hI ) gX5_seatByDivisors_X5_greatestByDivisor rfl rfl rfl (by decide +kernel) ⟨Nat.le_of_ble_eq_true rfl, Nat.le_of_ble_eq_true rfl⟩ rfl (Nat.le_of_ble_eq_true rfl) ⟨Nat.zero_le _, Nat.zero_le _⟩ (by decide) (ce_plain ad cs _ _) rfl rfl dX5_seatByDivisors_43 (fun r12 M13 L14 hr12 => ?_)
      obtain ⟨hq1, hq2, hr12⟩ := hr12
      obtain rfl := hq1.symm
      obtain rfl := hq2.symm
      obtain ⟨yr12, br12⟩ := hr12
      have hne : (M_30 1 0).toInt = (M 1 0).toInt := congrArg Int32.toInt (hF 1 0 (by omega))
      have nr9 := ixn (x := r12) (by omega)
      rw [show M_30 2 = M 2 from funext (fun i => hF 2 i (by omega)), show M_30 1 0 = M 1 0 from hF 1 0 (by omega)] at yr12
      have eb : r12 = dvF (M 2) (foK (stF (vC M) (M 90)) (M 89) (M 88 3).toNatClampNeg (fun _ => 0)) (dvH (M 2) (foK (stF (vC M) (M 90)) (M 89) (M 88 3).toNatClampNeg (fun _ => 0)) x (M 1 0).toNatClampNeg x3_30.toNatClampNeg) x (M 1 0).toNatClampNeg := yr12.trans (dvF_ext (row := M 2) (H := M_30 94) (U := L_30 91) (fun i => hI0 2 i) j30_4 j30_5 (M 1 0).toNatClampNeg).1
      refine g_istore C [(4, .int r12), (3, .int x3_30), (0, .ref (ad 93)), (1, .int x), (2, .ref (ad 125))] dX5_seatByDivisors_46 (by decide) rfl ?_
      refine g_iload C 0 dX5_seatByDivisors_48 rfl ?_
      refine g_bipush C (-9) dX5_seatByDivisors_50 (by decide) ?_
      refine g_icmp_ne C 56 dX5_seatByDivisors_52 (by decide) (fun c15 => ?_) (fun c15 => ?_)
      ·
        have f16 := fne rfl (by decide : ((-9) : Int32).toInt = (-9)) c15
        refine g_aload_n C 4 dX5_seatByDivisors_56 rfl ?_
        refine g_iconst C 1 dX5_seatByDivisors_57 (by decide) ?_
        refine g_iload C 0 dX5_seatByDivisors_58 rfl ?_
        refine g_aload_n C 2 dX5_seatByDivisors_60 rfl ?_
        refine g_get C (.ref (ad 88)) 0 in_X5_seatByDivisors_5 (List.mem_of_getElem? (i := 1) rfl) (by decide) (ce_plain ad cs _ _) rfl (by decide) rfl rfl dX5_seatByDivisors_61 ?_
        refine g_callVv C (n := 3) (As := [.int 1, .int r12, .ref (ad 88)]) (st := []) (k_X7_note_a l D ad cs _ _ 1 r12 hI (by omega)) gX5_seatByDivisors_X7_note rfl rfl rfl (by decide +kernel) ⟨Nat.le_of_ble_eq_true rfl, Nat.le_of_ble_eq_true rfl⟩ rfl (Nat.le_of_ble_eq_true rfl) ⟨Nat.zero_le _, Nat.zero_le _⟩ (by decide) (ce_ra ad cs _ _) rfl rfl dX5_seatByDivisors_64 (fun M18 L19 hr17 => ?_)
        obtain ⟨hr17, hI, hFr17, hGr17⟩ := hr17
        have hF : ∀ k i, k ≠ 94 ∧ ¬ (k = 125 ∧ i = 0) ∧ ¬ (k = 125 ∧ i = 2) ∧ k ≠ 126 ∧ k ≠ 127 ∧ k ≠ 128 → M18 k i = M k i := fun k i hk => by (rw [hFr17 k i (by omega)]; try exact hF k i hk)
        have hG : ∀ k i, k ≠ 91 ∧ k ≠ 92 ∧ ¬ (131 ≤ k ∧ k < 191) → L19 k i = L k i := fun k i hk => by (rw [hGr17 k i (by omega)]; try exact hG k i hk)
        have hV : vC M18 = vC M_30 := by rw [vC_fr (fun k hk => funext (fun i => hFr17 k i (by omega))), hV]
        have k125_0 : M18 125 0 = M_30 125 0 := (hFr17 125 0 (by omega)).trans k125_0
        have k125_2 : M18 125 2 = M18 125 2 := rfl
        have kt125_0 := congrArg Int32.toInt k125_0
        have kt125_2 := congrArg Int32.toInt k125_2
        have p91 : L19 91 = L_30 91 := (funext (fun i => hGr17 91 i (by omega))).trans p91
        have p92 : L19 92 = L_30 92 := (funext (fun i => hGr17 92 i (by omega))).trans p92
        have q94 : M18 94 = M_30 94 := (funext (fun i => hFr17 94 i (by omega))).trans q94
        have q126 : M18 126 = M_30 126 := (funext (fun i => hFr17 126 i (by omega))).trans q126
        have q127 : M18 127 = M18 127 := rfl
        have q128 : M18 128 = M18 128 := rfl
        obtain ⟨np2, npw, nph⟩ := hr17
        have np0 : M18 125 0 = M_30 125 0 := hFr17 125 0 (by omega)
        have np0t := congrArg Int32.toInt np0
        have nps : M18 126 = M_30 126 := funext (fun i => hFr17 126 i (by omega))
        have hb9 : RP (M_30 125 0) (M_30 126) (M_30 125 2) (M_30 127) (M_30 128) _ _ := j30_6
        rw [← np0, ← nps] at hb9
        have rp1 := RP_note hb9 np2 npw nph
        refine g_aload_n C 4 dX5_seatByDivisors_67 rfl ?_
        refine g_iload C 0 dX5_seatByDivisors_68 rfl ?_
        refine g_callVv C (n := 1) (As := [.int r12]) (st := []) (k_X7_give_a l D ad cs _ _ r12 hI (by omega)) gX5_seatByDivisors_X7_give rfl rfl rfl (by decide +kernel) ⟨Nat.le_of_ble_eq_true rfl, Nat.le_of_ble_eq_true rfl⟩ rfl (Nat.le_of_ble_eq_true rfl) ⟨Nat.zero_le _, Nat.zero_le _⟩ (by decide) (ce_ra ad cs _ _) rfl rfl dX5_seatByDivisors_70 (fun M21 L22 hr20 => ?_)
        obtain ⟨hr20, hI, hFr20, hGr20⟩ := hr20
        have hF : ∀ k i, k ≠ 94 ∧ ¬ (k = 125 ∧ i = 0) ∧ ¬ (k = 125 ∧ i = 2) ∧ k ≠ 126 ∧ k ≠ 127 ∧ k ≠ 128 → M21 k i = M k i := fun k i hk => by (rw [hFr20 k i (by omega)]; try exact hF k i hk)
        have hG : ∀ k i, k ≠ 91 ∧ k ≠ 92 ∧ ¬ (131 ≤ k ∧ k < 191) → L22 k i = L k i := fun k i hk => by (rw [hGr20 k i trivial]; try exact hG k i hk)
        have hV : vC M21 = vC M_30 := by rw [vC_fr (fun k hk => funext (fun i => hFr20 k i (by omega))), hV]
        have k125_2 : M21 125 2 = M18 125 2 := (hFr20 125 2 (by omega)).trans k125_2
        have k125_0 : M21 125 0 = M21 125 0 := rfl
        have kt125_0 := congrArg Int32.toInt k125_0
        have kt125_2 := congrArg Int32.toInt k125_2
        have p91 : L22 91 = L_30 91 := (funext (fun i => hGr20 91 i trivial)).trans p91
        have p92 : L22 92 = L_30 92 := (funext (fun i => hGr20 92 i trivial)).trans p92
        have q94 : M21 94 = M_30 94 := (funext (fun i => hFr20 94 i (by omega))).trans q94
        have q126 : M21 126 = M21 126 := rfl
        have q127 : M21 127 = M18 127 := (funext (fun i => hFr20 127 i (by omega))).trans q127
        have q128 : M21 128 = M18 128 := (funext (fun i => hFr20 128 i (by omega))).trans q128
        obtain ⟨gv0, gvs⟩ := hr20
        have gv2 : M21 125 2 = M18 125 2 := hFr20 125 2 (by omega)
        have gv2t := congrArg Int32.toInt gv2
        have gv127 : M21 127 = M18 127 := funext (fun i => hFr20 127 i (by omega))
        have gv128 : M21 128 = M18 128 := funext (fun i => hFr20 128 i (by omega))
        have hb9 : RP (M18 125 0) (M18 126) (M18 125 2) (M18 127) (M18 128) _ _ := rp1
        rw [← gv2, ← gv127, ← gv128] at hb9
        have rp2 := RP_give hb9 gv0 gvs
        refine g_aload_n C 2 dX5_seatByDivisors_73 rfl ?_
        refine g_get C (.ref (ad 94)) 1 in_X5_seatByDivisors_5 (List.mem_of_getElem? (i := 2) rfl) (by decide) (ce_plain ad cs _ _) rfl (by decide) rfl rfl dX5_seatByDivisors_74 ?_
        refine g_iload C 0 dX5_seatByDivisors_77 rfl ?_
        refine g_dup2 C dX5_seatByDivisors_79 rfl rfl ?_
        have nr12 := ixn (x := r12) (by omega)
        refine g_iald C (by decide) (ce_lseats ad cs _ _) (fin' (n := 10) rfl (by omega) (by omega)) dX5_seatByDivisors_80 ?_
        refine g_ni (fun v23 ev23 => ?_)
        have gv23 : v23 = M_30 94 r12.toNatClampNeg := ev23.trans (congrFun q94 _)
        have tv23 := congrArg Int32.toInt gv23
        refine g_iconst C 1 dX5_seatByDivisors_81 (by decide) ?_
        refine g_iadd C dX5_seatByDivisors_82 ?_
        refine g_ni (fun v24 ev24 => ?_)
        try have fv24 := fadd rfl (by decide : (1 : Int32).toInt = 1) ev24 (by omega) (by omega)
        have nr12 := ixn (x := r12) (by omega)
        refine g_iast C (by decide) (ce_lseats ad cs _ _) (by rw [sI_k]; rfl) (fin' (n := 10) rfl (by omega) (by omega)) dX5_seatByDivisors_83 ?_
        refine g_nm (fun M25 hM25 => ?_)
        have hI : IC M25 := by rw [hM25]; exact hI.st (bC_free (by decide) (by decide) (by decide) (by decide) (by decide) (by decide) (by decide))
        have hF : ∀ k i, k ≠ 94 ∧ ¬ (k = 125 ∧ i = 0) ∧ ¬ (k = 125 ∧ i = 2) ∧ k ≠ 126 ∧ k ≠ 127 ∧ k ≠ 128 → M25 k i = M k i := fun k i hk => by (rw [hM25, sI_at, if_neg (by omega)]; try exact hF k i hk)
        have k125_0 : M25 125 0 = M21 125 0 := by rw [hM25, sI_n _ _ _ (by decide)]; try exact k125_0
        have k125_2 : M25 125 2 = M18 125 2 := by rw [hM25, sI_n _ _ _ (by decide)]; try exact k125_2
        have q126 : M25 126 = M21 126 := by rw [hM25, sI_n _ _ _ (by decide)]; try exact q126
        have q127 : M25 127 = M18 127 := by rw [hM25, sI_n _ _ _ (by decide)]; try exact q127
        have q128 : M25 128 = M18 128 := by rw [hM25, sI_n _ _ _ (by decide)]; try exact q128
        have hV : vC M25 = vC M_30 := by rw [hM25, vC_z (by decide), hV]
        have e125 : M25 125 = M21 125 := by rw [hM25, sI_n _ _ _ (by decide)]
        have e126 : M25 126 = M21 126 := by rw [hM25, sI_n _ _ _ (by decide)]
        have e127 : M25 127 = M21 127 := by rw [hM25, sI_n _ _ _ (by decide)]
        have e128 : M25 128 = M21 128 := by rw [hM25, sI_n _ _ _ (by decide)]
        have rp3 : RP (M21 125 0) (M21 126) (M21 125 2) (M21 127) (M21 128) _ _ := rp2
        rw [← e125, ← e126, ← e127, ← e128] at rp3
        have a94 : M25 94 = upd (M_30 94) r12.toNatClampNeg (M_30 94 r12.toNatClampNeg + 1) := by rw [hM25, sI_k, q94]; congr 1; simp only [ev24, gv23, gv8]
        obtain ⟨v26, ev26⟩ : ∃ y : Int32, y = x3_30 + 1 := ⟨_, rfl⟩
        try have fv26 := fadd rfl (by decide : (1 : Int32).toInt = 1) ev26 (by omega) (by omega)
        refine g_iinc C 1 v26 [(3, .int v26), (4, .int r12), (0, .ref (ad 93)), (1, .int x), (2, .ref (ad 125))] dX5_seatByDivisors_84 rfl (by rw [ev26]; rfl) (by decide) rfl ?_
        refine g_goto C 30 dX5_seatByDivisors_87 (by decide) ?_
        refine g_lv [0, 2, 3, 4] [(3, .int v26), (0, .ref (ad 93)), (1, .int x), (2, .ref (ad 125))] rfl ?_
        have k0t := congrArg Int32.toInt k125_0
        have k2t := congrArg Int32.toInt k125_2
        have n3_ := ixn (x := x3_30) (by omega)
        have nv := ixn (x := v26) (by omega)
        have iv : v26.toNatClampNeg = x3_30.toNatClampNeg + 1 := by omega
        have eH : ∀ c, c < 10 → M25 94 c = dvH (M 2) (foK (stF (vC M) (M 90)) (M 89) (M 88 3).toNatClampNeg (fun _ => 0)) x (M 1 0).toNatClampNeg v26.toNatClampNeg c := by
          intro c hc
          rw [iv, a94]
          show upd (M_30 94) r12.toNatClampNeg (M_30 94 r12.toNatClampNeg + 1) c = upd (dvH (M 2) (foK (stF (vC M) (M 90)) (M 89) (M 88 3).toNatClampNeg (fun _ => 0)) x (M 1 0).toNatClampNeg x3_30.toNatClampNeg) (dvF (M 2) (foK (stF (vC M) (M 90)) (M 89) (M 88 3).toNatClampNeg (fun _ => 0)) (dvH (M 2) (foK (stF (vC M) (M 90)) (M 89) (M 88 3).toNatClampNeg (fun _ => 0)) x (M 1 0).toNatClampNeg x3_30.toNatClampNeg) x (M 1 0).toNatClampNeg).toNatClampNeg (dvH (M 2) (foK (stF (vC M) (M 90)) (M 89) (M 88 3).toNatClampNeg (fun _ => 0)) x (M 1 0).toNatClampNeg x3_30.toNatClampNeg (dvF (M 2) (foK (stF (vC M) (M 90)) (M 89) (M 88 3).toNatClampNeg (fun _ => 0)) (dvH (M 2) (foK (stF (vC M) (M 90)) (M 89) (M 88 3).toNatClampNeg (fun _ => 0)) x (M 1 0).toNatClampNeg x3_30.toNatClampNeg) x (M 1 0).toNatClampNeg).toNatClampNeg + 1) c
          rw [← eb, upd_at, upd_at, j30_4 r12.toNatClampNeg (by omega)]
          by_cases e9 : c = r12.toNatClampNeg
          · rw [if_pos e9, if_pos e9]
          · rw [if_neg e9, if_neg e9]; exact j30_4 c hc
        have eR : RP (M25 125 0) (M25 126) (M25 125 2) (M25 127) (M25 128) (dvS (M 2) (foK (stF (vC M) (M 90)) (M 89) (M 88 3).toNatClampNeg (fun _ => 0)) x (M 1 0).toNatClampNeg v26.toNatClampNeg) (oneR (dvS (M 2) (foK (stF (vC M) (M 90)) (M 89) (M 88 3).toNatClampNeg (fun _ => 0)) x (M 1 0).toNatClampNeg v26.toNatClampNeg)) := by
          rw [iv]
          show RP (M25 125 0) (M25 126) (M25 125 2) (M25 127) (M25 128) (dvS (M 2) (foK (stF (vC M) (M 90)) (M 89) (M 88 3).toNatClampNeg (fun _ => 0)) x (M 1 0).toNatClampNeg x3_30.toNatClampNeg ++ [dvF (M 2) (foK (stF (vC M) (M 90)) (M 89) (M 88 3).toNatClampNeg (fun _ => 0)) (dvH (M 2) (foK (stF (vC M) (M 90)) (M 89) (M 88 3).toNatClampNeg (fun _ => 0)) x (M 1 0).toNatClampNeg x3_30.toNatClampNeg) x (M 1 0).toNatClampNeg]) (oneR (dvS (M 2) (foK (stF (vC M) (M 90)) (M 89) (M 88 3).toNatClampNeg (fun _ => 0)) x (M 1 0).toNatClampNeg x3_30.toNatClampNeg ++ [dvF (M 2) (foK (stF (vC M) (M 90)) (M 89) (M 88 3).toNatClampNeg (fun _ => 0)) (dvH (M 2) (foK (stF (vC M) (M 90)) (M 89) (M 88 3).toNatClampNeg (fun _ => 0)) x (M 1 0).toNatClampNeg x3_30.toNatClampNeg) x (M 1 0).toNatClampNeg]))
          rw [oneR_app, ← eb]
          exact rp3
        have eU : ∀ c, c < 10 → L22 91 c = (foK (stF (vC M) (M 90)) (M 89) (M 88 3).toNatClampNeg (fun _ => 0)) c := fun c hc => (congrFun (show L22 91 = L_30 91 from p91) c).trans (j30_5 c hc)
        exact ih_30 (v26, M25, L22) ⟨by show 0 ≤ v26.toInt; omega, by show v26.toInt ≤ (M 88 4).toInt; omega, by show (M25 125 0).toInt = v26.toInt; omega, by show (M25 125 2).toInt = v26.toInt; omega, by show ∀ c, c < 10 → M25 94 c = dvH (M 2) (foK (stF (vC M) (M 90)) (M 89) (M 88 3).toNatClampNeg (fun _ => 0)) x (M 1 0).toNatClampNeg v26.toNatClampNeg c; exact eH, by show ∀ c, c < 10 → L22 91 c = (foK (stF (vC M) (M 90)) (M 89) (M 88 3).toNatClampNeg (fun _ => 0)) c; exact eU, by show RP (M25 125 0) (M25 126) (M25 125 2) (M25 127) (M25 128) (dvS (M 2) (foK (stF (vC M) (M 90)) (M 89) (M 88 3).toNatClampNeg (fun _ => 0)) x (M 1 0).toNatClampNeg v26.toNatClampNeg) (oneR (dvS (M 2) (foK (stF (vC M) (M 90)) (M 89) (M 88 3).toNatClampNeg (fun _ => 0)) x (M 1 0).toNatClampNeg v26.toNatClampNeg)); exact eR, hI, hF, hG⟩ (by show (31 - v26.toInt).toNat < (31 - x3_30.toInt).toNat; omega)
      ·
        have f27 := feq rfl (by decide : ((-9) : Int32).toInt = (-9)) c15
        exact g_vret C hr ⟨(by exfalso; omega), hI, hF, hG⟩ dX5_seatByDivisors_55
  ·
    have f28 := fnle (by decide : (10 : Int32).toInt = 10) rfl c5
    refine g_aload_n C 1 dX5_seatByDivisors_15 rfl ?_
    refine g_get C (.ref (ad 94)) 1 in_X5_seatByDivisors_5 (List.mem_of_getElem? (i := 2) rfl) (by decide) (ce_plain ad cs _ _) rfl (by decide) rfl rfl dX5_seatByDivisors_16 ?_
    refine g_iload_n C 0 dX5_seatByDivisors_19 rfl ?_
    refine g_iconst C 0 dX5_seatByDivisors_20 (by decide) ?_
    have nx3_9 := ixn (x := x3_9) (by omega)
    refine g_iast C (by decide) (ce_lseats ad cs _ _) (by rw [sI_k]; rfl) (fin' (n := 10) rfl (by omega) (by omega)) dX5_seatByDivisors_21 ?_
    refine g_nm (fun M29 hM29 => ?_)
    have zy30 : (0 : Int32).toInt = 0 := by decide
    have hI : IC M29 := by rw [hM29]; exact hI.st (bC_free (by decide) (by decide) (by decide) (by decide) (by decide) (by decide) (by decide))
    have hF : ∀ k i, k ≠ 94 ∧ ¬ (k = 125 ∧ i = 0) ∧ ¬ (k = 125 ∧ i = 2) ∧ k ≠ 126 ∧ k ≠ 127 ∧ k ≠ 128 → M29 k i = M k i := fun k i hk => by (rw [hM29, sI_at, if_neg (by omega)]; try exact hF k i hk)
    have k125_0 : M29 125 0 = M_9 125 0 := by rw [hM29, sI_n _ _ _ (by decide)]; try exact k125_0
    have k125_2 : M29 125 2 = M_9 125 2 := by rw [hM29, sI_n _ _ _ (by decide)]; try exact k125_2
    have q126 : M29 126 = M_9 126 := by rw [hM29, sI_n _ _ _ (by decide)]; try exact q126
    have q127 : M29 127 = M_9 127 := by rw [hM29, sI_n _ _ _ (by decide)]; try exact q127
    have q128 : M29 128 = M_9 128 := by rw [hM29, sI_n _ _ _ (by decide)]; try exact q128
    have hV : vC M29 = vC M_9 := by rw [hM29, vC_z (by decide), hV]
    obtain ⟨v31, ev31⟩ : ∃ y : Int32, y = x3_9 + 1 := ⟨_, rfl⟩
    try have fv31 := fadd rfl (by decide : (1 : Int32).toInt = 1) ev31 (by omega) (by omega)
    refine g_iinc C 0 v31 [(3, .int v31), (0, .ref (ad 93)), (1, .int x), (2, .ref (ad 125))] dX5_seatByDivisors_22 rfl (by rw [ev31]; rfl) (by decide) rfl ?_
    refine g_goto C 9 dX5_seatByDivisors_25 (by decide) ?_
    have nv := ixn (x := v31) (by omega)
    have hall : ∀ c : Nat, c < v31.toNatClampNeg → M29 94 c = 0 := by
      intro c hc
      rw [hM29, sI_at]
      by_cases e9 : c = x3_9.toNatClampNeg
      · rw [if_pos ⟨rfl, e9⟩]
      · rw [if_neg (fun h => e9 h.2)]; exact j9_2 c (by omega)
    exact ih_9 (v31, M29, L_9) ⟨by show 0 ≤ v31.toInt; omega, by show v31.toInt ≤ 10; omega, by show ∀ c : Nat, c < v31.toNatClampNeg → M29 94 c = 0; exact hall, by show (M29 125 0).toInt = 0 ∧ (M29 125 2).toInt = 0; exact ⟨by rw [k125_0]; exact j9_3.1, by rw [k125_2]; exact j9_3.2⟩, by show ∀ c, c < 10 → L_9 91 c = (foK (stF (vC M) (M 90)) (M 89) (M 88 3).toNatClampNeg (fun _ => 0)) c; exact j9_4, hI, hF, hG⟩ (by show (11 - v31.toInt).toNat < (11 - x3_9.toInt).toNat; omega)
set_option maxHeartbeats 4000000 in
set_option maxRecDepth 100000 in
theorem k_X5_sbd_b (l : Launch) (D : va_G) (ad : Nat → Nat) (cs : Nat → ClassId) (M : MI) (L : ML) (x : Int32) (hI : IC M) (hg0 : (M 191 0).toInt = 0) (hm0 : (M 191 2).toInt = 0) (hn1 : 1 ≤ (M 1 0).toInt) : Cv l yX5_seatByDivisors wsX5_seatByDivisors ({ frames := 2, cells := 0, slots := 0, locals := 51 }) D ad cs [.ref (ad 93), .int x, .ref (ad 191)] M L (fun M1 L1 => (RP (M1 191 0) (M1 192) (M1 191 2) (M1 193) (M1 194) (dvS (M 2) (foK (stF (vC M) (M 90)) (M 89) (M 88 3).toNatClampNeg (fun _ => 0)) x (M 1 0).toNatClampNeg ((M 88 4).toNatClampNeg)) (oneR (dvS (M 2) (foK (stF (vC M) (M 90)) (M 89) (M 88 3).toNatClampNeg (fun _ => 0)) x (M 1 0).toNatClampNeg ((M 88 4).toNatClampNeg)))) ∧ IC M1 ∧ (∀ k i, k ≠ 94 ∧ ¬ (k = 191 ∧ i = 0) ∧ ¬ (k = 191 ∧ i = 2) ∧ k ≠ 192 ∧ k ≠ 193 ∧ k ≠ 194 → M1 k i = M k i) ∧ ∀ k i, k ≠ 91 ∧ k ≠ 92 ∧ ¬ (197 ≤ k ∧ k < 257) → L1 k i = L k i) := by
  refine enter_v RX5 rfl [(0, .ref (ad 93)), (1, .int x), (2, .ref (ad 191))] rfl (Nat.le_of_ble_eq_true rfl) (by decide +kernel) rfl ?_
  intro p e s m below meth c C hr
  have hF : ∀ k i, k ≠ 94 ∧ ¬ (k = 191 ∧ i = 0) ∧ ¬ (k = 191 ∧ i = 2) ∧ k ≠ 192 ∧ k ≠ 193 ∧ k ≠ 194 → M k i = M k i := fun _ _ _ => rfl
  have hG : ∀ k i, k ≠ 91 ∧ k ≠ 92 ∧ ¬ (197 ≤ k ∧ k < 257) → L k i = L k i := fun _ _ _ => rfl
  have w0 : (vC M 0 0).toInt = (M 1 0).toInt := rfl
  have w1 : (vC M 0 1).toInt = (M 3 0).toInt := rfl
  have w2 : (vC M 0 2).toInt = (M 68 0).toInt := rfl
  have w3 : (vC M 0 3).toInt = (M 81 0).toInt := rfl
  obtain ⟨y0a, y0b⟩ := (show rg 0 10 (M 1 0) from hI 1 0 rfl)
  obtain ⟨y1a, y1b⟩ := (show rg 0 60 (M 3 0) from hI 3 0 rfl)
  obtain ⟨y2a, y2b⟩ := (show rg 0 8 (M 68 0) from hI 68 0 rfl)
  obtain ⟨y3a, y3b⟩ := (show rg 0 20 (M 81 0) from hI 81 0 rfl)
  have hI0 := hI
  obtain ⟨sa, sb⟩ := (show rg 0 30 (M 88 4) from (hI 88 4).2 rfl)
  have nsd := ixn sa
  have n02 := ixn y0a
  have k191_0 : M 191 0 = M 191 0 := rfl
  have k191_2 : M 191 2 = M 191 2 := rfl
  have p91 : L 91 = L 91 := rfl
  have p92 : L 92 = L 92 := rfl
  have q94 : M 94 = M 94 := rfl
  have q192 : M 192 = M 192 := rfl
  have q193 : M 193 = M 193 := rfl
  have q194 : M 194 = M 194 := rfl
  have hV : vC M = vC M := rfl
  refine g_aload_n C 0 dX5_seatByDivisors_0 rfl ?_
  refine g_get C (.ref (ad 88)) 0 in_X5_seatByDivisors_5 (List.mem_of_getElem? (i := 1) rfl) (by decide) (ce_plain ad cs _ _) rfl (by decide) rfl rfl dX5_seatByDivisors_1 ?_
  refine g_callVv C (n := 0) (As := []) (st := []) (k_X6_tallyFirstIn l D ad cs _ _  hI ) gX5_seatByDivisors_X6_tallyFirstIn rfl rfl rfl (by decide +kernel) ⟨Nat.le_of_ble_eq_true rfl, Nat.le_of_ble_eq_true rfl⟩ rfl (Nat.le_of_ble_eq_true rfl) ⟨Nat.zero_le _, Nat.zero_le _⟩ (by decide) (ce_poll ad cs _ _) rfl rfl dX5_seatByDivisors_4 (fun M2 L3 hr1 => ?_)
  obtain ⟨hr1, hI, hFr1, hGr1⟩ := hr1
  have hF : ∀ k i, k ≠ 94 ∧ ¬ (k = 191 ∧ i = 0) ∧ ¬ (k = 191 ∧ i = 2) ∧ k ≠ 192 ∧ k ≠ 193 ∧ k ≠ 194 → M2 k i = M k i := fun k i hk => by (rw [hFr1 k i trivial]; try exact hF k i hk)
  have hG : ∀ k i, k ≠ 91 ∧ k ≠ 92 ∧ ¬ (197 ≤ k ∧ k < 257) → L3 k i = L k i := fun k i hk => by (rw [hGr1 k i (by omega)]; try exact hG k i hk)
  have hV : vC M2 = vC M := by rw [vC_fr (fun k hk => funext (fun i => hFr1 k i trivial)), hV]
  have k191_0 : M2 191 0 = M 191 0 := (hFr1 191 0 trivial).trans k191_0
  have k191_2 : M2 191 2 = M 191 2 := (hFr1 191 2 trivial).trans k191_2
  have kt191_0 := congrArg Int32.toInt k191_0
  have kt191_2 := congrArg Int32.toInt k191_2
  have p91 : L3 91 = L3 91 := rfl
  have p92 : L3 92 = L3 92 := rfl
  have q94 : M2 94 = M 94 := (funext (fun i => hFr1 94 i trivial)).trans q94
  have q192 : M2 192 = M 192 := (funext (fun i => hFr1 192 i trivial)).trans q192
  have q193 : M2 193 = M 193 := (funext (fun i => hFr1 193 i trivial)).trans q193
  have q194 : M2 194 = M 194 := (funext (fun i => hFr1 194 i trivial)).trans q194
  have htf := hr1
  refine g_iconst C 0 dX5_seatByDivisors_7 (by decide) ?_
  refine g_istore_n C [(3, .int 0), (0, .ref (ad 93)), (1, .int x), (2, .ref (ad 191))] dX5_seatByDivisors_8 (by decide) rfl ?_
  have zy4 : (0 : Int32).toInt = 0 := by decide
  refine g_loop (α := Int32 × MI × ML) (fun a => (11 - a.1.toInt).toNat) (fun a => (0 ≤ a.1.toInt) ∧ (a.1.toInt ≤ 10) ∧ (∀ c : Nat, c < a.1.toNatClampNeg → a.2.1 94 c = 0) ∧ ((a.2.1 191 0).toInt = 0 ∧ (a.2.1 191 2).toInt = 0) ∧ (∀ c, c < 10 → a.2.2 91 c = (foK (stF (vC M) (M 90)) (M 89) (M 88 3).toNatClampNeg (fun _ => 0)) c) ∧ IC a.2.1 ∧ (∀ k i, k ≠ 94 ∧ ¬ (k = 191 ∧ i = 0) ∧ ¬ (k = 191 ∧ i = 2) ∧ k ≠ 192 ∧ k ≠ 193 ∧ k ≠ 194 → a.2.1 k i = M k i) ∧ (∀ k i, k ≠ 91 ∧ k ≠ 92 ∧ ¬ (197 ≤ k ∧ k < 257) → a.2.2 k i = L k i)) (fun a => a.2.1) (fun a => a.2.2) (fun a => [(3, .int a.1), (0, .ref (ad 93)), (1, .int x), (2, .ref (ad 191))]) ((0 : Int32), M2, L3) ⟨by show 0 ≤ (0 : Int32).toInt; omega, by show (0 : Int32).toInt ≤ 10; omega, by show ∀ c : Nat, c < (0 : Int32).toNatClampNeg → M2 94 c = 0; intro c hc; exact absurd hc (by show ¬ c < 0; omega), by show (M2 191 0).toInt = 0 ∧ (M2 191 2).toInt = 0; exact ⟨by rw [k191_0]; exact hg0, by rw [k191_2]; exact hm0⟩, by show ∀ c, c < 10 → L3 91 c = (foK (stF (vC M) (M 90)) (M 89) (M 88 3).toNatClampNeg (fun _ => 0)) c; exact fun c hc => (htf c hc).1, hI, hF, hG⟩ rfl rfl rfl ?_
  rintro ⟨x3_9, M_9, L_9⟩ ⟨j9_0, j9_1, j9_2, j9_3, j9_4, hI, hF, hG⟩ ih_9
  dsimp only at j9_0 j9_1 j9_2 j9_3 j9_4 hI hF hG ih_9 ⊢
  have k191_0 : M_9 191 0 = M_9 191 0 := rfl
  have k191_2 : M_9 191 2 = M_9 191 2 := rfl
  have hV : vC M_9 = vC M_9 := rfl
  have p91 : L_9 91 = L_9 91 := rfl
  have p92 : L_9 92 = L_9 92 := rfl
  have q94 : M_9 94 = M_9 94 := rfl
  have q192 : M_9 192 = M_9 192 := rfl
  have q193 : M_9 193 = M_9 193 := rfl
  have q194 : M_9 194 = M_9 194 := rfl
  have n3 := ixn (x := x3_9) (by omega)
  refine g_iload_n C 0 dX5_seatByDivisors_9 rfl ?_
  refine g_bipush C 10 dX5_seatByDivisors_10 (by decide) ?_
  refine g_icmp_ge C 28 dX5_seatByDivisors_12 (by decide) (fun c5 => ?_) (fun c5 => ?_)
  ·
    have f6 := fle (by decide : (10 : Int32).toInt = 10) rfl c5
    refine g_iconst C 0 dX5_seatByDivisors_28 (by decide) ?_
    refine g_istore_n C [(3, .int 0), (0, .ref (ad 93)), (1, .int x), (2, .ref (ad 191))] dX5_seatByDivisors_29 (by decide) rfl ?_
    have zy7 : (0 : Int32).toInt = 0 := by decide
    refine g_loop (α := Int32 × MI × ML) (fun a => (31 - a.1.toInt).toNat) (fun a => (0 ≤ a.1.toInt) ∧ (a.1.toInt ≤ (M 88 4).toInt) ∧ ((a.2.1 191 0).toInt = a.1.toInt) ∧ ((a.2.1 191 2).toInt = a.1.toInt) ∧ (∀ c, c < 10 → a.2.1 94 c = dvH (M 2) (foK (stF (vC M) (M 90)) (M 89) (M 88 3).toNatClampNeg (fun _ => 0)) x (M 1 0).toNatClampNeg a.1.toNatClampNeg c) ∧ (∀ c, c < 10 → a.2.2 91 c = (foK (stF (vC M) (M 90)) (M 89) (M 88 3).toNatClampNeg (fun _ => 0)) c) ∧ (RP (a.2.1 191 0) (a.2.1 192) (a.2.1 191 2) (a.2.1 193) (a.2.1 194) (dvS (M 2) (foK (stF (vC M) (M 90)) (M 89) (M 88 3).toNatClampNeg (fun _ => 0)) x (M 1 0).toNatClampNeg a.1.toNatClampNeg) (oneR (dvS (M 2) (foK (stF (vC M) (M 90)) (M 89) (M 88 3).toNatClampNeg (fun _ => 0)) x (M 1 0).toNatClampNeg a.1.toNatClampNeg))) ∧ IC a.2.1 ∧ (∀ k i, k ≠ 94 ∧ ¬ (k = 191 ∧ i = 0) ∧ ¬ (k = 191 ∧ i = 2) ∧ k ≠ 192 ∧ k ≠ 193 ∧ k ≠ 194 → a.2.1 k i = M k i) ∧ (∀ k i, k ≠ 91 ∧ k ≠ 92 ∧ ¬ (197 ≤ k ∧ k < 257) → a.2.2 k i = L k i)) (fun a => a.2.1) (fun a => a.2.2) (fun a => [(3, .int a.1), (0, .ref (ad 93)), (1, .int x), (2, .ref (ad 191))]) ((0 : Int32), M_9, L_9) ⟨by show 0 ≤ (0 : Int32).toInt; omega, by show (0 : Int32).toInt ≤ (M 88 4).toInt; omega, by show (M_9 191 0).toInt = (0 : Int32).toInt; rw [k191_0]; exact j9_3.1, by show (M_9 191 2).toInt = (0 : Int32).toInt; rw [k191_2]; exact j9_3.2, by show ∀ c, c < 10 → M_9 94 c = dvH (M 2) (foK (stF (vC M) (M 90)) (M 89) (M 88 3).toNatClampNeg (fun _ => 0)) x (M 1 0).toNatClampNeg (0 : Int32).toNatClampNeg c; exact fun c hc => j9_2 c (by omega), by show ∀ c, c < 10 → L_9 91 c = (foK (stF (vC M) (M 90)) (M 89) (M 88 3).toNatClampNeg (fun _ => 0)) c; exact j9_4, by show RP (M_9 191 0) (M_9 192) (M_9 191 2) (M_9 193) (M_9 194) (dvS (M 2) (foK (stF (vC M) (M 90)) (M 89) (M 88 3).toNatClampNeg (fun _ => 0)) x (M 1 0).toNatClampNeg (0 : Int32).toNatClampNeg) (oneR (dvS (M 2) (foK (stF (vC M) (M 90)) (M 89) (M 88 3).toNatClampNeg (fun _ => 0)) x (M 1 0).toNatClampNeg (0 : Int32).toNatClampNeg)); exact RP_0 (by rw [k191_0]; exact j9_3.1) (by rw [k191_2]; exact j9_3.2), hI, hF, hG⟩ rfl rfl rfl ?_
    rintro ⟨x3_30, M_30, L_30⟩ ⟨j30_0, j30_1, j30_2, j30_3, j30_4, j30_5, j30_6, hI, hF, hG⟩ ih_30
    dsimp only at j30_0 j30_1 j30_2 j30_3 j30_4 j30_5 j30_6 hI hF hG ih_30 ⊢
    have k191_0 : M_30 191 0 = M_30 191 0 := rfl
    have k191_2 : M_30 191 2 = M_30 191 2 := rfl
    have hV : vC M_30 = vC M_30 := rfl
    have p91 : L_30 91 = L_30 91 := rfl
    have p92 : L_30 92 = L_30 92 := rfl
    have q94 : M_30 94 = M_30 94 := rfl
    have q192 : M_30 192 = M_30 192 := rfl
    have q193 : M_30 193 = M_30 193 := rfl
    have q194 : M_30 194 = M_30 194 := rfl
    refine g_iload_n C 0 dX5_seatByDivisors_30 rfl ?_
    refine g_aload_n C 1 dX5_seatByDivisors_31 rfl ?_
    refine g_get C (.ref (ad 88)) 0 in_X5_seatByDivisors_5 (List.mem_of_getElem? (i := 1) rfl) (by decide) (ce_plain ad cs _ _) rfl (by decide) rfl rfl dX5_seatByDivisors_32 ?_
    refine g_get C (.int (M_30 88 4)) 4 in_X5_seatByDivisors_6 (List.mem_of_getElem? (i := 3) rfl) (by decide) (ce_poll ad cs _ _) rfl (by decide) rfl rfl dX5_seatByDivisors_35 ?_
    refine g_ni (fun v8 ev8 => ?_)
    have gv8 : v8 = M 88 4 := ev8.trans (hF 88 4 (by omega))
    have tv8 := congrArg Int32.toInt gv8
    obtain ⟨bv8, dv8⟩ := (show rg 0 30 v8 from (by rw [ev8]; exact (hI 88 4).2 rfl))
    refine g_icmp_ge C 90 dX5_seatByDivisors_38 (by decide) (fun c9 => ?_) (fun c9 => ?_)
    ·
      have f10 := fle rfl rfl c9
      exact g_vret C hr ⟨(by have e9 : x3_30.toNatClampNeg = (M 88 4).toNatClampNeg := (by have := ixn (x := x3_30) (by omega); omega); rw [e9] at j30_6; exact j30_6), hI, hF, hG⟩ dX5_seatByDivisors_90
    ·
      have f11 := fnle rfl rfl c9
      refine g_aload_n C 1 dX5_seatByDivisors_41 rfl ?_
      refine g_iload_n C 2 dX5_seatByDivisors_42 rfl ?_
      refine g_callVi C (n := 1) (As := [.int x]) (st := []) (k_X5_greatestByDivisor l D ad cs _ _ x hI ) gX5_seatByDivisors_X5_greatestByDivisor rfl rfl rfl (by decide +kernel) ⟨Nat.le_of_ble_eq_true rfl, Nat.le_of_ble_eq_true rfl⟩ rfl (Nat.le_of_ble_eq_true rfl) ⟨Nat.zero_le _, Nat.zero_le _⟩ (by decide) (ce_plain ad cs _ _) rfl rfl dX5_seatByDivisors_43 (fun r12 M13 L14 hr12 => ?_)
      obtain ⟨hq1, hq2, hr12⟩ := hr12
      obtain rfl := hq1.symm
      obtain rfl := hq2.symm
      obtain ⟨yr12, br12⟩ := hr12
      have hne : (M_30 1 0).toInt = (M 1 0).toInt := congrArg Int32.toInt (hF 1 0 (by omega))
      have nr9 := ixn (x := r12) (by omega)
      rw [show M_30 2 = M 2 from funext (fun i => hF 2 i (by omega)), show M_30 1 0 = M 1 0 from hF 1 0 (by omega)] at yr12
      have eb : r12 = dvF (M 2) (foK (stF (vC M) (M 90)) (M 89) (M 88 3).toNatClampNeg (fun _ => 0)) (dvH (M 2) (foK (stF (vC M) (M 90)) (M 89) (M 88 3).toNatClampNeg (fun _ => 0)) x (M 1 0).toNatClampNeg x3_30.toNatClampNeg) x (M 1 0).toNatClampNeg := yr12.trans (dvF_ext (row := M 2) (H := M_30 94) (U := L_30 91) (fun i => hI0 2 i) j30_4 j30_5 (M 1 0).toNatClampNeg).1
      refine g_istore C [(4, .int r12), (3, .int x3_30), (0, .ref (ad 93)), (1, .int x), (2, .ref (ad 191))] dX5_seatByDivisors_46 (by decide) rfl ?_
      refine g_iload C 0 dX5_seatByDivisors_48 rfl ?_
      refine g_bipush C (-9) dX5_seatByDivisors_50 (by decide) ?_
      refine g_icmp_ne C 56 dX5_seatByDivisors_52 (by decide) (fun c15 => ?_) (fun c15 => ?_)
      ·
        have f16 := fne rfl (by decide : ((-9) : Int32).toInt = (-9)) c15
        refine g_aload_n C 4 dX5_seatByDivisors_56 rfl ?_
        refine g_iconst C 1 dX5_seatByDivisors_57 (by decide) ?_
        refine g_iload C 0 dX5_seatByDivisors_58 rfl ?_
        refine g_aload_n C 2 dX5_seatByDivisors_60 rfl ?_
        refine g_get C (.ref (ad 88)) 0 in_X5_seatByDivisors_5 (List.mem_of_getElem? (i := 1) rfl) (by decide) (ce_plain ad cs _ _) rfl (by decide) rfl rfl dX5_seatByDivisors_61 ?_
        refine g_callVv C (n := 3) (As := [.int 1, .int r12, .ref (ad 88)]) (st := []) (k_X7_note_b l D ad cs _ _ 1 r12 hI (by omega)) gX5_seatByDivisors_X7_note rfl rfl rfl (by decide +kernel) ⟨Nat.le_of_ble_eq_true rfl, Nat.le_of_ble_eq_true rfl⟩ rfl (Nat.le_of_ble_eq_true rfl) ⟨Nat.zero_le _, Nat.zero_le _⟩ (by decide) (ce_rb ad cs _ _) rfl rfl dX5_seatByDivisors_64 (fun M18 L19 hr17 => ?_)
        obtain ⟨hr17, hI, hFr17, hGr17⟩ := hr17
        have hF : ∀ k i, k ≠ 94 ∧ ¬ (k = 191 ∧ i = 0) ∧ ¬ (k = 191 ∧ i = 2) ∧ k ≠ 192 ∧ k ≠ 193 ∧ k ≠ 194 → M18 k i = M k i := fun k i hk => by (rw [hFr17 k i (by omega)]; try exact hF k i hk)
        have hG : ∀ k i, k ≠ 91 ∧ k ≠ 92 ∧ ¬ (197 ≤ k ∧ k < 257) → L19 k i = L k i := fun k i hk => by (rw [hGr17 k i (by omega)]; try exact hG k i hk)
        have hV : vC M18 = vC M_30 := by rw [vC_fr (fun k hk => funext (fun i => hFr17 k i (by omega))), hV]
        have k191_0 : M18 191 0 = M_30 191 0 := (hFr17 191 0 (by omega)).trans k191_0
        have k191_2 : M18 191 2 = M18 191 2 := rfl
        have kt191_0 := congrArg Int32.toInt k191_0
        have kt191_2 := congrArg Int32.toInt k191_2
        have p91 : L19 91 = L_30 91 := (funext (fun i => hGr17 91 i (by omega))).trans p91
        have p92 : L19 92 = L_30 92 := (funext (fun i => hGr17 92 i (by omega))).trans p92
        have q94 : M18 94 = M_30 94 := (funext (fun i => hFr17 94 i (by omega))).trans q94
        have q192 : M18 192 = M_30 192 := (funext (fun i => hFr17 192 i (by omega))).trans q192
        have q193 : M18 193 = M18 193 := rfl
        have q194 : M18 194 = M18 194 := rfl
        obtain ⟨np2, npw, nph⟩ := hr17
        have np0 : M18 191 0 = M_30 191 0 := hFr17 191 0 (by omega)
        have np0t := congrArg Int32.toInt np0
        have nps : M18 192 = M_30 192 := funext (fun i => hFr17 192 i (by omega))
        have hb9 : RP (M_30 191 0) (M_30 192) (M_30 191 2) (M_30 193) (M_30 194) _ _ := j30_6
        rw [← np0, ← nps] at hb9
        have rp1 := RP_note hb9 np2 npw nph
        refine g_aload_n C 4 dX5_seatByDivisors_67 rfl ?_
        refine g_iload C 0 dX5_seatByDivisors_68 rfl ?_
        refine g_callVv C (n := 1) (As := [.int r12]) (st := []) (k_X7_give_b l D ad cs _ _ r12 hI (by omega)) gX5_seatByDivisors_X7_give rfl rfl rfl (by decide +kernel) ⟨Nat.le_of_ble_eq_true rfl, Nat.le_of_ble_eq_true rfl⟩ rfl (Nat.le_of_ble_eq_true rfl) ⟨Nat.zero_le _, Nat.zero_le _⟩ (by decide) (ce_rb ad cs _ _) rfl rfl dX5_seatByDivisors_70 (fun M21 L22 hr20 => ?_)
        obtain ⟨hr20, hI, hFr20, hGr20⟩ := hr20
        have hF : ∀ k i, k ≠ 94 ∧ ¬ (k = 191 ∧ i = 0) ∧ ¬ (k = 191 ∧ i = 2) ∧ k ≠ 192 ∧ k ≠ 193 ∧ k ≠ 194 → M21 k i = M k i := fun k i hk => by (rw [hFr20 k i (by omega)]; try exact hF k i hk)
        have hG : ∀ k i, k ≠ 91 ∧ k ≠ 92 ∧ ¬ (197 ≤ k ∧ k < 257) → L22 k i = L k i := fun k i hk => by (rw [hGr20 k i trivial]; try exact hG k i hk)
        have hV : vC M21 = vC M_30 := by rw [vC_fr (fun k hk => funext (fun i => hFr20 k i (by omega))), hV]
        have k191_2 : M21 191 2 = M18 191 2 := (hFr20 191 2 (by omega)).trans k191_2
        have k191_0 : M21 191 0 = M21 191 0 := rfl
        have kt191_0 := congrArg Int32.toInt k191_0
        have kt191_2 := congrArg Int32.toInt k191_2
        have p91 : L22 91 = L_30 91 := (funext (fun i => hGr20 91 i trivial)).trans p91
        have p92 : L22 92 = L_30 92 := (funext (fun i => hGr20 92 i trivial)).trans p92
        have q94 : M21 94 = M_30 94 := (funext (fun i => hFr20 94 i (by omega))).trans q94
        have q192 : M21 192 = M21 192 := rfl
        have q193 : M21 193 = M18 193 := (funext (fun i => hFr20 193 i (by omega))).trans q193
        have q194 : M21 194 = M18 194 := (funext (fun i => hFr20 194 i (by omega))).trans q194
        obtain ⟨gv0, gvs⟩ := hr20
        have gv2 : M21 191 2 = M18 191 2 := hFr20 191 2 (by omega)
        have gv2t := congrArg Int32.toInt gv2
        have gv193 : M21 193 = M18 193 := funext (fun i => hFr20 193 i (by omega))
        have gv194 : M21 194 = M18 194 := funext (fun i => hFr20 194 i (by omega))
        have hb9 : RP (M18 191 0) (M18 192) (M18 191 2) (M18 193) (M18 194) _ _ := rp1
        rw [← gv2, ← gv193, ← gv194] at hb9
        have rp2 := RP_give hb9 gv0 gvs
        refine g_aload_n C 2 dX5_seatByDivisors_73 rfl ?_
        refine g_get C (.ref (ad 94)) 1 in_X5_seatByDivisors_5 (List.mem_of_getElem? (i := 2) rfl) (by decide) (ce_plain ad cs _ _) rfl (by decide) rfl rfl dX5_seatByDivisors_74 ?_
        refine g_iload C 0 dX5_seatByDivisors_77 rfl ?_
        refine g_dup2 C dX5_seatByDivisors_79 rfl rfl ?_
        have nr12 := ixn (x := r12) (by omega)
        refine g_iald C (by decide) (ce_lseats ad cs _ _) (fin' (n := 10) rfl (by omega) (by omega)) dX5_seatByDivisors_80 ?_
        refine g_ni (fun v23 ev23 => ?_)
        have gv23 : v23 = M_30 94 r12.toNatClampNeg := ev23.trans (congrFun q94 _)
        have tv23 := congrArg Int32.toInt gv23
        refine g_iconst C 1 dX5_seatByDivisors_81 (by decide) ?_
        refine g_iadd C dX5_seatByDivisors_82 ?_
        refine g_ni (fun v24 ev24 => ?_)
        try have fv24 := fadd rfl (by decide : (1 : Int32).toInt = 1) ev24 (by omega) (by omega)
        have nr12 := ixn (x := r12) (by omega)
        refine g_iast C (by decide) (ce_lseats ad cs _ _) (by rw [sI_k]; rfl) (fin' (n := 10) rfl (by omega) (by omega)) dX5_seatByDivisors_83 ?_
        refine g_nm (fun M25 hM25 => ?_)
        have hI : IC M25 := by rw [hM25]; exact hI.st (bC_free (by decide) (by decide) (by decide) (by decide) (by decide) (by decide) (by decide))
        have hF : ∀ k i, k ≠ 94 ∧ ¬ (k = 191 ∧ i = 0) ∧ ¬ (k = 191 ∧ i = 2) ∧ k ≠ 192 ∧ k ≠ 193 ∧ k ≠ 194 → M25 k i = M k i := fun k i hk => by (rw [hM25, sI_at, if_neg (by omega)]; try exact hF k i hk)
        have k191_0 : M25 191 0 = M21 191 0 := by rw [hM25, sI_n _ _ _ (by decide)]; try exact k191_0
        have k191_2 : M25 191 2 = M18 191 2 := by rw [hM25, sI_n _ _ _ (by decide)]; try exact k191_2
        have q192 : M25 192 = M21 192 := by rw [hM25, sI_n _ _ _ (by decide)]; try exact q192
        have q193 : M25 193 = M18 193 := by rw [hM25, sI_n _ _ _ (by decide)]; try exact q193
        have q194 : M25 194 = M18 194 := by rw [hM25, sI_n _ _ _ (by decide)]; try exact q194
        have hV : vC M25 = vC M_30 := by rw [hM25, vC_z (by decide), hV]
        have e191 : M25 191 = M21 191 := by rw [hM25, sI_n _ _ _ (by decide)]
        have e192 : M25 192 = M21 192 := by rw [hM25, sI_n _ _ _ (by decide)]
        have e193 : M25 193 = M21 193 := by rw [hM25, sI_n _ _ _ (by decide)]
        have e194 : M25 194 = M21 194 := by rw [hM25, sI_n _ _ _ (by decide)]
        have rp3 : RP (M21 191 0) (M21 192) (M21 191 2) (M21 193) (M21 194) _ _ := rp2
        rw [← e191, ← e192, ← e193, ← e194] at rp3
        have a94 : M25 94 = upd (M_30 94) r12.toNatClampNeg (M_30 94 r12.toNatClampNeg + 1) := by rw [hM25, sI_k, q94]; congr 1; simp only [ev24, gv23, gv8]
        obtain ⟨v26, ev26⟩ : ∃ y : Int32, y = x3_30 + 1 := ⟨_, rfl⟩
        try have fv26 := fadd rfl (by decide : (1 : Int32).toInt = 1) ev26 (by omega) (by omega)
        refine g_iinc C 1 v26 [(3, .int v26), (4, .int r12), (0, .ref (ad 93)), (1, .int x), (2, .ref (ad 191))] dX5_seatByDivisors_84 rfl (by rw [ev26]; rfl) (by decide) rfl ?_
        refine g_goto C 30 dX5_seatByDivisors_87 (by decide) ?_
        refine g_lv [0, 2, 3, 4] [(3, .int v26), (0, .ref (ad 93)), (1, .int x), (2, .ref (ad 191))] rfl ?_
        have k0t := congrArg Int32.toInt k191_0
        have k2t := congrArg Int32.toInt k191_2
        have n3_ := ixn (x := x3_30) (by omega)
        have nv := ixn (x := v26) (by omega)
        have iv : v26.toNatClampNeg = x3_30.toNatClampNeg + 1 := by omega
        have eH : ∀ c, c < 10 → M25 94 c = dvH (M 2) (foK (stF (vC M) (M 90)) (M 89) (M 88 3).toNatClampNeg (fun _ => 0)) x (M 1 0).toNatClampNeg v26.toNatClampNeg c := by
          intro c hc
          rw [iv, a94]
          show upd (M_30 94) r12.toNatClampNeg (M_30 94 r12.toNatClampNeg + 1) c = upd (dvH (M 2) (foK (stF (vC M) (M 90)) (M 89) (M 88 3).toNatClampNeg (fun _ => 0)) x (M 1 0).toNatClampNeg x3_30.toNatClampNeg) (dvF (M 2) (foK (stF (vC M) (M 90)) (M 89) (M 88 3).toNatClampNeg (fun _ => 0)) (dvH (M 2) (foK (stF (vC M) (M 90)) (M 89) (M 88 3).toNatClampNeg (fun _ => 0)) x (M 1 0).toNatClampNeg x3_30.toNatClampNeg) x (M 1 0).toNatClampNeg).toNatClampNeg (dvH (M 2) (foK (stF (vC M) (M 90)) (M 89) (M 88 3).toNatClampNeg (fun _ => 0)) x (M 1 0).toNatClampNeg x3_30.toNatClampNeg (dvF (M 2) (foK (stF (vC M) (M 90)) (M 89) (M 88 3).toNatClampNeg (fun _ => 0)) (dvH (M 2) (foK (stF (vC M) (M 90)) (M 89) (M 88 3).toNatClampNeg (fun _ => 0)) x (M 1 0).toNatClampNeg x3_30.toNatClampNeg) x (M 1 0).toNatClampNeg).toNatClampNeg + 1) c
          rw [← eb, upd_at, upd_at, j30_4 r12.toNatClampNeg (by omega)]
          by_cases e9 : c = r12.toNatClampNeg
          · rw [if_pos e9, if_pos e9]
          · rw [if_neg e9, if_neg e9]; exact j30_4 c hc
        have eR : RP (M25 191 0) (M25 192) (M25 191 2) (M25 193) (M25 194) (dvS (M 2) (foK (stF (vC M) (M 90)) (M 89) (M 88 3).toNatClampNeg (fun _ => 0)) x (M 1 0).toNatClampNeg v26.toNatClampNeg) (oneR (dvS (M 2) (foK (stF (vC M) (M 90)) (M 89) (M 88 3).toNatClampNeg (fun _ => 0)) x (M 1 0).toNatClampNeg v26.toNatClampNeg)) := by
          rw [iv]
          show RP (M25 191 0) (M25 192) (M25 191 2) (M25 193) (M25 194) (dvS (M 2) (foK (stF (vC M) (M 90)) (M 89) (M 88 3).toNatClampNeg (fun _ => 0)) x (M 1 0).toNatClampNeg x3_30.toNatClampNeg ++ [dvF (M 2) (foK (stF (vC M) (M 90)) (M 89) (M 88 3).toNatClampNeg (fun _ => 0)) (dvH (M 2) (foK (stF (vC M) (M 90)) (M 89) (M 88 3).toNatClampNeg (fun _ => 0)) x (M 1 0).toNatClampNeg x3_30.toNatClampNeg) x (M 1 0).toNatClampNeg]) (oneR (dvS (M 2) (foK (stF (vC M) (M 90)) (M 89) (M 88 3).toNatClampNeg (fun _ => 0)) x (M 1 0).toNatClampNeg x3_30.toNatClampNeg ++ [dvF (M 2) (foK (stF (vC M) (M 90)) (M 89) (M 88 3).toNatClampNeg (fun _ => 0)) (dvH (M 2) (foK (stF (vC M) (M 90)) (M 89) (M 88 3).toNatClampNeg (fun _ => 0)) x (M 1 0).toNatClampNeg x3_30.toNatClampNeg) x (M 1 0).toNatClampNeg]))
          rw [oneR_app, ← eb]
          exact rp3
        have eU : ∀ c, c < 10 → L22 91 c = (foK (stF (vC M) (M 90)) (M 89) (M 88 3).toNatClampNeg (fun _ => 0)) c := fun c hc => (congrFun (show L22 91 = L_30 91 from p91) c).trans (j30_5 c hc)
        exact ih_30 (v26, M25, L22) ⟨by show 0 ≤ v26.toInt; omega, by show v26.toInt ≤ (M 88 4).toInt; omega, by show (M25 191 0).toInt = v26.toInt; omega, by show (M25 191 2).toInt = v26.toInt; omega, by show ∀ c, c < 10 → M25 94 c = dvH (M 2) (foK (stF (vC M) (M 90)) (M 89) (M 88 3).toNatClampNeg (fun _ => 0)) x (M 1 0).toNatClampNeg v26.toNatClampNeg c; exact eH, by show ∀ c, c < 10 → L22 91 c = (foK (stF (vC M) (M 90)) (M 89) (M 88 3).toNatClampNeg (fun _ => 0)) c; exact eU, by show RP (M25 191 0) (M25 192) (M25 191 2) (M25 193) (M25 194) (dvS (M 2) (foK (stF (vC M) (M 90)) (M 89) (M 88 3).toNatClampNeg (fun _ => 0)) x (M 1 0).toNatClampNeg v26.toNatClampNeg) (oneR (dvS (M 2) (foK (stF (vC M) (M 90)) (M 89) (M 88 3).toNatClampNeg (fun _ => 0)) x (M 1 0).toNatClampNeg v26.toNatClampNeg)); exact eR, hI, hF, hG⟩ (by show (31 - v26.toInt).toNat < (31 - x3_30.toInt).toNat; omega)
      ·
        have f27 := feq rfl (by decide : ((-9) : Int32).toInt = (-9)) c15
        exact g_vret C hr ⟨(by exfalso; omega), hI, hF, hG⟩ dX5_seatByDivisors_55
  ·
    have f28 := fnle (by decide : (10 : Int32).toInt = 10) rfl c5
    refine g_aload_n C 1 dX5_seatByDivisors_15 rfl ?_
    refine g_get C (.ref (ad 94)) 1 in_X5_seatByDivisors_5 (List.mem_of_getElem? (i := 2) rfl) (by decide) (ce_plain ad cs _ _) rfl (by decide) rfl rfl dX5_seatByDivisors_16 ?_
    refine g_iload_n C 0 dX5_seatByDivisors_19 rfl ?_
    refine g_iconst C 0 dX5_seatByDivisors_20 (by decide) ?_
    have nx3_9 := ixn (x := x3_9) (by omega)
    refine g_iast C (by decide) (ce_lseats ad cs _ _) (by rw [sI_k]; rfl) (fin' (n := 10) rfl (by omega) (by omega)) dX5_seatByDivisors_21 ?_
    refine g_nm (fun M29 hM29 => ?_)
    have zy30 : (0 : Int32).toInt = 0 := by decide
    have hI : IC M29 := by rw [hM29]; exact hI.st (bC_free (by decide) (by decide) (by decide) (by decide) (by decide) (by decide) (by decide))
    have hF : ∀ k i, k ≠ 94 ∧ ¬ (k = 191 ∧ i = 0) ∧ ¬ (k = 191 ∧ i = 2) ∧ k ≠ 192 ∧ k ≠ 193 ∧ k ≠ 194 → M29 k i = M k i := fun k i hk => by (rw [hM29, sI_at, if_neg (by omega)]; try exact hF k i hk)
    have k191_0 : M29 191 0 = M_9 191 0 := by rw [hM29, sI_n _ _ _ (by decide)]; try exact k191_0
    have k191_2 : M29 191 2 = M_9 191 2 := by rw [hM29, sI_n _ _ _ (by decide)]; try exact k191_2
    have q192 : M29 192 = M_9 192 := by rw [hM29, sI_n _ _ _ (by decide)]; try exact q192
    have q193 : M29 193 = M_9 193 := by rw [hM29, sI_n _ _ _ (by decide)]; try exact q193
    have q194 : M29 194 = M_9 194 := by rw [hM29, sI_n _ _ _ (by decide)]; try exact q194
    have hV : vC M29 = vC M_9 := by rw [hM29, vC_z (by decide), hV]
    obtain ⟨v31, ev31⟩ : ∃ y : Int32, y = x3_9 + 1 := ⟨_, rfl⟩
    try have fv31 := fadd rfl (by decide : (1 : Int32).toInt = 1) ev31 (by omega) (by omega)
    refine g_iinc C 0 v31 [(3, .int v31), (0, .ref (ad 93)), (1, .int x), (2, .ref (ad 191))] dX5_seatByDivisors_22 rfl (by rw [ev31]; rfl) (by decide) rfl ?_
    refine g_goto C 9 dX5_seatByDivisors_25 (by decide) ?_
    have nv := ixn (x := v31) (by omega)
    have hall : ∀ c : Nat, c < v31.toNatClampNeg → M29 94 c = 0 := by
      intro c hc
      rw [hM29, sI_at]
      by_cases e9 : c = x3_9.toNatClampNeg
      · rw [if_pos ⟨rfl, e9⟩]
      · rw [if_neg (fun h => e9 h.2)]; exact j9_2 c (by omega)
    exact ih_9 (v31, M29, L_9) ⟨by show 0 ≤ v31.toInt; omega, by show v31.toInt ≤ 10; omega, by show ∀ c : Nat, c < v31.toNatClampNeg → M29 94 c = 0; exact hall, by show (M29 191 0).toInt = 0 ∧ (M29 191 2).toInt = 0; exact ⟨by rw [k191_0]; exact j9_3.1, by rw [k191_2]; exact j9_3.2⟩, by show ∀ c, c < 10 → L_9 91 c = (foK (stF (vC M) (M 90)) (M 89) (M 88 3).toNatClampNeg (fun _ => 0)) c; exact j9_4, hI, hF, hG⟩ (by show (11 - v31.toInt).toNat < (11 - x3_9.toInt).toNat; omega)
