set_option maxHeartbeats 4000000 in
set_option maxRecDepth 100000 in
theorem v_X0_placeOf (l : Launch) (D : va_G) (ad : Nat → Nat) (cs : Nat → ClassId) (M : MI) (L : ML) (b : Int32) (x : Int32) (hI : IC M) (hb : 0 ≤ b.toInt ∧ b.toInt < 60) : Ci l yX0_placeOf wsX0_placeOf ({ frames := 0, cells := 0, slots := 0, locals := 0 }) D ad cs [.ref (ad 3), .int b, .int x] M L (fun r M1 L1 => M1 = M ∧ L1 = L ∧ ((r.toInt = 10 ∧ (placeV (vC M) b x).toInt = -9) ∨ (r = placeV (vC M) b x ∧ 0 ≤ r.toInt ∧ r.toInt < 10))) := by
  refine enter_i RX0 rfl [(0, .ref (ad 3)), (1, .int b), (2, .int x)] rfl (Nat.le_of_ble_eq_true rfl) (by decide +kernel) rfl ?_
  intro p e s m below meth c C hr
  have hF : ∀ k i, True → M k i = M k i := fun _ _ _ => rfl
  have hG : ∀ k i, True → L k i = L k i := fun _ _ _ => rfl
  have w0 : (vC M 0 0).toInt = (M 1 0).toInt := rfl
  have w1 : (vC M 0 1).toInt = (M 3 0).toInt := rfl
  have w2 : (vC M 0 2).toInt = (M 68 0).toInt := rfl
  have w3 : (vC M 0 3).toInt = (M 81 0).toInt := rfl
  obtain ⟨y0a, y0b⟩ := (show rg 0 10 (M 1 0) from hI 1 0 rfl)
  obtain ⟨y1a, y1b⟩ := (show rg 0 60 (M 3 0) from hI 3 0 rfl)
  obtain ⟨y2a, y2b⟩ := (show rg 0 8 (M 68 0) from hI 68 0 rfl)
  obtain ⟨y3a, y3b⟩ := (show rg 0 20 (M 81 0) from hI 81 0 rfl)
  obtain ⟨hb1, hb2⟩ := hb
  obtain ⟨oa, ob⟩ := (show rg 0 10 (vC M 4 b.toNatClampNeg) from hI 6 _)
  have no := ixn (x := vC M 4 b.toNatClampNeg) oa
  have nb := ixn (x := b) (by omega)
  refine g_iconst C 0 dX0_placeOf_0 (by decide) ?_
  refine g_istore_n C [(3, .int 0), (0, .ref (ad 3)), (1, .int b), (2, .int x)] dX0_placeOf_1 (by decide) rfl ?_
  have zy1 : (0 : Int32).toInt = 0 := by decide
  refine g_loop (α := Int32 × MI × ML) (fun a => (11 - a.1.toInt).toNat) (fun a => (0 ≤ a.1.toInt) ∧ (a.1.toInt ≤ 10) ∧ (pF (mk (vC M) b.toNatClampNeg) x ((vC M 4 b.toNatClampNeg).toNatClampNeg - a.1.toNatClampNeg) a.1.toNatClampNeg = placeV (vC M) b x) ∧ IC a.2.1 ∧ (∀ k i, True → a.2.1 k i = M k i) ∧ (∀ k i, True → a.2.2 k i = L k i)) (fun a => a.2.1) (fun a => a.2.2) (fun a => [(3, .int a.1), (0, .ref (ad 3)), (1, .int b), (2, .int x)]) ((0 : Int32), M, L) ⟨by show 0 ≤ (0 : Int32).toInt; omega, by show (0 : Int32).toInt ≤ 10; omega, by show pF (mk (vC M) b.toNatClampNeg) x ((vC M 4 b.toNatClampNeg).toNatClampNeg - (0 : Int32).toNatClampNeg) (0 : Int32).toNatClampNeg = placeV (vC M) b x; rfl, hI, hF, hG⟩ rfl rfl rfl ?_
  rintro ⟨x3_2, M_2, L_2⟩ ⟨j2_0, j2_1, j2_2, hI, hF, hG⟩ ih_2
  dsimp only at j2_0 j2_1 j2_2 hI hF hG ih_2 ⊢
  have nx := ixn (x := x3_2) (by omega)
  refine g_iload_n C 0 dX0_placeOf_2 rfl ?_
  refine g_aload_n C 1 dX0_placeOf_3 rfl ?_
  refine g_get C (.ref (ad 6)) 3 in_X0_placeOf_0 (List.mem_of_getElem? (i := 1) rfl) (by decide) (ce_ball ad cs _ _) rfl (by decide) rfl rfl dX0_placeOf_4 ?_
  refine g_iload_n C 2 dX0_placeOf_7 rfl ?_
  have nb := ixn (x := b) (by omega)
  refine g_iald C (by decide) (ce_bonit ad cs _ _) (fin' (n := 60) rfl (by omega) (by omega)) dX0_placeOf_8 ?_
  refine g_ni (fun v2 ev2 => ?_)
  have gv2 : v2 = vC M 4 b.toNatClampNeg := ev2.trans (hF 6 b.toNatClampNeg trivial)
  have tv2 := congrArg Int32.toInt gv2
  obtain ⟨bv2, dv2⟩ := (show rg 0 10 v2 from (by rw [ev2]; exact hI 6 b.toNatClampNeg))
  refine g_icmp_ge C 32 dX0_placeOf_9 (by decide) (fun c3 => ?_) (fun c3 => ?_)
  ·
    have f4 := fle rfl rfl c3
    refine g_bipush C 10 dX0_placeOf_32 (by decide) ?_
    have zr9 : (10 : Int32).toInt = 10 := by decide
    exact g_iret C hr ⟨funext (fun k => funext (fun i => hF k i trivial)), funext (fun k => funext (fun i => hG k i trivial)), (Or.inl ⟨by decide, by rw [← j2_2, pF_end (by omega)]; decide⟩)⟩ dX0_placeOf_34
  ·
    have f5 := fnle rfl rfl c3
    refine g_aload_n C 1 dX0_placeOf_12 rfl ?_
    refine g_get C (.ref (ad 7)) 4 in_X0_placeOf_0 (List.mem_of_getElem? (i := 2) rfl) (by decide) (ce_ball ad cs _ _) rfl (by decide) rfl rfl dX0_placeOf_13 ?_
    refine g_iload_n C 2 dX0_placeOf_16 rfl ?_
    have hi6 : vp_in b 60 := (fin' (n := 60) rfl (by omega) (by omega))
    have nhi6 := tn hi6
    have mhi6 := ixn (x := b) (by omega)
    refine g_aald C (by decide) (ce_browm ad cs _ _) rfl hi6 dX0_placeOf_17 ?_
    refine g_iload_n C 0 dX0_placeOf_18 rfl ?_
    have nx3_2 := ixn (x := x3_2) (by omega)
    refine g_iald C (by omega) (ce_brow ad cs _ _ nhi6) (fin' (n := 10) rfl (by omega) (by omega)) dX0_placeOf_19 ?_
    refine g_ni (fun v7 ev7 => ?_)
    have gv7 := ev7.trans (hF (8 + b.toNatClampNeg) x3_2.toNatClampNeg trivial)
    have gv7 := gv7.trans (vC5 (M := M) (by omega) (by omega)).symm
    have tv7 := congrArg Int32.toInt gv7
    obtain ⟨bv7, dv7⟩ := (show rg 0 9 v7 from (by rw [ev7]; exact hI.row _ (by omega) (by omega)))
    refine g_iload_n C 3 dX0_placeOf_20 rfl ?_
    refine g_icmp_ne C 26 dX0_placeOf_21 (by decide) (fun c8 => ?_) (fun c8 => ?_)
    ·
      have f9 := fne rfl rfl c8
      obtain ⟨v10, ev10⟩ : ∃ y : Int32, y = x3_2 + 1 := ⟨_, rfl⟩
      try have fv10 := fadd rfl (by decide : (1 : Int32).toInt = 1) ev10 (by omega) (by omega)
      refine g_iinc C 0 v10 [(3, .int v10), (0, .ref (ad 3)), (1, .int b), (2, .int x)] dX0_placeOf_26 rfl (by rw [ev10]; rfl) (by decide) rfl ?_
      refine g_goto C 2 dX0_placeOf_29 (by decide) ?_
      have nv := ixn (x := v10) (by omega)
      exact ih_2 (v10, M_2, L_2) ⟨by show 0 ≤ v10.toInt; omega, by show v10.toInt ≤ 10; omega, by show pF (mk (vC M) b.toNatClampNeg) x ((vC M 4 b.toNatClampNeg).toNatClampNeg - v10.toNatClampNeg) v10.toNatClampNeg = placeV (vC M) b x; rw [← j2_2, pF_go (k := x3_2.toNatClampNeg) (by omega) (by show ¬ (vC M 5 (10 * b.toNatClampNeg + x3_2.toNatClampNeg)).toInt = x.toInt; omega)]; congr 1 <;> omega, hI, hF, hG⟩ (by show (11 - v10.toInt).toNat < (11 - x3_2.toInt).toNat; omega)
    ·
      have f11 := feq rfl rfl c8
      refine g_iload_n C 0 dX0_placeOf_24 rfl ?_
      exact g_iret C hr ⟨funext (fun k => funext (fun i => hF k i trivial)), funext (fun k => funext (fun i => hG k i trivial)), (Or.inr ⟨by rw [← j2_2, pF_hit (by omega) (by show (vC M 5 (10 * b.toNatClampNeg + x3_2.toNatClampNeg)).toInt = x.toInt; omega), of_ix (by omega)], by omega, by omega⟩)⟩ dX0_placeOf_25
set_option maxHeartbeats 4000000 in
set_option maxRecDepth 100000 in
theorem v_X0_hasRoomFor (l : Launch) (D : va_G) (ad : Nat → Nat) (cs : Nat → ClassId) (M : MI) (L : ML) (b : Int32) (x : Int32) (hI : IC M) (hb : 0 ≤ b.toInt ∧ b.toInt < 60) (hS : ∀ b, 0 ≤ (vC M 2 b).toInt ∧ (vC M 2 b).toInt ≤ 3) : Ci l yX0_hasRoomFor wsX0_hasRoomFor ({ frames := 2, cells := 0, slots := 0, locals := 46 }) D ad cs [.ref (ad 3), .int b, .int x] M L (fun r M1 L1 => M1 = M ∧ L1 = L ∧ (zo r (((vC M 4 (b.toNatClampNeg)).toInt < 1 ∨ (¬ (vC M 2 (b.toNatClampNeg)).toInt = 2 ∧ (vC M 4 (b.toNatClampNeg)).toInt < 10)) ∧ (placeV (vC M) b x).toInt = -9))) := by
  refine enter_i RX0 rfl [(0, .ref (ad 3)), (1, .int b), (2, .int x)] rfl (Nat.le_of_ble_eq_true rfl) (by decide +kernel) rfl ?_
  intro p e s m below meth c C hr
  have hF : ∀ k i, True → M k i = M k i := fun _ _ _ => rfl
  have hG : ∀ k i, True → L k i = L k i := fun _ _ _ => rfl
  have w0 : (vC M 0 0).toInt = (M 1 0).toInt := rfl
  have w1 : (vC M 0 1).toInt = (M 3 0).toInt := rfl
  have w2 : (vC M 0 2).toInt = (M 68 0).toInt := rfl
  have w3 : (vC M 0 3).toInt = (M 81 0).toInt := rfl
  obtain ⟨y0a, y0b⟩ := (show rg 0 10 (M 1 0) from hI 1 0 rfl)
  obtain ⟨y1a, y1b⟩ := (show rg 0 60 (M 3 0) from hI 3 0 rfl)
  obtain ⟨y2a, y2b⟩ := (show rg 0 8 (M 68 0) from hI 68 0 rfl)
  obtain ⟨y3a, y3b⟩ := (show rg 0 20 (M 81 0) from hI 81 0 rfl)
  obtain ⟨hb1, hb2⟩ := hb
  obtain ⟨oa, ob⟩ := (show rg 0 10 (vC M 4 b.toNatClampNeg) from hI 6 _)
  have no := ixn (x := vC M 4 b.toNatClampNeg) oa
  have nb := ixn (x := b) (by omega)
  have hSb := hS b.toNatClampNeg
  have z2 : (2 : Int32).toInt = 2 := by decide
  refine g_aload_n C 0 dX0_hasRoomFor_0 rfl ?_
  refine g_iload_n C 1 dX0_hasRoomFor_1 rfl ?_
  refine g_iconst C 2 dX0_hasRoomFor_2 (by decide) ?_
  refine g_callVi C (n := 2) (As := [.int b, .int 2]) (st := []) (v_X0_isOf l D ad cs _ _ b 2 hI ⟨by omega, by omega⟩ (by first | omega | decide) hS) gX0_hasRoomFor_X0_isOf rfl rfl rfl (by decide +kernel) ⟨Nat.le_of_ble_eq_true rfl, Nat.le_of_ble_eq_true rfl⟩ rfl (Nat.le_of_ble_eq_true rfl) ⟨Nat.zero_le _, Nat.zero_le _⟩ (by decide) (ce_ball ad cs _ _) rfl rfl dX0_hasRoomFor_3 (fun r1 M2 L3 hr1 => ?_)
  obtain ⟨hq1, hq2, hr1⟩ := hr1
  obtain rfl := hq1.symm
  obtain rfl := hq2.symm
  obtain ⟨bar1, bbr1⟩ := zo_b hr1
  refine g_if_eq C 13 dX0_hasRoomFor_6 (by decide) (fun c4 => ?_) (fun c4 => ?_)
  ·
    have f5 := feq rfl (by decide : (0 : Int32).toInt = 0) c4
    have pr1 := zo_f hr1 c4
    try dsimp only [hasC, hasB, hasX, hasM, ofS, ofK, bt] at pr1
    refine g_bipush C 10 dX0_hasRoomFor_13 (by decide) ?_
    refine g_istore_n C [(3, .int 10), (0, .ref (ad 3)), (1, .int b), (2, .int x)] dX0_hasRoomFor_15 (by decide) rfl ?_
    refine g_aload_n C 1 dX0_hasRoomFor_16 rfl ?_
    refine g_get C (.ref (ad 6)) 3 in_X0_hasRoomFor_0 (List.mem_of_getElem? (i := 1) rfl) (by decide) (ce_ball ad cs _ _) rfl (by decide) rfl rfl dX0_hasRoomFor_17 ?_
    refine g_iload_n C 2 dX0_hasRoomFor_20 rfl ?_
    have nb := ixn (x := b) (by omega)
    refine g_iald C (by decide) (ce_bonit ad cs _ _) (fin' (n := 60) rfl (by omega) (by omega)) dX0_hasRoomFor_21 ?_
    refine g_ni (fun v6 ev6 => ?_)
    have gv6 : v6 = vC M 4 b.toNatClampNeg := ev6
    have tv6 := congrArg Int32.toInt gv6
    obtain ⟨bv6, dv6⟩ := (show rg 0 10 v6 from (by rw [ev6]; exact hI 6 b.toNatClampNeg))
    refine g_iload_n C 0 dX0_hasRoomFor_22 rfl ?_
    refine g_icmp_ge C 41 dX0_hasRoomFor_23 (by decide) (fun c7 => ?_) (fun c7 => ?_)
    ·
      have f8 := fle (by decide : (10 : Int32).toInt = 10) rfl c7
      refine g_iconst C 0 dX0_hasRoomFor_41 (by decide) ?_
      have zr9 : (0 : Int32).toInt = 0 := by decide
      exact g_zret C hr rfl ⟨rfl, rfl, (by first | exact Or.inl ⟨rfl, by omega⟩ | exact Or.inr ⟨rfl, by omega⟩)⟩ dX0_hasRoomFor_42
    ·
      have f9 := fnle (by decide : (10 : Int32).toInt = 10) rfl c7
      refine g_aload_n C 1 dX0_hasRoomFor_26 rfl ?_
      refine g_iload_n C 2 dX0_hasRoomFor_27 rfl ?_
      refine g_iload_n C 3 dX0_hasRoomFor_28 rfl ?_
      refine g_callVi C (n := 2) (As := [.int b, .int x]) (st := []) (v_X0_placeOf l D ad cs _ _ b x hI ⟨by omega, by omega⟩) gX0_hasRoomFor_X0_placeOf rfl rfl rfl (by decide +kernel) ⟨Nat.le_of_ble_eq_true rfl, Nat.le_of_ble_eq_true rfl⟩ rfl (Nat.le_of_ble_eq_true rfl) ⟨Nat.zero_le _, Nat.zero_le _⟩ (by decide) (ce_ball ad cs _ _) rfl rfl dX0_hasRoomFor_29 (fun r10 M11 L12 hr10 => ?_)
      obtain ⟨hq1, hq2, hr10⟩ := hr10
      obtain rfl := hq1.symm
      obtain rfl := hq2.symm
      have tr10 : (r10.toInt = 10 ∧ (placeV (vC M) b x).toInt = -9) ∨ (r10.toInt = (placeV (vC M) b x).toInt ∧ 0 ≤ r10.toInt ∧ r10.toInt < 10) := by rcases hr10 with h9 | h9; (exact Or.inl h9); (exact Or.inr ⟨congrArg Int32.toInt h9.1, h9.2⟩)
      refine g_bipush C 10 dX0_hasRoomFor_32 (by decide) ?_
      refine g_icmp_ne C 41 dX0_hasRoomFor_34 (by decide) (fun c13 => ?_) (fun c13 => ?_)
      ·
        have f14 := fne rfl (by decide : (10 : Int32).toInt = 10) c13
        refine g_iconst C 0 dX0_hasRoomFor_41 (by decide) ?_
        have zr9 : (0 : Int32).toInt = 0 := by decide
        exact g_zret C hr rfl ⟨rfl, rfl, (by first | exact Or.inl ⟨rfl, by omega⟩ | exact Or.inr ⟨rfl, by omega⟩)⟩ dX0_hasRoomFor_42
      ·
        have f15 := feq rfl (by decide : (10 : Int32).toInt = 10) c13
        refine g_iconst C 1 dX0_hasRoomFor_37 (by decide) ?_
        refine g_goto C 42 dX0_hasRoomFor_38 (by decide) ?_
        have zr9 : (1 : Int32).toInt = 1 := by decide
        exact g_zret C hr rfl ⟨rfl, rfl, (by first | exact Or.inl ⟨rfl, by omega⟩ | exact Or.inr ⟨rfl, by omega⟩)⟩ dX0_hasRoomFor_42
  ·
    have f16 := fne rfl (by decide : (0 : Int32).toInt = 0) c4
    have pr1 := zo_t hr1 c4
    try dsimp only [hasC, hasB, hasX, hasM, ofS, ofK, bt] at pr1
    refine g_iconst C 1 dX0_hasRoomFor_9 (by decide) ?_
    refine g_goto C 15 dX0_hasRoomFor_10 (by decide) ?_
    refine g_istore_n C [(3, .int 1), (0, .ref (ad 3)), (1, .int b), (2, .int x)] dX0_hasRoomFor_15 (by decide) rfl ?_
    refine g_aload_n C 1 dX0_hasRoomFor_16 rfl ?_
    refine g_get C (.ref (ad 6)) 3 in_X0_hasRoomFor_0 (List.mem_of_getElem? (i := 1) rfl) (by decide) (ce_ball ad cs _ _) rfl (by decide) rfl rfl dX0_hasRoomFor_17 ?_
    refine g_iload_n C 2 dX0_hasRoomFor_20 rfl ?_
    have nb := ixn (x := b) (by omega)
    refine g_iald C (by decide) (ce_bonit ad cs _ _) (fin' (n := 60) rfl (by omega) (by omega)) dX0_hasRoomFor_21 ?_
    refine g_ni (fun v17 ev17 => ?_)
    have gv17 : v17 = vC M 4 b.toNatClampNeg := ev17
    have tv17 := congrArg Int32.toInt gv17
    obtain ⟨bv17, dv17⟩ := (show rg 0 10 v17 from (by rw [ev17]; exact hI 6 b.toNatClampNeg))
    refine g_iload_n C 0 dX0_hasRoomFor_22 rfl ?_
    refine g_icmp_ge C 41 dX0_hasRoomFor_23 (by decide) (fun c18 => ?_) (fun c18 => ?_)
    ·
      have f19 := fle (by decide : (1 : Int32).toInt = 1) rfl c18
      refine g_iconst C 0 dX0_hasRoomFor_41 (by decide) ?_
      have zr9 : (0 : Int32).toInt = 0 := by decide
      exact g_zret C hr rfl ⟨rfl, rfl, (by first | exact Or.inl ⟨rfl, by omega⟩ | exact Or.inr ⟨rfl, by omega⟩)⟩ dX0_hasRoomFor_42
    ·
      have f20 := fnle (by decide : (1 : Int32).toInt = 1) rfl c18
      refine g_aload_n C 1 dX0_hasRoomFor_26 rfl ?_
      refine g_iload_n C 2 dX0_hasRoomFor_27 rfl ?_
      refine g_iload_n C 3 dX0_hasRoomFor_28 rfl ?_
      refine g_callVi C (n := 2) (As := [.int b, .int x]) (st := []) (v_X0_placeOf l D ad cs _ _ b x hI ⟨by omega, by omega⟩) gX0_hasRoomFor_X0_placeOf rfl rfl rfl (by decide +kernel) ⟨Nat.le_of_ble_eq_true rfl, Nat.le_of_ble_eq_true rfl⟩ rfl (Nat.le_of_ble_eq_true rfl) ⟨Nat.zero_le _, Nat.zero_le _⟩ (by decide) (ce_ball ad cs _ _) rfl rfl dX0_hasRoomFor_29 (fun r21 M22 L23 hr21 => ?_)
      obtain ⟨hq1, hq2, hr21⟩ := hr21
      obtain rfl := hq1.symm
      obtain rfl := hq2.symm
      have tr21 : (r21.toInt = 10 ∧ (placeV (vC M) b x).toInt = -9) ∨ (r21.toInt = (placeV (vC M) b x).toInt ∧ 0 ≤ r21.toInt ∧ r21.toInt < 10) := by rcases hr21 with h9 | h9; (exact Or.inl h9); (exact Or.inr ⟨congrArg Int32.toInt h9.1, h9.2⟩)
      refine g_bipush C 10 dX0_hasRoomFor_32 (by decide) ?_
      refine g_icmp_ne C 41 dX0_hasRoomFor_34 (by decide) (fun c24 => ?_) (fun c24 => ?_)
      ·
        have f25 := fne rfl (by decide : (10 : Int32).toInt = 10) c24
        refine g_iconst C 0 dX0_hasRoomFor_41 (by decide) ?_
        have zr9 : (0 : Int32).toInt = 0 := by decide
        exact g_zret C hr rfl ⟨rfl, rfl, (by first | exact Or.inl ⟨rfl, by omega⟩ | exact Or.inr ⟨rfl, by omega⟩)⟩ dX0_hasRoomFor_42
      ·
        have f26 := feq rfl (by decide : (10 : Int32).toInt = 10) c24
        refine g_iconst C 1 dX0_hasRoomFor_37 (by decide) ?_
        refine g_goto C 42 dX0_hasRoomFor_38 (by decide) ?_
        have zr9 : (1 : Int32).toInt = 1 := by decide
        exact g_zret C hr rfl ⟨rfl, rfl, (by first | exact Or.inl ⟨rfl, by omega⟩ | exact Or.inr ⟨rfl, by omega⟩)⟩ dX0_hasRoomFor_42
set_option maxHeartbeats 4000000 in
set_option maxRecDepth 100000 in
theorem v_X0_append (l : Launch) (D : va_G) (ad : Nat → Nat) (cs : Nat → ClassId) (M : MI) (L : ML) (b : Int32) (x : Int32) (hI : IC M) (hb : 0 ≤ b.toInt ∧ b.toInt < 60) (hx : 0 ≤ x.toInt ∧ x.toInt < 10) (ho : (vC M 4 (b.toNatClampNeg)).toInt < 10) : Ci l yX0_append wsX0_append ({ frames := 0, cells := 0, slots := 0, locals := 0 }) D ad cs [.ref (ad 3), .int b, .int x] M L (fun r M1 L1 => (r = vC M 4 (b.toNatClampNeg) + 1 ∧ vC M1 = sI (sI (vC M) 5 (10 * b.toNatClampNeg + (vC M 4 (b.toNatClampNeg)).toNatClampNeg) x) 4 (b.toNatClampNeg) (vC M 4 (b.toNatClampNeg) + 1)) ∧ IC M1 ∧ (∀ k i, k ≠ 6 ∧ ¬ (8 ≤ k ∧ k < 68) → M1 k i = M k i) ∧ ∀ k i, True → L1 k i = L k i) := by
  refine enter_i RX0 rfl [(0, .ref (ad 3)), (1, .int b), (2, .int x)] rfl (Nat.le_of_ble_eq_true rfl) (by decide +kernel) rfl ?_
  intro p e s m below meth c C hr
  have hF : ∀ k i, k ≠ 6 ∧ ¬ (8 ≤ k ∧ k < 68) → M k i = M k i := fun _ _ _ => rfl
  have hG : ∀ k i, True → L k i = L k i := fun _ _ _ => rfl
  have w0 : (vC M 0 0).toInt = (M 1 0).toInt := rfl
  have w1 : (vC M 0 1).toInt = (M 3 0).toInt := rfl
  have w2 : (vC M 0 2).toInt = (M 68 0).toInt := rfl
  have w3 : (vC M 0 3).toInt = (M 81 0).toInt := rfl
  obtain ⟨y0a, y0b⟩ := (show rg 0 10 (M 1 0) from hI 1 0 rfl)
  obtain ⟨y1a, y1b⟩ := (show rg 0 60 (M 3 0) from hI 3 0 rfl)
  obtain ⟨y2a, y2b⟩ := (show rg 0 8 (M 68 0) from hI 68 0 rfl)
  obtain ⟨y3a, y3b⟩ := (show rg 0 20 (M 81 0) from hI 81 0 rfl)
  obtain ⟨hb1, hb2⟩ := hb
  obtain ⟨oa, ob⟩ := (show rg 0 10 (vC M 4 b.toNatClampNeg) from hI 6 _)
  have no := ixn (x := vC M 4 b.toNatClampNeg) oa
  have nb := ixn (x := b) (by omega)
  obtain ⟨hx1, hx2⟩ := hx
  have q6 : M 6 = M 6 := rfl
  have q8 : ∀ k, 8 ≤ k ∧ k < 68 → M k = M k := fun _ _ => rfl
  have hV : vC M = vC M := rfl
  refine g_aload_n C 0 dX0_append_0 rfl ?_
  refine g_get C (.ref (ad 7)) 4 in_X0_append_0 (List.mem_of_getElem? (i := 1) rfl) (by decide) (ce_ball ad cs _ _) rfl (by decide) rfl rfl dX0_append_1 ?_
  refine g_iload_n C 1 dX0_append_4 rfl ?_
  have hi1 : vp_in b 60 := (fin' (n := 60) rfl (by omega) (by omega))
  have nhi1 := tn hi1
  have mhi1 := ixn (x := b) (by omega)
  refine g_aald C (by decide) (ce_browm ad cs _ _) rfl hi1 dX0_append_5 ?_
  refine g_aload_n C 0 dX0_append_6 rfl ?_
  refine g_get C (.ref (ad 6)) 3 in_X0_append_0 (List.mem_of_getElem? (i := 2) rfl) (by decide) (ce_ball ad cs _ _) rfl (by decide) rfl rfl dX0_append_7 ?_
  refine g_iload_n C 1 dX0_append_10 rfl ?_
  have nb := ixn (x := b) (by omega)
  refine g_iald C (by decide) (ce_bonit ad cs _ _) (fin' (n := 60) rfl (by omega) (by omega)) dX0_append_11 ?_
  refine g_ni (fun v2 ev2 => ?_)
  have gv2 : v2 = vC M 4 b.toNatClampNeg := ev2.trans (congrFun q6 _)
  have tv2 := congrArg Int32.toInt gv2
  obtain ⟨bv2, dv2⟩ := (show rg 0 10 v2 from (by rw [ev2]; exact hI 6 b.toNatClampNeg))
  refine g_iload_n C 2 dX0_append_12 rfl ?_
  have nv2 := ixn (x := v2) (by omega)
  refine g_iast C (by omega) (ce_brow ad cs _ _ nhi1) (by rw [sI_k]; exact (ce_brow ad cs _ _ nhi1)) (fin' (n := 10) rfl (by omega) (by omega)) dX0_append_13 ?_
  refine g_nm (fun M3 hM3 => ?_)
  have hI : IC M3 := by rw [hM3]; exact hI.st (bC_row (by omega) (by omega) ⟨by first | omega | decide, by first | omega | decide⟩)
  have hF : ∀ k i, k ≠ 6 ∧ ¬ (8 ≤ k ∧ k < 68) → M3 k i = M k i := fun k i hk => by (rw [hM3, sI_at, if_neg (by omega)]; try exact hF k i hk)
  have q6 : M3 6 = M 6 := by rw [hM3, sI_n _ _ _ (by omega)]; try exact q6
  have hV : vC M3 = sI (vC M) 5 (10 * b.toNatClampNeg + v2.toNatClampNeg) x := by rw [hM3, vC_row (by omega) (by omega), hV]
  refine g_aload_n C 0 dX0_append_14 rfl ?_
  refine g_get C (.ref (ad 6)) 3 in_X0_append_0 (List.mem_of_getElem? (i := 2) rfl) (by decide) (ce_ball ad cs _ _) rfl (by decide) rfl rfl dX0_append_15 ?_
  refine g_iload_n C 1 dX0_append_18 rfl ?_
  refine g_dup2 C dX0_append_19 rfl rfl ?_
  have nb := ixn (x := b) (by omega)
  refine g_iald C (by decide) (ce_bonit ad cs _ _) (fin' (n := 60) rfl (by omega) (by omega)) dX0_append_20 ?_
  refine g_ni (fun v4 ev4 => ?_)
  have gv4 : v4 = vC M 4 b.toNatClampNeg := ev4.trans (congrFun q6 _)
  have tv4 := congrArg Int32.toInt gv4
  obtain ⟨bv4, dv4⟩ := (show rg 0 10 v4 from (by rw [ev4]; exact hI 6 b.toNatClampNeg))
  refine g_iconst C 1 dX0_append_21 (by decide) ?_
  refine g_iadd C dX0_append_22 ?_
  refine g_ni (fun v5 ev5 => ?_)
  try have fv5 := fadd rfl (by decide : (1 : Int32).toInt = 1) ev5 (by omega) (by omega)
  have nb := ixn (x := b) (by omega)
  refine g_iast C (by decide) (ce_bonit ad cs _ _) (by rw [sI_k]; rfl) (fin' (n := 60) rfl (by omega) (by omega)) dX0_append_23 ?_
  refine g_nm (fun M6 hM6 => ?_)
  have hI : IC M6 := by rw [hM6]; exact hI.st ⟨by first | omega | decide, by first | omega | decide⟩
  have hF : ∀ k i, k ≠ 6 ∧ ¬ (8 ≤ k ∧ k < 68) → M6 k i = M k i := fun k i hk => by (rw [hM6, sI_at, if_neg (by omega)]; try exact hF k i hk)
  have hV : vC M6 = sI (sI (vC M) 5 (10 * b.toNatClampNeg + v2.toNatClampNeg) x) 4 b.toNatClampNeg v5 := by rw [hM6, vC_a (c := 4) (by decide), hV]
  refine g_aload_n C 0 dX0_append_24 rfl ?_
  refine g_get C (.ref (ad 6)) 3 in_X0_append_0 (List.mem_of_getElem? (i := 2) rfl) (by decide) (ce_ball ad cs _ _) rfl (by decide) rfl rfl dX0_append_25 ?_
  refine g_iload_n C 1 dX0_append_28 rfl ?_
  have nb := ixn (x := b) (by omega)
  refine g_iald C (by decide) (ce_bonit ad cs _ _) (fin' (n := 60) rfl (by omega) (by omega)) dX0_append_29 ?_
  refine g_ni (fun v7 ev7 => ?_)
  have gv7 : v7 = v5 := ev7.trans (by rw [hM6, sI_at, if_pos ⟨rfl, rfl⟩])
  have tv7 := congrArg Int32.toInt gv7
  obtain ⟨bv7, dv7⟩ := (show rg 0 10 v7 from (by rw [ev7]; exact hI 6 b.toNatClampNeg))
  exact g_iret C hr ⟨⟨by simp only [gv7, ev5, gv4, gv2], by rw [hV]; simp only [gv7, ev5, gv4, gv2]⟩, hI, hF, hG⟩ dX0_append_30
set_option maxHeartbeats 4000000 in
set_option maxRecDepth 100000 in
theorem v_X10_rank (l : Launch) (D : va_G) (ad : Nat → Nat) (cs : Nat → ClassId) (M : MI) (L : ML) (b : Int32) (x : Int32) (hI : IC M) (hS : ∀ b, 0 ≤ (vC M 2 b).toInt ∧ (vC M 2 b).toInt ≤ 3) (hP : hasB (vC M) b → hasC (vC M) x → (placeV (vC M) b x).toInt = -9 → (vC M 4 (b.toNatClampNeg)).toInt < 10) (hO : hasB (vC M) b → (vC M 2 (b.toNatClampNeg)).toInt = 2 → (vC M 4 (b.toNatClampNeg)).toInt ≤ 1) : Ci l yX10_rank wsX10_rank ({ frames := 3, cells := 0, slots := 0, locals := 69 }) D ad cs [.ref (ad 0), .int b, .int x] M L (fun r M1 L1 => (A_rank (vC M) b x = (r, vC M1)) ∧ IC M1 ∧ (∀ k i, ¬ (k = 0 ∧ i = 11) ∧ k ≠ 257 ∧ k ≠ 6 ∧ ¬ (8 ≤ k ∧ k < 68) → M1 k i = M k i) ∧ ∀ k i, True → L1 k i = L k i) := by
  refine enter_i RX10 rfl [(0, .ref (ad 0)), (1, .int b), (2, .int x)] rfl (Nat.le_of_ble_eq_true rfl) (by decide +kernel) rfl ?_
  intro p e s m below meth c C hr
  have hF : ∀ k i, ¬ (k = 0 ∧ i = 11) ∧ k ≠ 257 ∧ k ≠ 6 ∧ ¬ (8 ≤ k ∧ k < 68) → M k i = M k i := fun _ _ _ => rfl
  have hG : ∀ k i, True → L k i = L k i := fun _ _ _ => rfl
  have w0 : (vC M 0 0).toInt = (M 1 0).toInt := rfl
  have w1 : (vC M 0 1).toInt = (M 3 0).toInt := rfl
  have w2 : (vC M 0 2).toInt = (M 68 0).toInt := rfl
  have w3 : (vC M 0 3).toInt = (M 81 0).toInt := rfl
  obtain ⟨y0a, y0b⟩ := (show rg 0 10 (M 1 0) from hI 1 0 rfl)
  obtain ⟨y1a, y1b⟩ := (show rg 0 60 (M 3 0) from hI 3 0 rfl)
  obtain ⟨y2a, y2b⟩ := (show rg 0 8 (M 68 0) from hI 68 0 rfl)
  obtain ⟨y3a, y3b⟩ := (show rg 0 20 (M 81 0) from hI 81 0 rfl)
  have z1 : (1 : Int32).toInt = 1 := by decide
  obtain ⟨oa, ob⟩ := (show rg 0 10 (vC M 4 b.toNatClampNeg) from hI 6 _)
  have k0_11 : M 0 11 = vC M 0 4 := rfl
  have q6 : M 6 = M 6 := rfl
  have q257 : M 257 = M 257 := rfl
  have q8 : ∀ k, 8 ≤ k ∧ k < 68 → M k = M k := fun _ _ => rfl
  have hV : vC M = vC M := rfl
  refine g_aload_n C 0 dX10_rank_0 rfl ?_
  refine g_get C (.ref (ad 3)) 1 in_X10_rank_10 (List.mem_of_getElem? (i := 1) rfl) (by decide) (ce_house ad cs _ _) rfl (by decide) rfl rfl dX10_rank_1 ?_
  refine g_iload_n C 1 dX10_rank_4 rfl ?_
  refine g_callVi C (n := 1) (As := [.int b]) (st := []) (c_X0_has l D ad cs _ _ b ) gX10_rank_X0_has rfl rfl rfl (by decide +kernel) ⟨Nat.le_of_ble_eq_true rfl, Nat.le_of_ble_eq_true rfl⟩ rfl (Nat.le_of_ble_eq_true rfl) ⟨Nat.zero_le _, Nat.zero_le _⟩ (by decide) (ce_ball ad cs _ _) rfl rfl dX10_rank_5 (fun r1 M2 L3 hr1 => ?_)
  obtain ⟨hq1, hq2, hr1⟩ := hr1
  obtain rfl := hq1.symm
  obtain rfl := hq2.symm
  have hr1 := zo_has hr1
  obtain ⟨bar1, bbr1⟩ := zo_b hr1
  refine g_if_eq C 22 dX10_rank_8 (by decide) (fun c4 => ?_) (fun c4 => ?_)
  ·
    have f5 := feq rfl (by decide : (0 : Int32).toInt = 0) c4
    have pr1 := zo_f hr1 c4
    try dsimp only [hasC, hasB, hasX, hasM, ofS, ofK, bt] at pr1
    refine g_iconst C (-1) dX10_rank_22 (by decide) ?_
    have zr9 : ((-1) : Int32).toInt = (-1) := by decide
    exact g_iret C hr ⟨(by dsimp only [A_rank, hasC, hasB, hasX, hasM, ofS, ofK, bt, ix]; (repeat (first | rw [if_pos (by omega)] | rw [if_neg (by omega)])); first | done | rfl | (simp only [ix]; done) | (simp only [ix]; rfl) | (subst_vars; first | rfl | grind)), hI, hF, hG⟩ dX10_rank_23
  ·
    have f6 := fne rfl (by decide : (0 : Int32).toInt = 0) c4
    have pr1 := zo_t hr1 c4
    try dsimp only [hasC, hasB, hasX, hasM, ofS, ofK, bt] at pr1
    refine g_aload_n C 0 dX10_rank_11 rfl ?_
    refine g_get C (.ref (ad 1)) 0 in_X10_rank_10 (List.mem_of_getElem? (i := 2) rfl) (by decide) (ce_house ad cs _ _) rfl (by decide) rfl rfl dX10_rank_12 ?_
    refine g_iload_n C 2 dX10_rank_15 rfl ?_
    refine g_callVi C (n := 1) (As := [.int x]) (st := []) (c_X2_has l D ad cs _ _ x ) gX10_rank_X2_has rfl rfl rfl (by decide +kernel) ⟨Nat.le_of_ble_eq_true rfl, Nat.le_of_ble_eq_true rfl⟩ rfl (Nat.le_of_ble_eq_true rfl) ⟨Nat.zero_le _, Nat.zero_le _⟩ (by decide) (ce_cand ad cs _ _) rfl rfl dX10_rank_16 (fun r7 M8 L9 hr7 => ?_)
    obtain ⟨hq1, hq2, hr7⟩ := hr7
    obtain rfl := hq1.symm
    obtain rfl := hq2.symm
    have hr7 := zo_has hr7
    obtain ⟨bar7, bbr7⟩ := zo_b hr7
    refine g_if_ne C 24 dX10_rank_19 (by decide) (fun c10 => ?_) (fun c10 => ?_)
    ·
      have f11 := fne rfl (by decide : (0 : Int32).toInt = 0) c10
      have pr7 := zo_t hr7 c10
      try dsimp only [hasC, hasB, hasX, hasM, ofS, ofK, bt] at pr7
      refine g_aload_n C 0 dX10_rank_24 rfl ?_
      refine g_get C (.ref (ad 3)) 1 in_X10_rank_10 (List.mem_of_getElem? (i := 1) rfl) (by decide) (ce_house ad cs _ _) rfl (by decide) rfl rfl dX10_rank_25 ?_
      refine g_iload_n C 1 dX10_rank_28 rfl ?_
      refine g_iconst C 1 dX10_rank_29 (by decide) ?_
      refine g_callVi C (n := 2) (As := [.int b, .int 1]) (st := []) (v_X0_isOf l D ad cs _ _ b 1 hI ⟨by omega, by omega⟩ (by first | omega | decide) hS) gX10_rank_X0_isOf rfl rfl rfl (by decide +kernel) ⟨Nat.le_of_ble_eq_true rfl, Nat.le_of_ble_eq_true rfl⟩ rfl (Nat.le_of_ble_eq_true rfl) ⟨Nat.zero_le _, Nat.zero_le _⟩ (by decide) (ce_ball ad cs _ _) rfl rfl dX10_rank_30 (fun r12 M13 L14 hr12 => ?_)
      obtain ⟨hq1, hq2, hr12⟩ := hr12
      obtain rfl := hq1.symm
      obtain rfl := hq2.symm
      obtain ⟨bar12, bbr12⟩ := zo_b hr12
      refine g_if_ne C 42 dX10_rank_33 (by decide) (fun c15 => ?_) (fun c15 => ?_)
      ·
        have f16 := fne rfl (by decide : (0 : Int32).toInt = 0) c15
        have pr12 := zo_t hr12 c15
        try dsimp only [hasC, hasB, hasX, hasM, ofS, ofK, bt] at pr12
        refine g_aload_n C 0 dX10_rank_42 rfl ?_
        refine g_get C (.ref (ad 3)) 1 in_X10_rank_10 (List.mem_of_getElem? (i := 1) rfl) (by decide) (ce_house ad cs _ _) rfl (by decide) rfl rfl dX10_rank_43 ?_
        refine g_iload_n C 1 dX10_rank_46 rfl ?_
        refine g_iload_n C 2 dX10_rank_47 rfl ?_
        refine g_callVi C (n := 2) (As := [.int b, .int x]) (st := []) (v_X0_hasRoomFor l D ad cs _ _ b x hI ⟨by omega, by omega⟩ hS) gX10_rank_X0_hasRoomFor rfl rfl rfl (by decide +kernel) ⟨Nat.le_of_ble_eq_true rfl, Nat.le_of_ble_eq_true rfl⟩ rfl (Nat.le_of_ble_eq_true rfl) ⟨Nat.zero_le _, Nat.zero_le _⟩ (by decide) (ce_ball ad cs _ _) rfl rfl dX10_rank_48 (fun r17 M18 L19 hr17 => ?_)
        obtain ⟨hq1, hq2, hr17⟩ := hr17
        obtain rfl := hq1.symm
        obtain rfl := hq2.symm
        obtain ⟨bar17, bbr17⟩ := zo_b hr17
        refine g_if_ne C 57 dX10_rank_51 (by decide) (fun c20 => ?_) (fun c20 => ?_)
        ·
          have f21 := fne rfl (by decide : (0 : Int32).toInt = 0) c20
          have pr17 := zo_t hr17 c20
          try dsimp only [hasC, hasB, hasX, hasM, ofS, ofK, bt] at pr17
          refine g_aload_n C 0 dX10_rank_57 rfl ?_
          refine g_get C (.ref (ad 3)) 1 in_X10_rank_10 (List.mem_of_getElem? (i := 1) rfl) (by decide) (ce_house ad cs _ _) rfl (by decide) rfl rfl dX10_rank_58 ?_
          refine g_iload_n C 1 dX10_rank_61 rfl ?_
          refine g_iload_n C 2 dX10_rank_62 rfl ?_
          refine g_callVi C (n := 2) (As := [.int b, .int x]) (st := []) (v_X0_append l D ad cs _ _ b x hI ⟨by omega, by omega⟩ ⟨by omega, by omega⟩ (by omega)) gX10_rank_X0_append rfl rfl rfl (by decide +kernel) ⟨Nat.le_of_ble_eq_true rfl, Nat.le_of_ble_eq_true rfl⟩ rfl (Nat.le_of_ble_eq_true rfl) ⟨Nat.zero_le _, Nat.zero_le _⟩ (by decide) (ce_ball ad cs _ _) rfl rfl dX10_rank_63 (fun r22 M23 L24 hr22 => ?_)
          obtain ⟨hr22, hI, hFr22, hGr22⟩ := hr22
          have hF : ∀ k i, ¬ (k = 0 ∧ i = 11) ∧ k ≠ 257 ∧ k ≠ 6 ∧ ¬ (8 ≤ k ∧ k < 68) → M23 k i = M k i := fun k i hk => by (rw [hFr22 k i (by omega)]; try exact hF k i hk)
          have hG : ∀ k i, True → L24 k i = L k i := fun k i hk => by (rw [hGr22 k i trivial]; try exact hG k i hk)
          have hV : vC M23 = sI (sI (vC M) 5 (10 * b.toNatClampNeg + ((vC M) 4 b.toNatClampNeg).toNatClampNeg) x) 4 b.toNatClampNeg ((vC M) 4 b.toNatClampNeg + 1) := by rw [hr22.2, hV]
          have k0_11 : M23 0 11 = vC M 0 4 := (hFr22 0 11 (by omega)).trans k0_11
          have q8 : ∀ k, 8 ≤ k ∧ k < 68 → M23 k = M23 k := fun _ _ => rfl
          have q6 : M23 6 = M23 6 := rfl
          have q257 : M23 257 = M 257 := (funext (fun i => hFr22 257 i (by omega))).trans q257
          exact g_iret C hr ⟨(by dsimp only [A_rank, hasC, hasB, hasX, hasM, ofS, ofK, bt, ix]; (repeat (first | rw [if_pos (by omega)] | rw [if_neg (by omega)])); rw [hV]; first | done | rfl | (simp only [hr22.1]; done) | (simp only [hr22.1]; rfl) | (subst_vars; first | rfl | grind)), hI, hF, hG⟩ dX10_rank_66
        ·
          have f25 := feq rfl (by decide : (0 : Int32).toInt = 0) c20
          have pr17 := zo_f hr17 c20
          try dsimp only [hasC, hasB, hasX, hasM, ofS, ofK, bt] at pr17
          refine g_bipush C (-4) dX10_rank_54 (by decide) ?_
          have zr9 : ((-4) : Int32).toInt = (-4) := by decide
          exact g_iret C hr ⟨(by dsimp only [A_rank, hasC, hasB, hasX, hasM, ofS, ofK, bt, ix]; (repeat (first | rw [if_pos (by omega)] | rw [if_neg (by omega)])); first | done | rfl | (simp only [ix]; done) | (simp only [ix]; rfl) | (subst_vars; first | rfl | grind)), hI, hF, hG⟩ dX10_rank_56
      ·
        have f26 := feq rfl (by decide : (0 : Int32).toInt = 0) c15
        have pr12 := zo_f hr12 c15
        try dsimp only [hasC, hasB, hasX, hasM, ofS, ofK, bt] at pr12
        refine g_aload_n C 0 dX10_rank_36 rfl ?_
        refine g_iconst C 3 dX10_rank_37 (by decide) ?_
        refine g_callVi C (n := 1) (As := [.int 3]) (st := []) (v_X10_found l D ad cs _ _ 3 hI ⟨by first | omega | decide, by first | omega | decide⟩) gX10_rank_X10_found rfl rfl rfl (by decide +kernel) ⟨Nat.le_of_ble_eq_true rfl, Nat.le_of_ble_eq_true rfl⟩ rfl (Nat.le_of_ble_eq_true rfl) ⟨Nat.zero_le _, Nat.zero_le _⟩ (by decide) (ce_house ad cs _ _) rfl rfl dX10_rank_38 (fun r27 M28 L29 hr27 => ?_)
        obtain ⟨hr27, hI, hFr27, hGr27⟩ := hr27
        have hF : ∀ k i, ¬ (k = 0 ∧ i = 11) ∧ k ≠ 257 ∧ k ≠ 6 ∧ ¬ (8 ≤ k ∧ k < 68) → M28 k i = M k i := fun k i hk => by (rw [hFr27 k i (by omega)]; try exact hF k i hk)
        have hG : ∀ k i, True → L29 k i = L k i := fun k i hk => by (rw [hGr27 k i trivial]; try exact hG k i hk)
        have hV : vC M28 = meetsV (vC M) 3 := by rw [hr27.2, hV]
        have k0_11 : M28 0 11 = M28 0 11 := rfl
        have q8 : ∀ k, 8 ≤ k ∧ k < 68 → M28 k = M k := fun k hk => (funext (fun i => hFr27 k i (by omega))).trans (q8 k hk)
        have q6 : M28 6 = M 6 := (funext (fun i => hFr27 6 i (by omega))).trans q6
        have q257 : M28 257 = M28 257 := rfl
        exact g_iret C hr ⟨(by dsimp only [A_rank, hasC, hasB, hasX, hasM, ofS, ofK, bt, ix]; (repeat (first | rw [if_pos (by omega)] | rw [if_neg (by omega)])); rw [hV]; first | done | rfl | (simp only [ix]; done) | (simp only [ix]; rfl) | (subst_vars; first | rfl | grind)), hI, hF, hG⟩ dX10_rank_41
    ·
      have f30 := feq rfl (by decide : (0 : Int32).toInt = 0) c10
      have pr7 := zo_f hr7 c10
      try dsimp only [hasC, hasB, hasX, hasM, ofS, ofK, bt] at pr7
      refine g_iconst C (-1) dX10_rank_22 (by decide) ?_
      have zr9 : ((-1) : Int32).toInt = (-1) := by decide
      exact g_iret C hr ⟨(by dsimp only [A_rank, hasC, hasB, hasX, hasM, ofS, ofK, bt, ix]; (repeat (first | rw [if_pos (by omega)] | rw [if_neg (by omega)])); first | done | rfl | (simp only [ix]; done) | (simp only [ix]; rfl) | (subst_vars; first | rfl | grind)), hI, hF, hG⟩ dX10_rank_23
set_option maxHeartbeats 4000000 in
set_option maxRecDepth 100000 in
theorem v_X10_score (l : Launch) (D : va_G) (ad : Nat → Nat) (cs : Nat → ClassId) (M : MI) (L : ML) (b : Int32) (x : Int32) (y : Int32) (hI : IC M) (hS : ∀ b, 0 ≤ (vC M 2 b).toInt ∧ (vC M 2 b).toInt ≤ 3) : Ci l yX10_score wsX10_score ({ frames := 2, cells := 0, slots := 0, locals := 46 }) D ad cs [.ref (ad 0), .int b, .int x, .int y] M L (fun r M1 L1 => (A_score (vC M) b x y = (r, vC M1)) ∧ IC M1 ∧ (∀ k i, ¬ (k = 0 ∧ i = 11) ∧ k ≠ 257 ∧ ¬ (8 ≤ k ∧ k < 68) → M1 k i = M k i) ∧ ∀ k i, True → L1 k i = L k i) := by
  refine enter_i RX10 rfl [(0, .ref (ad 0)), (1, .int b), (2, .int x), (3, .int y)] rfl (Nat.le_of_ble_eq_true rfl) (by decide +kernel) rfl ?_
  intro p e s m below meth c C hr
  have hF : ∀ k i, ¬ (k = 0 ∧ i = 11) ∧ k ≠ 257 ∧ ¬ (8 ≤ k ∧ k < 68) → M k i = M k i := fun _ _ _ => rfl
  have hG : ∀ k i, True → L k i = L k i := fun _ _ _ => rfl
  have w0 : (vC M 0 0).toInt = (M 1 0).toInt := rfl
  have w1 : (vC M 0 1).toInt = (M 3 0).toInt := rfl
  have w2 : (vC M 0 2).toInt = (M 68 0).toInt := rfl
  have w3 : (vC M 0 3).toInt = (M 81 0).toInt := rfl
  obtain ⟨y0a, y0b⟩ := (show rg 0 10 (M 1 0) from hI 1 0 rfl)
  obtain ⟨y1a, y1b⟩ := (show rg 0 60 (M 3 0) from hI 3 0 rfl)
  obtain ⟨y2a, y2b⟩ := (show rg 0 8 (M 68 0) from hI 68 0 rfl)
  obtain ⟨y3a, y3b⟩ := (show rg 0 20 (M 81 0) from hI 81 0 rfl)
  have z3 : (3 : Int32).toInt = 3 := by decide
  have hSb := hS b.toNatClampNeg
  have k0_11 : M 0 11 = vC M 0 4 := rfl
  have q257 : M 257 = M 257 := rfl
  have q8 : ∀ k, 8 ≤ k ∧ k < 68 → M k = M k := fun _ _ => rfl
  have hV : vC M = vC M := rfl
  refine g_aload_n C 0 dX10_score_0 rfl ?_
  refine g_get C (.ref (ad 3)) 1 in_X10_score_10 (List.mem_of_getElem? (i := 1) rfl) (by decide) (ce_house ad cs _ _) rfl (by decide) rfl rfl dX10_score_1 ?_
  refine g_iload_n C 1 dX10_score_4 rfl ?_
  refine g_callVi C (n := 1) (As := [.int b]) (st := []) (c_X0_has l D ad cs _ _ b ) gX10_score_X0_has rfl rfl rfl (by decide +kernel) ⟨Nat.le_of_ble_eq_true rfl, Nat.le_of_ble_eq_true rfl⟩ rfl (Nat.le_of_ble_eq_true rfl) ⟨Nat.zero_le _, Nat.zero_le _⟩ (by decide) (ce_ball ad cs _ _) rfl rfl dX10_score_5 (fun r1 M2 L3 hr1 => ?_)
  obtain ⟨hq1, hq2, hr1⟩ := hr1
  obtain rfl := hq1.symm
  obtain rfl := hq2.symm
  have hr1 := zo_has hr1
  obtain ⟨bar1, bbr1⟩ := zo_b hr1
  refine g_if_eq C 32 dX10_score_8 (by decide) (fun c4 => ?_) (fun c4 => ?_)
  ·
    have f5 := feq rfl (by decide : (0 : Int32).toInt = 0) c4
    have pr1 := zo_f hr1 c4
    try dsimp only [hasC, hasB, hasX, hasM, ofS, ofK, bt] at pr1
    refine g_iconst C (-1) dX10_score_32 (by decide) ?_
    have zr9 : ((-1) : Int32).toInt = (-1) := by decide
    exact g_iret C hr ⟨(by dsimp only [A_score, hasC, hasB, hasX, hasM, ofS, ofK, bt, ix]; (repeat (first | rw [if_pos (by omega)] | rw [if_neg (by omega)])); first | done | rfl | (simp only [ix]; done) | (simp only [ix]; rfl) | (subst_vars; first | rfl | grind)), hI, hF, hG⟩ dX10_score_33
  ·
    have f6 := fne rfl (by decide : (0 : Int32).toInt = 0) c4
    have pr1 := zo_t hr1 c4
    try dsimp only [hasC, hasB, hasX, hasM, ofS, ofK, bt] at pr1
    refine g_aload_n C 0 dX10_score_11 rfl ?_
    refine g_get C (.ref (ad 1)) 0 in_X10_score_10 (List.mem_of_getElem? (i := 2) rfl) (by decide) (ce_house ad cs _ _) rfl (by decide) rfl rfl dX10_score_12 ?_
    refine g_iload_n C 2 dX10_score_15 rfl ?_
    refine g_callVi C (n := 1) (As := [.int x]) (st := []) (c_X2_has l D ad cs _ _ x ) gX10_score_X2_has rfl rfl rfl (by decide +kernel) ⟨Nat.le_of_ble_eq_true rfl, Nat.le_of_ble_eq_true rfl⟩ rfl (Nat.le_of_ble_eq_true rfl) ⟨Nat.zero_le _, Nat.zero_le _⟩ (by decide) (ce_cand ad cs _ _) rfl rfl dX10_score_16 (fun r7 M8 L9 hr7 => ?_)
    obtain ⟨hq1, hq2, hr7⟩ := hr7
    obtain rfl := hq1.symm
    obtain rfl := hq2.symm
    have hr7 := zo_has hr7
    obtain ⟨bar7, bbr7⟩ := zo_b hr7
    refine g_if_eq C 32 dX10_score_19 (by decide) (fun c10 => ?_) (fun c10 => ?_)
    ·
      have f11 := feq rfl (by decide : (0 : Int32).toInt = 0) c10
      have pr7 := zo_f hr7 c10
      try dsimp only [hasC, hasB, hasX, hasM, ofS, ofK, bt] at pr7
      refine g_iconst C (-1) dX10_score_32 (by decide) ?_
      have zr9 : ((-1) : Int32).toInt = (-1) := by decide
      exact g_iret C hr ⟨(by dsimp only [A_score, hasC, hasB, hasX, hasM, ofS, ofK, bt, ix]; (repeat (first | rw [if_pos (by omega)] | rw [if_neg (by omega)])); first | done | rfl | (simp only [ix]; done) | (simp only [ix]; rfl) | (subst_vars; first | rfl | grind)), hI, hF, hG⟩ dX10_score_33
    ·
      have f12 := fne rfl (by decide : (0 : Int32).toInt = 0) c10
      have pr7 := zo_t hr7 c10
      try dsimp only [hasC, hasB, hasX, hasM, ofS, ofK, bt] at pr7
      refine g_iload_n C 3 dX10_score_22 rfl ?_
      refine g_if_lt C 32 dX10_score_23 (by decide) (fun c13 => ?_) (fun c13 => ?_)
      ·
        have f14 := fl rfl (by decide : (0 : Int32).toInt = 0) c13
        refine g_iconst C (-1) dX10_score_32 (by decide) ?_
        have zr9 : ((-1) : Int32).toInt = (-1) := by decide
        exact g_iret C hr ⟨(by dsimp only [A_score, hasC, hasB, hasX, hasM, ofS, ofK, bt, ix]; (repeat (first | rw [if_pos (by omega)] | rw [if_neg (by omega)])); first | done | rfl | (simp only [ix]; done) | (simp only [ix]; rfl) | (subst_vars; first | rfl | grind)), hI, hF, hG⟩ dX10_score_33
      ·
        have f15 := fnl rfl (by decide : (0 : Int32).toInt = 0) c13
        refine g_iload_n C 3 dX10_score_26 rfl ?_
        refine g_bipush C 9 dX10_score_27 (by decide) ?_
        refine g_icmp_le C 34 dX10_score_29 (by decide) (fun c16 => ?_) (fun c16 => ?_)
        ·
          have f17 := fle rfl (by decide : (9 : Int32).toInt = 9) c16
          refine g_aload_n C 0 dX10_score_34 rfl ?_
          refine g_get C (.ref (ad 3)) 1 in_X10_score_10 (List.mem_of_getElem? (i := 1) rfl) (by decide) (ce_house ad cs _ _) rfl (by decide) rfl rfl dX10_score_35 ?_
          refine g_iload_n C 1 dX10_score_38 rfl ?_
          refine g_iconst C 3 dX10_score_39 (by decide) ?_
          refine g_callVi C (n := 2) (As := [.int b, .int 3]) (st := []) (v_X0_isOf l D ad cs _ _ b 3 hI ⟨by omega, by omega⟩ (by first | omega | decide) hS) gX10_score_X0_isOf rfl rfl rfl (by decide +kernel) ⟨Nat.le_of_ble_eq_true rfl, Nat.le_of_ble_eq_true rfl⟩ rfl (Nat.le_of_ble_eq_true rfl) ⟨Nat.zero_le _, Nat.zero_le _⟩ (by decide) (ce_ball ad cs _ _) rfl rfl dX10_score_40 (fun r18 M19 L20 hr18 => ?_)
          obtain ⟨hq1, hq2, hr18⟩ := hr18
          obtain rfl := hq1.symm
          obtain rfl := hq2.symm
          obtain ⟨bar18, bbr18⟩ := zo_b hr18
          refine g_if_ne C 52 dX10_score_43 (by decide) (fun c21 => ?_) (fun c21 => ?_)
          ·
            have f22 := fne rfl (by decide : (0 : Int32).toInt = 0) c21
            have pr18 := zo_t hr18 c21
            try dsimp only [hasC, hasB, hasX, hasM, ofS, ofK, bt] at pr18
            refine g_aload_n C 0 dX10_score_52 rfl ?_
            refine g_get C (.ref (ad 3)) 1 in_X10_score_10 (List.mem_of_getElem? (i := 1) rfl) (by decide) (ce_house ad cs _ _) rfl (by decide) rfl rfl dX10_score_53 ?_
            refine g_get C (.ref (ad 7)) 4 in_X10_score_0 (List.mem_of_getElem? (i := 3) rfl) (by decide) (ce_ball ad cs _ _) rfl (by decide) rfl rfl dX10_score_56 ?_
            refine g_iload_n C 1 dX10_score_59 rfl ?_
            have hi23 : vp_in b 60 := (fin' (n := 60) rfl (by omega) (by omega))
            have nhi23 := tn hi23
            have mhi23 := ixn (x := b) (by omega)
            refine g_aald C (by decide) (ce_browm ad cs _ _) rfl hi23 dX10_score_60 ?_
            refine g_iload_n C 2 dX10_score_61 rfl ?_
            have nx := ixn (x := x) (by omega)
            refine g_iald C (by omega) (ce_brow ad cs _ _ nhi23) (fin' (n := 10) rfl (by omega) (by omega)) dX10_score_62 ?_
            refine g_ni (fun v24 ev24 => ?_)
            have gv24 := ev24.trans (congrFun (q8 _ (by omega)) _)
            have gv24 := gv24.trans (vC5 (M := M) (by omega) (by omega)).symm
            have tv24 := congrArg Int32.toInt gv24
            obtain ⟨bv24, dv24⟩ := (show rg 0 9 v24 from (by rw [ev24]; exact hI.row _ (by omega) (by omega)))
            refine g_istore C [(4, .int v24), (0, .ref (ad 0)), (1, .int b), (2, .int x), (3, .int y)] dX10_score_63 (by decide) rfl ?_
            refine g_aload_n C 1 dX10_score_65 rfl ?_
            refine g_get C (.ref (ad 3)) 1 in_X10_score_10 (List.mem_of_getElem? (i := 1) rfl) (by decide) (ce_house ad cs _ _) rfl (by decide) rfl rfl dX10_score_66 ?_
            refine g_get C (.ref (ad 7)) 4 in_X10_score_0 (List.mem_of_getElem? (i := 3) rfl) (by decide) (ce_ball ad cs _ _) rfl (by decide) rfl rfl dX10_score_69 ?_
            refine g_iload_n C 2 dX10_score_72 rfl ?_
            have hi25 : vp_in b 60 := (fin' (n := 60) rfl (by omega) (by omega))
            have nhi25 := tn hi25
            have mhi25 := ixn (x := b) (by omega)
            refine g_aald C (by decide) (ce_browm ad cs _ _) rfl hi25 dX10_score_73 ?_
            refine g_iload_n C 3 dX10_score_74 rfl ?_
            refine g_iload_n C 4 dX10_score_75 rfl ?_
            have nx := ixn (x := x) (by omega)
            refine g_iast C (by omega) (ce_brow ad cs _ _ nhi25) (by rw [sI_k]; exact (ce_brow ad cs _ _ nhi25)) (fin' (n := 10) rfl (by omega) (by omega)) dX10_score_76 ?_
            refine g_nm (fun M26 hM26 => ?_)
            have hI : IC M26 := by rw [hM26]; exact hI.st (bC_row (by omega) (by omega) ⟨by first | omega | decide, by first | omega | decide⟩)
            have hF : ∀ k i, ¬ (k = 0 ∧ i = 11) ∧ k ≠ 257 ∧ ¬ (8 ≤ k ∧ k < 68) → M26 k i = M k i := fun k i hk => by (rw [hM26, sI_at, if_neg (by omega)]; try exact hF k i hk)
            have k0_11 : M26 0 11 = vC M 0 4 := by rw [hM26, sI_n _ _ _ (by omega)]; try exact k0_11
            have q257 : M26 257 = M 257 := by rw [hM26, sI_n _ _ _ (by omega)]; try exact q257
            have hV : vC M26 = sI (vC M) 5 (10 * b.toNatClampNeg + x.toNatClampNeg) y := by rw [hM26, vC_row (by omega) (by omega), hV]
            refine g_iload C 0 dX10_score_77 rfl ?_
            exact g_iret C hr ⟨(by dsimp only [A_score, hasC, hasB, hasX, hasM, ofS, ofK, bt, ix]; (repeat (first | rw [if_pos (by omega)] | rw [if_neg (by omega)])); rw [hV]; first | done | rfl | (simp only [gv24]; done) | (simp only [gv24]; rfl) | (subst_vars; first | rfl | grind)), hI, hF, hG⟩ dX10_score_79
          ·
            have f27 := feq rfl (by decide : (0 : Int32).toInt = 0) c21
            have pr18 := zo_f hr18 c21
            try dsimp only [hasC, hasB, hasX, hasM, ofS, ofK, bt] at pr18
            refine g_aload_n C 0 dX10_score_46 rfl ?_
            refine g_iconst C 3 dX10_score_47 (by decide) ?_
            refine g_callVi C (n := 1) (As := [.int 3]) (st := []) (v_X10_found l D ad cs _ _ 3 hI ⟨by first | omega | decide, by first | omega | decide⟩) gX10_score_X10_found rfl rfl rfl (by decide +kernel) ⟨Nat.le_of_ble_eq_true rfl, Nat.le_of_ble_eq_true rfl⟩ rfl (Nat.le_of_ble_eq_true rfl) ⟨Nat.zero_le _, Nat.zero_le _⟩ (by decide) (ce_house ad cs _ _) rfl rfl dX10_score_48 (fun r28 M29 L30 hr28 => ?_)
            obtain ⟨hr28, hI, hFr28, hGr28⟩ := hr28
            have hF : ∀ k i, ¬ (k = 0 ∧ i = 11) ∧ k ≠ 257 ∧ ¬ (8 ≤ k ∧ k < 68) → M29 k i = M k i := fun k i hk => by (rw [hFr28 k i (by omega)]; try exact hF k i hk)
            have hG : ∀ k i, True → L30 k i = L k i := fun k i hk => by (rw [hGr28 k i trivial]; try exact hG k i hk)
            have hV : vC M29 = meetsV (vC M) 3 := by rw [hr28.2, hV]
            have k0_11 : M29 0 11 = M29 0 11 := rfl
            have q8 : ∀ k, 8 ≤ k ∧ k < 68 → M29 k = M k := fun k hk => (funext (fun i => hFr28 k i (by omega))).trans (q8 k hk)
            have q257 : M29 257 = M29 257 := rfl
            exact g_iret C hr ⟨(by dsimp only [A_score, hasC, hasB, hasX, hasM, ofS, ofK, bt, ix]; (repeat (first | rw [if_pos (by omega)] | rw [if_neg (by omega)])); rw [hV]; first | done | rfl | (simp only [ix]; done) | (simp only [ix]; rfl) | (subst_vars; first | rfl | grind)), hI, hF, hG⟩ dX10_score_51
        ·
          have f31 := fnle rfl (by decide : (9 : Int32).toInt = 9) c16
          refine g_iconst C (-1) dX10_score_32 (by decide) ?_
          have zr9 : ((-1) : Int32).toInt = (-1) := by decide
          exact g_iret C hr ⟨(by dsimp only [A_score, hasC, hasB, hasX, hasM, ofS, ofK, bt, ix]; (repeat (first | rw [if_pos (by omega)] | rw [if_neg (by omega)])); first | done | rfl | (simp only [ix]; done) | (simp only [ix]; rfl) | (subst_vars; first | rfl | grind)), hI, hF, hG⟩ dX10_score_33
set_option maxHeartbeats 4000000 in
set_option maxRecDepth 100000 in
theorem v_X10_written (l : Launch) (D : va_G) (ad : Nat → Nat) (cs : Nat → ClassId) (M : MI) (L : ML) (b : Int32) (hI : IC M) (hb : 0 ≤ b.toInt ∧ b.toInt < 60) (hS : ∀ b, 0 ≤ (vC M 2 b).toInt ∧ (vC M 2 b).toInt ≤ 3) : Ci l yX10_written wsX10_written ({ frames := 2, cells := 0, slots := 0, locals := 46 }) D ad cs [.ref (ad 0), .int b] M L (fun r M1 L1 => M1 = M ∧ L1 = L ∧ (r = (if (vC M 2 (b.toNatClampNeg)).toInt = 3 then vC M 0 0 else vC M 4 (b.toNatClampNeg)) ∧ (0 ≤ r.toInt ∧ r.toInt ≤ 10))) := by
  refine enter_i RX10 rfl [(0, .ref (ad 0)), (1, .int b)] rfl (Nat.le_of_ble_eq_true rfl) (by decide +kernel) rfl ?_
  intro p e s m below meth c C hr
  have hF : ∀ k i, True → M k i = M k i := fun _ _ _ => rfl
  have hG : ∀ k i, True → L k i = L k i := fun _ _ _ => rfl
  have w0 : (vC M 0 0).toInt = (M 1 0).toInt := rfl
  have w1 : (vC M 0 1).toInt = (M 3 0).toInt := rfl
  have w2 : (vC M 0 2).toInt = (M 68 0).toInt := rfl
  have w3 : (vC M 0 3).toInt = (M 81 0).toInt := rfl
  obtain ⟨y0a, y0b⟩ := (show rg 0 10 (M 1 0) from hI 1 0 rfl)
  obtain ⟨y1a, y1b⟩ := (show rg 0 60 (M 3 0) from hI 3 0 rfl)
  obtain ⟨y2a, y2b⟩ := (show rg 0 8 (M 68 0) from hI 68 0 rfl)
  obtain ⟨y3a, y3b⟩ := (show rg 0 20 (M 81 0) from hI 81 0 rfl)
  obtain ⟨hb1, hb2⟩ := hb
  have z3 : (3 : Int32).toInt = 3 := by decide
  have hSb := hS b.toNatClampNeg
  refine g_aload_n C 0 dX10_written_0 rfl ?_
  refine g_get C (.ref (ad 3)) 1 in_X10_written_10 (List.mem_of_getElem? (i := 1) rfl) (by decide) (ce_house ad cs _ _) rfl (by decide) rfl rfl dX10_written_1 ?_
  refine g_iload_n C 1 dX10_written_4 rfl ?_
  refine g_iconst C 3 dX10_written_5 (by decide) ?_
  refine g_callVi C (n := 2) (As := [.int b, .int 3]) (st := []) (v_X0_isOf l D ad cs _ _ b 3 hI ⟨by omega, by omega⟩ (by first | omega | decide) hS) gX10_written_X0_isOf rfl rfl rfl (by decide +kernel) ⟨Nat.le_of_ble_eq_true rfl, Nat.le_of_ble_eq_true rfl⟩ rfl (Nat.le_of_ble_eq_true rfl) ⟨Nat.zero_le _, Nat.zero_le _⟩ (by decide) (ce_ball ad cs _ _) rfl rfl dX10_written_6 (fun r1 M2 L3 hr1 => ?_)
  obtain ⟨hq1, hq2, hr1⟩ := hr1
  obtain rfl := hq1.symm
  obtain rfl := hq2.symm
  obtain ⟨bar1, bbr1⟩ := zo_b hr1
  refine g_if_eq C 22 dX10_written_9 (by decide) (fun c4 => ?_) (fun c4 => ?_)
  ·
    have f5 := feq rfl (by decide : (0 : Int32).toInt = 0) c4
    have pr1 := zo_f hr1 c4
    try dsimp only [hasC, hasB, hasX, hasM, ofS, ofK, bt] at pr1
    refine g_aload_n C 0 dX10_written_22 rfl ?_
    refine g_get C (.ref (ad 3)) 1 in_X10_written_10 (List.mem_of_getElem? (i := 1) rfl) (by decide) (ce_house ad cs _ _) rfl (by decide) rfl rfl dX10_written_23 ?_
    refine g_get C (.ref (ad 6)) 3 in_X10_written_0 (List.mem_of_getElem? (i := 4) rfl) (by decide) (ce_ball ad cs _ _) rfl (by decide) rfl rfl dX10_written_26 ?_
    refine g_iload_n C 1 dX10_written_29 rfl ?_
    have nb := ixn (x := b) (by omega)
    refine g_iald C (by decide) (ce_bonit ad cs _ _) (fin' (n := 60) rfl (by omega) (by omega)) dX10_written_30 ?_
    refine g_ni (fun v6 ev6 => ?_)
    have gv6 : v6 = vC M 4 b.toNatClampNeg := ev6
    have tv6 := congrArg Int32.toInt gv6
    obtain ⟨bv6, dv6⟩ := (show rg 0 10 v6 from (by rw [ev6]; exact hI 6 b.toNatClampNeg))
    exact g_iret C hr ⟨rfl, rfl, ⟨(by (repeat (first | rw [if_pos (by omega)] | rw [if_neg (by omega)])); first | done | rfl | (simp only [gv6]; done) | (simp only [gv6]; rfl) | (subst_vars; first | rfl | grind)), by omega, by omega⟩⟩ dX10_written_31
  ·
    have f7 := fne rfl (by decide : (0 : Int32).toInt = 0) c4
    have pr1 := zo_t hr1 c4
    try dsimp only [hasC, hasB, hasX, hasM, ofS, ofK, bt] at pr1
    refine g_aload_n C 0 dX10_written_12 rfl ?_
    refine g_get C (.ref (ad 1)) 0 in_X10_written_10 (List.mem_of_getElem? (i := 2) rfl) (by decide) (ce_house ad cs _ _) rfl (by decide) rfl rfl dX10_written_13 ?_
    refine g_get C (.int (M 1 0)) 0 in_X10_written_2 (List.mem_of_getElem? (i := 3) rfl) (by decide) (ce_cand ad cs _ _) rfl (by decide) rfl rfl dX10_written_16 ?_
    refine g_ni (fun v8 ev8 => ?_)
    have gv8 : v8 = vC M 0 0 := ev8
    have tv8 := congrArg Int32.toInt gv8
    obtain ⟨bv8, dv8⟩ := (show rg 0 10 v8 from (by rw [ev8]; exact hI 1 0 rfl))
    refine g_goto C 31 dX10_written_19 (by decide) ?_
    exact g_iret C hr ⟨rfl, rfl, ⟨(by (repeat (first | rw [if_pos (by omega)] | rw [if_neg (by omega)])); first | done | rfl | (simp only [gv8]; done) | (simp only [gv8]; rfl) | (subst_vars; first | rfl | grind)), by omega, by omega⟩⟩ dX10_written_31
set_option maxHeartbeats 4000000 in
set_option maxRecDepth 100000 in
theorem v_X10_told (l : Launch) (D : va_G) (ad : Nat → Nat) (cs : Nat → ClassId) (M : MI) (L : ML) (b : Int32) (x : Int32) (hI : IC M) (hS : ∀ b, 0 ≤ (vC M 2 b).toInt ∧ (vC M 2 b).toInt ≤ 3) : Ci l yX10_told wsX10_told ({ frames := 3, cells := 0, slots := 0, locals := 67 }) D ad cs [.ref (ad 0), .int b, .int x] M L (fun r M1 L1 => M1 = M ∧ L1 = L ∧ (r = A_told (vC M) b x)) := by
  refine enter_i RX10 rfl [(0, .ref (ad 0)), (1, .int b), (2, .int x)] rfl (Nat.le_of_ble_eq_true rfl) (by decide +kernel) rfl ?_
  intro p e s m below meth c C hr
  have hF : ∀ k i, True → M k i = M k i := fun _ _ _ => rfl
  have hG : ∀ k i, True → L k i = L k i := fun _ _ _ => rfl
  have w0 : (vC M 0 0).toInt = (M 1 0).toInt := rfl
  have w1 : (vC M 0 1).toInt = (M 3 0).toInt := rfl
  have w2 : (vC M 0 2).toInt = (M 68 0).toInt := rfl
  have w3 : (vC M 0 3).toInt = (M 81 0).toInt := rfl
  obtain ⟨y0a, y0b⟩ := (show rg 0 10 (M 1 0) from hI 1 0 rfl)
  obtain ⟨y1a, y1b⟩ := (show rg 0 60 (M 3 0) from hI 3 0 rfl)
  obtain ⟨y2a, y2b⟩ := (show rg 0 8 (M 68 0) from hI 68 0 rfl)
  obtain ⟨y3a, y3b⟩ := (show rg 0 20 (M 81 0) from hI 81 0 rfl)
  have qx := Int32.toInt_lt x
  refine g_aload_n C 0 dX10_told_0 rfl ?_
  refine g_get C (.ref (ad 3)) 1 in_X10_told_10 (List.mem_of_getElem? (i := 1) rfl) (by decide) (ce_house ad cs _ _) rfl (by decide) rfl rfl dX10_told_1 ?_
  refine g_iload_n C 1 dX10_told_4 rfl ?_
  refine g_callVi C (n := 1) (As := [.int b]) (st := []) (c_X0_has l D ad cs _ _ b ) gX10_told_X0_has rfl rfl rfl (by decide +kernel) ⟨Nat.le_of_ble_eq_true rfl, Nat.le_of_ble_eq_true rfl⟩ rfl (Nat.le_of_ble_eq_true rfl) ⟨Nat.zero_le _, Nat.zero_le _⟩ (by decide) (ce_ball ad cs _ _) rfl rfl dX10_told_5 (fun r1 M2 L3 hr1 => ?_)
  obtain ⟨hq1, hq2, hr1⟩ := hr1
  obtain rfl := hq1.symm
  obtain rfl := hq2.symm
  have hr1 := zo_has hr1
  obtain ⟨bar1, bbr1⟩ := zo_b hr1
  refine g_if_eq C 15 dX10_told_8 (by decide) (fun c4 => ?_) (fun c4 => ?_)
  ·
    have f5 := feq rfl (by decide : (0 : Int32).toInt = 0) c4
    have pr1 := zo_f hr1 c4
    try dsimp only [hasC, hasB, hasX, hasM, ofS, ofK, bt] at pr1
    refine g_iconst C (-1) dX10_told_15 (by decide) ?_
    have zr9 : ((-1) : Int32).toInt = (-1) := by decide
    exact g_iret C hr ⟨rfl, rfl, (by dsimp only [A_told, hasC, hasB, hasX, hasM, ofS, ofK, bt, ix]; (repeat (first | rw [if_pos (by omega)] | rw [if_neg (by omega)])); first | done | rfl | (simp only [ix]; done) | (simp only [ix]; rfl) | (subst_vars; first | rfl | grind))⟩ dX10_told_16
  ·
    have f6 := fne rfl (by decide : (0 : Int32).toInt = 0) c4
    have pr1 := zo_t hr1 c4
    try dsimp only [hasC, hasB, hasX, hasM, ofS, ofK, bt] at pr1
    refine g_iload_n C 2 dX10_told_11 rfl ?_
    refine g_if_ge C 17 dX10_told_12 (by decide) (fun c7 => ?_) (fun c7 => ?_)
    ·
      have f8 := fle (by decide : (0 : Int32).toInt = 0) rfl c7
      refine g_iload_n C 2 dX10_told_17 rfl ?_
      by_cases hsw : x.toInt < 0 ∨ 2 < x.toInt
      ·
        refine g_tableOut C 74 dX10_told_18 hsw (by decide) ?_
        refine g_iload_n C 2 dX10_told_74 rfl ?_
        refine g_iconst C 3 dX10_told_75 (by decide) ?_
        refine g_isub C dX10_told_76 ?_
        refine g_ni (fun v9 ev9 => ?_)
        try have fv9 := fsub rfl (by decide : (3 : Int32).toInt = 3) ev9 (by omega) (by omega)
        refine g_aload_n C 0 dX10_told_77 rfl ?_
        refine g_iload_n C 1 dX10_told_78 rfl ?_
        refine g_callVi C (n := 1) (As := [.int b]) (st := [.int v9]) (v_X10_written l D ad cs _ _ b hI ⟨by omega, by omega⟩ hS) gX10_told_X10_written rfl rfl rfl (by decide +kernel) ⟨Nat.le_of_ble_eq_true rfl, Nat.le_of_ble_eq_true rfl⟩ rfl (Nat.le_of_ble_eq_true rfl) ⟨Nat.zero_le _, Nat.zero_le _⟩ (by decide) (ce_house ad cs _ _) rfl rfl dX10_told_79 (fun r10 M11 L12 hr10 => ?_)
        obtain ⟨hq1, hq2, hr10⟩ := hr10
        obtain rfl := hq1.symm
        obtain rfl := hq2.symm
        obtain ⟨hr10, bar10, bbr10⟩ := hr10
        have tr10 := congrArg Int32.toInt hr10
        refine g_icmp_ge C 101 dX10_told_82 (by decide) (fun c13 => ?_) (fun c13 => ?_)
        ·
          have f14 := fle rfl rfl c13
          refine g_bipush C (-9) dX10_told_101 (by decide) ?_
          have zr9 : ((-9) : Int32).toInt = (-9) := by decide
          exact g_iret C hr ⟨rfl, rfl, (by dsimp only [A_told, hasC, hasB, hasX, hasM, ofS, ofK, bt, ix]; (repeat (first | rw [if_pos (by omega)] | rw [if_neg (by omega)])); first | done | rfl | (simp only [hr10, ev9]; done) | (simp only [hr10, ev9]; rfl) | (subst_vars; first | rfl | grind))⟩ dX10_told_103
        ·
          have f15 := fnle rfl rfl c13
          refine g_aload_n C 0 dX10_told_85 rfl ?_
          refine g_get C (.ref (ad 3)) 1 in_X10_told_10 (List.mem_of_getElem? (i := 1) rfl) (by decide) (ce_house ad cs _ _) rfl (by decide) rfl rfl dX10_told_86 ?_
          refine g_get C (.ref (ad 7)) 4 in_X10_told_0 (List.mem_of_getElem? (i := 5) rfl) (by decide) (ce_ball ad cs _ _) rfl (by decide) rfl rfl dX10_told_89 ?_
          refine g_iload_n C 1 dX10_told_92 rfl ?_
          have hi16 : vp_in b 60 := (fin' (n := 60) rfl (by omega) (by omega))
          have nhi16 := tn hi16
          have mhi16 := ixn (x := b) (by omega)
          refine g_aald C (by decide) (ce_browm ad cs _ _) rfl hi16 dX10_told_93 ?_
          refine g_iload_n C 2 dX10_told_94 rfl ?_
          refine g_iconst C 3 dX10_told_95 (by decide) ?_
          refine g_isub C dX10_told_96 ?_
          refine g_ni (fun v17 ev17 => ?_)
          try have fv17 := fsub rfl (by decide : (3 : Int32).toInt = 3) ev17 (by omega) (by omega)
          have nv17 := ixn (x := v17) (by omega)
          have iv17 : v17.toNatClampNeg = (x.toInt - 3).toNat := by omega
          refine g_iald C (by omega) (ce_brow ad cs _ _ nhi16) (fin' (n := 10) rfl (by omega) (by omega)) dX10_told_97 ?_
          refine g_ni (fun v18 ev18 => ?_)
          have gv18 := ev18
          rw [iv17] at gv18
          have gv18 := gv18.trans (vC5 (M := M) (by omega) (by omega)).symm
          have tv18 := congrArg Int32.toInt gv18
          obtain ⟨bv18, dv18⟩ := (show rg 0 9 v18 from (by rw [ev18]; exact hI.row _ (by omega) (by omega)))
          refine g_goto C 103 dX10_told_98 (by decide) ?_
          exact g_iret C hr ⟨rfl, rfl, (by dsimp only [A_told, hasC, hasB, hasX, hasM, ofS, ofK, bt, ix]; (repeat (first | rw [if_pos (by omega)] | rw [if_neg (by omega)])); first | done | rfl | (simp only [gv18, ev17, hr10, ev9]; done) | (simp only [gv18, ev17, hr10, ev9]; rfl) | (subst_vars; first | rfl | grind))⟩ dX10_told_103
      ·
        have hsw1 : ¬ x.toInt < 0 := fun h => hsw (Or.inl h)
        have hsw2 : ¬ 2 < x.toInt := fun h => hsw (Or.inr h)
        rcases (show x.toInt = 0 ∨ x.toInt = 1 ∨ x.toInt = 2 by omega) with hq | hq | hq
        ·
          refine g_tableIn C 44 dX10_told_18 hsw1 hsw2 (off := 26) (by rw [hq]; rfl) (by decide) ?_
          refine g_aload_n C 0 dX10_told_44 rfl ?_
          refine g_get C (.ref (ad 3)) 1 in_X10_told_10 (List.mem_of_getElem? (i := 1) rfl) (by decide) (ce_house ad cs _ _) rfl (by decide) rfl rfl dX10_told_45 ?_
          refine g_get C (.ref (ad 4)) 1 in_X10_told_0 (List.mem_of_getElem? (i := 2) rfl) (by decide) (ce_ball ad cs _ _) rfl (by decide) rfl rfl dX10_told_48 ?_
          refine g_iload_n C 1 dX10_told_51 rfl ?_
          have nb := ixn (x := b) (by omega)
          refine g_iald C (by decide) (ce_bsort ad cs _ _) (fin' (n := 60) rfl (by omega) (by omega)) dX10_told_52 ?_
          refine g_ni (fun v19 ev19 => ?_)
          have gv19 : v19 = vC M 2 b.toNatClampNeg := ev19
          have tv19 := congrArg Int32.toInt gv19
          exact g_iret C hr ⟨rfl, rfl, (by dsimp only [A_told, hasC, hasB, hasX, hasM, ofS, ofK, bt, ix]; (repeat (first | rw [if_pos (by omega)] | rw [if_neg (by omega)])); first | done | rfl | (simp only [gv19]; done) | (simp only [gv19]; rfl) | (subst_vars; first | rfl | grind))⟩ dX10_told_53
        ·
          refine g_tableIn C 54 dX10_told_18 hsw1 hsw2 (off := 36) (by rw [hq]; rfl) (by decide) ?_
          refine g_aload_n C 0 dX10_told_54 rfl ?_
          refine g_get C (.ref (ad 3)) 1 in_X10_told_10 (List.mem_of_getElem? (i := 1) rfl) (by decide) (ce_house ad cs _ _) rfl (by decide) rfl rfl dX10_told_55 ?_
          refine g_get C (.ref (ad 5)) 2 in_X10_told_0 (List.mem_of_getElem? (i := 3) rfl) (by decide) (ce_ball ad cs _ _) rfl (by decide) rfl rfl dX10_told_58 ?_
          refine g_iload_n C 1 dX10_told_61 rfl ?_
          have nb := ixn (x := b) (by omega)
          refine g_iald C (by decide) (ce_bpapers ad cs _ _) (fin' (n := 60) rfl (by omega) (by omega)) dX10_told_62 ?_
          refine g_ni (fun v20 ev20 => ?_)
          have gv20 : v20 = vC M 3 b.toNatClampNeg := ev20
          have tv20 := congrArg Int32.toInt gv20
          exact g_iret C hr ⟨rfl, rfl, (by dsimp only [A_told, hasC, hasB, hasX, hasM, ofS, ofK, bt, ix]; (repeat (first | rw [if_pos (by omega)] | rw [if_neg (by omega)])); first | done | rfl | (simp only [gv20]; done) | (simp only [gv20]; rfl) | (subst_vars; first | rfl | grind))⟩ dX10_told_63
        ·
          refine g_tableIn C 64 dX10_told_18 hsw1 hsw2 (off := 46) (by rw [hq]; rfl) (by decide) ?_
          refine g_aload_n C 0 dX10_told_64 rfl ?_
          refine g_get C (.ref (ad 3)) 1 in_X10_told_10 (List.mem_of_getElem? (i := 1) rfl) (by decide) (ce_house ad cs _ _) rfl (by decide) rfl rfl dX10_told_65 ?_
          refine g_get C (.ref (ad 6)) 3 in_X10_told_0 (List.mem_of_getElem? (i := 4) rfl) (by decide) (ce_ball ad cs _ _) rfl (by decide) rfl rfl dX10_told_68 ?_
          refine g_iload_n C 1 dX10_told_71 rfl ?_
          have nb := ixn (x := b) (by omega)
          refine g_iald C (by decide) (ce_bonit ad cs _ _) (fin' (n := 60) rfl (by omega) (by omega)) dX10_told_72 ?_
          refine g_ni (fun v21 ev21 => ?_)
          have gv21 : v21 = vC M 4 b.toNatClampNeg := ev21
          have tv21 := congrArg Int32.toInt gv21
          obtain ⟨bv21, dv21⟩ := (show rg 0 10 v21 from (by rw [ev21]; exact hI 6 b.toNatClampNeg))
          exact g_iret C hr ⟨rfl, rfl, (by dsimp only [A_told, hasC, hasB, hasX, hasM, ofS, ofK, bt, ix]; (repeat (first | rw [if_pos (by omega)] | rw [if_neg (by omega)])); first | done | rfl | (simp only [gv21]; done) | (simp only [gv21]; rfl) | (subst_vars; first | rfl | grind))⟩ dX10_told_73
    ·
      have f22 := fnle (by decide : (0 : Int32).toInt = 0) rfl c7
      refine g_iconst C (-1) dX10_told_15 (by decide) ?_
      have zr9 : ((-1) : Int32).toInt = (-1) := by decide
      exact g_iret C hr ⟨rfl, rfl, (by dsimp only [A_told, hasC, hasB, hasX, hasM, ofS, ofK, bt, ix]; (repeat (first | rw [if_pos (by omega)] | rw [if_neg (by omega)])); first | done | rfl | (simp only [ix]; done) | (simp only [ix]; rfl) | (subst_vars; first | rfl | grind))⟩ dX10_told_16
