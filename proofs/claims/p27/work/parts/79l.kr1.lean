set_option maxHeartbeats 4000000 in
set_option maxRecDepth 100000 in
theorem k_X11_fraction (l : Launch) (D : va_G) (ad : Nat → Nat) (cs : Nat → ClassId) (M : MI) (L : ML) (x : Int64) (y : Int64) (hI : IR M) (hne : ¬ (x.toInt = 0 ∧ y.toInt = 0)) : Cv l yX11_fraction wsX11_fraction ({ frames := 1, cells := 0, slots := 0, locals := 29 }) D ad cs [.ref (ad 258), .long x, .long y] M L (fun M1 L1 => (((L1 258 23).toInt % 2 = 1 ∨ (L1 258 24).toInt % 2 = 1) ∧ ((M1 258 25).toInt = 0 → (M 258 25).toInt = 0) ∧ (0 ≤ x.toInt → 1 ≤ y.toInt → L1 258 23 = frU x y ∧ L1 258 24 = frD x y ∧ ((M1 258 25).toInt = 0 ↔ (M 258 25).toInt = 0 ∧ fitF (frU x y) (frD x y)))) ∧ IR M1 ∧ (∀ k i, ¬ (k = 258 ∧ i = 25) → M1 k i = M k i) ∧ ∀ k i, ¬ (k = 258 ∧ i = 23) ∧ ¬ (k = 258 ∧ i = 24) → L1 k i = L k i) := by
  refine enter_v RX11 rfl [(0, .ref (ad 258)), (1, .long x), (3, .long y)] rfl (Nat.le_of_ble_eq_true rfl) (by decide +kernel) rfl ?_
  intro p e s m below meth c C hr
  have hF : ∀ k i, ¬ (k = 258 ∧ i = 25) → M k i = M k i := fun _ _ _ => rfl
  have hG : ∀ k i, ¬ (k = 258 ∧ i = 23) ∧ ¬ (k = 258 ∧ i = 24) → L k i = L k i := fun _ _ _ => rfl
  have k25 : M 258 25 = M 258 25 := rfl
  have l23 : L 258 23 = L 258 23 := rfl
  have l24 : L 258 24 = L 258 24 := rfl
  refine g_lload_n C 1 dX11_fraction_0 rfl ?_
  refine g_lload_n C 2 dX11_fraction_1 rfl ?_
  refine g_callSl C (n := 2) (As := [.long x, .long y]) (st := []) (s_X11_gcd l D ad cs _ _ x y hI ) gX11_fraction_X11_gcd rfl rfl rfl (by decide +kernel) ⟨Nat.le_of_ble_eq_true rfl, Nat.le_of_ble_eq_true rfl⟩ rfl (Nat.le_of_ble_eq_true rfl) ⟨Nat.zero_le _, Nat.zero_le _⟩ rfl dX11_fraction_2 (fun r1 M2 L3 hr1 => ?_)
  obtain ⟨hq1, hq2, hr1⟩ := hr1
  obtain rfl := hq1.symm
  obtain rfl := hq2.symm
  obtain ⟨hr1a, hr1b, hr1m, hr1p⟩ := hr1
  have hg0 : r1.toInt ≠ 0 := fun h9 => hne ⟨by have h8 := hr1a; rw [h9] at h8; exact Int.zero_dvd.mp h8, by have h8 := hr1b; rw [h9] at h8; exact Int.zero_dvd.mp h8⟩
  have hlo := low_odd hg0 hr1a hr1b hr1m
  refine g_lstore C [(5, .long r1), (0, .ref (ad 258)), (1, .long x), (3, .long y)] dX11_fraction_5 (by decide) rfl ?_
  refine g_aload_n C 1 dX11_fraction_7 rfl ?_
  refine g_lload_n C 2 dX11_fraction_8 rfl ?_
  refine g_lload C 0 dX11_fraction_9 rfl ?_
  refine g_ldiv C dX11_fraction_11 (by intro h9; have h8 := congrArg Int64.toInt h9; have h7 : (0 : Int64).toInt = 0 := (by decide); omega) ?_
  refine g_nl (fun v4 ev4 => ?_)
  have fv4 := quoI ev4
  refine g_putJ C 23 in_X11_fraction_11 (List.mem_of_getElem? (i := 1) rfl) (by decide) (ce_model ad cs _ _) rfl (by decide) rfl tyX11 tyX11_ok nmX11 rfl rfl rfl rfl (Nat.le_of_ble_eq_true rfl) (by rw [sJ_k]; rfl) dX11_fraction_12 ?_
  refine g_nmL (fun L5 hL5 => ?_)
  have hG : ∀ k i, ¬ (k = 258 ∧ i = 23) ∧ ¬ (k = 258 ∧ i = 24) → L5 k i = L k i := fun k i hk => by (rw [hL5, sJ_at, if_neg (by omega)]; try exact hG k i hk)
  have l23 : L5 258 23 = v4 := by rw [hL5, sJ_at, if_pos (by decide)]
  have l24 : L5 258 24 = L 258 24 := by rw [hL5, sJ_at, if_neg (by decide)]; try exact l24
  refine g_aload_n C 1 dX11_fraction_15 rfl ?_
  refine g_lload_n C 3 dX11_fraction_16 rfl ?_
  refine g_lload C 0 dX11_fraction_17 rfl ?_
  refine g_ldiv C dX11_fraction_19 (by intro h9; have h8 := congrArg Int64.toInt h9; have h7 : (0 : Int64).toInt = 0 := (by decide); omega) ?_
  refine g_nl (fun v6 ev6 => ?_)
  have fv6 := quoI ev6
  refine g_putJ C 24 in_X11_fraction_11 (List.mem_of_getElem? (i := 2) rfl) (by decide) (ce_model ad cs _ _) rfl (by decide) rfl tyX11 tyX11_ok nmX11 rfl rfl rfl rfl (Nat.le_of_ble_eq_true rfl) (by rw [sJ_k]; rfl) dX11_fraction_20 ?_
  refine g_nmL (fun L7 hL7 => ?_)
  have hG : ∀ k i, ¬ (k = 258 ∧ i = 23) ∧ ¬ (k = 258 ∧ i = 24) → L7 k i = L k i := fun k i hk => by (rw [hL7, sJ_at, if_neg (by omega)]; try exact hG k i hk)
  have l23 : L7 258 23 = v4 := by rw [hL7, sJ_at, if_neg (by decide)]; try exact l23
  have l24 : L7 258 24 = v6 := by rw [hL7, sJ_at, if_pos (by decide)]
  refine g_aload_n C 1 dX11_fraction_23 rfl ?_
  refine g_aload_n C 1 dX11_fraction_24 rfl ?_
  refine g_get C (.int (M 258 25)) 25 in_X11_fraction_11 (List.mem_of_getElem? (i := 3) rfl) (by decide) (ce_model ad cs _ _) rfl (by decide) rfl rfl dX11_fraction_25 ?_
  refine g_ni (fun v8 ev8 => ?_)
  have gv8 : v8 = M 258 25 := ev8.trans k25
  have tv8 := congrArg Int32.toInt gv8
  obtain ⟨bv8, dv8⟩ := (show rg 0 1 v8 from (by rw [ev8]; exact hI 258 25))
  refine g_if_ne C 53 dX11_fraction_28 (by decide) (fun c9 => ?_) (fun c9 => ?_)
  ·
    have f10 := fne rfl (by decide : (0 : Int32).toInt = 0) c9
    refine g_iconst C 1 dX11_fraction_53 (by decide) ?_
    refine g_goto C 58 dX11_fraction_54 (by decide) ?_
    refine g_putI C 25 in_X11_fraction_11 (List.mem_of_getElem? (i := 3) rfl) (by decide) (ce_model ad cs _ _) rfl (by decide) rfl tyX11 tyX11_ok nmX11 rfl rfl rfl rfl (Nat.le_of_ble_eq_true rfl) (by rw [sI_k]; rfl) dX11_fraction_58 ?_
    refine g_nm (fun M11 hM11 => ?_)
    have zy12 : (1 : Int32).toInt = 1 := by decide
    have hI : IR M11 := by rw [hM11]; exact hI.st (show bR 258 25 _ from ⟨by first | omega | decide, by first | omega | decide⟩)
    have hF : ∀ k i, ¬ (k = 258 ∧ i = 25) → M11 k i = M k i := fun k i hk => by (rw [hM11, sI_at, if_neg (by omega)]; try exact hF k i hk)
    have k25 : M11 258 25 = 1 := by rw [hM11, sI_at, if_pos (by decide)]
    have lu := congrArg Int64.toInt l23
    have ld := congrArg Int64.toInt l24
    have ks := congrArg Int32.toInt k25
    have pu := bmod_par (x := x.toInt.tdiv r1.toInt)
    have pd := bmod_par (x := y.toInt.tdiv r1.toInt)
    rw [← fv4] at pu
    rw [← fv6] at pd
    have z1 : (1 : Int32).toInt = 1 := by decide
    have z0 : (0 : Int32).toInt = 0 := by decide
    exact g_vret C hr ⟨⟨by (rw [lu, ld]; omega), fun h9 => (by first | (exfalso; omega) | omega), fun h1 h2 => (by
      have bx1 := Int64.toInt_lt x
      have by1 := Int64.toInt_lt y
      have hgp := hr1p (by omega) (by omega)
      have hgf := frG_of hr1a hr1b hr1m hgp
      have eu := frU_t h1 h2 hgf fv4
      have ed := frD_t h2 hgf fv6
      refine ⟨by rw [l23, eu], by rw [l24, ed], ?_⟩
      rw [← eu, ← ed]
      dsimp only [fitF]
      omega)⟩, hI, hF, hG⟩ dX11_fraction_61
  ·
    have f13 := feq rfl (by decide : (0 : Int32).toInt = 0) c9
    refine g_aload_n C 1 dX11_fraction_31 rfl ?_
    refine g_get C (.long (L7 258 23)) 23 in_X11_fraction_11 (List.mem_of_getElem? (i := 1) rfl) (by decide) (ce_model ad cs _ _) rfl (by decide) rfl rfl dX11_fraction_32 ?_
    refine g_nl (fun v14 ev14 => ?_)
    have gv14 : v14 = v4 := ev14.trans l23
    have tv14 := congrArg Int64.toInt gv14
    refine g_ldc2 C 1000000000 (List.mem_of_getElem? (i := 4) rfl) dX11_fraction_35 ?_
    refine g_lcmp C dX11_fraction_38 ?_
    refine g_ni (fun v15 ev15 => ?_)
    refine g_if_gt C 53 dX11_fraction_39 (by decide) (fun c16 => ?_) (fun c16 => ?_)
    ·
      have f17 := cgt rfl (by decide : (1000000000 : Int64).toInt = 1000000000) ev15 c16
      refine g_iconst C 1 dX11_fraction_53 (by decide) ?_
      refine g_goto C 58 dX11_fraction_54 (by decide) ?_
      refine g_putI C 25 in_X11_fraction_11 (List.mem_of_getElem? (i := 3) rfl) (by decide) (ce_model ad cs _ _) rfl (by decide) rfl tyX11 tyX11_ok nmX11 rfl rfl rfl rfl (Nat.le_of_ble_eq_true rfl) (by rw [sI_k]; rfl) dX11_fraction_58 ?_
      refine g_nm (fun M18 hM18 => ?_)
      have zy19 : (1 : Int32).toInt = 1 := by decide
      have hI : IR M18 := by rw [hM18]; exact hI.st (show bR 258 25 _ from ⟨by first | omega | decide, by first | omega | decide⟩)
      have hF : ∀ k i, ¬ (k = 258 ∧ i = 25) → M18 k i = M k i := fun k i hk => by (rw [hM18, sI_at, if_neg (by omega)]; try exact hF k i hk)
      have k25 : M18 258 25 = 1 := by rw [hM18, sI_at, if_pos (by decide)]
      have lu := congrArg Int64.toInt l23
      have ld := congrArg Int64.toInt l24
      have ks := congrArg Int32.toInt k25
      have pu := bmod_par (x := x.toInt.tdiv r1.toInt)
      have pd := bmod_par (x := y.toInt.tdiv r1.toInt)
      rw [← fv4] at pu
      rw [← fv6] at pd
      have z1 : (1 : Int32).toInt = 1 := by decide
      have z0 : (0 : Int32).toInt = 0 := by decide
      exact g_vret C hr ⟨⟨by (rw [lu, ld]; omega), fun h9 => (by first | (exfalso; omega) | omega), fun h1 h2 => (by
      have bx1 := Int64.toInt_lt x
      have by1 := Int64.toInt_lt y
      have hgp := hr1p (by omega) (by omega)
      have hgf := frG_of hr1a hr1b hr1m hgp
      have eu := frU_t h1 h2 hgf fv4
      have ed := frD_t h2 hgf fv6
      refine ⟨by rw [l23, eu], by rw [l24, ed], ?_⟩
      rw [← eu, ← ed]
      dsimp only [fitF]
      omega)⟩, hI, hF, hG⟩ dX11_fraction_61
    ·
      have f20 := cngt rfl (by decide : (1000000000 : Int64).toInt = 1000000000) ev15 c16
      refine g_aload_n C 1 dX11_fraction_42 rfl ?_
      refine g_get C (.long (L7 258 24)) 24 in_X11_fraction_11 (List.mem_of_getElem? (i := 2) rfl) (by decide) (ce_model ad cs _ _) rfl (by decide) rfl rfl dX11_fraction_43 ?_
      refine g_nl (fun v21 ev21 => ?_)
      have gv21 : v21 = v6 := ev21.trans l24
      have tv21 := congrArg Int64.toInt gv21
      refine g_ldc2 C 1000000000 (List.mem_of_getElem? (i := 4) rfl) dX11_fraction_46 ?_
      refine g_lcmp C dX11_fraction_49 ?_
      refine g_ni (fun v22 ev22 => ?_)
      refine g_if_le C 57 dX11_fraction_50 (by decide) (fun c23 => ?_) (fun c23 => ?_)
      ·
        have f24 := cle rfl (by decide : (1000000000 : Int64).toInt = 1000000000) ev22 c23
        refine g_iconst C 0 dX11_fraction_57 (by decide) ?_
        refine g_putI C 25 in_X11_fraction_11 (List.mem_of_getElem? (i := 3) rfl) (by decide) (ce_model ad cs _ _) rfl (by decide) rfl tyX11 tyX11_ok nmX11 rfl rfl rfl rfl (Nat.le_of_ble_eq_true rfl) (by rw [sI_k]; rfl) dX11_fraction_58 ?_
        refine g_nm (fun M25 hM25 => ?_)
        have zy26 : (0 : Int32).toInt = 0 := by decide
        have hI : IR M25 := by rw [hM25]; exact hI.st (show bR 258 25 _ from ⟨by first | omega | decide, by first | omega | decide⟩)
        have hF : ∀ k i, ¬ (k = 258 ∧ i = 25) → M25 k i = M k i := fun k i hk => by (rw [hM25, sI_at, if_neg (by omega)]; try exact hF k i hk)
        have k25 : M25 258 25 = 0 := by rw [hM25, sI_at, if_pos (by decide)]
        have lu := congrArg Int64.toInt l23
        have ld := congrArg Int64.toInt l24
        have ks := congrArg Int32.toInt k25
        have pu := bmod_par (x := x.toInt.tdiv r1.toInt)
        have pd := bmod_par (x := y.toInt.tdiv r1.toInt)
        rw [← fv4] at pu
        rw [← fv6] at pd
        have z1 : (1 : Int32).toInt = 1 := by decide
        have z0 : (0 : Int32).toInt = 0 := by decide
        exact g_vret C hr ⟨⟨by (rw [lu, ld]; omega), fun h9 => (by first | (exfalso; omega) | omega), fun h1 h2 => (by
      have bx1 := Int64.toInt_lt x
      have by1 := Int64.toInt_lt y
      have hgp := hr1p (by omega) (by omega)
      have hgf := frG_of hr1a hr1b hr1m hgp
      have eu := frU_t h1 h2 hgf fv4
      have ed := frD_t h2 hgf fv6
      refine ⟨by rw [l23, eu], by rw [l24, ed], ?_⟩
      rw [← eu, ← ed]
      dsimp only [fitF]
      omega)⟩, hI, hF, hG⟩ dX11_fraction_61
      ·
        have f27 := cnle rfl (by decide : (1000000000 : Int64).toInt = 1000000000) ev22 c23
        refine g_iconst C 1 dX11_fraction_53 (by decide) ?_
        refine g_goto C 58 dX11_fraction_54 (by decide) ?_
        refine g_putI C 25 in_X11_fraction_11 (List.mem_of_getElem? (i := 3) rfl) (by decide) (ce_model ad cs _ _) rfl (by decide) rfl tyX11 tyX11_ok nmX11 rfl rfl rfl rfl (Nat.le_of_ble_eq_true rfl) (by rw [sI_k]; rfl) dX11_fraction_58 ?_
        refine g_nm (fun M28 hM28 => ?_)
        have zy29 : (1 : Int32).toInt = 1 := by decide
        have hI : IR M28 := by rw [hM28]; exact hI.st (show bR 258 25 _ from ⟨by first | omega | decide, by first | omega | decide⟩)
        have hF : ∀ k i, ¬ (k = 258 ∧ i = 25) → M28 k i = M k i := fun k i hk => by (rw [hM28, sI_at, if_neg (by omega)]; try exact hF k i hk)
        have k25 : M28 258 25 = 1 := by rw [hM28, sI_at, if_pos (by decide)]
        have lu := congrArg Int64.toInt l23
        have ld := congrArg Int64.toInt l24
        have ks := congrArg Int32.toInt k25
        have pu := bmod_par (x := x.toInt.tdiv r1.toInt)
        have pd := bmod_par (x := y.toInt.tdiv r1.toInt)
        rw [← fv4] at pu
        rw [← fv6] at pd
        have z1 : (1 : Int32).toInt = 1 := by decide
        have z0 : (0 : Int32).toInt = 0 := by decide
        exact g_vret C hr ⟨⟨by (rw [lu, ld]; omega), fun h9 => (by first | (exfalso; omega) | omega), fun h1 h2 => (by
      have bx1 := Int64.toInt_lt x
      have by1 := Int64.toInt_lt y
      have hgp := hr1p (by omega) (by omega)
      have hgf := frG_of hr1a hr1b hr1m hgp
      have eu := frU_t h1 h2 hgf fv4
      have ed := frD_t h2 hgf fv6
      refine ⟨by rw [l23, eu], by rw [l24, ed], ?_⟩
      rw [← eu, ← ed]
      dsimp only [fitF]
      omega)⟩, hI, hF, hG⟩ dX11_fraction_61
set_option maxHeartbeats 4000000 in
set_option maxRecDepth 100000 in
theorem k_X11_addTo (l : Launch) (D : va_G) (ad : Nat → Nat) (cs : Nat → ClassId) (M : MI) (L : ML) (x : Int32) (y : Int64) (z : Int64) (hI : IR M) (hx : 0 ≤ x.toInt ∧ x.toInt < 10) (hz : 1 ≤ z.toInt ∧ z.toInt ≤ 1000000000) (hTo : TLo L) : Cv l yX11_addTo wsX11_addTo ({ frames := 2, cells := 0, slots := 0, locals := 55 }) D ad cs [.ref (ad 258), .int x, .long y, .long z] M L (fun M1 L1 => (TLo L1 ∧ (0 ≤ y.toInt ∧ y.toInt ≤ 1000000000 → okF (L 284 (x.toNatClampNeg)) (L 285 (x.toNatClampNeg)) → L1 284 = vp_updL (L 284) (x.toNatClampNeg) (frU (L 284 (x.toNatClampNeg) * z + y * L 285 (x.toNatClampNeg)) (L 285 (x.toNatClampNeg) * z)) ∧ L1 285 = vp_updL (L 285) (x.toNatClampNeg) (frD (L 284 (x.toNatClampNeg) * z + y * L 285 (x.toNatClampNeg)) (L 285 (x.toNatClampNeg) * z)) ∧ ((M1 258 25).toInt = 0 ↔ (M 258 25).toInt = 0 ∧ fitF (frU (L 284 (x.toNatClampNeg) * z + y * L 285 (x.toNatClampNeg)) (L 285 (x.toNatClampNeg) * z)) (frD (L 284 (x.toNatClampNeg) * z + y * L 285 (x.toNatClampNeg)) (L 285 (x.toNatClampNeg) * z)))) ∧ ((M1 258 25).toInt = 0 → (M 258 25).toInt = 0)) ∧ IR M1 ∧ (∀ k i, ¬ (k = 258 ∧ i = 25) → M1 k i = M k i) ∧ ∀ k i, ¬ (k = 258 ∧ i = 23) ∧ ¬ (k = 258 ∧ i = 24) ∧ k ≠ 284 ∧ k ≠ 285 → L1 k i = L k i) := by
  refine enter_v RX11 rfl [(0, .ref (ad 258)), (1, .int x), (2, .long y), (4, .long z)] rfl (Nat.le_of_ble_eq_true rfl) (by decide +kernel) rfl ?_
  intro p e s m below meth c C hr
  have hF : ∀ k i, ¬ (k = 258 ∧ i = 25) → M k i = M k i := fun _ _ _ => rfl
  have hG : ∀ k i, ¬ (k = 258 ∧ i = 23) ∧ ¬ (k = 258 ∧ i = 24) ∧ k ≠ 284 ∧ k ≠ 285 → L k i = L k i := fun _ _ _ => rfl
  obtain ⟨hx1, hx2⟩ := hx
  obtain ⟨hz1, hz2⟩ := hz
  have k25 : M 258 25 = M 258 25 := rfl
  have l23 : L 258 23 = L 258 23 := rfl
  have l24 : L 258 24 = L 258 24 := rfl
  have p284 : L 284 = L 284 := rfl
  have p285 : L 285 = L 285 := rfl
  refine g_aload_n C 0 dX11_addTo_0 rfl ?_
  refine g_aload_n C 0 dX11_addTo_1 rfl ?_
  refine g_get C (.ref (ad 284)) 38 in_X11_addTo_11 (List.mem_of_getElem? (i := 1) rfl) (by decide) (ce_model ad cs _ _) rfl (by decide) rfl rfl dX11_addTo_2 ?_
  refine g_iload_n C 1 dX11_addTo_5 rfl ?_
  refine g_lald C (by decide) (ce_m_ups ad cs _ _) (fin' (n := 10) rfl (by omega) (by omega)) dX11_addTo_6 ?_
  refine g_nl (fun v1 ev1 => ?_)
  have gv1 : v1 = L 284 x.toNatClampNeg := ev1.trans (congrFun p284 _)
  have tv1 := congrArg Int64.toInt gv1
  refine g_lload C 3 dX11_addTo_7 rfl ?_
  refine g_lmul C dX11_addTo_9 ?_
  refine g_nl (fun v2 ev2 => ?_)
  try have fv2 := prodI ev2
  refine g_lload_n C 2 dX11_addTo_10 rfl ?_
  refine g_aload_n C 0 dX11_addTo_11 rfl ?_
  refine g_get C (.ref (ad 285)) 39 in_X11_addTo_11 (List.mem_of_getElem? (i := 2) rfl) (by decide) (ce_model ad cs _ _) rfl (by decide) rfl rfl dX11_addTo_12 ?_
  refine g_iload_n C 1 dX11_addTo_15 rfl ?_
  refine g_lald C (by decide) (ce_m_downs ad cs _ _) (fin' (n := 10) rfl (by omega) (by omega)) dX11_addTo_16 ?_
  refine g_nl (fun v3 ev3 => ?_)
  have gv3 : v3 = L 285 x.toNatClampNeg := ev3.trans (congrFun p285 _)
  have tv3 := congrArg Int64.toInt gv3
  refine g_lmul C dX11_addTo_17 ?_
  refine g_nl (fun v4 ev4 => ?_)
  try have fv4 := prodI ev4
  refine g_ladd C dX11_addTo_18 ?_
  refine g_nl (fun v5 ev5 => ?_)
  try have fv5 := fladd rfl rfl ev5 (by omega) (by omega)
  refine g_aload_n C 0 dX11_addTo_19 rfl ?_
  refine g_get C (.ref (ad 285)) 39 in_X11_addTo_11 (List.mem_of_getElem? (i := 2) rfl) (by decide) (ce_model ad cs _ _) rfl (by decide) rfl rfl dX11_addTo_20 ?_
  refine g_iload_n C 1 dX11_addTo_23 rfl ?_
  refine g_lald C (by decide) (ce_m_downs ad cs _ _) (fin' (n := 10) rfl (by omega) (by omega)) dX11_addTo_24 ?_
  refine g_nl (fun v6 ev6 => ?_)
  have gv6 : v6 = L 285 x.toNatClampNeg := ev6.trans (congrFun p285 _)
  have tv6 := congrArg Int64.toInt gv6
  refine g_lload C 3 dX11_addTo_25 rfl ?_
  refine g_lmul C dX11_addTo_27 ?_
  refine g_nl (fun v7 ev7 => ?_)
  try have fv7 := prodI ev7
  have hsA := sumI ev2 ev4 ev5
  have ho := hTo x.toNatClampNeg (by have := ixn (x := x) hx1; omega)
  unfold oddF at ho
  have nxx := ixn (x := x) hx1
  have hdd : v3.toInt = v6.toInt := by omega
  rw [hdd] at hsA
  have hne9 : ¬ (v5.toInt = 0 ∧ v7.toInt = 0) := fun h9 => sum_ne (u := v1.toInt) (d := v6.toInt) (a := y.toInt) (w := z.toInt) (by omega) (by omega) (by omega) (bmod0 (by rw [← fv7]; exact h9.2)) (bmod0 (by rw [← hsA]; exact h9.1))
  have eA9 : v5 = L 284 x.toNatClampNeg * z + y * L 285 x.toNatClampNeg := by simp only [ev7, gv6, ev5, ev4, gv3, ev2, gv1]
  have eB9 : v7 = L 285 x.toNatClampNeg * z := by simp only [ev7, gv6, ev5, ev4, gv3, ev2, gv1]
  refine g_callVv C (n := 2) (As := [.long v5, .long v7]) (st := []) (k_X11_fraction l D ad cs _ _ v5 v7 hI hne9) gX11_addTo_X11_fraction rfl rfl rfl (by decide +kernel) ⟨Nat.le_of_ble_eq_true rfl, Nat.le_of_ble_eq_true rfl⟩ rfl (Nat.le_of_ble_eq_true rfl) ⟨Nat.zero_le _, Nat.zero_le _⟩ (by decide) (ce_model ad cs _ _) rfl rfl dX11_addTo_28 (fun M9 L10 hr8 => ?_)
  obtain ⟨hr8, hI, hFr8, hGr8⟩ := hr8
  have hF : ∀ k i, ¬ (k = 258 ∧ i = 25) → M9 k i = M k i := fun k i hk => by (rw [hFr8 k i (by omega)]; try exact hF k i hk)
  have hG : ∀ k i, ¬ (k = 258 ∧ i = 23) ∧ ¬ (k = 258 ∧ i = 24) ∧ k ≠ 284 ∧ k ≠ 285 → L10 k i = L k i := fun k i hk => by (rw [hGr8 k i (by omega)]; try exact hG k i hk)
  have k25 : M9 258 25 = M9 258 25 := rfl
  have kt25 := congrArg Int32.toInt k25
  have l23 : L10 258 23 = L10 258 23 := rfl
  have l24 : L10 258 24 = L10 258 24 := rfl
  have p284 : L10 284 = L 284 := (funext (fun i => hGr8 284 i (by omega))).trans p284
  have p285 : L10 285 = L 285 := (funext (fun i => hGr8 285 i (by omega))).trans p285
  obtain ⟨hr81, hPs, hr82⟩ := hr8
  have hr8 := And.intro hr81 hr82
  refine g_aload_n C 0 dX11_addTo_31 rfl ?_
  refine g_get C (.ref (ad 284)) 38 in_X11_addTo_11 (List.mem_of_getElem? (i := 1) rfl) (by decide) (ce_model ad cs _ _) rfl (by decide) rfl rfl dX11_addTo_32 ?_
  refine g_iload_n C 1 dX11_addTo_35 rfl ?_
  refine g_aload_n C 0 dX11_addTo_36 rfl ?_
  refine g_get C (.long (L10 258 23)) 23 in_X11_addTo_11 (List.mem_of_getElem? (i := 3) rfl) (by decide) (ce_model ad cs _ _) rfl (by decide) rfl rfl dX11_addTo_37 ?_
  refine g_nl (fun v11 ev11 => ?_)
  have gv11 : v11 = L10 258 23 := ev11.trans l23
  have tv11 := congrArg Int64.toInt gv11
  refine g_last C (by decide) (ce_m_ups ad cs _ _) (by rw [sJ_k]; rfl) (fin' (n := 10) rfl (by omega) (by omega)) dX11_addTo_40 ?_
  refine g_nmL (fun L12 hL12 => ?_)
  have hG : ∀ k i, ¬ (k = 258 ∧ i = 23) ∧ ¬ (k = 258 ∧ i = 24) ∧ k ≠ 284 ∧ k ≠ 285 → L12 k i = L k i := fun k i hk => by (rw [hL12, sJ_at, if_neg (by omega)]; try exact hG k i hk)
  have l23 : L12 258 23 = L10 258 23 := by rw [hL12, sJ_n _ _ _ (by decide)]; try exact l23
  have l24 : L12 258 24 = L10 258 24 := by rw [hL12, sJ_n _ _ _ (by decide)]; try exact l24
  have p285 : L12 285 = L 285 := by rw [hL12, sJ_n _ _ _ (by decide)]; try exact p285
  refine g_aload_n C 0 dX11_addTo_41 rfl ?_
  refine g_get C (.ref (ad 285)) 39 in_X11_addTo_11 (List.mem_of_getElem? (i := 2) rfl) (by decide) (ce_model ad cs _ _) rfl (by decide) rfl rfl dX11_addTo_42 ?_
  refine g_iload_n C 1 dX11_addTo_45 rfl ?_
  refine g_aload_n C 0 dX11_addTo_46 rfl ?_
  refine g_get C (.long (L12 258 24)) 24 in_X11_addTo_11 (List.mem_of_getElem? (i := 4) rfl) (by decide) (ce_model ad cs _ _) rfl (by decide) rfl rfl dX11_addTo_47 ?_
  refine g_nl (fun v13 ev13 => ?_)
  have gv13 : v13 = L10 258 24 := ev13.trans l24
  have tv13 := congrArg Int64.toInt gv13
  refine g_last C (by decide) (ce_m_downs ad cs _ _) (by rw [sJ_k]; rfl) (fin' (n := 10) rfl (by omega) (by omega)) dX11_addTo_50 ?_
  refine g_nmL (fun L14 hL14 => ?_)
  have hG : ∀ k i, ¬ (k = 258 ∧ i = 23) ∧ ¬ (k = 258 ∧ i = 24) ∧ k ≠ 284 ∧ k ≠ 285 → L14 k i = L k i := fun k i hk => by (rw [hL14, sJ_at, if_neg (by omega)]; try exact hG k i hk)
  have l23 : L14 258 23 = L10 258 23 := by rw [hL14, sJ_n _ _ _ (by decide)]; try exact l23
  have l24 : L14 258 24 = L10 258 24 := by rw [hL14, sJ_n _ _ _ (by decide)]; try exact l24
  have ha : L14 284 = vp_updL (L 284) x.toNatClampNeg v11 := by rw [hL14, sJ_n _ _ _ (by decide), hL12, sJ_k, p284]
  have hb : L14 285 = vp_updL (L 285) x.toNatClampNeg v13 := by rw [hL14, sJ_k, p285]
  obtain ⟨hP1, hP2⟩ := hr8
  exact g_vret C hr ⟨⟨fun c hc => (by
      rw [ha, hb]
      by_cases e9 : c = x.toNatClampNeg
      · rw [show vp_updL (L 284) x.toNatClampNeg v11 c = v11 from if_pos e9, show vp_updL (L 285) x.toNatClampNeg v13 c = v13 from if_pos e9]; unfold oddF; omega
      · rw [show vp_updL (L 284) x.toNatClampNeg v11 c = L 284 c from if_neg e9, show vp_updL (L 285) x.toNatClampNeg v13 c = L 285 c from if_neg e9]; exact hTo c hc), fun hy hk => (by
      unfold okF at hk
      have h3 := add_ok hsA fv7 (by omega) hy ⟨by omega, by omega⟩
      have h4 := hP2 h3.1 h3.2
      rw [eA9, eB9] at h4
      exact ⟨by rw [ha, gv11, h4.1], by rw [hb, gv13, h4.2.1], h4.2.2⟩), fun hs => (by rw [k25] at hs; exact hPs hs)⟩, hI, hF, hG⟩ dX11_addTo_51
set_option maxHeartbeats 4000000 in
set_option maxRecDepth 100000 in
theorem k_X11_ballotAt (l : Launch) (D : va_G) (ad : Nat → Nat) (cs : Nat → ClassId) (M : MI) (L : ML) (x : Int32) (hI : IR M) (hx : 0 ≤ x.toInt ∧ x.toInt < 40) (hX : hasX (vR M) (M 258 27)) : Ci l yX11_ballotAt wsX11_ballotAt ({ frames := 0, cells := 0, slots := 0, locals := 0 }) D ad cs [.ref (ad 258), .int x] M L (fun r M1 L1 => M1 = M ∧ L1 = L ∧ (r = vR M 8 (40 * (M 258 27).toNatClampNeg + x.toNatClampNeg))) := by
  refine enter_i RX11 rfl [(0, .ref (ad 258)), (1, .int x)] rfl (Nat.le_of_ble_eq_true rfl) (by decide +kernel) rfl ?_
  intro p e s m below meth c C hr
  have hF : ∀ k i, True → M k i = M k i := fun _ _ _ => rfl
  have hG : ∀ k i, True → L k i = L k i := fun _ _ _ => rfl
  have w0 : (vR M 0 0).toInt = (M 258 2).toInt := rfl
  have w1 : (vR M 0 1).toInt = (M 258 4).toInt := rfl
  have w2 : (vR M 0 2).toInt = (M 258 9).toInt := rfl
  have w3 : (vR M 0 3).toInt = (M 258 14).toInt := rfl
  obtain ⟨y0a, y0b⟩ := (show rg 0 10 (M 258 2) from hI 258 2)
  obtain ⟨y1a, y1b⟩ := (show rg 0 60 (M 258 4) from hI 258 4)
  obtain ⟨y2a, y2b⟩ := (show rg 0 8 (M 258 9) from hI 258 9)
  obtain ⟨y3a, y3b⟩ := (show rg 0 20 (M 258 14) from hI 258 14)
  obtain ⟨hx1, hx2⟩ := hx
  have hX2 := hX.2
  have hX1 := hX.1
  have nX := ixn hX1
  refine g_aload_n C 0 dX11_ballotAt_0 rfl ?_
  refine g_get C (.ref (ad 267)) 12 in_X11_ballotAt_11 (List.mem_of_getElem? (i := 1) rfl) (by decide) (ce_model ad cs _ _) rfl (by decide) rfl rfl dX11_ballotAt_1 ?_
  refine g_bipush C 40 dX11_ballotAt_4 (by decide) ?_
  refine g_aload_n C 0 dX11_ballotAt_6 rfl ?_
  refine g_get C (.int (M 258 27)) 27 in_X11_ballotAt_11 (List.mem_of_getElem? (i := 2) rfl) (by decide) (ce_model ad cs _ _) rfl (by decide) rfl rfl dX11_ballotAt_7 ?_
  refine g_ni (fun v1 ev1 => ?_)
  have gv1 : v1 = M 258 27 := ev1
  have tv1 := congrArg Int32.toInt gv1
  obtain ⟨bv1, dv1⟩ := (show rg 0 7 v1 from (by rw [ev1]; exact hI 258 27))
  refine g_imul C dX11_ballotAt_10 ?_
  refine g_ni (fun v2 ev2 => ?_)
  try have fv2 := fmul (by decide : (40 : Int32).toInt = 40) rfl ev2 (by omega) (by omega)
  refine g_iload_n C 1 dX11_ballotAt_11 rfl ?_
  refine g_iadd C dX11_ballotAt_12 ?_
  refine g_ni (fun v3 ev3 => ?_)
  try have fv3 := fadd rfl rfl ev3 (by omega) (by omega)
  refine g_iald C (by decide) (ce_m_boxed ad cs _ _) (fin' (n := 320) rfl (by omega) (by omega)) dX11_ballotAt_13 ?_
  have nv1 := ixn (x := v1) (by omega)
  have nx := ixn (x := x) (by omega)
  have nv3 := ixn (x := v3) (by omega)
  have iv3 : v3.toNatClampNeg = 40 * v1.toNatClampNeg + x.toNatClampNeg := by omega
  refine g_ni (fun v4 ev4 => ?_)
  have gv4 : v4 = M 267 v3.toNatClampNeg := ev4
  have gv4 := cg1 (f := M 267) gv4 iv3
  have gv4 := gv4.trans (vR8 (M := M) (by omega)).symm
  have tv4 := congrArg Int32.toInt gv4
  have bv4 : bxd v4 := (by rw [ev4]; exact hI 267 v3.toNatClampNeg)
  unfold bxd at bv4
  exact g_iret C hr ⟨rfl, rfl, (by simp only [gv4, ev3, ev2, gv1])⟩ dX11_ballotAt_14
set_option maxHeartbeats 4000000 in
set_option maxRecDepth 100000 in
theorem k_X11_firstOn (l : Launch) (D : va_G) (ad : Nat → Nat) (cs : Nat → ClassId) (M : MI) (L : ML) (x : Int32) (hI : IR M) (hx : 0 ≤ x.toInt ∧ x.toInt < 60) : Ci l yX11_firstOn wsX11_firstOn ({ frames := 0, cells := 0, slots := 0, locals := 0 }) D ad cs [.ref (ad 258), .int x] M L (fun r M1 L1 => M1 = M ∧ L1 = L ∧ (r = fiV (vR M) (M 282) (x.toNatClampNeg))) := by
  refine enter_i RX11 rfl [(0, .ref (ad 258)), (1, .int x)] rfl (Nat.le_of_ble_eq_true rfl) (by decide +kernel) rfl ?_
  intro p e s m below meth c C hr
  have hF : ∀ k i, True → M k i = M k i := fun _ _ _ => rfl
  have hG : ∀ k i, True → L k i = L k i := fun _ _ _ => rfl
  have w0 : (vR M 0 0).toInt = (M 258 2).toInt := rfl
  have w1 : (vR M 0 1).toInt = (M 258 4).toInt := rfl
  have w2 : (vR M 0 2).toInt = (M 258 9).toInt := rfl
  have w3 : (vR M 0 3).toInt = (M 258 14).toInt := rfl
  obtain ⟨y0a, y0b⟩ := (show rg 0 10 (M 258 2) from hI 258 2)
  obtain ⟨y1a, y1b⟩ := (show rg 0 60 (M 258 4) from hI 258 4)
  obtain ⟨y2a, y2b⟩ := (show rg 0 8 (M 258 9) from hI 258 9)
  obtain ⟨y3a, y3b⟩ := (show rg 0 20 (M 258 14) from hI 258 14)
  obtain ⟨hx1, hx2⟩ := hx
  have nx := ixn hx1
  obtain ⟨oa, ob⟩ := (show rg 0 10 (vR M 4 x.toNatClampNeg) from hI 263 _)
  have no := ixn oa
  refine g_iconst C 0 dX11_firstOn_0 (by decide) ?_
  refine g_istore_n C [(2, .int 0), (0, .ref (ad 258)), (1, .int x)] dX11_firstOn_1 (by decide) rfl ?_
  have zy1 : (0 : Int32).toInt = 0 := by decide
  refine g_loop (α := Int32 × MI × ML) (fun a => (11 - a.1.toInt).toNat) (fun a => (0 ≤ a.1.toInt) ∧ (a.1.toInt ≤ 10) ∧ (fiF (vR M) (M 282) (x.toNatClampNeg) ((vR M 4 (x.toNatClampNeg)).toNatClampNeg - a.1.toNatClampNeg) a.1.toNatClampNeg = fiV (vR M) (M 282) (x.toNatClampNeg)) ∧ IR a.2.1 ∧ (∀ k i, True → a.2.1 k i = M k i) ∧ (∀ k i, True → a.2.2 k i = L k i)) (fun a => a.2.1) (fun a => a.2.2) (fun a => [(2, .int a.1), (0, .ref (ad 258)), (1, .int x)]) ((0 : Int32), M, L) ⟨by show 0 ≤ (0 : Int32).toInt; omega, by show (0 : Int32).toInt ≤ 10; omega, by show fiF (vR M) (M 282) (x.toNatClampNeg) ((vR M 4 (x.toNatClampNeg)).toNatClampNeg - (0 : Int32).toNatClampNeg) (0 : Int32).toNatClampNeg = fiV (vR M) (M 282) (x.toNatClampNeg); rfl, hI, hF, hG⟩ rfl rfl rfl ?_
  rintro ⟨x2_2, M_2, L_2⟩ ⟨j2_0, j2_1, j2_2, hI, hF, hG⟩ ih_2
  dsimp only at j2_0 j2_1 j2_2 hI hF hG ih_2 ⊢
  have n2 := ixn (x := x2_2) (by omega)
  refine g_iload_n C 0 dX11_firstOn_2 rfl ?_
  refine g_aload_n C 1 dX11_firstOn_3 rfl ?_
  refine g_get C (.ref (ad 263)) 7 in_X11_firstOn_11 (List.mem_of_getElem? (i := 1) rfl) (by decide) (ce_model ad cs _ _) rfl (by decide) rfl rfl dX11_firstOn_4 ?_
  refine g_iload_n C 2 dX11_firstOn_7 rfl ?_
  refine g_iald C (by decide) (ce_m_onIt ad cs _ _) (fin' (n := 60) rfl (by omega) (by omega)) dX11_firstOn_8 ?_
  refine g_ni (fun v2 ev2 => ?_)
  have gv2 : v2 = vR M 4 x.toNatClampNeg := ev2.trans (hF 263 x.toNatClampNeg trivial)
  have tv2 := congrArg Int32.toInt gv2
  obtain ⟨bv2, dv2⟩ := (show rg 0 10 v2 from (by rw [ev2]; exact hI 263 x.toNatClampNeg))
  refine g_icmp_ge C 49 dX11_firstOn_9 (by decide) (fun c3 => ?_) (fun c3 => ?_)
  ·
    have f4 := fle rfl rfl c3
    refine g_bipush C (-9) dX11_firstOn_49 (by decide) ?_
    have zr9 : ((-9) : Int32).toInt = (-9) := by decide
    exact g_iret C hr ⟨funext (fun k => funext (fun i => hF k i trivial)), funext (fun k => funext (fun i => hG k i trivial)), (by rw [← j2_2, fiF_end (by omega)])⟩ dX11_firstOn_51
  ·
    have f5 := fnle rfl rfl c3
    refine g_aload_n C 1 dX11_firstOn_12 rfl ?_
    refine g_get C (.ref (ad 282)) 36 in_X11_firstOn_11 (List.mem_of_getElem? (i := 2) rfl) (by decide) (ce_model ad cs _ _) rfl (by decide) rfl rfl dX11_firstOn_13 ?_
    refine g_aload_n C 1 dX11_firstOn_16 rfl ?_
    refine g_get C (.ref (ad 264)) 8 in_X11_firstOn_11 (List.mem_of_getElem? (i := 3) rfl) (by decide) (ce_model ad cs _ _) rfl (by decide) rfl rfl dX11_firstOn_17 ?_
    refine g_bipush C 10 dX11_firstOn_20 (by decide) ?_
    refine g_iload_n C 2 dX11_firstOn_22 rfl ?_
    refine g_imul C dX11_firstOn_23 ?_
    refine g_ni (fun v6 ev6 => ?_)
    try have fv6 := fmul (by decide : (10 : Int32).toInt = 10) rfl ev6 (by omega) (by omega)
    refine g_iload_n C 0 dX11_firstOn_24 rfl ?_
    refine g_iadd C dX11_firstOn_25 ?_
    refine g_ni (fun v7 ev7 => ?_)
    try have fv7 := fadd rfl rfl ev7 (by omega) (by omega)
    refine g_iald C (by decide) (ce_m_marks ad cs _ _) (fin' (n := 600) rfl (by omega) (by omega)) dX11_firstOn_26 ?_
    have nx := ixn (x := x) (by omega)
    have nx2_2 := ixn (x := x2_2) (by omega)
    have nv7 := ixn (x := v7) (by omega)
    have iv7 : v7.toNatClampNeg = 10 * x.toNatClampNeg + x2_2.toNatClampNeg := by omega
    refine g_ni (fun v8 ev8 => ?_)
    have gv8 : v8 = vR M 5 v7.toNatClampNeg := ev8.trans (hF 264 v7.toNatClampNeg trivial)
    have gv8 := cg1 (f := vR M 5) gv8 iv7
    have tv8 := congrArg Int32.toInt gv8
    obtain ⟨bv8, dv8⟩ := (show rg 0 9 v8 from (by rw [ev8]; exact hI 264 v7.toNatClampNeg))
    refine g_zald C (by decide) (ce_m_isIn ad cs _ _) (fin' (n := 10) rfl (by omega) (by omega)) dX11_firstOn_27 ?_
    refine g_ni (fun v9 ev9 => ?_)
    have gv9 : v9 = M 282 v8.toNatClampNeg := ev9.trans (hF 282 v8.toNatClampNeg trivial)
    have tv9 := congrArg Int32.toInt gv9
    have tb9 := tv9
    rw [gv8] at tb9
    refine g_if_eq C 43 dX11_firstOn_28 (by decide) (fun c10 => ?_) (fun c10 => ?_)
    ·
      have f11 := feq rfl (by decide : (0 : Int32).toInt = 0) c10
      obtain ⟨v12, ev12⟩ : ∃ y : Int32, y = x2_2 + 1 := ⟨_, rfl⟩
      try have fv12 := fadd rfl (by decide : (1 : Int32).toInt = 1) ev12 (by omega) (by omega)
      refine g_iinc C 0 v12 [(2, .int v12), (0, .ref (ad 258)), (1, .int x)] dX11_firstOn_43 rfl (by rw [ev12]; rfl) (by decide) rfl ?_
      refine g_goto C 2 dX11_firstOn_46 (by decide) ?_
      have nv := ixn (x := v12) (by omega)
      have iv : v12.toNatClampNeg = x2_2.toNatClampNeg + 1 := by omega
      exact ih_2 (v12, M_2, L_2) ⟨by show 0 ≤ v12.toInt; omega, by show v12.toInt ≤ 10; omega, by show fiF (vR M) (M 282) (x.toNatClampNeg) ((vR M 4 (x.toNatClampNeg)).toNatClampNeg - v12.toNatClampNeg) v12.toNatClampNeg = fiV (vR M) (M 282) (x.toNatClampNeg); rw [iv, ← j2_2, fiF_go (k := x2_2.toNatClampNeg) (by omega) (by omega)], hI, hF, hG⟩ (by show (11 - v12.toInt).toNat < (11 - x2_2.toInt).toNat; omega)
    ·
      have f13 := fne rfl (by decide : (0 : Int32).toInt = 0) c10
      refine g_aload_n C 1 dX11_firstOn_31 rfl ?_
      refine g_get C (.ref (ad 264)) 8 in_X11_firstOn_11 (List.mem_of_getElem? (i := 3) rfl) (by decide) (ce_model ad cs _ _) rfl (by decide) rfl rfl dX11_firstOn_32 ?_
      refine g_bipush C 10 dX11_firstOn_35 (by decide) ?_
      refine g_iload_n C 2 dX11_firstOn_37 rfl ?_
      refine g_imul C dX11_firstOn_38 ?_
      refine g_ni (fun v14 ev14 => ?_)
      try have fv14 := fmul (by decide : (10 : Int32).toInt = 10) rfl ev14 (by omega) (by omega)
      refine g_iload_n C 0 dX11_firstOn_39 rfl ?_
      refine g_iadd C dX11_firstOn_40 ?_
      refine g_ni (fun v15 ev15 => ?_)
      try have fv15 := fadd rfl rfl ev15 (by omega) (by omega)
      refine g_iald C (by decide) (ce_m_marks ad cs _ _) (fin' (n := 600) rfl (by omega) (by omega)) dX11_firstOn_41 ?_
      have nx := ixn (x := x) (by omega)
      have nx2_2 := ixn (x := x2_2) (by omega)
      have nv15 := ixn (x := v15) (by omega)
      have iv15 : v15.toNatClampNeg = 10 * x.toNatClampNeg + x2_2.toNatClampNeg := by omega
      refine g_ni (fun v16 ev16 => ?_)
      have gv16 : v16 = vR M 5 v15.toNatClampNeg := ev16.trans (hF 264 v15.toNatClampNeg trivial)
      have gv16 := cg1 (f := vR M 5) gv16 iv15
      have tv16 := congrArg Int32.toInt gv16
      obtain ⟨bv16, dv16⟩ := (show rg 0 9 v16 from (by rw [ev16]; exact hI 264 v15.toNatClampNeg))
      exact g_iret C hr ⟨funext (fun k => funext (fun i => hF k i trivial)), funext (fun k => funext (fun i => hG k i trivial)), (by rw [← j2_2, fiF_hit (k := x2_2.toNatClampNeg) (by omega) (by omega)]; simp only [gv16, ev15, ev14, gv9, gv8, ev7, ev6, gv2])⟩ dX11_firstOn_42
set_option maxHeartbeats 4000000 in
set_option maxRecDepth 100000 in
theorem k_X11_tallyFirsts (l : Launch) (D : va_G) (ad : Nat → Nat) (cs : Nat → ClassId) (M : MI) (L : ML)  (hI : IR M) (hW : WT L) (hs0 : (M 258 25).toInt = 0) (hX : hasX (vR M) (M 258 27)) (hB8 : ∀ i : Nat, (vR M 8 i).toInt = -9 ∨ (0 ≤ (vR M 8 i).toInt ∧ (vR M 8 i).toInt ≤ 59)) : Cv l yX11_tallyFirsts wsX11_tallyFirsts ({ frames := 3, cells := 0, slots := 0, locals := 80 }) D ad cs [.ref (ad 258)] M L (fun M1 L1 => (TLo L1 ∧ ((M1 258 25).toInt = 0 ↔ (foP (stW (vR M) (M 282) (L 286) (L 287)) (fun i => vR M 8 (40 * (M 258 27).toNatClampNeg + i)) (vR M 7 (M 258 27).toNatClampNeg).toNatClampNeg ts0).2.2 = true) ∧ ((foP (stW (vR M) (M 282) (L 286) (L 287)) (fun i => vR M 8 (40 * (M 258 27).toNatClampNeg + i)) (vR M 7 (M 258 27).toNatClampNeg).toNatClampNeg ts0).2.2 = true → ∀ c, c < 10 → L1 284 c = (foP (stW (vR M) (M 282) (L 286) (L 287)) (fun i => vR M 8 (40 * (M 258 27).toNatClampNeg + i)) (vR M 7 (M 258 27).toNatClampNeg).toNatClampNeg ts0).1 c ∧ L1 285 c = (foP (stW (vR M) (M 282) (L 286) (L 287)) (fun i => vR M 8 (40 * (M 258 27).toNatClampNeg + i)) (vR M 7 (M 258 27).toNatClampNeg).toNatClampNeg ts0).2.1 c ∧ okF (L1 284 c) (L1 285 c))) ∧ IR M1 ∧ (∀ k i, ¬ (k = 258 ∧ i = 25) → M1 k i = M k i) ∧ ∀ k i, ¬ (k = 258 ∧ i = 23) ∧ ¬ (k = 258 ∧ i = 24) ∧ k ≠ 284 ∧ k ≠ 285 → L1 k i = L k i) := by
  refine enter_v RX11 rfl [(0, .ref (ad 258))] rfl (Nat.le_of_ble_eq_true rfl) (by decide +kernel) rfl ?_
  intro p e s m below meth c C hr
  have hF : ∀ k i, ¬ (k = 258 ∧ i = 25) → M k i = M k i := fun _ _ _ => rfl
  have hG : ∀ k i, ¬ (k = 258 ∧ i = 23) ∧ ¬ (k = 258 ∧ i = 24) ∧ k ≠ 284 ∧ k ≠ 285 → L k i = L k i := fun _ _ _ => rfl
  have hI0 := hI
  have hX1 := hX.1
  have hX2 := hX.2
  have w2_ : (vR M 0 2).toInt = (M 258 9).toInt := rfl
  obtain ⟨y2a, y2b⟩ := (show rg 0 8 (M 258 9) from hI 258 9)
  obtain ⟨sza, szb⟩ := (show rg 0 40 (vR M 7 (M 258 27).toNatClampNeg) from hI 266 _)
  have nsz := ixn sza
  have nX := ixn hX1
  have k25 : M 258 25 = M 258 25 := rfl
  have l23 : L 258 23 = L 258 23 := rfl
  have l24 : L 258 24 = L 258 24 := rfl
  have p284 : L 284 = L 284 := rfl
  have p285 : L 285 = L 285 := rfl
  refine g_aload_n C 0 dX11_tallyFirsts_0 rfl ?_
  refine g_callVv C (n := 0) (As := []) (st := []) (s_X11_noTallies l D ad cs _ _  hI ) gX11_tallyFirsts_X11_noTallies rfl rfl rfl (by decide +kernel) ⟨Nat.le_of_ble_eq_true rfl, Nat.le_of_ble_eq_true rfl⟩ rfl (Nat.le_of_ble_eq_true rfl) ⟨Nat.zero_le _, Nat.zero_le _⟩ (by decide) (ce_model ad cs _ _) rfl rfl dX11_tallyFirsts_1 (fun M2 L3 hr1 => ?_)
  obtain ⟨hr1, hI, hFr1, hGr1⟩ := hr1
  have hF : ∀ k i, ¬ (k = 258 ∧ i = 25) → M2 k i = M k i := fun k i hk => by (rw [hFr1 k i trivial]; try exact hF k i hk)
  have hG : ∀ k i, ¬ (k = 258 ∧ i = 23) ∧ ¬ (k = 258 ∧ i = 24) ∧ k ≠ 284 ∧ k ≠ 285 → L3 k i = L k i := fun k i hk => by (rw [hGr1 k i (by omega)]; try exact hG k i hk)
  have k25 : M2 258 25 = M 258 25 := (hFr1 258 25 trivial).trans k25
  have kt25 := congrArg Int32.toInt k25
  have l23 : L3 258 23 = L 258 23 := (hGr1 258 23 (by omega)).trans l23
  have l24 : L3 258 24 = L 258 24 := (hGr1 258 24 (by omega)).trans l24
  have p284 : L3 284 = L3 284 := rfl
  have p285 : L3 285 = L3 285 := rfl
  have hnt := hr1
  refine g_iconst C 0 dX11_tallyFirsts_4 (by decide) ?_
  refine g_istore_n C [(1, .int 0), (0, .ref (ad 258))] dX11_tallyFirsts_5 (by decide) rfl ?_
  have zy4 : (0 : Int32).toInt = 0 := by decide
  refine g_loop (α := Int32 × MI × ML) (fun a => (41 - a.1.toInt).toNat) (fun a => (0 ≤ a.1.toInt) ∧ (a.1.toInt ≤ (vR M 7 (M 258 27).toNatClampNeg).toInt) ∧ (TLo a.2.2) ∧ ((a.2.1 258 25).toInt = 0 ↔ (foP (stW (vR M) (M 282) (L 286) (L 287)) (fun i => vR M 8 (40 * (M 258 27).toNatClampNeg + i)) a.1.toNatClampNeg ts0).2.2 = true) ∧ ((foP (stW (vR M) (M 282) (L 286) (L 287)) (fun i => vR M 8 (40 * (M 258 27).toNatClampNeg + i)) a.1.toNatClampNeg ts0).2.2 = true → ∀ c, c < 10 → a.2.2 284 c = (foP (stW (vR M) (M 282) (L 286) (L 287)) (fun i => vR M 8 (40 * (M 258 27).toNatClampNeg + i)) a.1.toNatClampNeg ts0).1 c ∧ a.2.2 285 c = (foP (stW (vR M) (M 282) (L 286) (L 287)) (fun i => vR M 8 (40 * (M 258 27).toNatClampNeg + i)) a.1.toNatClampNeg ts0).2.1 c ∧ okF (a.2.2 284 c) (a.2.2 285 c)) ∧ IR a.2.1 ∧ (∀ k i, ¬ (k = 258 ∧ i = 25) → a.2.1 k i = M k i) ∧ (∀ k i, ¬ (k = 258 ∧ i = 23) ∧ ¬ (k = 258 ∧ i = 24) ∧ k ≠ 284 ∧ k ≠ 285 → a.2.2 k i = L k i)) (fun a => a.2.1) (fun a => a.2.2) (fun a => [(1, .int a.1), (0, .ref (ad 258))]) ((0 : Int32), M2, L3) ⟨by show 0 ≤ (0 : Int32).toInt; omega, by show (0 : Int32).toInt ≤ (vR M 7 (M 258 27).toNatClampNeg).toInt; omega, by show TLo L3; exact TLo_of hnt, by show (M2 258 25).toInt = 0 ↔ (foP (stW (vR M) (M 282) (L 286) (L 287)) (fun i => vR M 8 (40 * (M 258 27).toNatClampNeg + i)) (0 : Int32).toNatClampNeg ts0).2.2 = true; rw [k25]; exact ⟨fun _ => rfl, fun _ => hs0⟩, by show (foP (stW (vR M) (M 282) (L 286) (L 287)) (fun i => vR M 8 (40 * (M 258 27).toNatClampNeg + i)) (0 : Int32).toNatClampNeg ts0).2.2 = true → ∀ c, c < 10 → L3 284 c = (foP (stW (vR M) (M 282) (L 286) (L 287)) (fun i => vR M 8 (40 * (M 258 27).toNatClampNeg + i)) (0 : Int32).toNatClampNeg ts0).1 c ∧ L3 285 c = (foP (stW (vR M) (M 282) (L 286) (L 287)) (fun i => vR M 8 (40 * (M 258 27).toNatClampNeg + i)) (0 : Int32).toNatClampNeg ts0).2.1 c ∧ okF (L3 284 c) (L3 285 c); exact fun _ c hc => ⟨(hnt c hc).1, (hnt c hc).2, by rw [(hnt c hc).1, (hnt c hc).2]; exact ⟨by decide, by decide, by decide, by decide⟩⟩, hI, hF, hG⟩ rfl rfl rfl ?_
  rintro ⟨x1_6, M_6, L_6⟩ ⟨j6_0, j6_1, j6_2, j6_3, j6_4, hI, hF, hG⟩ ih_6
  dsimp only at j6_0 j6_1 j6_2 j6_3 j6_4 hI hF hG ih_6 ⊢
  have k25 : M_6 258 25 = M_6 258 25 := rfl
  have l23 : L_6 258 23 = L_6 258 23 := rfl
  have l24 : L_6 258 24 = L_6 258 24 := rfl
  have p284 : L_6 284 = L_6 284 := rfl
  have p285 : L_6 285 = L_6 285 := rfl
  have n1 := ixn (x := x1_6) (by omega)
  have hMv : vR M_6 = vR M := vR_fr (fun k i hk => hF k i (by omega))
  have h282 : M_6 282 = M 282 := funext (fun i => hF 282 i (by omega))
  have h27 : M_6 258 27 = M 258 27 := hF 258 27 (by omega)
  have hX6 : hasX (vR M_6) (M_6 258 27) := by rw [hMv, h27]; exact hX
  have p286 : L_6 286 = L 286 := funext (fun i => hG 286 i (by omega))
  have p287 : L_6 287 = L 287 := funext (fun i => hG 287 i (by omega))
  refine g_iload_n C 0 dX11_tallyFirsts_6 rfl ?_
  refine g_aload_n C 1 dX11_tallyFirsts_7 rfl ?_
  refine g_get C (.ref (ad 266)) 11 in_X11_tallyFirsts_11 (List.mem_of_getElem? (i := 1) rfl) (by decide) (ce_model ad cs _ _) rfl (by decide) rfl rfl dX11_tallyFirsts_8 ?_
  refine g_aload_n C 1 dX11_tallyFirsts_11 rfl ?_
  refine g_get C (.int (M_6 258 27)) 27 in_X11_tallyFirsts_11 (List.mem_of_getElem? (i := 2) rfl) (by decide) (ce_model ad cs _ _) rfl (by decide) rfl rfl dX11_tallyFirsts_12 ?_
  refine g_ni (fun v5 ev5 => ?_)
  have gv5 : v5 = M 258 27 := ev5.trans (hF 258 27 (by omega))
  have tv5 := congrArg Int32.toInt gv5
  obtain ⟨bv5, dv5⟩ := (show rg 0 7 v5 from (by rw [ev5]; exact hI 258 27))
  refine g_iald C (by decide) (ce_m_boxSize ad cs _ _) (fin' (n := 8) rfl (by omega) (by omega)) dX11_tallyFirsts_15 ?_
  refine g_ni (fun v6 ev6 => ?_)
  have gv6 : v6 = M 266 v5.toNatClampNeg := ev6.trans (hF 266 v5.toNatClampNeg (by omega))
  have tv6 := congrArg Int32.toInt gv6
  obtain ⟨bv6, dv6⟩ := (show rg 0 40 v6 from (by rw [ev6]; exact hI 266 v5.toNatClampNeg))
  have ts9 : v6.toInt = (vR M 7 (M 258 27).toNatClampNeg).toInt := by rw [gv6, gv5]; rfl
  refine g_icmp_ge C 71 dX11_tallyFirsts_16 (by decide) (fun c7 => ?_) (fun c7 => ?_)
  ·
    have f8 := fle rfl rfl c7
    exact g_vret C hr ⟨(by have e9 : x1_6.toNatClampNeg = (vR M 7 (M 258 27).toNatClampNeg).toNatClampNeg := (by omega); rw [e9] at j6_3 j6_4; exact ⟨j6_2, j6_3, j6_4⟩), hI, hF, hG⟩ dX11_tallyFirsts_71
  ·
    have f9 := fnle rfl rfl c7
    refine g_aload_n C 1 dX11_tallyFirsts_19 rfl ?_
    refine g_iload_n C 0 dX11_tallyFirsts_20 rfl ?_
    refine g_callVi C (n := 1) (As := [.int x1_6]) (st := []) (k_X11_ballotAt l D ad cs _ _ x1_6 hI ⟨by omega, by omega⟩ hX6) gX11_tallyFirsts_X11_ballotAt rfl rfl rfl (by decide +kernel) ⟨Nat.le_of_ble_eq_true rfl, Nat.le_of_ble_eq_true rfl⟩ rfl (Nat.le_of_ble_eq_true rfl) ⟨Nat.zero_le _, Nat.zero_le _⟩ (by decide) (ce_model ad cs _ _) rfl rfl dX11_tallyFirsts_21 (fun r10 M11 L12 hr10 => ?_)
    obtain ⟨hq1, hq2, hr10⟩ := hr10
    obtain rfl := hq1.symm
    obtain rfl := hq2.symm
    rw [hMv, h27] at hr10
    have tr10 := congrArg Int32.toInt hr10
    refine g_istore_n C [(2, .int r10), (1, .int x1_6), (0, .ref (ad 258))] dX11_tallyFirsts_24 (by decide) rfl ?_
    refine g_iload_n C 0 dX11_tallyFirsts_25 rfl ?_
    refine g_bipush C (-9) dX11_tallyFirsts_26 (by decide) ?_
    refine g_icmp_ne C 36 dX11_tallyFirsts_28 (by decide) (fun c13 => ?_) (fun c13 => ?_)
    ·
      have f14 := fne rfl (by decide : ((-9) : Int32).toInt = (-9)) c13
      obtain ⟨pb1, pb2⟩ := (show 0 ≤ r10.toInt ∧ r10.toInt ≤ 59 from (by have h9 := hB8 (40 * (M 258 27).toNatClampNeg + x1_6.toNatClampNeg); omega))
      refine g_aload_n C 2 dX11_tallyFirsts_36 rfl ?_
      refine g_iload_n C 0 dX11_tallyFirsts_37 rfl ?_
      refine g_callVi C (n := 1) (As := [.int r10]) (st := []) (k_X11_firstOn l D ad cs _ _ r10 hI ⟨by omega, by omega⟩) gX11_tallyFirsts_X11_firstOn rfl rfl rfl (by decide +kernel) ⟨Nat.le_of_ble_eq_true rfl, Nat.le_of_ble_eq_true rfl⟩ rfl (Nat.le_of_ble_eq_true rfl) ⟨Nat.zero_le _, Nat.zero_le _⟩ (by decide) (ce_model ad cs _ _) rfl rfl dX11_tallyFirsts_38 (fun r15 M16 L17 hr15 => ?_)
      obtain ⟨hq1, hq2, hr15⟩ := hr15
      obtain rfl := hq1.symm
      obtain rfl := hq2.symm
      rw [hMv, h282, hr10] at hr15
      have tr15 := congrArg Int32.toInt hr15
      have fin9 : r15.toInt = -9 ∨ (0 ≤ r15.toInt ∧ r15.toInt ≤ 9) := by rw [hr15]; exact (fiF_in (V := vR M) (fun i => hI0 264 i) _ _).elim Or.inl (fun q9 => Or.inr ⟨q9.1, q9.2.1⟩)
      refine g_istore_n C [(3, .int r15), (2, .int r10), (1, .int x1_6), (0, .ref (ad 258))] dX11_tallyFirsts_41 (by decide) rfl ?_
      refine g_iload_n C 0 dX11_tallyFirsts_42 rfl ?_
      refine g_bipush C (-9) dX11_tallyFirsts_43 (by decide) ?_
      refine g_icmp_eq C 65 dX11_tallyFirsts_45 (by decide) (fun c18 => ?_) (fun c18 => ?_)
      ·
        have f19 := feq rfl (by decide : ((-9) : Int32).toInt = (-9)) c18
        obtain ⟨v20, ev20⟩ : ∃ y : Int32, y = x1_6 + 1 := ⟨_, rfl⟩
        try have fv20 := fadd rfl (by decide : (1 : Int32).toInt = 1) ev20 (by omega) (by omega)
        refine g_iinc C 2 v20 [(1, .int v20), (3, .int r15), (2, .int r10), (0, .ref (ad 258))] dX11_tallyFirsts_65 rfl (by rw [ev20]; rfl) (by decide) rfl ?_
        refine g_goto C 6 dX11_tallyFirsts_68 (by decide) ?_
        refine g_lv [0, 3] [(1, .int v20), (0, .ref (ad 258))] rfl ?_
        have nv := ixn (x := v20) (by omega)
        have iv : v20.toNatClampNeg = x1_6.toNatClampNeg + 1 := by omega
        have eS : foP (stW (vR M) (M 282) (L 286) (L 287)) (fun i => vR M 8 (40 * (M 258 27).toNatClampNeg + i)) (x1_6.toNatClampNeg + 1) ts0 = foP (stW (vR M) (M 282) (L 286) (L 287)) (fun i => vR M 8 (40 * (M 258 27).toNatClampNeg + i)) x1_6.toNatClampNeg ts0 := by
          by_cases e9 : (vR M 8 (40 * (M 258 27).toNatClampNeg + x1_6.toNatClampNeg)).toInt = -9
          · exact foP_e (p := (fun i => vR M 8 (40 * (M 258 27).toNatClampNeg + i))) e9
          · rw [foP_s (p := (fun i => vR M 8 (40 * (M 258 27).toNatClampNeg + i))) e9]; exact stW_e (by first | (exfalso; omega) | (show (fiV (vR M) (M 282) (vR M 8 (40 * (M 258 27).toNatClampNeg + x1_6.toNatClampNeg)).toNatClampNeg).toInt = -9; omega))
        have w1 := j6_3
        have w2 := j6_4
        rw [← eS] at w1 w2
        exact ih_6 (v20, M_6, L_6) ⟨by show 0 ≤ v20.toInt; omega, by show v20.toInt ≤ (vR M 7 (M 258 27).toNatClampNeg).toInt; omega, by show TLo L_6; first | exact hnoneo | exact j6_2, by show (M_6 258 25).toInt = 0 ↔ (foP (stW (vR M) (M 282) (L 286) (L 287)) (fun i => vR M 8 (40 * (M 258 27).toNatClampNeg + i)) v20.toNatClampNeg ts0).2.2 = true; rw [iv]; exact w1, by show (foP (stW (vR M) (M 282) (L 286) (L 287)) (fun i => vR M 8 (40 * (M 258 27).toNatClampNeg + i)) v20.toNatClampNeg ts0).2.2 = true → ∀ c, c < 10 → L_6 284 c = (foP (stW (vR M) (M 282) (L 286) (L 287)) (fun i => vR M 8 (40 * (M 258 27).toNatClampNeg + i)) v20.toNatClampNeg ts0).1 c ∧ L_6 285 c = (foP (stW (vR M) (M 282) (L 286) (L 287)) (fun i => vR M 8 (40 * (M 258 27).toNatClampNeg + i)) v20.toNatClampNeg ts0).2.1 c ∧ okF (L_6 284 c) (L_6 285 c); rw [iv]; exact w2, hI, hF, hG⟩ (by show (41 - v20.toInt).toNat < (41 - x1_6.toInt).toNat; omega)
      ·
        have f21 := fne rfl (by decide : ((-9) : Int32).toInt = (-9)) c18
        refine g_aload_n C 3 dX11_tallyFirsts_48 rfl ?_
        refine g_iload_n C 0 dX11_tallyFirsts_49 rfl ?_
        refine g_aload_n C 3 dX11_tallyFirsts_50 rfl ?_
        refine g_get C (.ref (ad 286)) 40 in_X11_tallyFirsts_11 (List.mem_of_getElem? (i := 3) rfl) (by decide) (ce_model ad cs _ _) rfl (by decide) rfl rfl dX11_tallyFirsts_51 ?_
        refine g_iload_n C 2 dX11_tallyFirsts_54 rfl ?_
        refine g_lald C (by decide) (ce_m_weightUp ad cs _ _) (fin' (n := 40) rfl (by omega) (by omega)) dX11_tallyFirsts_55 ?_
        refine g_nl (fun v22 ev22 => ?_)
        have gv22 : v22 = L 286 x1_6.toNatClampNeg := ev22.trans (hG 286 _ (by omega))
        have tv22 := congrArg Int64.toInt gv22
        refine g_aload_n C 3 dX11_tallyFirsts_56 rfl ?_
        refine g_get C (.ref (ad 287)) 41 in_X11_tallyFirsts_11 (List.mem_of_getElem? (i := 4) rfl) (by decide) (ce_model ad cs _ _) rfl (by decide) rfl rfl dX11_tallyFirsts_57 ?_
        refine g_iload_n C 2 dX11_tallyFirsts_60 rfl ?_
        refine g_lald C (by decide) (ce_m_weightDown ad cs _ _) (fin' (n := 40) rfl (by omega) (by omega)) dX11_tallyFirsts_61 ?_
        refine g_nl (fun v23 ev23 => ?_)
        have gv23 : v23 = L 287 x1_6.toNatClampNeg := ev23.trans (hG 287 _ (by omega))
        have tv23 := congrArg Int64.toInt gv23
        have hw9 := hW x1_6.toNatClampNeg (by omega)
        have hw8 := hw9
        unfold okF at hw8
        refine g_callVv C (n := 3) (As := [.int r15, .long v22, .long v23]) (st := []) (k_X11_addTo l D ad cs _ _ r15 v22 v23 hI ⟨by omega, by omega⟩ ⟨by omega, by omega⟩ j6_2) gX11_tallyFirsts_X11_addTo rfl rfl rfl (by decide +kernel) ⟨Nat.le_of_ble_eq_true rfl, Nat.le_of_ble_eq_true rfl⟩ rfl (Nat.le_of_ble_eq_true rfl) ⟨Nat.zero_le _, Nat.zero_le _⟩ (by decide) (ce_model ad cs _ _) rfl rfl dX11_tallyFirsts_62 (fun M25 L26 hr24 => ?_)
        obtain ⟨hr24, hI, hFr24, hGr24⟩ := hr24
        have hF : ∀ k i, ¬ (k = 258 ∧ i = 25) → M25 k i = M k i := fun k i hk => by (rw [hFr24 k i (by omega)]; try exact hF k i hk)
        have hG : ∀ k i, ¬ (k = 258 ∧ i = 23) ∧ ¬ (k = 258 ∧ i = 24) ∧ k ≠ 284 ∧ k ≠ 285 → L26 k i = L k i := fun k i hk => by (rw [hGr24 k i (by omega)]; try exact hG k i hk)
        have k25 : M25 258 25 = M25 258 25 := rfl
        have kt25 := congrArg Int32.toInt k25
        have l23 : L26 258 23 = L26 258 23 := rfl
        have l24 : L26 258 24 = L26 258 24 := rfl
        have p284 : L26 284 = L26 284 := rfl
        have p285 : L26 285 = L26 285 := rfl
        obtain ⟨hr24o, hr24k, hr24s⟩ := hr24
        have ey9 : v22 = L 286 x1_6.toNatClampNeg := gv22
        have ez9 : v23 = L 287 x1_6.toNatClampNeg := gv23
        rw [ey9, ez9] at hr24k
        obtain ⟨w1, w2⟩ := tw_step (c := r15.toNatClampNeg) (by have := ixn (x := r15) (by omega); omega) j6_3 j6_4 hw9 (hr24k (by omega)) hr24s
        rw [hr15] at w1 w2
        rw [← stW_n (j := x1_6.toNatClampNeg) (wu := L 286) (wd := L 287) (by rw [← hr15]; omega)] at w1 w2
        obtain ⟨v27, ev27⟩ : ∃ y : Int32, y = x1_6 + 1 := ⟨_, rfl⟩
        try have fv27 := fadd rfl (by decide : (1 : Int32).toInt = 1) ev27 (by omega) (by omega)
        refine g_iinc C 2 v27 [(1, .int v27), (3, .int r15), (2, .int r10), (0, .ref (ad 258))] dX11_tallyFirsts_65 rfl (by rw [ev27]; rfl) (by decide) rfl ?_
        refine g_goto C 6 dX11_tallyFirsts_68 (by decide) ?_
        refine g_lv [0, 3] [(1, .int v27), (0, .ref (ad 258))] rfl ?_
        have nv := ixn (x := v27) (by omega)
        have iv : v27.toNatClampNeg = x1_6.toNatClampNeg + 1 := by omega
        rw [← foP_s (st := stW (vR M) (M 282) (L 286) (L 287)) (p := (fun i => vR M 8 (40 * (M 258 27).toNatClampNeg + i))) (i := x1_6.toNatClampNeg) (by show ¬ (vR M 8 (40 * (M 258 27).toNatClampNeg + x1_6.toNatClampNeg)).toInt = -9; omega)] at w1 w2
        exact ih_6 (v27, M25, L26) ⟨by show 0 ≤ v27.toInt; omega, by show v27.toInt ≤ (vR M 7 (M 258 27).toNatClampNeg).toInt; omega, by show TLo L26; first | exact hr24o | exact j6_2, by show (M25 258 25).toInt = 0 ↔ (foP (stW (vR M) (M 282) (L 286) (L 287)) (fun i => vR M 8 (40 * (M 258 27).toNatClampNeg + i)) v27.toNatClampNeg ts0).2.2 = true; rw [iv]; exact w1, by show (foP (stW (vR M) (M 282) (L 286) (L 287)) (fun i => vR M 8 (40 * (M 258 27).toNatClampNeg + i)) v27.toNatClampNeg ts0).2.2 = true → ∀ c, c < 10 → L26 284 c = (foP (stW (vR M) (M 282) (L 286) (L 287)) (fun i => vR M 8 (40 * (M 258 27).toNatClampNeg + i)) v27.toNatClampNeg ts0).1 c ∧ L26 285 c = (foP (stW (vR M) (M 282) (L 286) (L 287)) (fun i => vR M 8 (40 * (M 258 27).toNatClampNeg + i)) v27.toNatClampNeg ts0).2.1 c ∧ okF (L26 284 c) (L26 285 c); rw [iv]; exact w2, hI, hF, hG⟩ (by show (41 - v27.toInt).toNat < (41 - x1_6.toInt).toNat; omega)
    ·
      have f28 := feq rfl (by decide : ((-9) : Int32).toInt = (-9)) c13
      refine g_bipush C (-9) dX11_tallyFirsts_31 (by decide) ?_
      refine g_goto C 41 dX11_tallyFirsts_33 (by decide) ?_
      refine g_istore_n C [(3, .int ((-9))), (2, .int r10), (1, .int x1_6), (0, .ref (ad 258))] dX11_tallyFirsts_41 (by decide) rfl ?_
      refine g_iload_n C 0 dX11_tallyFirsts_42 rfl ?_
      refine g_bipush C (-9) dX11_tallyFirsts_43 (by decide) ?_
      refine g_icmp_eq C 65 dX11_tallyFirsts_45 (by decide) (fun _ => ?_) (fun c29 => absurd c29 (by decide))
      obtain ⟨v30, ev30⟩ : ∃ y : Int32, y = x1_6 + 1 := ⟨_, rfl⟩
      try have fv30 := fadd rfl (by decide : (1 : Int32).toInt = 1) ev30 (by omega) (by omega)
      refine g_iinc C 2 v30 [(1, .int v30), (3, .int ((-9))), (2, .int r10), (0, .ref (ad 258))] dX11_tallyFirsts_65 rfl (by rw [ev30]; rfl) (by decide) rfl ?_
      refine g_goto C 6 dX11_tallyFirsts_68 (by decide) ?_
      refine g_lv [0, 3] [(1, .int v30), (0, .ref (ad 258))] rfl ?_
      have nv := ixn (x := v30) (by omega)
      have iv : v30.toNatClampNeg = x1_6.toNatClampNeg + 1 := by omega
      have eS : foP (stW (vR M) (M 282) (L 286) (L 287)) (fun i => vR M 8 (40 * (M 258 27).toNatClampNeg + i)) (x1_6.toNatClampNeg + 1) ts0 = foP (stW (vR M) (M 282) (L 286) (L 287)) (fun i => vR M 8 (40 * (M 258 27).toNatClampNeg + i)) x1_6.toNatClampNeg ts0 := by
        by_cases e9 : (vR M 8 (40 * (M 258 27).toNatClampNeg + x1_6.toNatClampNeg)).toInt = -9
        · exact foP_e (p := (fun i => vR M 8 (40 * (M 258 27).toNatClampNeg + i))) e9
        · rw [foP_s (p := (fun i => vR M 8 (40 * (M 258 27).toNatClampNeg + i))) e9]; exact stW_e (by first | (exfalso; omega) | (show (fiV (vR M) (M 282) (vR M 8 (40 * (M 258 27).toNatClampNeg + x1_6.toNatClampNeg)).toNatClampNeg).toInt = -9; omega))
      have w1 := j6_3
      have w2 := j6_4
      rw [← eS] at w1 w2
      exact ih_6 (v30, M_6, L_6) ⟨by show 0 ≤ v30.toInt; omega, by show v30.toInt ≤ (vR M 7 (M 258 27).toNatClampNeg).toInt; omega, by show TLo L_6; first | exact hr24o | exact j6_2, by show (M_6 258 25).toInt = 0 ↔ (foP (stW (vR M) (M 282) (L 286) (L 287)) (fun i => vR M 8 (40 * (M 258 27).toNatClampNeg + i)) v30.toNatClampNeg ts0).2.2 = true; rw [iv]; exact w1, by show (foP (stW (vR M) (M 282) (L 286) (L 287)) (fun i => vR M 8 (40 * (M 258 27).toNatClampNeg + i)) v30.toNatClampNeg ts0).2.2 = true → ∀ c, c < 10 → L_6 284 c = (foP (stW (vR M) (M 282) (L 286) (L 287)) (fun i => vR M 8 (40 * (M 258 27).toNatClampNeg + i)) v30.toNatClampNeg ts0).1 c ∧ L_6 285 c = (foP (stW (vR M) (M 282) (L 286) (L 287)) (fun i => vR M 8 (40 * (M 258 27).toNatClampNeg + i)) v30.toNatClampNeg ts0).2.1 c ∧ okF (L_6 284 c) (L_6 285 c); rw [iv]; exact w2, hI, hF, hG⟩ (by show (41 - v30.toInt).toNat < (41 - x1_6.toInt).toNat; omega)
set_option maxHeartbeats 4000000 in
set_option maxRecDepth 100000 in
theorem k_X11_isMore (l : Launch) (D : va_G) (ad : Nat → Nat) (cs : Nat → ClassId) (M : MI) (L : ML) (x : Int64) (y : Int64) (z : Int64) (u : Int64) (hI : IR M) : Ci l yX11_isMore wsX11_isMore ({ frames := 0, cells := 0, slots := 0, locals := 0 }) D ad cs [.long x, .long y, .long z, .long u] M L (fun r M1 L1 => M1 = M ∧ L1 = L ∧ (zo r ((z * y).toInt < (x * u).toInt))) := by
  refine enter_i RX11 rfl [(0, .long x), (2, .long y), (4, .long z), (6, .long u)] rfl (Nat.le_of_ble_eq_true rfl) (by decide +kernel) rfl ?_
  intro p e s m below meth c C hr
  have hF : ∀ k i, True → M k i = M k i := fun _ _ _ => rfl
  have hG : ∀ k i, True → L k i = L k i := fun _ _ _ => rfl
  refine g_lload_n C 0 dX11_isMore_0 rfl ?_
  refine g_lload C 3 dX11_isMore_1 rfl ?_
  refine g_lmul C dX11_isMore_3 ?_
  refine g_nl (fun v1 ev1 => ?_)
  try have fv1 := prodI ev1
  refine g_lload C 2 dX11_isMore_4 rfl ?_
  refine g_lload_n C 1 dX11_isMore_6 rfl ?_
  refine g_lmul C dX11_isMore_7 ?_
  refine g_nl (fun v2 ev2 => ?_)
  try have fv2 := prodI ev2
  refine g_lcmp C dX11_isMore_8 ?_
  refine g_ni (fun v3 ev3 => ?_)
  refine g_if_le C 16 dX11_isMore_9 (by decide) (fun c4 => ?_) (fun c4 => ?_)
  ·
    have f5 := cle rfl rfl ev3 c4
    refine g_iconst C 0 dX11_isMore_16 (by decide) ?_
    have zr9 : (0 : Int32).toInt = 0 := by decide
    exact g_zret C hr rfl ⟨rfl, rfl, (by first | exact Or.inl ⟨rfl, by simp only [← ev1, ← ev2, ← ev3] at *; omega⟩ | exact Or.inr ⟨rfl, by simp only [← ev1, ← ev2, ← ev3] at *; omega⟩)⟩ dX11_isMore_17
  ·
    have f6 := cnle rfl rfl ev3 c4
    refine g_iconst C 1 dX11_isMore_12 (by decide) ?_
    refine g_goto C 17 dX11_isMore_13 (by decide) ?_
    have zr9 : (1 : Int32).toInt = 1 := by decide
    exact g_zret C hr rfl ⟨rfl, rfl, (by first | exact Or.inl ⟨rfl, by simp only [← ev1, ← ev2, ← ev3] at *; omega⟩ | exact Or.inr ⟨rfl, by simp only [← ev1, ← ev2, ← ev3] at *; omega⟩)⟩ dX11_isMore_17
set_option maxHeartbeats 4000000 in
set_option maxRecDepth 100000 in
theorem k_X11_greatest (l : Launch) (D : va_G) (ad : Nat → Nat) (cs : Nat → ClassId) (M : MI) (L : ML)  (hI : IR M) (hD : DP (vR M)) : Ci l yX11_greatest wsX11_greatest ({ frames := 1, cells := 0, slots := 0, locals := 27 }) D ad cs [.ref (ad 258)] M L (fun r M1 L1 => M1 = M ∧ L1 = L ∧ ((r.toInt = -9 ∨ (0 ≤ r.toInt ∧ r.toInt < 10)) ∧ (0 ≤ r.toInt → ¬ (M 282 r.toNatClampNeg).toInt = 0) ∧ ((∃ c : Nat, (c : Int) < (vR M 0 0).toInt ∧ ¬ (M 282 c).toInt = 0) → r.toInt ≠ -9) ∧ r = grF (M 260) (M 282) (L 284) (L 285) (M 258 2).toNatClampNeg)) := by
  refine enter_i RX11 rfl [(0, .ref (ad 258))] rfl (Nat.le_of_ble_eq_true rfl) (by decide +kernel) rfl ?_
  intro p e s m below meth c C hr
  have hF : ∀ k i, True → M k i = M k i := fun _ _ _ => rfl
  have hG : ∀ k i, True → L k i = L k i := fun _ _ _ => rfl
  have hI0 := hI
  have w0 : (vR M 0 0).toInt = (M 258 2).toInt := rfl
  obtain ⟨ca, cb⟩ := (show rg 0 10 (M 258 2) from hI 258 2)
  have n02 := ixn ca
  refine g_bipush C (-9) dX11_greatest_0 (by decide) ?_
  refine g_istore_n C [(1, .int ((-9))), (0, .ref (ad 258))] dX11_greatest_2 (by decide) rfl ?_
  refine g_iconst C 0 dX11_greatest_3 (by decide) ?_
  refine g_istore_n C [(2, .int 0), (1, .int ((-9))), (0, .ref (ad 258))] dX11_greatest_4 (by decide) rfl ?_
  have zy1 : (0 : Int32).toInt = 0 := by decide
  have zy2 : ((-9) : Int32).toInt = (-9) := by decide
  refine g_loop (α := Int32 × Int32 × MI × ML) (fun a => (11 - a.1.toInt).toNat) (fun a => (0 ≤ a.1.toInt) ∧ (a.1.toInt ≤ (M 258 2).toInt) ∧ (a.2.1.toInt = -9 ∨ (0 ≤ a.2.1.toInt ∧ a.2.1.toInt < 10)) ∧ (0 ≤ a.2.1.toInt → ¬ (M 282 a.2.1.toNatClampNeg).toInt = 0) ∧ (∀ j : Nat, (j : Int) < a.1.toInt → ¬ (M 282 (M 260 j).toNatClampNeg).toInt = 0 → a.2.1.toInt ≠ -9) ∧ (a.2.1 = grF (M 260) (M 282) (L 284) (L 285) a.1.toNatClampNeg) ∧ IR a.2.2.1 ∧ (∀ k i, True → a.2.2.1 k i = M k i) ∧ (∀ k i, True → a.2.2.2 k i = L k i)) (fun a => a.2.2.1) (fun a => a.2.2.2) (fun a => [(2, .int a.1), (1, .int a.2.1), (0, .ref (ad 258))]) ((0 : Int32), (-9 : Int32), M, L) ⟨by show 0 ≤ (0 : Int32).toInt; omega, by show (0 : Int32).toInt ≤ (M 258 2).toInt; omega, by show (-9 : Int32).toInt = -9 ∨ (0 ≤ (-9 : Int32).toInt ∧ (-9 : Int32).toInt < 10); omega, by show 0 ≤ (-9 : Int32).toInt → ¬ (M 282 (-9 : Int32).toNatClampNeg).toInt = 0; exact fun h => absurd h (by decide), by show ∀ j : Nat, (j : Int) < (0 : Int32).toInt → ¬ (M 282 (M 260 j).toNatClampNeg).toInt = 0 → (-9 : Int32).toInt ≠ -9; intro j hj; exact absurd hj (by show ¬ (j : Int) < 0; omega), by show (-9 : Int32) = grF (M 260) (M 282) (L 284) (L 285) (0 : Int32).toNatClampNeg; rfl, hI, hF, hG⟩ rfl rfl rfl ?_
  rintro ⟨x2_5, x1_5, M_5, L_5⟩ ⟨j5_0, j5_1, j5_2, j5_3, j5_4, j5_5, hI, hF, hG⟩ ih_5
  dsimp only at j5_0 j5_1 j5_2 j5_3 j5_4 j5_5 hI hF hG ih_5 ⊢
  have n2 := ixn (x := x2_5) (by omega)
  have bE : rg 0 9 (M 260 x2_5.toNatClampNeg) := hI0 260 _
  obtain ⟨bE1, bE2⟩ := bE
  have nE := ixn bE1
  refine g_iload_n C 0 dX11_greatest_5 rfl ?_
  refine g_aload_n C 2 dX11_greatest_6 rfl ?_
  refine g_get C (.int (M_5 258 2)) 2 in_X11_greatest_11 (List.mem_of_getElem? (i := 1) rfl) (by decide) (ce_model ad cs _ _) rfl (by decide) rfl rfl dX11_greatest_7 ?_
  refine g_ni (fun v3 ev3 => ?_)
  have gv3 : v3 = M 258 2 := ev3.trans (hF 258 2 trivial)
  have tv3 := congrArg Int32.toInt gv3
  obtain ⟨bv3, dv3⟩ := (show rg 0 10 v3 from (by rw [ev3]; exact hI 258 2))
  refine g_icmp_ge C 77 dX11_greatest_10 (by decide) (fun c4 => ?_) (fun c4 => ?_)
  ·
    have f5 := fle rfl rfl c4
    refine g_iload_n C 1 dX11_greatest_77 rfl ?_
    exact g_iret C hr ⟨funext (fun k => funext (fun i => hF k i trivial)), funext (fun k => funext (fun i => hG k i trivial)), ⟨j5_2, j5_3, fun ⟨c, hc1, hc2⟩ => (by
      obtain ⟨i, hi1, hi2⟩ := hD c hc1
      exact j5_4 i (by omega) (by
        have e9 : (M 260 i).toNatClampNeg = c := by (have h9 : (M 260 i).toInt = (c : Int) := hi2; have := ixn (x := M 260 i) (by omega); omega)
        rw [e9]; exact hc2)), by rw [j5_5, show x2_5.toNatClampNeg = (M 258 2).toNatClampNeg by omega]⟩⟩ dX11_greatest_78
  ·
    have f6 := fnle rfl rfl c4
    refine g_aload_n C 2 dX11_greatest_13 rfl ?_
    refine g_get C (.ref (ad 260)) 3 in_X11_greatest_11 (List.mem_of_getElem? (i := 2) rfl) (by decide) (ce_model ad cs _ _) rfl (by decide) rfl rfl dX11_greatest_14 ?_
    refine g_iload_n C 0 dX11_greatest_17 rfl ?_
    refine g_iald C (by decide) (ce_m_draw ad cs _ _) (fin' (n := 10) rfl (by omega) (by omega)) dX11_greatest_18 ?_
    refine g_ni (fun v7 ev7 => ?_)
    have gv7 : v7 = M 260 x2_5.toNatClampNeg := ev7.trans (hF 260 x2_5.toNatClampNeg trivial)
    have tv7 := congrArg Int32.toInt gv7
    obtain ⟨bv7, dv7⟩ := (show rg 0 9 v7 from (by rw [ev7]; exact hI 260 x2_5.toNatClampNeg))
    subst gv7
    refine g_istore_n C [(3, .int ((M 260 x2_5.toNatClampNeg))), (2, .int x2_5), (1, .int x1_5), (0, .ref (ad 258))] dX11_greatest_19 (by decide) rfl ?_
    refine g_aload_n C 3 dX11_greatest_20 rfl ?_
    refine g_get C (.ref (ad 282)) 36 in_X11_greatest_11 (List.mem_of_getElem? (i := 3) rfl) (by decide) (ce_model ad cs _ _) rfl (by decide) rfl rfl dX11_greatest_21 ?_
    refine g_iload_n C 0 dX11_greatest_24 rfl ?_
    refine g_zald C (by decide) (ce_m_isIn ad cs _ _) (fin' (n := 10) rfl (by omega) (by omega)) dX11_greatest_25 ?_
    refine g_ni (fun v8 ev8 => ?_)
    have gv8 : v8 = M 282 (((M 260 x2_5.toNatClampNeg)).toNatClampNeg) := ev8.trans (hF 282 (((M 260 x2_5.toNatClampNeg)).toNatClampNeg) trivial)
    have tv8 := congrArg Int32.toInt gv8
    refine g_if_eq C 69 dX11_greatest_26 (by decide) (fun c9 => ?_) (fun c9 => ?_)
    ·
      have f10 := feq rfl (by decide : (0 : Int32).toInt = 0) c9
      refine g_iload_n C 2 dX11_greatest_69 rfl ?_
      refine g_istore_n C [(1, .int x1_5), (3, .int ((M 260 x2_5.toNatClampNeg))), (2, .int x2_5), (0, .ref (ad 258))] dX11_greatest_70 (by decide) rfl ?_
      obtain ⟨v11, ev11⟩ : ∃ y : Int32, y = x2_5 + 1 := ⟨_, rfl⟩
      try have fv11 := fadd rfl (by decide : (1 : Int32).toInt = 1) ev11 (by omega) (by omega)
      refine g_iinc C 2 v11 [(2, .int v11), (1, .int x1_5), (3, .int ((M 260 x2_5.toNatClampNeg))), (0, .ref (ad 258))] dX11_greatest_71 rfl (by rw [ev11]; rfl) (by decide) rfl ?_
      refine g_goto C 5 dX11_greatest_74 (by decide) ?_
      refine g_lv [0, 1, 3] [(2, .int v11), (1, .int x1_5), (0, .ref (ad 258))] rfl ?_
      have nv := ixn (x := v11) (by omega)
      have iv : v11.toNatClampNeg = x2_5.toNatClampNeg + 1 := by omega
      have hst : ∀ j : Nat, (j : Int) < v11.toInt → ¬ (M 282 (M 260 j).toNatClampNeg).toInt = 0 → x1_5.toInt ≠ -9 := by
        intro j hj hin
        by_cases e9 : j = x2_5.toNatClampNeg
        · rw [e9] at hin; omega
        · have h9 := j5_4 j (by omega) hin; omega
      exact ih_5 (v11, x1_5, M_5, L_5) ⟨by show 0 ≤ v11.toInt; omega, by show v11.toInt ≤ (M 258 2).toInt; omega, by show x1_5.toInt = -9 ∨ (0 ≤ x1_5.toInt ∧ x1_5.toInt < 10); omega, by show 0 ≤ x1_5.toInt → ¬ (M 282 x1_5.toNatClampNeg).toInt = 0; first | exact j5_3 | exact fun _ => (by omega), by show ∀ j : Nat, (j : Int) < v11.toInt → ¬ (M 282 (M 260 j).toNatClampNeg).toInt = 0 → x1_5.toInt ≠ -9; exact hst, by show x1_5 = grF (M 260) (M 282) (L 284) (L 285) v11.toNatClampNeg; rw [iv]; show _ = (if (M 282 (M 260 x2_5.toNatClampNeg).toNatClampNeg).toInt ≠ 0 ∧ ((grF (M 260) (M 282) (L 284) (L 285) x2_5.toNatClampNeg).toInt = -9 ∨ (L 284 (grF (M 260) (M 282) (L 284) (L 285) x2_5.toNatClampNeg).toNatClampNeg * L 285 (M 260 x2_5.toNatClampNeg).toNatClampNeg).toInt < (L 284 (M 260 x2_5.toNatClampNeg).toNatClampNeg * L 285 (grF (M 260) (M 282) (L 284) (L 285) x2_5.toNatClampNeg).toNatClampNeg).toInt) then (M 260 x2_5.toNatClampNeg) else grF (M 260) (M 282) (L 284) (L 285) x2_5.toNatClampNeg); rw [← j5_5]; first | rw [if_pos (by omega)] | rw [if_neg (by omega)], hI, hF, hG⟩ (by show (11 - v11.toInt).toNat < (11 - x2_5.toInt).toNat; omega)
    ·
      have f12 := fne rfl (by decide : (0 : Int32).toInt = 0) c9
      refine g_iload_n C 2 dX11_greatest_29 rfl ?_
      refine g_bipush C (-9) dX11_greatest_30 (by decide) ?_
      refine g_icmp_eq C 65 dX11_greatest_32 (by decide) (fun c13 => ?_) (fun c13 => ?_)
      ·
        have f14 := feq rfl (by decide : ((-9) : Int32).toInt = (-9)) c13
        refine g_iload_n C 0 dX11_greatest_65 rfl ?_
        refine g_goto C 70 dX11_greatest_66 (by decide) ?_
        refine g_istore_n C [(1, .int ((M 260 x2_5.toNatClampNeg))), (3, .int ((M 260 x2_5.toNatClampNeg))), (2, .int x2_5), (0, .ref (ad 258))] dX11_greatest_70 (by decide) rfl ?_
        obtain ⟨v15, ev15⟩ : ∃ y : Int32, y = x2_5 + 1 := ⟨_, rfl⟩
        try have fv15 := fadd rfl (by decide : (1 : Int32).toInt = 1) ev15 (by omega) (by omega)
        refine g_iinc C 2 v15 [(2, .int v15), (1, .int ((M 260 x2_5.toNatClampNeg))), (3, .int ((M 260 x2_5.toNatClampNeg))), (0, .ref (ad 258))] dX11_greatest_71 rfl (by rw [ev15]; rfl) (by decide) rfl ?_
        refine g_goto C 5 dX11_greatest_74 (by decide) ?_
        refine g_lv [0, 1, 3] [(2, .int v15), (1, .int ((M 260 x2_5.toNatClampNeg))), (0, .ref (ad 258))] rfl ?_
        have nv := ixn (x := v15) (by omega)
        have iv : v15.toNatClampNeg = x2_5.toNatClampNeg + 1 := by omega
        have hst : ∀ j : Nat, (j : Int) < v15.toInt → ¬ (M 282 (M 260 j).toNatClampNeg).toInt = 0 → ((M 260 x2_5.toNatClampNeg)).toInt ≠ -9 := by
          intro j hj hin
          by_cases e9 : j = x2_5.toNatClampNeg
          · rw [e9] at hin; omega
          · have h9 := j5_4 j (by omega) hin; omega
        exact ih_5 (v15, ((M 260 x2_5.toNatClampNeg)), M_5, L_5) ⟨by show 0 ≤ v15.toInt; omega, by show v15.toInt ≤ (M 258 2).toInt; omega, by show ((M 260 x2_5.toNatClampNeg)).toInt = -9 ∨ (0 ≤ ((M 260 x2_5.toNatClampNeg)).toInt ∧ ((M 260 x2_5.toNatClampNeg)).toInt < 10); omega, by show 0 ≤ ((M 260 x2_5.toNatClampNeg)).toInt → ¬ (M 282 ((M 260 x2_5.toNatClampNeg)).toNatClampNeg).toInt = 0; first | exact j5_3 | exact fun _ => (by omega), by show ∀ j : Nat, (j : Int) < v15.toInt → ¬ (M 282 (M 260 j).toNatClampNeg).toInt = 0 → ((M 260 x2_5.toNatClampNeg)).toInt ≠ -9; exact hst, by show ((M 260 x2_5.toNatClampNeg)) = grF (M 260) (M 282) (L 284) (L 285) v15.toNatClampNeg; rw [iv]; show _ = (if (M 282 (M 260 x2_5.toNatClampNeg).toNatClampNeg).toInt ≠ 0 ∧ ((grF (M 260) (M 282) (L 284) (L 285) x2_5.toNatClampNeg).toInt = -9 ∨ (L 284 (grF (M 260) (M 282) (L 284) (L 285) x2_5.toNatClampNeg).toNatClampNeg * L 285 (M 260 x2_5.toNatClampNeg).toNatClampNeg).toInt < (L 284 (M 260 x2_5.toNatClampNeg).toNatClampNeg * L 285 (grF (M 260) (M 282) (L 284) (L 285) x2_5.toNatClampNeg).toNatClampNeg).toInt) then (M 260 x2_5.toNatClampNeg) else grF (M 260) (M 282) (L 284) (L 285) x2_5.toNatClampNeg); rw [← j5_5]; first | rw [if_pos (by omega)] | rw [if_neg (by omega)], hI, hF, hG⟩ (by show (11 - v15.toInt).toNat < (11 - x2_5.toInt).toNat; omega)
      ·
        have f16 := fne rfl (by decide : ((-9) : Int32).toInt = (-9)) c13
        refine g_aload_n C 3 dX11_greatest_35 rfl ?_
        refine g_get C (.ref (ad 284)) 38 in_X11_greatest_11 (List.mem_of_getElem? (i := 4) rfl) (by decide) (ce_model ad cs _ _) rfl (by decide) rfl rfl dX11_greatest_36 ?_
        refine g_iload_n C 0 dX11_greatest_39 rfl ?_
        refine g_lald C (by decide) (ce_m_ups ad cs _ _) (fin' (n := 10) rfl (by omega) (by omega)) dX11_greatest_40 ?_
        refine g_nl (fun v17 ev17 => ?_)
        have gv17 : v17 = L 284 (((M 260 x2_5.toNatClampNeg)).toNatClampNeg) := ev17.trans (hG 284 _ trivial)
        have tv17 := congrArg Int64.toInt gv17
        refine g_aload_n C 3 dX11_greatest_41 rfl ?_
        refine g_get C (.ref (ad 285)) 39 in_X11_greatest_11 (List.mem_of_getElem? (i := 5) rfl) (by decide) (ce_model ad cs _ _) rfl (by decide) rfl rfl dX11_greatest_42 ?_
        refine g_iload_n C 0 dX11_greatest_45 rfl ?_
        refine g_lald C (by decide) (ce_m_downs ad cs _ _) (fin' (n := 10) rfl (by omega) (by omega)) dX11_greatest_46 ?_
        refine g_nl (fun v18 ev18 => ?_)
        have gv18 : v18 = L 285 (((M 260 x2_5.toNatClampNeg)).toNatClampNeg) := ev18.trans (hG 285 _ trivial)
        have tv18 := congrArg Int64.toInt gv18
        refine g_aload_n C 3 dX11_greatest_47 rfl ?_
        refine g_get C (.ref (ad 284)) 38 in_X11_greatest_11 (List.mem_of_getElem? (i := 4) rfl) (by decide) (ce_model ad cs _ _) rfl (by decide) rfl rfl dX11_greatest_48 ?_
        refine g_iload_n C 2 dX11_greatest_51 rfl ?_
        refine g_lald C (by decide) (ce_m_ups ad cs _ _) (fin' (n := 10) rfl (by omega) (by omega)) dX11_greatest_52 ?_
        refine g_nl (fun v19 ev19 => ?_)
        have gv19 : v19 = L 284 x1_5.toNatClampNeg := ev19.trans (hG 284 _ trivial)
        have tv19 := congrArg Int64.toInt gv19
        refine g_aload_n C 3 dX11_greatest_53 rfl ?_
        refine g_get C (.ref (ad 285)) 39 in_X11_greatest_11 (List.mem_of_getElem? (i := 5) rfl) (by decide) (ce_model ad cs _ _) rfl (by decide) rfl rfl dX11_greatest_54 ?_
        refine g_iload_n C 2 dX11_greatest_57 rfl ?_
        refine g_lald C (by decide) (ce_m_downs ad cs _ _) (fin' (n := 10) rfl (by omega) (by omega)) dX11_greatest_58 ?_
        refine g_nl (fun v20 ev20 => ?_)
        have gv20 : v20 = L 285 x1_5.toNatClampNeg := ev20.trans (hG 285 _ trivial)
        have tv20 := congrArg Int64.toInt gv20
        refine g_callSi C (n := 4) (As := [.long v17, .long v18, .long v19, .long v20]) (st := []) (k_X11_isMore l D ad cs _ _ v17 v18 v19 v20 hI ) gX11_greatest_X11_isMore rfl rfl rfl (by decide +kernel) ⟨Nat.le_of_ble_eq_true rfl, Nat.le_of_ble_eq_true rfl⟩ rfl (Nat.le_of_ble_eq_true rfl) ⟨Nat.zero_le _, Nat.zero_le _⟩ rfl dX11_greatest_59 (fun r21 M22 L23 hr21 => ?_)
        obtain ⟨hq1, hq2, hr21⟩ := hr21
        obtain rfl := hq1.symm
        obtain rfl := hq2.symm
        rw [gv17, gv18, gv19, gv20] at hr21
        obtain ⟨bar21, bbr21⟩ := zo_b hr21
        refine g_if_eq C 69 dX11_greatest_62 (by decide) (fun c24 => ?_) (fun c24 => ?_)
        ·
          have f25 := feq rfl (by decide : (0 : Int32).toInt = 0) c24
          have pr21 := zo_f hr21 c24
          try dsimp only [hasC, hasB, hasX, hasM, ofS, ofK, bt] at pr21
          refine g_iload_n C 2 dX11_greatest_69 rfl ?_
          refine g_istore_n C [(1, .int x1_5), (3, .int ((M 260 x2_5.toNatClampNeg))), (2, .int x2_5), (0, .ref (ad 258))] dX11_greatest_70 (by decide) rfl ?_
          obtain ⟨v26, ev26⟩ : ∃ y : Int32, y = x2_5 + 1 := ⟨_, rfl⟩
          try have fv26 := fadd rfl (by decide : (1 : Int32).toInt = 1) ev26 (by omega) (by omega)
          refine g_iinc C 2 v26 [(2, .int v26), (1, .int x1_5), (3, .int ((M 260 x2_5.toNatClampNeg))), (0, .ref (ad 258))] dX11_greatest_71 rfl (by rw [ev26]; rfl) (by decide) rfl ?_
          refine g_goto C 5 dX11_greatest_74 (by decide) ?_
          refine g_lv [0, 1, 3] [(2, .int v26), (1, .int x1_5), (0, .ref (ad 258))] rfl ?_
          have nv := ixn (x := v26) (by omega)
          have iv : v26.toNatClampNeg = x2_5.toNatClampNeg + 1 := by omega
          have hst : ∀ j : Nat, (j : Int) < v26.toInt → ¬ (M 282 (M 260 j).toNatClampNeg).toInt = 0 → x1_5.toInt ≠ -9 := by
            intro j hj hin
            by_cases e9 : j = x2_5.toNatClampNeg
            · rw [e9] at hin; omega
            · have h9 := j5_4 j (by omega) hin; omega
          exact ih_5 (v26, x1_5, M_5, L_5) ⟨by show 0 ≤ v26.toInt; omega, by show v26.toInt ≤ (M 258 2).toInt; omega, by show x1_5.toInt = -9 ∨ (0 ≤ x1_5.toInt ∧ x1_5.toInt < 10); omega, by show 0 ≤ x1_5.toInt → ¬ (M 282 x1_5.toNatClampNeg).toInt = 0; first | exact j5_3 | exact fun _ => (by omega), by show ∀ j : Nat, (j : Int) < v26.toInt → ¬ (M 282 (M 260 j).toNatClampNeg).toInt = 0 → x1_5.toInt ≠ -9; exact hst, by show x1_5 = grF (M 260) (M 282) (L 284) (L 285) v26.toNatClampNeg; rw [iv]; show _ = (if (M 282 (M 260 x2_5.toNatClampNeg).toNatClampNeg).toInt ≠ 0 ∧ ((grF (M 260) (M 282) (L 284) (L 285) x2_5.toNatClampNeg).toInt = -9 ∨ (L 284 (grF (M 260) (M 282) (L 284) (L 285) x2_5.toNatClampNeg).toNatClampNeg * L 285 (M 260 x2_5.toNatClampNeg).toNatClampNeg).toInt < (L 284 (M 260 x2_5.toNatClampNeg).toNatClampNeg * L 285 (grF (M 260) (M 282) (L 284) (L 285) x2_5.toNatClampNeg).toNatClampNeg).toInt) then (M 260 x2_5.toNatClampNeg) else grF (M 260) (M 282) (L 284) (L 285) x2_5.toNatClampNeg); rw [← j5_5]; first | rw [if_pos (by omega)] | rw [if_neg (by omega)], hI, hF, hG⟩ (by show (11 - v26.toInt).toNat < (11 - x2_5.toInt).toNat; omega)
        ·
          have f27 := fne rfl (by decide : (0 : Int32).toInt = 0) c24
          have pr21 := zo_t hr21 c24
          try dsimp only [hasC, hasB, hasX, hasM, ofS, ofK, bt] at pr21
          refine g_iload_n C 0 dX11_greatest_65 rfl ?_
          refine g_goto C 70 dX11_greatest_66 (by decide) ?_
          refine g_istore_n C [(1, .int ((M 260 x2_5.toNatClampNeg))), (3, .int ((M 260 x2_5.toNatClampNeg))), (2, .int x2_5), (0, .ref (ad 258))] dX11_greatest_70 (by decide) rfl ?_
          obtain ⟨v28, ev28⟩ : ∃ y : Int32, y = x2_5 + 1 := ⟨_, rfl⟩
          try have fv28 := fadd rfl (by decide : (1 : Int32).toInt = 1) ev28 (by omega) (by omega)
          refine g_iinc C 2 v28 [(2, .int v28), (1, .int ((M 260 x2_5.toNatClampNeg))), (3, .int ((M 260 x2_5.toNatClampNeg))), (0, .ref (ad 258))] dX11_greatest_71 rfl (by rw [ev28]; rfl) (by decide) rfl ?_
          refine g_goto C 5 dX11_greatest_74 (by decide) ?_
          refine g_lv [0, 1, 3] [(2, .int v28), (1, .int ((M 260 x2_5.toNatClampNeg))), (0, .ref (ad 258))] rfl ?_
          have nv := ixn (x := v28) (by omega)
          have iv : v28.toNatClampNeg = x2_5.toNatClampNeg + 1 := by omega
          have hst : ∀ j : Nat, (j : Int) < v28.toInt → ¬ (M 282 (M 260 j).toNatClampNeg).toInt = 0 → ((M 260 x2_5.toNatClampNeg)).toInt ≠ -9 := by
            intro j hj hin
            by_cases e9 : j = x2_5.toNatClampNeg
            · rw [e9] at hin; omega
            · have h9 := j5_4 j (by omega) hin; omega
          exact ih_5 (v28, ((M 260 x2_5.toNatClampNeg)), M_5, L_5) ⟨by show 0 ≤ v28.toInt; omega, by show v28.toInt ≤ (M 258 2).toInt; omega, by show ((M 260 x2_5.toNatClampNeg)).toInt = -9 ∨ (0 ≤ ((M 260 x2_5.toNatClampNeg)).toInt ∧ ((M 260 x2_5.toNatClampNeg)).toInt < 10); omega, by show 0 ≤ ((M 260 x2_5.toNatClampNeg)).toInt → ¬ (M 282 ((M 260 x2_5.toNatClampNeg)).toNatClampNeg).toInt = 0; first | exact j5_3 | exact fun _ => (by omega), by show ∀ j : Nat, (j : Int) < v28.toInt → ¬ (M 282 (M 260 j).toNatClampNeg).toInt = 0 → ((M 260 x2_5.toNatClampNeg)).toInt ≠ -9; exact hst, by show ((M 260 x2_5.toNatClampNeg)) = grF (M 260) (M 282) (L 284) (L 285) v28.toNatClampNeg; rw [iv]; show _ = (if (M 282 (M 260 x2_5.toNatClampNeg).toNatClampNeg).toInt ≠ 0 ∧ ((grF (M 260) (M 282) (L 284) (L 285) x2_5.toNatClampNeg).toInt = -9 ∨ (L 284 (grF (M 260) (M 282) (L 284) (L 285) x2_5.toNatClampNeg).toNatClampNeg * L 285 (M 260 x2_5.toNatClampNeg).toNatClampNeg).toInt < (L 284 (M 260 x2_5.toNatClampNeg).toNatClampNeg * L 285 (grF (M 260) (M 282) (L 284) (L 285) x2_5.toNatClampNeg).toNatClampNeg).toInt) then (M 260 x2_5.toNatClampNeg) else grF (M 260) (M 282) (L 284) (L 285) x2_5.toNatClampNeg); rw [← j5_5]; first | rw [if_pos (by omega)] | rw [if_neg (by omega)], hI, hF, hG⟩ (by show (11 - v28.toInt).toNat < (11 - x2_5.toInt).toNat; omega)
set_option maxHeartbeats 4000000 in
set_option maxRecDepth 100000 in
theorem k_X11_least (l : Launch) (D : va_G) (ad : Nat → Nat) (cs : Nat → ClassId) (M : MI) (L : ML)  (hI : IR M) (hD : DP (vR M)) : Ci l yX11_least wsX11_least ({ frames := 1, cells := 0, slots := 0, locals := 27 }) D ad cs [.ref (ad 258)] M L (fun r M1 L1 => M1 = M ∧ L1 = L ∧ ((r.toInt = -9 ∨ (0 ≤ r.toInt ∧ r.toInt < 10)) ∧ (0 ≤ r.toInt → ¬ (M 282 r.toNatClampNeg).toInt = 0) ∧ ((∃ c : Nat, (c : Int) < (vR M 0 0).toInt ∧ ¬ (M 282 c).toInt = 0) → r.toInt ≠ -9) ∧ r = leF (M 260) (M 282) (L 284) (L 285) (M 258 2).toNatClampNeg)) := by
  refine enter_i RX11 rfl [(0, .ref (ad 258))] rfl (Nat.le_of_ble_eq_true rfl) (by decide +kernel) rfl ?_
  intro p e s m below meth c C hr
  have hF : ∀ k i, True → M k i = M k i := fun _ _ _ => rfl
  have hG : ∀ k i, True → L k i = L k i := fun _ _ _ => rfl
  have hI0 := hI
  have w0 : (vR M 0 0).toInt = (M 258 2).toInt := rfl
  obtain ⟨ca, cb⟩ := (show rg 0 10 (M 258 2) from hI 258 2)
  have n02 := ixn ca
  refine g_bipush C (-9) dX11_least_0 (by decide) ?_
  refine g_istore_n C [(1, .int ((-9))), (0, .ref (ad 258))] dX11_least_2 (by decide) rfl ?_
  refine g_iconst C 0 dX11_least_3 (by decide) ?_
  refine g_istore_n C [(2, .int 0), (1, .int ((-9))), (0, .ref (ad 258))] dX11_least_4 (by decide) rfl ?_
  have zy1 : (0 : Int32).toInt = 0 := by decide
  have zy2 : ((-9) : Int32).toInt = (-9) := by decide
  refine g_loop (α := Int32 × Int32 × MI × ML) (fun a => (11 - a.1.toInt).toNat) (fun a => (0 ≤ a.1.toInt) ∧ (a.1.toInt ≤ (M 258 2).toInt) ∧ (a.2.1.toInt = -9 ∨ (0 ≤ a.2.1.toInt ∧ a.2.1.toInt < 10)) ∧ (0 ≤ a.2.1.toInt → ¬ (M 282 a.2.1.toNatClampNeg).toInt = 0) ∧ (∀ j : Nat, (j : Int) < a.1.toInt → ¬ (M 282 (M 260 j).toNatClampNeg).toInt = 0 → a.2.1.toInt ≠ -9) ∧ (a.2.1 = leF (M 260) (M 282) (L 284) (L 285) a.1.toNatClampNeg) ∧ IR a.2.2.1 ∧ (∀ k i, True → a.2.2.1 k i = M k i) ∧ (∀ k i, True → a.2.2.2 k i = L k i)) (fun a => a.2.2.1) (fun a => a.2.2.2) (fun a => [(2, .int a.1), (1, .int a.2.1), (0, .ref (ad 258))]) ((0 : Int32), (-9 : Int32), M, L) ⟨by show 0 ≤ (0 : Int32).toInt; omega, by show (0 : Int32).toInt ≤ (M 258 2).toInt; omega, by show (-9 : Int32).toInt = -9 ∨ (0 ≤ (-9 : Int32).toInt ∧ (-9 : Int32).toInt < 10); omega, by show 0 ≤ (-9 : Int32).toInt → ¬ (M 282 (-9 : Int32).toNatClampNeg).toInt = 0; exact fun h => absurd h (by decide), by show ∀ j : Nat, (j : Int) < (0 : Int32).toInt → ¬ (M 282 (M 260 j).toNatClampNeg).toInt = 0 → (-9 : Int32).toInt ≠ -9; intro j hj; exact absurd hj (by show ¬ (j : Int) < 0; omega), by show (-9 : Int32) = leF (M 260) (M 282) (L 284) (L 285) (0 : Int32).toNatClampNeg; rfl, hI, hF, hG⟩ rfl rfl rfl ?_
  rintro ⟨x2_5, x1_5, M_5, L_5⟩ ⟨j5_0, j5_1, j5_2, j5_3, j5_4, j5_5, hI, hF, hG⟩ ih_5
  dsimp only at j5_0 j5_1 j5_2 j5_3 j5_4 j5_5 hI hF hG ih_5 ⊢
  have n2 := ixn (x := x2_5) (by omega)
  have bE : rg 0 9 (M 260 x2_5.toNatClampNeg) := hI0 260 _
  obtain ⟨bE1, bE2⟩ := bE
  have nE := ixn bE1
  refine g_iload_n C 0 dX11_least_5 rfl ?_
  refine g_aload_n C 2 dX11_least_6 rfl ?_
  refine g_get C (.int (M_5 258 2)) 2 in_X11_least_11 (List.mem_of_getElem? (i := 1) rfl) (by decide) (ce_model ad cs _ _) rfl (by decide) rfl rfl dX11_least_7 ?_
  refine g_ni (fun v3 ev3 => ?_)
  have gv3 : v3 = M 258 2 := ev3.trans (hF 258 2 trivial)
  have tv3 := congrArg Int32.toInt gv3
  obtain ⟨bv3, dv3⟩ := (show rg 0 10 v3 from (by rw [ev3]; exact hI 258 2))
  refine g_icmp_ge C 77 dX11_least_10 (by decide) (fun c4 => ?_) (fun c4 => ?_)
  ·
    have f5 := fle rfl rfl c4
    refine g_iload_n C 1 dX11_least_77 rfl ?_
    exact g_iret C hr ⟨funext (fun k => funext (fun i => hF k i trivial)), funext (fun k => funext (fun i => hG k i trivial)), ⟨j5_2, j5_3, fun ⟨c, hc1, hc2⟩ => (by
      obtain ⟨i, hi1, hi2⟩ := hD c hc1
      exact j5_4 i (by omega) (by
        have e9 : (M 260 i).toNatClampNeg = c := by (have h9 : (M 260 i).toInt = (c : Int) := hi2; have := ixn (x := M 260 i) (by omega); omega)
        rw [e9]; exact hc2)), by rw [j5_5, show x2_5.toNatClampNeg = (M 258 2).toNatClampNeg by omega]⟩⟩ dX11_least_78
  ·
    have f6 := fnle rfl rfl c4
    refine g_aload_n C 2 dX11_least_13 rfl ?_
    refine g_get C (.ref (ad 260)) 3 in_X11_least_11 (List.mem_of_getElem? (i := 2) rfl) (by decide) (ce_model ad cs _ _) rfl (by decide) rfl rfl dX11_least_14 ?_
    refine g_iload_n C 0 dX11_least_17 rfl ?_
    refine g_iald C (by decide) (ce_m_draw ad cs _ _) (fin' (n := 10) rfl (by omega) (by omega)) dX11_least_18 ?_
    refine g_ni (fun v7 ev7 => ?_)
    have gv7 : v7 = M 260 x2_5.toNatClampNeg := ev7.trans (hF 260 x2_5.toNatClampNeg trivial)
    have tv7 := congrArg Int32.toInt gv7
    obtain ⟨bv7, dv7⟩ := (show rg 0 9 v7 from (by rw [ev7]; exact hI 260 x2_5.toNatClampNeg))
    subst gv7
    refine g_istore_n C [(3, .int ((M 260 x2_5.toNatClampNeg))), (2, .int x2_5), (1, .int x1_5), (0, .ref (ad 258))] dX11_least_19 (by decide) rfl ?_
    refine g_aload_n C 3 dX11_least_20 rfl ?_
    refine g_get C (.ref (ad 282)) 36 in_X11_least_11 (List.mem_of_getElem? (i := 3) rfl) (by decide) (ce_model ad cs _ _) rfl (by decide) rfl rfl dX11_least_21 ?_
    refine g_iload_n C 0 dX11_least_24 rfl ?_
    refine g_zald C (by decide) (ce_m_isIn ad cs _ _) (fin' (n := 10) rfl (by omega) (by omega)) dX11_least_25 ?_
    refine g_ni (fun v8 ev8 => ?_)
    have gv8 : v8 = M 282 (((M 260 x2_5.toNatClampNeg)).toNatClampNeg) := ev8.trans (hF 282 (((M 260 x2_5.toNatClampNeg)).toNatClampNeg) trivial)
    have tv8 := congrArg Int32.toInt gv8
    refine g_if_eq C 69 dX11_least_26 (by decide) (fun c9 => ?_) (fun c9 => ?_)
    ·
      have f10 := feq rfl (by decide : (0 : Int32).toInt = 0) c9
      refine g_iload_n C 2 dX11_least_69 rfl ?_
      refine g_istore_n C [(1, .int x1_5), (3, .int ((M 260 x2_5.toNatClampNeg))), (2, .int x2_5), (0, .ref (ad 258))] dX11_least_70 (by decide) rfl ?_
      obtain ⟨v11, ev11⟩ : ∃ y : Int32, y = x2_5 + 1 := ⟨_, rfl⟩
      try have fv11 := fadd rfl (by decide : (1 : Int32).toInt = 1) ev11 (by omega) (by omega)
      refine g_iinc C 2 v11 [(2, .int v11), (1, .int x1_5), (3, .int ((M 260 x2_5.toNatClampNeg))), (0, .ref (ad 258))] dX11_least_71 rfl (by rw [ev11]; rfl) (by decide) rfl ?_
      refine g_goto C 5 dX11_least_74 (by decide) ?_
      refine g_lv [0, 1, 3] [(2, .int v11), (1, .int x1_5), (0, .ref (ad 258))] rfl ?_
      have nv := ixn (x := v11) (by omega)
      have iv : v11.toNatClampNeg = x2_5.toNatClampNeg + 1 := by omega
      have hst : ∀ j : Nat, (j : Int) < v11.toInt → ¬ (M 282 (M 260 j).toNatClampNeg).toInt = 0 → x1_5.toInt ≠ -9 := by
        intro j hj hin
        by_cases e9 : j = x2_5.toNatClampNeg
        · rw [e9] at hin; omega
        · have h9 := j5_4 j (by omega) hin; omega
      exact ih_5 (v11, x1_5, M_5, L_5) ⟨by show 0 ≤ v11.toInt; omega, by show v11.toInt ≤ (M 258 2).toInt; omega, by show x1_5.toInt = -9 ∨ (0 ≤ x1_5.toInt ∧ x1_5.toInt < 10); omega, by show 0 ≤ x1_5.toInt → ¬ (M 282 x1_5.toNatClampNeg).toInt = 0; first | exact j5_3 | exact fun _ => (by omega), by show ∀ j : Nat, (j : Int) < v11.toInt → ¬ (M 282 (M 260 j).toNatClampNeg).toInt = 0 → x1_5.toInt ≠ -9; exact hst, by show x1_5 = leF (M 260) (M 282) (L 284) (L 285) v11.toNatClampNeg; rw [iv]; show _ = (if (M 282 (M 260 x2_5.toNatClampNeg).toNatClampNeg).toInt ≠ 0 ∧ ((leF (M 260) (M 282) (L 284) (L 285) x2_5.toNatClampNeg).toInt = -9 ∨ ¬ (L 284 (leF (M 260) (M 282) (L 284) (L 285) x2_5.toNatClampNeg).toNatClampNeg * L 285 (M 260 x2_5.toNatClampNeg).toNatClampNeg).toInt < (L 284 (M 260 x2_5.toNatClampNeg).toNatClampNeg * L 285 (leF (M 260) (M 282) (L 284) (L 285) x2_5.toNatClampNeg).toNatClampNeg).toInt) then (M 260 x2_5.toNatClampNeg) else leF (M 260) (M 282) (L 284) (L 285) x2_5.toNatClampNeg); rw [← j5_5]; first | rw [if_pos (by omega)] | rw [if_neg (by omega)], hI, hF, hG⟩ (by show (11 - v11.toInt).toNat < (11 - x2_5.toInt).toNat; omega)
    ·
      have f12 := fne rfl (by decide : (0 : Int32).toInt = 0) c9
      refine g_iload_n C 2 dX11_least_29 rfl ?_
      refine g_bipush C (-9) dX11_least_30 (by decide) ?_
      refine g_icmp_eq C 65 dX11_least_32 (by decide) (fun c13 => ?_) (fun c13 => ?_)
      ·
        have f14 := feq rfl (by decide : ((-9) : Int32).toInt = (-9)) c13
        refine g_iload_n C 0 dX11_least_65 rfl ?_
        refine g_goto C 70 dX11_least_66 (by decide) ?_
        refine g_istore_n C [(1, .int ((M 260 x2_5.toNatClampNeg))), (3, .int ((M 260 x2_5.toNatClampNeg))), (2, .int x2_5), (0, .ref (ad 258))] dX11_least_70 (by decide) rfl ?_
        obtain ⟨v15, ev15⟩ : ∃ y : Int32, y = x2_5 + 1 := ⟨_, rfl⟩
        try have fv15 := fadd rfl (by decide : (1 : Int32).toInt = 1) ev15 (by omega) (by omega)
        refine g_iinc C 2 v15 [(2, .int v15), (1, .int ((M 260 x2_5.toNatClampNeg))), (3, .int ((M 260 x2_5.toNatClampNeg))), (0, .ref (ad 258))] dX11_least_71 rfl (by rw [ev15]; rfl) (by decide) rfl ?_
        refine g_goto C 5 dX11_least_74 (by decide) ?_
        refine g_lv [0, 1, 3] [(2, .int v15), (1, .int ((M 260 x2_5.toNatClampNeg))), (0, .ref (ad 258))] rfl ?_
        have nv := ixn (x := v15) (by omega)
        have iv : v15.toNatClampNeg = x2_5.toNatClampNeg + 1 := by omega
        have hst : ∀ j : Nat, (j : Int) < v15.toInt → ¬ (M 282 (M 260 j).toNatClampNeg).toInt = 0 → ((M 260 x2_5.toNatClampNeg)).toInt ≠ -9 := by
          intro j hj hin
          by_cases e9 : j = x2_5.toNatClampNeg
          · rw [e9] at hin; omega
          · have h9 := j5_4 j (by omega) hin; omega
        exact ih_5 (v15, ((M 260 x2_5.toNatClampNeg)), M_5, L_5) ⟨by show 0 ≤ v15.toInt; omega, by show v15.toInt ≤ (M 258 2).toInt; omega, by show ((M 260 x2_5.toNatClampNeg)).toInt = -9 ∨ (0 ≤ ((M 260 x2_5.toNatClampNeg)).toInt ∧ ((M 260 x2_5.toNatClampNeg)).toInt < 10); omega, by show 0 ≤ ((M 260 x2_5.toNatClampNeg)).toInt → ¬ (M 282 ((M 260 x2_5.toNatClampNeg)).toNatClampNeg).toInt = 0; first | exact j5_3 | exact fun _ => (by omega), by show ∀ j : Nat, (j : Int) < v15.toInt → ¬ (M 282 (M 260 j).toNatClampNeg).toInt = 0 → ((M 260 x2_5.toNatClampNeg)).toInt ≠ -9; exact hst, by show ((M 260 x2_5.toNatClampNeg)) = leF (M 260) (M 282) (L 284) (L 285) v15.toNatClampNeg; rw [iv]; show _ = (if (M 282 (M 260 x2_5.toNatClampNeg).toNatClampNeg).toInt ≠ 0 ∧ ((leF (M 260) (M 282) (L 284) (L 285) x2_5.toNatClampNeg).toInt = -9 ∨ ¬ (L 284 (leF (M 260) (M 282) (L 284) (L 285) x2_5.toNatClampNeg).toNatClampNeg * L 285 (M 260 x2_5.toNatClampNeg).toNatClampNeg).toInt < (L 284 (M 260 x2_5.toNatClampNeg).toNatClampNeg * L 285 (leF (M 260) (M 282) (L 284) (L 285) x2_5.toNatClampNeg).toNatClampNeg).toInt) then (M 260 x2_5.toNatClampNeg) else leF (M 260) (M 282) (L 284) (L 285) x2_5.toNatClampNeg); rw [← j5_5]; first | rw [if_pos (by omega)] | rw [if_neg (by omega)], hI, hF, hG⟩ (by show (11 - v15.toInt).toNat < (11 - x2_5.toInt).toNat; omega)
      ·
        have f16 := fne rfl (by decide : ((-9) : Int32).toInt = (-9)) c13
        refine g_aload_n C 3 dX11_least_35 rfl ?_
        refine g_get C (.ref (ad 284)) 38 in_X11_least_11 (List.mem_of_getElem? (i := 4) rfl) (by decide) (ce_model ad cs _ _) rfl (by decide) rfl rfl dX11_least_36 ?_
        refine g_iload_n C 0 dX11_least_39 rfl ?_
        refine g_lald C (by decide) (ce_m_ups ad cs _ _) (fin' (n := 10) rfl (by omega) (by omega)) dX11_least_40 ?_
        refine g_nl (fun v17 ev17 => ?_)
        have gv17 : v17 = L 284 (((M 260 x2_5.toNatClampNeg)).toNatClampNeg) := ev17.trans (hG 284 _ trivial)
        have tv17 := congrArg Int64.toInt gv17
        refine g_aload_n C 3 dX11_least_41 rfl ?_
        refine g_get C (.ref (ad 285)) 39 in_X11_least_11 (List.mem_of_getElem? (i := 5) rfl) (by decide) (ce_model ad cs _ _) rfl (by decide) rfl rfl dX11_least_42 ?_
        refine g_iload_n C 0 dX11_least_45 rfl ?_
        refine g_lald C (by decide) (ce_m_downs ad cs _ _) (fin' (n := 10) rfl (by omega) (by omega)) dX11_least_46 ?_
        refine g_nl (fun v18 ev18 => ?_)
        have gv18 : v18 = L 285 (((M 260 x2_5.toNatClampNeg)).toNatClampNeg) := ev18.trans (hG 285 _ trivial)
        have tv18 := congrArg Int64.toInt gv18
        refine g_aload_n C 3 dX11_least_47 rfl ?_
        refine g_get C (.ref (ad 284)) 38 in_X11_least_11 (List.mem_of_getElem? (i := 4) rfl) (by decide) (ce_model ad cs _ _) rfl (by decide) rfl rfl dX11_least_48 ?_
        refine g_iload_n C 2 dX11_least_51 rfl ?_
        refine g_lald C (by decide) (ce_m_ups ad cs _ _) (fin' (n := 10) rfl (by omega) (by omega)) dX11_least_52 ?_
        refine g_nl (fun v19 ev19 => ?_)
        have gv19 : v19 = L 284 x1_5.toNatClampNeg := ev19.trans (hG 284 _ trivial)
        have tv19 := congrArg Int64.toInt gv19
        refine g_aload_n C 3 dX11_least_53 rfl ?_
        refine g_get C (.ref (ad 285)) 39 in_X11_least_11 (List.mem_of_getElem? (i := 5) rfl) (by decide) (ce_model ad cs _ _) rfl (by decide) rfl rfl dX11_least_54 ?_
        refine g_iload_n C 2 dX11_least_57 rfl ?_
        refine g_lald C (by decide) (ce_m_downs ad cs _ _) (fin' (n := 10) rfl (by omega) (by omega)) dX11_least_58 ?_
        refine g_nl (fun v20 ev20 => ?_)
        have gv20 : v20 = L 285 x1_5.toNatClampNeg := ev20.trans (hG 285 _ trivial)
        have tv20 := congrArg Int64.toInt gv20
        refine g_callSi C (n := 4) (As := [.long v17, .long v18, .long v19, .long v20]) (st := []) (k_X11_isMore l D ad cs _ _ v17 v18 v19 v20 hI ) gX11_least_X11_isMore rfl rfl rfl (by decide +kernel) ⟨Nat.le_of_ble_eq_true rfl, Nat.le_of_ble_eq_true rfl⟩ rfl (Nat.le_of_ble_eq_true rfl) ⟨Nat.zero_le _, Nat.zero_le _⟩ rfl dX11_least_59 (fun r21 M22 L23 hr21 => ?_)
        obtain ⟨hq1, hq2, hr21⟩ := hr21
        obtain rfl := hq1.symm
        obtain rfl := hq2.symm
        rw [gv17, gv18, gv19, gv20] at hr21
        obtain ⟨bar21, bbr21⟩ := zo_b hr21
        refine g_if_ne C 69 dX11_least_62 (by decide) (fun c24 => ?_) (fun c24 => ?_)
        ·
          have f25 := fne rfl (by decide : (0 : Int32).toInt = 0) c24
          have pr21 := zo_t hr21 c24
          try dsimp only [hasC, hasB, hasX, hasM, ofS, ofK, bt] at pr21
          refine g_iload_n C 2 dX11_least_69 rfl ?_
          refine g_istore_n C [(1, .int x1_5), (3, .int ((M 260 x2_5.toNatClampNeg))), (2, .int x2_5), (0, .ref (ad 258))] dX11_least_70 (by decide) rfl ?_
          obtain ⟨v26, ev26⟩ : ∃ y : Int32, y = x2_5 + 1 := ⟨_, rfl⟩
          try have fv26 := fadd rfl (by decide : (1 : Int32).toInt = 1) ev26 (by omega) (by omega)
          refine g_iinc C 2 v26 [(2, .int v26), (1, .int x1_5), (3, .int ((M 260 x2_5.toNatClampNeg))), (0, .ref (ad 258))] dX11_least_71 rfl (by rw [ev26]; rfl) (by decide) rfl ?_
          refine g_goto C 5 dX11_least_74 (by decide) ?_
          refine g_lv [0, 1, 3] [(2, .int v26), (1, .int x1_5), (0, .ref (ad 258))] rfl ?_
          have nv := ixn (x := v26) (by omega)
          have iv : v26.toNatClampNeg = x2_5.toNatClampNeg + 1 := by omega
          have hst : ∀ j : Nat, (j : Int) < v26.toInt → ¬ (M 282 (M 260 j).toNatClampNeg).toInt = 0 → x1_5.toInt ≠ -9 := by
            intro j hj hin
            by_cases e9 : j = x2_5.toNatClampNeg
            · rw [e9] at hin; omega
            · have h9 := j5_4 j (by omega) hin; omega
          exact ih_5 (v26, x1_5, M_5, L_5) ⟨by show 0 ≤ v26.toInt; omega, by show v26.toInt ≤ (M 258 2).toInt; omega, by show x1_5.toInt = -9 ∨ (0 ≤ x1_5.toInt ∧ x1_5.toInt < 10); omega, by show 0 ≤ x1_5.toInt → ¬ (M 282 x1_5.toNatClampNeg).toInt = 0; first | exact j5_3 | exact fun _ => (by omega), by show ∀ j : Nat, (j : Int) < v26.toInt → ¬ (M 282 (M 260 j).toNatClampNeg).toInt = 0 → x1_5.toInt ≠ -9; exact hst, by show x1_5 = leF (M 260) (M 282) (L 284) (L 285) v26.toNatClampNeg; rw [iv]; show _ = (if (M 282 (M 260 x2_5.toNatClampNeg).toNatClampNeg).toInt ≠ 0 ∧ ((leF (M 260) (M 282) (L 284) (L 285) x2_5.toNatClampNeg).toInt = -9 ∨ ¬ (L 284 (leF (M 260) (M 282) (L 284) (L 285) x2_5.toNatClampNeg).toNatClampNeg * L 285 (M 260 x2_5.toNatClampNeg).toNatClampNeg).toInt < (L 284 (M 260 x2_5.toNatClampNeg).toNatClampNeg * L 285 (leF (M 260) (M 282) (L 284) (L 285) x2_5.toNatClampNeg).toNatClampNeg).toInt) then (M 260 x2_5.toNatClampNeg) else leF (M 260) (M 282) (L 284) (L 285) x2_5.toNatClampNeg); rw [← j5_5]; first | rw [if_pos (by omega)] | rw [if_neg (by omega)], hI, hF, hG⟩ (by show (11 - v26.toInt).toNat < (11 - x2_5.toInt).toNat; omega)
        ·
          have f27 := feq rfl (by decide : (0 : Int32).toInt = 0) c24
          have pr21 := zo_f hr21 c24
          try dsimp only [hasC, hasB, hasX, hasM, ofS, ofK, bt] at pr21
          refine g_iload_n C 0 dX11_least_65 rfl ?_
          refine g_goto C 70 dX11_least_66 (by decide) ?_
          refine g_istore_n C [(1, .int ((M 260 x2_5.toNatClampNeg))), (3, .int ((M 260 x2_5.toNatClampNeg))), (2, .int x2_5), (0, .ref (ad 258))] dX11_least_70 (by decide) rfl ?_
          obtain ⟨v28, ev28⟩ : ∃ y : Int32, y = x2_5 + 1 := ⟨_, rfl⟩
          try have fv28 := fadd rfl (by decide : (1 : Int32).toInt = 1) ev28 (by omega) (by omega)
          refine g_iinc C 2 v28 [(2, .int v28), (1, .int ((M 260 x2_5.toNatClampNeg))), (3, .int ((M 260 x2_5.toNatClampNeg))), (0, .ref (ad 258))] dX11_least_71 rfl (by rw [ev28]; rfl) (by decide) rfl ?_
          refine g_goto C 5 dX11_least_74 (by decide) ?_
          refine g_lv [0, 1, 3] [(2, .int v28), (1, .int ((M 260 x2_5.toNatClampNeg))), (0, .ref (ad 258))] rfl ?_
          have nv := ixn (x := v28) (by omega)
          have iv : v28.toNatClampNeg = x2_5.toNatClampNeg + 1 := by omega
          have hst : ∀ j : Nat, (j : Int) < v28.toInt → ¬ (M 282 (M 260 j).toNatClampNeg).toInt = 0 → ((M 260 x2_5.toNatClampNeg)).toInt ≠ -9 := by
            intro j hj hin
            by_cases e9 : j = x2_5.toNatClampNeg
            · rw [e9] at hin; omega
            · have h9 := j5_4 j (by omega) hin; omega
          exact ih_5 (v28, ((M 260 x2_5.toNatClampNeg)), M_5, L_5) ⟨by show 0 ≤ v28.toInt; omega, by show v28.toInt ≤ (M 258 2).toInt; omega, by show ((M 260 x2_5.toNatClampNeg)).toInt = -9 ∨ (0 ≤ ((M 260 x2_5.toNatClampNeg)).toInt ∧ ((M 260 x2_5.toNatClampNeg)).toInt < 10); omega, by show 0 ≤ ((M 260 x2_5.toNatClampNeg)).toInt → ¬ (M 282 ((M 260 x2_5.toNatClampNeg)).toNatClampNeg).toInt = 0; first | exact j5_3 | exact fun _ => (by omega), by show ∀ j : Nat, (j : Int) < v28.toInt → ¬ (M 282 (M 260 j).toNatClampNeg).toInt = 0 → ((M 260 x2_5.toNatClampNeg)).toInt ≠ -9; exact hst, by show ((M 260 x2_5.toNatClampNeg)) = leF (M 260) (M 282) (L 284) (L 285) v28.toNatClampNeg; rw [iv]; show _ = (if (M 282 (M 260 x2_5.toNatClampNeg).toNatClampNeg).toInt ≠ 0 ∧ ((leF (M 260) (M 282) (L 284) (L 285) x2_5.toNatClampNeg).toInt = -9 ∨ ¬ (L 284 (leF (M 260) (M 282) (L 284) (L 285) x2_5.toNatClampNeg).toNatClampNeg * L 285 (M 260 x2_5.toNatClampNeg).toNatClampNeg).toInt < (L 284 (M 260 x2_5.toNatClampNeg).toNatClampNeg * L 285 (leF (M 260) (M 282) (L 284) (L 285) x2_5.toNatClampNeg).toNatClampNeg).toInt) then (M 260 x2_5.toNatClampNeg) else leF (M 260) (M 282) (L 284) (L 285) x2_5.toNatClampNeg); rw [← j5_5]; first | rw [if_pos (by omega)] | rw [if_neg (by omega)], hI, hF, hG⟩ (by show (11 - v28.toInt).toNat < (11 - x2_5.toInt).toNat; omega)
set_option maxHeartbeats 4000000 in
set_option maxRecDepth 100000 in
theorem k_X11_happens (l : Launch) (D : va_G) (ad : Nat → Nat) (cs : Nat → ClassId) (M : MI) (L : ML) (x : Int32) (y : Int32) (hI : IR M) (hr31 : (M 258 31).toInt < 40) : Cv l yX11_happens wsX11_happens ({ frames := 0, cells := 0, slots := 0, locals := 0 }) D ad cs [.ref (ad 258), .int x, .int y] M L (fun M1 L1 => ((M1 258 31).toInt = (M 258 31).toInt + 1 ∧ M1 278 = upd (M 278) ((M 258 31).toNatClampNeg) x ∧ M1 279 = upd (M 279) ((M 258 31).toNatClampNeg) y) ∧ IR M1 ∧ (∀ k i, ¬ (k = 258 ∧ i = 31) ∧ k ≠ 278 ∧ k ≠ 279 → M1 k i = M k i) ∧ ∀ k i, k ≠ 280 ∧ k ≠ 281 → L1 k i = L k i) := by
  refine enter_v RX11 rfl [(0, .ref (ad 258)), (1, .int x), (2, .int y)] rfl (Nat.le_of_ble_eq_true rfl) (by decide +kernel) rfl ?_
  intro p e s m below meth c C hr
  have hF : ∀ k i, ¬ (k = 258 ∧ i = 31) ∧ k ≠ 278 ∧ k ≠ 279 → M k i = M k i := fun _ _ _ => rfl
  have hG : ∀ k i, k ≠ 280 ∧ k ≠ 281 → L k i = L k i := fun _ _ _ => rfl
  obtain ⟨ra, rb⟩ := (show rg 0 40 (M 258 31) from hI 258 31)
  have k31 : M 258 31 = M 258 31 := rfl
  have p280 : L 280 = L 280 := rfl
  have p281 : L 281 = L 281 := rfl
  have q278 : M 278 = M 278 := rfl
  have q279 : M 279 = M 279 := rfl
  refine g_aload_n C 0 dX11_happens_0 rfl ?_
  refine g_get C (.ref (ad 278)) 32 in_X11_happens_11 (List.mem_of_getElem? (i := 1) rfl) (by decide) (ce_model ad cs _ _) rfl (by decide) rfl rfl dX11_happens_1 ?_
  refine g_aload_n C 0 dX11_happens_4 rfl ?_
  refine g_get C (.int (M 258 31)) 31 in_X11_happens_11 (List.mem_of_getElem? (i := 2) rfl) (by decide) (ce_model ad cs _ _) rfl (by decide) rfl rfl dX11_happens_5 ?_
  refine g_ni (fun v1 ev1 => ?_)
  have gv1 : v1 = M 258 31 := ev1.trans k31
  have tv1 := congrArg Int32.toInt gv1
  obtain ⟨bv1, dv1⟩ := (show rg 0 40 v1 from (by rw [ev1]; exact hI 258 31))
  refine g_iload_n C 1 dX11_happens_8 rfl ?_
  refine g_iast C (by decide) (ce_m_roundWhat ad cs _ _) (by rw [sI_k]; rfl) (fin' (n := 40) rfl (by omega) (by omega)) dX11_happens_9 ?_
  refine g_nm (fun M2 hM2 => ?_)
  have hI : IR M2 := by rw [hM2]; exact hI.st (show bR 278 _ _ from trivial)
  have hF : ∀ k i, ¬ (k = 258 ∧ i = 31) ∧ k ≠ 278 ∧ k ≠ 279 → M2 k i = M k i := fun k i hk => by (rw [hM2, sI_at, if_neg (by omega)]; try exact hF k i hk)
  have k31 : M2 258 31 = M 258 31 := by rw [hM2, sI_n _ _ _ (by decide)]; try exact k31
  have q279 : M2 279 = M 279 := by rw [hM2, sI_n _ _ _ (by decide)]; try exact q279
  refine g_aload_n C 0 dX11_happens_10 rfl ?_
  refine g_get C (.ref (ad 279)) 33 in_X11_happens_11 (List.mem_of_getElem? (i := 3) rfl) (by decide) (ce_model ad cs _ _) rfl (by decide) rfl rfl dX11_happens_11 ?_
  refine g_aload_n C 0 dX11_happens_14 rfl ?_
  refine g_get C (.int (M2 258 31)) 31 in_X11_happens_11 (List.mem_of_getElem? (i := 2) rfl) (by decide) (ce_model ad cs _ _) rfl (by decide) rfl rfl dX11_happens_15 ?_
  refine g_ni (fun v3 ev3 => ?_)
  have gv3 : v3 = M 258 31 := ev3.trans k31
  have tv3 := congrArg Int32.toInt gv3
  obtain ⟨bv3, dv3⟩ := (show rg 0 40 v3 from (by rw [ev3]; exact hI 258 31))
  refine g_iload_n C 2 dX11_happens_18 rfl ?_
  refine g_iast C (by decide) (ce_m_roundWho ad cs _ _) (by rw [sI_k]; rfl) (fin' (n := 40) rfl (by omega) (by omega)) dX11_happens_19 ?_
  refine g_nm (fun M4 hM4 => ?_)
  have hI : IR M4 := by rw [hM4]; exact hI.st (show bR 279 _ _ from trivial)
  have hF : ∀ k i, ¬ (k = 258 ∧ i = 31) ∧ k ≠ 278 ∧ k ≠ 279 → M4 k i = M k i := fun k i hk => by (rw [hM4, sI_at, if_neg (by omega)]; try exact hF k i hk)
  have k31 : M4 258 31 = M 258 31 := by rw [hM4, sI_n _ _ _ (by decide)]; try exact k31
  have a278 : M4 278 = upd (M 278) (M 258 31).toNatClampNeg x := by rw [hM4, sI_n _ _ _ (by decide), hM2, sI_k]; simp only [gv3, gv1]
  have a279 : M4 279 = upd (M 279) (M 258 31).toNatClampNeg y := by rw [hM4, sI_k, hM2, sI_n _ _ _ (by decide)]; simp only [gv3, gv1]
  refine g_iconst C 0 dX11_happens_20 (by decide) ?_
  refine g_istore_n C [(3, .int 0), (0, .ref (ad 258)), (1, .int x), (2, .int y)] dX11_happens_21 (by decide) rfl ?_
  have zy5 : (0 : Int32).toInt = 0 := by decide
  refine g_loop (α := Int32 × MI × ML) (fun a => (11 - a.1.toInt).toNat) (fun a => (0 ≤ a.1.toInt) ∧ (a.1.toInt ≤ 10) ∧ (a.2.1 258 31 = M 258 31) ∧ (a.2.1 278 = upd (M 278) (M 258 31).toNatClampNeg x) ∧ (a.2.1 279 = upd (M 279) (M 258 31).toNatClampNeg y) ∧ IR a.2.1 ∧ (∀ k i, ¬ (k = 258 ∧ i = 31) ∧ k ≠ 278 ∧ k ≠ 279 → a.2.1 k i = M k i) ∧ (∀ k i, k ≠ 280 ∧ k ≠ 281 → a.2.2 k i = L k i)) (fun a => a.2.1) (fun a => a.2.2) (fun a => [(3, .int a.1), (0, .ref (ad 258)), (1, .int x), (2, .int y)]) ((0 : Int32), M4, L) ⟨by show 0 ≤ (0 : Int32).toInt; omega, by show (0 : Int32).toInt ≤ 10; omega, by show M4 258 31 = M 258 31; exact k31, by show M4 278 = upd (M 278) (M 258 31).toNatClampNeg x; exact a278, by show M4 279 = upd (M 279) (M 258 31).toNatClampNeg y; exact a279, hI, hF, hG⟩ rfl rfl rfl ?_
  rintro ⟨x3_22, M_22, L_22⟩ ⟨j22_0, j22_1, j22_2, j22_3, j22_4, hI, hF, hG⟩ ih_22
  dsimp only at j22_0 j22_1 j22_2 j22_3 j22_4 hI hF hG ih_22 ⊢
  have k31 : M_22 258 31 = M_22 258 31 := rfl
  have p280 : L_22 280 = L_22 280 := rfl
  have p281 : L_22 281 = L_22 281 := rfl
  have q278 : M_22 278 = M_22 278 := rfl
  have q279 : M_22 279 = M_22 279 := rfl
  have k31t := congrArg Int32.toInt j22_2
  refine g_iload_n C 0 dX11_happens_22 rfl ?_
  refine g_bipush C 10 dX11_happens_23 (by decide) ?_
  refine g_icmp_ge C 74 dX11_happens_25 (by decide) (fun c6 => ?_) (fun c6 => ?_)
  ·
    have f7 := fle (by decide : (10 : Int32).toInt = 10) rfl c6
    refine g_aload_n C 1 dX11_happens_74 rfl ?_
    refine g_dup C dX11_happens_75 rfl ?_
    refine g_get C (.int (M_22 258 31)) 31 in_X11_happens_11 (List.mem_of_getElem? (i := 2) rfl) (by decide) (ce_model ad cs _ _) rfl (by decide) rfl rfl dX11_happens_76 ?_
    refine g_ni (fun v8 ev8 => ?_)
    have gv8 : v8 = M_22 258 31 := ev8.trans k31
    have tv8 := congrArg Int32.toInt gv8
    obtain ⟨bv8, dv8⟩ := (show rg 0 40 v8 from (by rw [ev8]; exact hI 258 31))
    refine g_iconst C 1 dX11_happens_79 (by decide) ?_
    refine g_iadd C dX11_happens_80 ?_
    refine g_ni (fun v9 ev9 => ?_)
    try have fv9 := fadd rfl (by decide : (1 : Int32).toInt = 1) ev9 (by omega) (by omega)
    refine g_putI C 31 in_X11_happens_11 (List.mem_of_getElem? (i := 2) rfl) (by decide) (ce_model ad cs _ _) rfl (by decide) rfl tyX11 tyX11_ok nmX11 rfl rfl rfl rfl (Nat.le_of_ble_eq_true rfl) (by rw [sI_k]; rfl) dX11_happens_81 ?_
    refine g_nm (fun M10 hM10 => ?_)
    have hI : IR M10 := by rw [hM10]; exact hI.st (show bR 258 31 _ from ⟨by first | omega | decide, by first | omega | decide⟩)
    have hF : ∀ k i, ¬ (k = 258 ∧ i = 31) ∧ k ≠ 278 ∧ k ≠ 279 → M10 k i = M k i := fun k i hk => by (rw [hM10, sI_at, if_neg (by omega)]; try exact hF k i hk)
    have k31 : M10 258 31 = v9 := by rw [hM10, sI_at, if_pos (by decide)]
    have q278 : M10 278 = M_22 278 := by rw [hM10, sI_n _ _ _ (by decide)]; try exact q278
    have q279 : M10 279 = M_22 279 := by rw [hM10, sI_n _ _ _ (by decide)]; try exact q279
    have h278 : M10 278 = upd (M 278) (M 258 31).toNatClampNeg x := by rw [hM10, sI_n _ _ _ (by decide)]; exact j22_3
    have h279 : M10 279 = upd (M 279) (M 258 31).toNatClampNeg y := by rw [hM10, sI_n _ _ _ (by decide)]; exact j22_4
    exact g_vret C hr ⟨⟨by rw [k31]; omega, h278, h279⟩, hI, hF, hG⟩ dX11_happens_84
  ·
    have f11 := fnle (by decide : (10 : Int32).toInt = 10) rfl c6
    refine g_aload_n C 1 dX11_happens_28 rfl ?_
    refine g_get C (.ref (ad 280)) 34 in_X11_happens_11 (List.mem_of_getElem? (i := 4) rfl) (by decide) (ce_model ad cs _ _) rfl (by decide) rfl rfl dX11_happens_29 ?_
    refine g_bipush C 10 dX11_happens_32 (by decide) ?_
    refine g_aload_n C 1 dX11_happens_34 rfl ?_
    refine g_get C (.int (M_22 258 31)) 31 in_X11_happens_11 (List.mem_of_getElem? (i := 2) rfl) (by decide) (ce_model ad cs _ _) rfl (by decide) rfl rfl dX11_happens_35 ?_
    refine g_ni (fun v12 ev12 => ?_)
    have gv12 : v12 = M_22 258 31 := ev12.trans k31
    have tv12 := congrArg Int32.toInt gv12
    obtain ⟨bv12, dv12⟩ := (show rg 0 40 v12 from (by rw [ev12]; exact hI 258 31))
    refine g_imul C dX11_happens_38 ?_
    refine g_ni (fun v13 ev13 => ?_)
    try have fv13 := fmul (by decide : (10 : Int32).toInt = 10) rfl ev13 (by omega) (by omega)
    refine g_iload_n C 0 dX11_happens_39 rfl ?_
    refine g_iadd C dX11_happens_40 ?_
    refine g_ni (fun v14 ev14 => ?_)
    try have fv14 := fadd rfl rfl ev14 (by omega) (by omega)
    refine g_aload_n C 1 dX11_happens_41 rfl ?_
    refine g_get C (.ref (ad 284)) 38 in_X11_happens_11 (List.mem_of_getElem? (i := 5) rfl) (by decide) (ce_model ad cs _ _) rfl (by decide) rfl rfl dX11_happens_42 ?_
    refine g_iload_n C 0 dX11_happens_45 rfl ?_
    refine g_lald C (by decide) (ce_m_ups ad cs _ _) (fin' (n := 10) rfl (by omega) (by omega)) dX11_happens_46 ?_
    refine g_nl (fun v15 ev15 => ?_)
    have gv15 : v15 = L 284 x3_22.toNatClampNeg := ev15.trans (hG 284 _ (by omega))
    have tv15 := congrArg Int64.toInt gv15
    have nv12 := ixn (x := v12) (by omega)
    have nx3_22 := ixn (x := x3_22) (by omega)
    have nv14 := ixn (x := v14) (by omega)
    have iv14 : v14.toNatClampNeg = 10 * v12.toNatClampNeg + x3_22.toNatClampNeg := by omega
    refine g_last C (by decide) (ce_m_tallyUp ad cs _ _) (by rw [sJ_k]; rfl) (fin' (n := 400) rfl (by omega) (by omega)) dX11_happens_47 ?_
    refine g_nmL (fun L16 hL16 => ?_)
    have hG : ∀ k i, k ≠ 280 ∧ k ≠ 281 → L16 k i = L k i := fun k i hk => by (rw [hL16, sJ_at, if_neg (by omega)]; try exact hG k i hk)
    have p281 : L16 281 = L_22 281 := by rw [hL16, sJ_n _ _ _ (by decide)]; try exact p281
    refine g_aload_n C 1 dX11_happens_48 rfl ?_
    refine g_get C (.ref (ad 281)) 35 in_X11_happens_11 (List.mem_of_getElem? (i := 6) rfl) (by decide) (ce_model ad cs _ _) rfl (by decide) rfl rfl dX11_happens_49 ?_
    refine g_bipush C 10 dX11_happens_52 (by decide) ?_
    refine g_aload_n C 1 dX11_happens_54 rfl ?_
    refine g_get C (.int (M_22 258 31)) 31 in_X11_happens_11 (List.mem_of_getElem? (i := 2) rfl) (by decide) (ce_model ad cs _ _) rfl (by decide) rfl rfl dX11_happens_55 ?_
    refine g_ni (fun v17 ev17 => ?_)
    have gv17 : v17 = M_22 258 31 := ev17.trans k31
    have tv17 := congrArg Int32.toInt gv17
    obtain ⟨bv17, dv17⟩ := (show rg 0 40 v17 from (by rw [ev17]; exact hI 258 31))
    refine g_imul C dX11_happens_58 ?_
    refine g_ni (fun v18 ev18 => ?_)
    try have fv18 := fmul (by decide : (10 : Int32).toInt = 10) rfl ev18 (by omega) (by omega)
    refine g_iload_n C 0 dX11_happens_59 rfl ?_
    refine g_iadd C dX11_happens_60 ?_
    refine g_ni (fun v19 ev19 => ?_)
    try have fv19 := fadd rfl rfl ev19 (by omega) (by omega)
    refine g_aload_n C 1 dX11_happens_61 rfl ?_
    refine g_get C (.ref (ad 285)) 39 in_X11_happens_11 (List.mem_of_getElem? (i := 7) rfl) (by decide) (ce_model ad cs _ _) rfl (by decide) rfl rfl dX11_happens_62 ?_
    refine g_iload_n C 0 dX11_happens_65 rfl ?_
    refine g_lald C (by decide) (ce_m_downs ad cs _ _) (fin' (n := 10) rfl (by omega) (by omega)) dX11_happens_66 ?_
    refine g_nl (fun v20 ev20 => ?_)
    have gv20 : v20 = L 285 x3_22.toNatClampNeg := ev20.trans (hG 285 _ (by omega))
    have tv20 := congrArg Int64.toInt gv20
    have nv17 := ixn (x := v17) (by omega)
    have nx3_22 := ixn (x := x3_22) (by omega)
    have nv19 := ixn (x := v19) (by omega)
    have iv19 : v19.toNatClampNeg = 10 * v17.toNatClampNeg + x3_22.toNatClampNeg := by omega
    refine g_last C (by decide) (ce_m_tallyDown ad cs _ _) (by rw [sJ_k]; rfl) (fin' (n := 400) rfl (by omega) (by omega)) dX11_happens_67 ?_
    refine g_nmL (fun L21 hL21 => ?_)
    have hG : ∀ k i, k ≠ 280 ∧ k ≠ 281 → L21 k i = L k i := fun k i hk => by (rw [hL21, sJ_at, if_neg (by omega)]; try exact hG k i hk)
    obtain ⟨v22, ev22⟩ : ∃ y : Int32, y = x3_22 + 1 := ⟨_, rfl⟩
    try have fv22 := fadd rfl (by decide : (1 : Int32).toInt = 1) ev22 (by omega) (by omega)
    refine g_iinc C 0 v22 [(3, .int v22), (0, .ref (ad 258)), (1, .int x), (2, .int y)] dX11_happens_68 rfl (by rw [ev22]; rfl) (by decide) rfl ?_
    refine g_goto C 22 dX11_happens_71 (by decide) ?_
    exact ih_22 (v22, M_22, L21) ⟨by show 0 ≤ v22.toInt; omega, by show v22.toInt ≤ 10; omega, by show M_22 258 31 = M 258 31; exact k31.trans j22_2, by show M_22 278 = upd (M 278) (M 258 31).toNatClampNeg x; exact j22_3, by show M_22 279 = upd (M 279) (M 258 31).toNatClampNeg y; exact j22_4, hI, hF, hG⟩ (by show (11 - v22.toInt).toNat < (11 - x3_22.toInt).toNat; omega)
set_option maxHeartbeats 4000000 in
set_option maxRecDepth 100000 in
theorem k_X11_gives (l : Launch) (D : va_G) (ad : Nat → Nat) (cs : Nat → ClassId) (M : MI) (L : ML) (x : Int32) (hI : IR M) (hg29 : (M 258 29).toInt < 30) : Cv l yX11_gives wsX11_gives ({ frames := 0, cells := 0, slots := 0, locals := 0 }) D ad cs [.ref (ad 258), .int x] M L (fun M1 L1 => ((M1 258 29).toInt = (M 258 29).toInt + 1 ∧ M1 277 = upd (M 277) ((M 258 29).toNatClampNeg) x) ∧ IR M1 ∧ (∀ k i, ¬ (k = 258 ∧ i = 29) ∧ k ≠ 277 → M1 k i = M k i) ∧ ∀ k i, True → L1 k i = L k i) := by
  refine enter_v RX11 rfl [(0, .ref (ad 258)), (1, .int x)] rfl (Nat.le_of_ble_eq_true rfl) (by decide +kernel) rfl ?_
  intro p e s m below meth c C hr
  have hF : ∀ k i, ¬ (k = 258 ∧ i = 29) ∧ k ≠ 277 → M k i = M k i := fun _ _ _ => rfl
  have hG : ∀ k i, True → L k i = L k i := fun _ _ _ => rfl
  obtain ⟨ra, rb⟩ := (show rg 0 30 (M 258 29) from hI 258 29)
  have k29 : M 258 29 = M 258 29 := rfl
  have q277 : M 277 = M 277 := rfl
  refine g_aload_n C 0 dX11_gives_0 rfl ?_
  refine g_get C (.ref (ad 277)) 30 in_X11_gives_11 (List.mem_of_getElem? (i := 1) rfl) (by decide) (ce_model ad cs _ _) rfl (by decide) rfl rfl dX11_gives_1 ?_
  refine g_aload_n C 0 dX11_gives_4 rfl ?_
  refine g_get C (.int (M 258 29)) 29 in_X11_gives_11 (List.mem_of_getElem? (i := 2) rfl) (by decide) (ce_model ad cs _ _) rfl (by decide) rfl rfl dX11_gives_5 ?_
  refine g_ni (fun v1 ev1 => ?_)
  have gv1 : v1 = M 258 29 := ev1.trans k29
  have tv1 := congrArg Int32.toInt gv1
  obtain ⟨bv1, dv1⟩ := (show rg 0 30 v1 from (by rw [ev1]; exact hI 258 29))
  refine g_iload_n C 1 dX11_gives_8 rfl ?_
  refine g_iast C (by decide) (ce_m_seat ad cs _ _) (by rw [sI_k]; rfl) (fin' (n := 30) rfl (by omega) (by omega)) dX11_gives_9 ?_
  refine g_nm (fun M2 hM2 => ?_)
  have hI : IR M2 := by rw [hM2]; exact hI.st (show bR 277 _ _ from trivial)
  have hF : ∀ k i, ¬ (k = 258 ∧ i = 29) ∧ k ≠ 277 → M2 k i = M k i := fun k i hk => by (rw [hM2, sI_at, if_neg (by omega)]; try exact hF k i hk)
  have k29 : M2 258 29 = M 258 29 := by rw [hM2, sI_n _ _ _ (by decide)]; try exact k29
  refine g_aload_n C 0 dX11_gives_10 rfl ?_
  refine g_dup C dX11_gives_11 rfl ?_
  refine g_get C (.int (M2 258 29)) 29 in_X11_gives_11 (List.mem_of_getElem? (i := 2) rfl) (by decide) (ce_model ad cs _ _) rfl (by decide) rfl rfl dX11_gives_12 ?_
  refine g_ni (fun v3 ev3 => ?_)
  have gv3 : v3 = M 258 29 := ev3.trans k29
  have tv3 := congrArg Int32.toInt gv3
  obtain ⟨bv3, dv3⟩ := (show rg 0 30 v3 from (by rw [ev3]; exact hI 258 29))
  refine g_iconst C 1 dX11_gives_15 (by decide) ?_
  refine g_iadd C dX11_gives_16 ?_
  refine g_ni (fun v4 ev4 => ?_)
  try have fv4 := fadd rfl (by decide : (1 : Int32).toInt = 1) ev4 (by omega) (by omega)
  refine g_putI C 29 in_X11_gives_11 (List.mem_of_getElem? (i := 2) rfl) (by decide) (ce_model ad cs _ _) rfl (by decide) rfl tyX11 tyX11_ok nmX11 rfl rfl rfl rfl (Nat.le_of_ble_eq_true rfl) (by rw [sI_k]; rfl) dX11_gives_17 ?_
  refine g_nm (fun M5 hM5 => ?_)
  have hI : IR M5 := by rw [hM5]; exact hI.st (show bR 258 29 _ from ⟨by first | omega | decide, by first | omega | decide⟩)
  have hF : ∀ k i, ¬ (k = 258 ∧ i = 29) ∧ k ≠ 277 → M5 k i = M k i := fun k i hk => by (rw [hM5, sI_at, if_neg (by omega)]; try exact hF k i hk)
  have k29 : M5 258 29 = v4 := by rw [hM5, sI_at, if_pos (by decide)]
  have h277 : M5 277 = upd (M 277) (M 258 29).toNatClampNeg x := by rw [hM5, sI_n _ _ _ (by decide), hM2, sI_k]; simp only [ev4, gv3, gv1]
  exact g_vret C hr ⟨⟨by rw [k29]; omega, h277⟩, hI, hF, hG⟩ dX11_gives_20
set_option maxHeartbeats 4000000 in
set_option maxRecDepth 100000 in
theorem k_X11_countByTallies (l : Launch) (D : va_G) (ad : Nat → Nat) (cs : Nat → ClassId) (M : MI) (L : ML)  (hI : IR M) (hD : DP (vR M)) (hNI0 : NIn (M 282) (M 258 2).toInt) (hg0 : (M 258 29).toInt = 0) (hm0 : (M 258 31).toInt = 0) (hC : (M 258 28).toInt ≤ (cI (M 282) (M 258 2).toNatClampNeg : Int)) : Cv l yX11_countByTallies wsX11_countByTallies ({ frames := 2, cells := 0, slots := 0, locals := 50 }) D ad cs [.ref (ad 258)] M L (fun M1 L1 => (RR M1 (btS (M 260) (M 282) (L 284) (L 285) (M 258 2).toNatClampNeg ((M 258 28).toNatClampNeg)) (oneR (btS (M 260) (M 282) (L 284) (L 285) (M 258 2).toNatClampNeg ((M 258 28).toNatClampNeg)))) ∧ IR M1 ∧ (∀ k i, ¬ (k = 258 ∧ i = 29) ∧ ¬ (k = 258 ∧ i = 31) ∧ k ≠ 277 ∧ k ≠ 278 ∧ k ≠ 279 ∧ k ≠ 282 → M1 k i = M k i) ∧ ∀ k i, k ≠ 280 ∧ k ≠ 281 → L1 k i = L k i) := by
  refine enter_v RX11 rfl [(0, .ref (ad 258))] rfl (Nat.le_of_ble_eq_true rfl) (by decide +kernel) rfl ?_
  intro p e s m below meth c C hr
  have hF : ∀ k i, ¬ (k = 258 ∧ i = 29) ∧ ¬ (k = 258 ∧ i = 31) ∧ k ≠ 277 ∧ k ≠ 278 ∧ k ≠ 279 ∧ k ≠ 282 → M k i = M k i := fun _ _ _ => rfl
  have hG : ∀ k i, k ≠ 280 ∧ k ≠ 281 → L k i = L k i := fun _ _ _ => rfl
  obtain ⟨ca, cb⟩ := (show rg 0 10 (M 258 2) from hI 258 2)
  have n02 := ixn ca
  obtain ⟨sa, sb⟩ := (show rg 0 30 (M 258 28) from hI 258 28)
  have nsd := ixn sa
  have k29 : M 258 29 = M 258 29 := rfl
  have k31 : M 258 31 = M 258 31 := rfl
  have p280 : L 280 = L 280 := rfl
  have p281 : L 281 = L 281 := rfl
  have q277 : M 277 = M 277 := rfl
  have q278 : M 278 = M 278 := rfl
  have q279 : M 279 = M 279 := rfl
  have q282 : M 282 = M 282 := rfl
  refine g_iconst C 0 dX11_countByTallies_0 (by decide) ?_
  refine g_istore_n C [(1, .int 0), (0, .ref (ad 258))] dX11_countByTallies_1 (by decide) rfl ?_
  have zy1 : (0 : Int32).toInt = 0 := by decide
  refine g_loop (α := Int32 × MI × ML) (fun a => (31 - a.1.toInt).toNat) (fun a => (0 ≤ a.1.toInt) ∧ (a.1.toInt ≤ (M 258 28).toInt) ∧ ((a.2.1 258 29).toInt = a.1.toInt) ∧ ((a.2.1 258 31).toInt = a.1.toInt) ∧ ((M 258 28).toInt ≤ (cI (a.2.1 282) (M 258 2).toNatClampNeg : Int) + a.1.toInt) ∧ (NIn (a.2.1 282) (M 258 2).toInt) ∧ (a.2.1 282 = btI (M 260) (M 282) (L 284) (L 285) (M 258 2).toNatClampNeg a.1.toNatClampNeg) ∧ (RR a.2.1 (btS (M 260) (M 282) (L 284) (L 285) (M 258 2).toNatClampNeg a.1.toNatClampNeg) (oneR (btS (M 260) (M 282) (L 284) (L 285) (M 258 2).toNatClampNeg a.1.toNatClampNeg))) ∧ IR a.2.1 ∧ (∀ k i, ¬ (k = 258 ∧ i = 29) ∧ ¬ (k = 258 ∧ i = 31) ∧ k ≠ 277 ∧ k ≠ 278 ∧ k ≠ 279 ∧ k ≠ 282 → a.2.1 k i = M k i) ∧ (∀ k i, k ≠ 280 ∧ k ≠ 281 → a.2.2 k i = L k i)) (fun a => a.2.1) (fun a => a.2.2) (fun a => [(1, .int a.1), (0, .ref (ad 258))]) ((0 : Int32), M, L) ⟨by show 0 ≤ (0 : Int32).toInt; omega, by show (0 : Int32).toInt ≤ (M 258 28).toInt; omega, by show (M 258 29).toInt = (0 : Int32).toInt; omega, by show (M 258 31).toInt = (0 : Int32).toInt; omega, by show (M 258 28).toInt ≤ (cI (M 282) (M 258 2).toNatClampNeg : Int) + (0 : Int32).toInt; omega, by show NIn (M 282) (M 258 2).toInt; exact hNI0, by show M 282 = btI (M 260) (M 282) (L 284) (L 285) (M 258 2).toNatClampNeg (0 : Int32).toNatClampNeg; rfl, by show RR M (btS (M 260) (M 282) (L 284) (L 285) (M 258 2).toNatClampNeg (0 : Int32).toNatClampNeg) (oneR (btS (M 260) (M 282) (L 284) (L 285) (M 258 2).toNatClampNeg (0 : Int32).toNatClampNeg)); exact RP_0 (by omega) (by omega), hI, hF, hG⟩ rfl rfl rfl ?_
  rintro ⟨x1_2, M_2, L_2⟩ ⟨j2_0, j2_1, j2_2, j2_3, j2_4, j2_5, j2_6, j2_7, hI, hF, hG⟩ ih_2
  dsimp only at j2_0 j2_1 j2_2 j2_3 j2_4 j2_5 j2_6 j2_7 hI hF hG ih_2 ⊢
  have k29 : M_2 258 29 = M_2 258 29 := rfl
  have k31 : M_2 258 31 = M_2 258 31 := rfl
  have p280 : L_2 280 = L_2 280 := rfl
  have p281 : L_2 281 = L_2 281 := rfl
  have q277 : M_2 277 = M_2 277 := rfl
  have q278 : M_2 278 = M_2 278 := rfl
  have q279 : M_2 279 = M_2 279 := rfl
  have q282 : M_2 282 = M_2 282 := rfl
  have hNI := j2_5
  refine g_iload_n C 0 dX11_countByTallies_2 rfl ?_
  refine g_aload_n C 1 dX11_countByTallies_3 rfl ?_
  refine g_get C (.int (M_2 258 28)) 28 in_X11_countByTallies_11 (List.mem_of_getElem? (i := 1) rfl) (by decide) (ce_model ad cs _ _) rfl (by decide) rfl rfl dX11_countByTallies_4 ?_
  refine g_ni (fun v2 ev2 => ?_)
  have gv2 : v2 = M 258 28 := ev2.trans (hF 258 28 (by omega))
  have tv2 := congrArg Int32.toInt gv2
  obtain ⟨bv2, dv2⟩ := (show rg 0 30 v2 from (by rw [ev2]; exact hI 258 28))
  refine g_icmp_ge C 39 dX11_countByTallies_7 (by decide) (fun c3 => ?_) (fun c3 => ?_)
  ·
    have f4 := fle rfl rfl c3
    exact g_vret C hr ⟨(by have e9 : x1_2.toNatClampNeg = (M 258 28).toNatClampNeg := (by have := ixn (x := x1_2) (by omega); omega); rw [e9] at j2_7; exact j2_7), hI, hF, hG⟩ dX11_countByTallies_39
  ·
    have f5 := fnle rfl rfl c3
    refine g_aload_n C 1 dX11_countByTallies_10 rfl ?_
    refine g_callVi C (n := 0) (As := []) (st := []) (k_X11_greatest l D ad cs _ _  hI (DP_k hD (hF 258 2 (by omega)) (fun i => hF 260 i (by omega)))) gX11_countByTallies_X11_greatest rfl rfl rfl (by decide +kernel) ⟨Nat.le_of_ble_eq_true rfl, Nat.le_of_ble_eq_true rfl⟩ rfl (Nat.le_of_ble_eq_true rfl) ⟨Nat.zero_le _, Nat.zero_le _⟩ (by decide) (ce_model ad cs _ _) rfl rfl dX11_countByTallies_11 (fun r6 M7 L8 hr6 => ?_)
    obtain ⟨hq1, hq2, hr6⟩ := hr6
    obtain rfl := hq1.symm
    obtain rfl := hq2.symm
    obtain ⟨br6, ir6, xr6, yr6⟩ := hr6
    have w9 : (vR M_2 0 0).toInt = (M 258 2).toInt := congrArg Int32.toInt (hF 258 2 (by omega))
    have hc282 : M_2 282 = M_2 282 := q282
    have hpos : 0 < cI (M_2 282) (M 258 2).toNatClampNeg := by omega
    obtain ⟨c9, hc9, hi9⟩ := cI_ex _ hpos
    have hne9 := xr6 ⟨c9, by omega, by rw [hc282]; exact hi9⟩
    have nr9 := ixn (x := r6) (by omega)
    have hin9 := ir6 (by omega)
    rw [hc282] at hin9
    have hlt9 := hNI r6.toNatClampNeg (by omega) hin9
    have r260 : M_2 260 = M 260 := funext (fun i => hF 260 i (by omega))
    have r2 : M_2 258 2 = M 258 2 := hF 258 2 (by omega)
    rw [r260, hc282, r2] at yr6
    rw [j2_6, show L_2 284 = L 284 from funext (fun i => hG 284 i (by omega)), show L_2 285 = L 285 from funext (fun i => hG 285 i (by omega))] at yr6
    refine g_istore_n C [(2, .int r6), (1, .int x1_2), (0, .ref (ad 258))] dX11_countByTallies_14 (by decide) rfl ?_
    refine g_aload_n C 2 dX11_countByTallies_15 rfl ?_
    refine g_iconst C 1 dX11_countByTallies_16 (by decide) ?_
    refine g_iload_n C 0 dX11_countByTallies_17 rfl ?_
    refine g_callVv C (n := 2) (As := [.int 1, .int r6]) (st := []) (k_X11_happens l D ad cs _ _ 1 r6 hI (by omega)) gX11_countByTallies_X11_happens rfl rfl rfl (by decide +kernel) ⟨Nat.le_of_ble_eq_true rfl, Nat.le_of_ble_eq_true rfl⟩ rfl (Nat.le_of_ble_eq_true rfl) ⟨Nat.zero_le _, Nat.zero_le _⟩ (by decide) (ce_model ad cs _ _) rfl rfl dX11_countByTallies_18 (fun M10 L11 hr9 => ?_)
    obtain ⟨hr9, hI, hFr9, hGr9⟩ := hr9
    have hF : ∀ k i, ¬ (k = 258 ∧ i = 29) ∧ ¬ (k = 258 ∧ i = 31) ∧ k ≠ 277 ∧ k ≠ 278 ∧ k ≠ 279 ∧ k ≠ 282 → M10 k i = M k i := fun k i hk => by (rw [hFr9 k i (by omega)]; try exact hF k i hk)
    have hG : ∀ k i, k ≠ 280 ∧ k ≠ 281 → L11 k i = L k i := fun k i hk => by (rw [hGr9 k i (by omega)]; try exact hG k i hk)
    have k29 : M10 258 29 = M_2 258 29 := (hFr9 258 29 (by omega)).trans k29
    have k31 : M10 258 31 = M10 258 31 := rfl
    have kt29 := congrArg Int32.toInt k29
    have kt31 := congrArg Int32.toInt k31
    have p280 : L11 280 = L11 280 := rfl
    have p281 : L11 281 = L11 281 := rfl
    have q277 : M10 277 = M_2 277 := (funext (fun i => hFr9 277 i (by omega))).trans q277
    have q278 : M10 278 = M10 278 := rfl
    have q279 : M10 279 = M10 279 := rfl
    have q282 : M10 282 = M_2 282 := (funext (fun i => hFr9 282 i (by omega))).trans q282
    obtain ⟨hp31, hp278, hp279⟩ := hr9
    have hp29 : M10 258 29 = M_2 258 29 := hFr9 258 29 (by omega)
    have hp277 : M10 277 = M_2 277 := funext (fun i => hFr9 277 i (by omega))
    have hb9 : RP (M_2 258 29) (M_2 277) (M_2 258 31) (M_2 278) (M_2 279) _ _ := j2_7
    rw [← hp29, ← hp277] at hb9
    have rp1 := RP_note hb9 hp31 hp278 hp279
    refine g_aload_n C 2 dX11_countByTallies_21 rfl ?_
    refine g_iload_n C 0 dX11_countByTallies_22 rfl ?_
    refine g_callVv C (n := 1) (As := [.int r6]) (st := []) (k_X11_gives l D ad cs _ _ r6 hI (by omega)) gX11_countByTallies_X11_gives rfl rfl rfl (by decide +kernel) ⟨Nat.le_of_ble_eq_true rfl, Nat.le_of_ble_eq_true rfl⟩ rfl (Nat.le_of_ble_eq_true rfl) ⟨Nat.zero_le _, Nat.zero_le _⟩ (by decide) (ce_model ad cs _ _) rfl rfl dX11_countByTallies_23 (fun M13 L14 hr12 => ?_)
    obtain ⟨hr12, hI, hFr12, hGr12⟩ := hr12
    have hF : ∀ k i, ¬ (k = 258 ∧ i = 29) ∧ ¬ (k = 258 ∧ i = 31) ∧ k ≠ 277 ∧ k ≠ 278 ∧ k ≠ 279 ∧ k ≠ 282 → M13 k i = M k i := fun k i hk => by (rw [hFr12 k i (by omega)]; try exact hF k i hk)
    have hG : ∀ k i, k ≠ 280 ∧ k ≠ 281 → L14 k i = L k i := fun k i hk => by (rw [hGr12 k i trivial]; try exact hG k i hk)
    have k31 : M13 258 31 = M10 258 31 := (hFr12 258 31 (by omega)).trans k31
    have k29 : M13 258 29 = M13 258 29 := rfl
    have kt29 := congrArg Int32.toInt k29
    have kt31 := congrArg Int32.toInt k31
    have p280 : L14 280 = L11 280 := (funext (fun i => hGr12 280 i trivial)).trans p280
    have p281 : L14 281 = L11 281 := (funext (fun i => hGr12 281 i trivial)).trans p281
    have q277 : M13 277 = M13 277 := rfl
    have q278 : M13 278 = M10 278 := (funext (fun i => hFr12 278 i (by omega))).trans q278
    have q279 : M13 279 = M10 279 := (funext (fun i => hFr12 279 i (by omega))).trans q279
    have q282 : M13 282 = M_2 282 := (funext (fun i => hFr12 282 i (by omega))).trans q282
    obtain ⟨gv29, gv277⟩ := hr12
    have gv31 : M13 258 31 = M10 258 31 := hFr12 258 31 (by omega)
    have gv278 : M13 278 = M10 278 := funext (fun i => hFr12 278 i (by omega))
    have gv279 : M13 279 = M10 279 := funext (fun i => hFr12 279 i (by omega))
    have hb9 : RP (M10 258 29) (M10 277) (M10 258 31) (M10 278) (M10 279) _ _ := rp1
    rw [← gv31, ← gv278, ← gv279] at hb9
    have rp2 := RP_give hb9 gv29 gv277
    refine g_aload_n C 2 dX11_countByTallies_26 rfl ?_
    refine g_get C (.ref (ad 282)) 36 in_X11_countByTallies_11 (List.mem_of_getElem? (i := 2) rfl) (by decide) (ce_model ad cs _ _) rfl (by decide) rfl rfl dX11_countByTallies_27 ?_
    refine g_iload_n C 0 dX11_countByTallies_30 rfl ?_
    refine g_iconst C 0 dX11_countByTallies_31 (by decide) ?_
    refine g_zast C (by decide) (ce_m_isIn ad cs _ _) (by rw [sI_k]; rfl) (fin' (n := 10) rfl (by omega) (by omega)) dX11_countByTallies_32 ?_
    refine g_nm (fun M15 hM15 => ?_)
    have zy16 : (0 : Int32).toInt = 0 := by decide
    have hI : IR M15 := by rw [hM15]; exact hI.st (show bR 282 _ _ from trivial)
    have hF : ∀ k i, ¬ (k = 258 ∧ i = 29) ∧ ¬ (k = 258 ∧ i = 31) ∧ k ≠ 277 ∧ k ≠ 278 ∧ k ≠ 279 ∧ k ≠ 282 → M15 k i = M k i := fun k i hk => by (rw [hM15, sI_at, if_neg (by omega)]; try exact hF k i hk)
    have k29 : M15 258 29 = M13 258 29 := by rw [hM15, sI_n _ _ _ (by decide)]; try exact k29
    have k31 : M15 258 31 = M10 258 31 := by rw [hM15, sI_n _ _ _ (by decide)]; try exact k31
    have q277 : M15 277 = M13 277 := by rw [hM15, sI_n _ _ _ (by decide)]; try exact q277
    have q278 : M15 278 = M10 278 := by rw [hM15, sI_n _ _ _ (by decide)]; try exact q278
    have q279 : M15 279 = M10 279 := by rw [hM15, sI_n _ _ _ (by decide)]; try exact q279
    have h282 : M15 282 = upd (M_2 282) r6.toNatClampNeg 0 := by rw [hM15, sI_k, q282]; rfl
    have hcu := cI_upd (T := M_2 282) (b := r6.toNatClampNeg) hin9 (M 258 2).toNatClampNeg
    rw [if_pos (by omega), ← h282] at hcu
    have hNI2 : NIn (M15 282) (M 258 2).toInt := by rw [h282]; exact NIn_upd hNI _
    have q282 : M15 282 = M15 282 := rfl
    have e1 : M15 258 = M13 258 := by rw [hM15, sI_n _ _ _ (by decide)]
    have e277 : M15 277 = M13 277 := by rw [hM15, sI_n _ _ _ (by decide)]
    have e278 : M15 278 = M13 278 := by rw [hM15, sI_n _ _ _ (by decide)]
    have e279 : M15 279 = M13 279 := by rw [hM15, sI_n _ _ _ (by decide)]
    have rp3 : RP (M13 258 29) (M13 277) (M13 258 31) (M13 278) (M13 279) _ _ := rp2
    rw [← e1, ← e277, ← e278, ← e279] at rp3
    obtain ⟨v17, ev17⟩ : ∃ y : Int32, y = x1_2 + 1 := ⟨_, rfl⟩
    try have fv17 := fadd rfl (by decide : (1 : Int32).toInt = 1) ev17 (by omega) (by omega)
    refine g_iinc C 1 v17 [(1, .int v17), (2, .int r6), (0, .ref (ad 258))] dX11_countByTallies_33 rfl (by rw [ev17]; rfl) (by decide) rfl ?_
    refine g_goto C 2 dX11_countByTallies_36 (by decide) ?_
    refine g_lv [0, 2] [(1, .int v17), (0, .ref (ad 258))] rfl ?_
    have k29t := congrArg Int32.toInt k29
    have k31t := congrArg Int32.toInt k31
    have n1_ := ixn (x := x1_2) (by omega)
    have nv := ixn (x := v17) (by omega)
    have iv : v17.toNatClampNeg = x1_2.toNatClampNeg + 1 := by omega
    have eI : M15 282 = btI (M 260) (M 282) (L 284) (L 285) (M 258 2).toNatClampNeg v17.toNatClampNeg := by rw [h282, j2_6, iv, yr6]; rfl
    have eR : RR M15 (btS (M 260) (M 282) (L 284) (L 285) (M 258 2).toNatClampNeg v17.toNatClampNeg) (oneR (btS (M 260) (M 282) (L 284) (L 285) (M 258 2).toNatClampNeg v17.toNatClampNeg)) := by
      rw [iv]
      show RR M15 (btS (M 260) (M 282) (L 284) (L 285) (M 258 2).toNatClampNeg x1_2.toNatClampNeg ++ [grF (M 260) (btI (M 260) (M 282) (L 284) (L 285) (M 258 2).toNatClampNeg x1_2.toNatClampNeg) (L 284) (L 285) (M 258 2).toNatClampNeg]) (oneR (btS (M 260) (M 282) (L 284) (L 285) (M 258 2).toNatClampNeg x1_2.toNatClampNeg ++ [grF (M 260) (btI (M 260) (M 282) (L 284) (L 285) (M 258 2).toNatClampNeg x1_2.toNatClampNeg) (L 284) (L 285) (M 258 2).toNatClampNeg]))
      rw [oneR_app, ← yr6]
      exact rp3
    exact ih_2 (v17, M15, L14) ⟨by show 0 ≤ v17.toInt; omega, by show v17.toInt ≤ (M 258 28).toInt; omega, by show (M15 258 29).toInt = v17.toInt; omega, by show (M15 258 31).toInt = v17.toInt; omega, by show (M 258 28).toInt ≤ (cI (M15 282) (M 258 2).toNatClampNeg : Int) + v17.toInt; omega, by show NIn (M15 282) (M 258 2).toInt; exact hNI2, by show M15 282 = btI (M 260) (M 282) (L 284) (L 285) (M 258 2).toNatClampNeg v17.toNatClampNeg; exact eI, by show RR M15 (btS (M 260) (M 282) (L 284) (L 285) (M 258 2).toNatClampNeg v17.toNatClampNeg) (oneR (btS (M 260) (M 282) (L 284) (L 285) (M 258 2).toNatClampNeg v17.toNatClampNeg)); exact eR, hI, hF, hG⟩ (by show (31 - v17.toInt).toNat < (31 - x1_2.toInt).toNat; omega)
set_option maxHeartbeats 4000000 in
set_option maxRecDepth 100000 in
theorem k_X11_tallyPoints (l : Launch) (D : va_G) (ad : Nat → Nat) (cs : Nat → ClassId) (M : MI) (L : ML) (x : Int32) (hI : IR M) (hs0 : (M 258 25).toInt = 0) (hX : hasX (vR M) (M 258 27)) (hB8 : ∀ i : Nat, (vR M 8 i).toInt = -9 ∨ (0 ≤ (vR M 8 i).toInt ∧ (vR M 8 i).toInt ≤ 59)) (hl4 : ∀ b : Nat, b < 60 → (vR M 4 b).toInt ≤ (vR M 0 0).toInt) : Cv l yX11_tallyPoints wsX11_tallyPoints ({ frames := 3, cells := 0, slots := 0, locals := 80 }) D ad cs [.ref (ad 258), .int x] M L (fun M1 L1 => (TLo L1 ∧ (M1 258 25).toInt = 0 ∧ ∀ c, c < 10 → L1 284 c = foP (stP (vR M) (ptX (vR M) x) (vR M 0 0).toNatClampNeg) (fun i => vR M 8 (40 * (M 258 27).toNatClampNeg + i)) (vR M 7 (M 258 27).toNatClampNeg).toNatClampNeg (fun _ => 0) c ∧ L1 285 c = 1) ∧ IR M1 ∧ (∀ k i, ¬ (k = 258 ∧ i = 25) → M1 k i = M k i) ∧ ∀ k i, ¬ (k = 258 ∧ i = 23) ∧ ¬ (k = 258 ∧ i = 24) ∧ k ≠ 284 ∧ k ≠ 285 → L1 k i = L k i) := by
  refine enter_v RX11 rfl [(0, .ref (ad 258)), (1, .int x)] rfl (Nat.le_of_ble_eq_true rfl) (by decide +kernel) rfl ?_
  intro p e s m below meth c C hr
  have hF : ∀ k i, ¬ (k = 258 ∧ i = 25) → M k i = M k i := fun _ _ _ => rfl
  have hG : ∀ k i, ¬ (k = 258 ∧ i = 23) ∧ ¬ (k = 258 ∧ i = 24) ∧ k ≠ 284 ∧ k ≠ 285 → L k i = L k i := fun _ _ _ => rfl
  have hI0 := hI
  have hX1 := hX.1
  have hX2 := hX.2
  have w2_ : (vR M 0 2).toInt = (M 258 9).toInt := rfl
  obtain ⟨y2a, y2b⟩ := (show rg 0 8 (M 258 9) from hI 258 9)
  obtain ⟨y0a, y0b⟩ := (show rg 0 10 (vR M 0 0) from hI 258 2)
  have w0_ : (vR M 0 0).toInt = (M 258 2).toInt := rfl
  obtain ⟨sza, szb⟩ := (show rg 0 40 (vR M 7 (M 258 27).toNatClampNeg) from hI 266 _)
  have nsz := ixn sza
  have nX := ixn hX1
  have n00 := ixn y0a
  have hpt := ptX_b (V := vR M) (x := x) (fun i => hI 264 i) (fun b => hI 263 b) ⟨y0a, y0b⟩ hl4
  have k25 : M 258 25 = M 258 25 := rfl
  have l23 : L 258 23 = L 258 23 := rfl
  have l24 : L 258 24 = L 258 24 := rfl
  have p284 : L 284 = L 284 := rfl
  have p285 : L 285 = L 285 := rfl
  refine g_aload_n C 0 dX11_tallyPoints_0 rfl ?_
  refine g_callVv C (n := 0) (As := []) (st := []) (s_X11_noTallies l D ad cs _ _  hI ) gX11_tallyPoints_X11_noTallies rfl rfl rfl (by decide +kernel) ⟨Nat.le_of_ble_eq_true rfl, Nat.le_of_ble_eq_true rfl⟩ rfl (Nat.le_of_ble_eq_true rfl) ⟨Nat.zero_le _, Nat.zero_le _⟩ (by decide) (ce_model ad cs _ _) rfl rfl dX11_tallyPoints_1 (fun M2 L3 hr1 => ?_)
  obtain ⟨hr1, hI, hFr1, hGr1⟩ := hr1
  have hF : ∀ k i, ¬ (k = 258 ∧ i = 25) → M2 k i = M k i := fun k i hk => by (rw [hFr1 k i trivial]; try exact hF k i hk)
  have hG : ∀ k i, ¬ (k = 258 ∧ i = 23) ∧ ¬ (k = 258 ∧ i = 24) ∧ k ≠ 284 ∧ k ≠ 285 → L3 k i = L k i := fun k i hk => by (rw [hGr1 k i (by omega)]; try exact hG k i hk)
  have k25 : M2 258 25 = M 258 25 := (hFr1 258 25 trivial).trans k25
  have kt25 := congrArg Int32.toInt k25
  have l23 : L3 258 23 = L 258 23 := (hGr1 258 23 (by omega)).trans l23
  have l24 : L3 258 24 = L 258 24 := (hGr1 258 24 (by omega)).trans l24
  have p284 : L3 284 = L3 284 := rfl
  have p285 : L3 285 = L3 285 := rfl
  have hnt := hr1
  refine g_iconst C 0 dX11_tallyPoints_4 (by decide) ?_
  refine g_istore_n C [(2, .int 0), (0, .ref (ad 258)), (1, .int x)] dX11_tallyPoints_5 (by decide) rfl ?_
  have zy4 : (0 : Int32).toInt = 0 := by decide
  refine g_loop (α := Int32 × MI × ML) (fun a => (41 - a.1.toInt).toNat) (fun a => (0 ≤ a.1.toInt) ∧ (a.1.toInt ≤ (vR M 7 (M 258 27).toNatClampNeg).toInt) ∧ (TLo a.2.2) ∧ ((a.2.1 258 25).toInt = 0) ∧ (∀ c, c < 10 → a.2.2 284 c = foP (stP (vR M) (ptX (vR M) x) (vR M 0 0).toNatClampNeg) (fun i => vR M 8 (40 * (M 258 27).toNatClampNeg + i)) a.1.toNatClampNeg (fun _ => 0) c ∧ a.2.2 285 c = 1) ∧ IR a.2.1 ∧ (∀ k i, ¬ (k = 258 ∧ i = 25) → a.2.1 k i = M k i) ∧ (∀ k i, ¬ (k = 258 ∧ i = 23) ∧ ¬ (k = 258 ∧ i = 24) ∧ k ≠ 284 ∧ k ≠ 285 → a.2.2 k i = L k i)) (fun a => a.2.1) (fun a => a.2.2) (fun a => [(2, .int a.1), (0, .ref (ad 258)), (1, .int x)]) ((0 : Int32), M2, L3) ⟨by show 0 ≤ (0 : Int32).toInt; omega, by show (0 : Int32).toInt ≤ (vR M 7 (M 258 27).toNatClampNeg).toInt; omega, by show TLo L3; exact TLo_of hnt, by show (M2 258 25).toInt = 0; rw [k25]; exact hs0, by show ∀ c, c < 10 → L3 284 c = foP (stP (vR M) (ptX (vR M) x) (vR M 0 0).toNatClampNeg) (fun i => vR M 8 (40 * (M 258 27).toNatClampNeg + i)) (0 : Int32).toNatClampNeg (fun _ => 0) c ∧ L3 285 c = 1; exact fun c hc => ⟨(hnt c hc).1, (hnt c hc).2⟩, hI, hF, hG⟩ rfl rfl rfl ?_
  rintro ⟨x2_6, M_6, L_6⟩ ⟨j6_0, j6_1, j6_2, j6_3, j6_4, hI, hF, hG⟩ ih_6
  dsimp only at j6_0 j6_1 j6_2 j6_3 j6_4 hI hF hG ih_6 ⊢
  have k25 : M_6 258 25 = M_6 258 25 := rfl
  have l23 : L_6 258 23 = L_6 258 23 := rfl
  have l24 : L_6 258 24 = L_6 258 24 := rfl
  have p284 : L_6 284 = L_6 284 := rfl
  have p285 : L_6 285 = L_6 285 := rfl
  have n2 := ixn (x := x2_6) (by omega)
  have hMv : vR M_6 = vR M := vR_fr (fun k i hk => hF k i (by omega))
  have h27 : M_6 258 27 = M 258 27 := hF 258 27 (by omega)
  have hX6 : hasX (vR M_6) (M_6 258 27) := by rw [hMv, h27]; exact hX
  refine g_iload_n C 0 dX11_tallyPoints_6 rfl ?_
  refine g_aload_n C 1 dX11_tallyPoints_7 rfl ?_
  refine g_get C (.ref (ad 266)) 11 in_X11_tallyPoints_11 (List.mem_of_getElem? (i := 1) rfl) (by decide) (ce_model ad cs _ _) rfl (by decide) rfl rfl dX11_tallyPoints_8 ?_
  refine g_aload_n C 1 dX11_tallyPoints_11 rfl ?_
  refine g_get C (.int (M_6 258 27)) 27 in_X11_tallyPoints_11 (List.mem_of_getElem? (i := 2) rfl) (by decide) (ce_model ad cs _ _) rfl (by decide) rfl rfl dX11_tallyPoints_12 ?_
  refine g_ni (fun v5 ev5 => ?_)
  have gv5 : v5 = M 258 27 := ev5.trans (hF 258 27 (by omega))
  have tv5 := congrArg Int32.toInt gv5
  obtain ⟨bv5, dv5⟩ := (show rg 0 7 v5 from (by rw [ev5]; exact hI 258 27))
  refine g_iald C (by decide) (ce_m_boxSize ad cs _ _) (fin' (n := 8) rfl (by omega) (by omega)) dX11_tallyPoints_15 ?_
  refine g_ni (fun v6 ev6 => ?_)
  have gv6 : v6 = M 266 v5.toNatClampNeg := ev6.trans (hF 266 v5.toNatClampNeg (by omega))
  have tv6 := congrArg Int32.toInt gv6
  obtain ⟨bv6, dv6⟩ := (show rg 0 40 v6 from (by rw [ev6]; exact hI 266 v5.toNatClampNeg))
  have ts9 : v6.toInt = (vR M 7 (M 258 27).toNatClampNeg).toInt := by rw [gv6, gv5]; rfl
  refine g_icmp_ge C 132 dX11_tallyPoints_16 (by decide) (fun c7 => ?_) (fun c7 => ?_)
  ·
    have f8 := fle rfl rfl c7
    exact g_vret C hr ⟨(by have e9 : x2_6.toNatClampNeg = (vR M 7 (M 258 27).toNatClampNeg).toNatClampNeg := (by omega); rw [e9] at j6_4; exact ⟨j6_2, j6_3, j6_4⟩), hI, hF, hG⟩ dX11_tallyPoints_132
  ·
    have f9 := fnle rfl rfl c7
    refine g_aload_n C 1 dX11_tallyPoints_19 rfl ?_
    refine g_iload_n C 0 dX11_tallyPoints_20 rfl ?_
    refine g_callVi C (n := 1) (As := [.int x2_6]) (st := []) (k_X11_ballotAt l D ad cs _ _ x2_6 hI ⟨by omega, by omega⟩ hX6) gX11_tallyPoints_X11_ballotAt rfl rfl rfl (by decide +kernel) ⟨Nat.le_of_ble_eq_true rfl, Nat.le_of_ble_eq_true rfl⟩ rfl (Nat.le_of_ble_eq_true rfl) ⟨Nat.zero_le _, Nat.zero_le _⟩ (by decide) (ce_model ad cs _ _) rfl rfl dX11_tallyPoints_21 (fun r10 M11 L12 hr10 => ?_)
    obtain ⟨hq1, hq2, hr10⟩ := hr10
    obtain rfl := hq1.symm
    obtain rfl := hq2.symm
    rw [hMv, h27] at hr10
    have tr10 := congrArg Int32.toInt hr10
    have hB9 := hB8 (40 * (M 258 27).toNatClampNeg + x2_6.toNatClampNeg)
    refine g_istore_n C [(3, .int r10), (2, .int x2_6), (0, .ref (ad 258)), (1, .int x)] dX11_tallyPoints_24 (by decide) rfl ?_
    refine g_iconst C 0 dX11_tallyPoints_25 (by decide) ?_
    refine g_istore C [(4, .int 0), (3, .int r10), (2, .int x2_6), (0, .ref (ad 258)), (1, .int x)] dX11_tallyPoints_26 (by decide) rfl ?_
    have zy13 : (0 : Int32).toInt = 0 := by decide
    refine g_loop (α := Int32 × MI × ML) (fun a => (11 - a.1.toInt).toNat) (fun a => (0 ≤ a.1.toInt) ∧ (a.1.toInt ≤ (vR M 0 0).toInt) ∧ (TLo a.2.2) ∧ ((a.2.1 258 25).toInt = 0) ∧ (∀ c, c < 10 → a.2.2 284 c = (if c < a.1.toNatClampNeg then foP (stP (vR M) (ptX (vR M) x) (vR M 0 0).toNatClampNeg) (fun i => vR M 8 (40 * (M 258 27).toNatClampNeg + i)) x2_6.toNatClampNeg (fun _ => 0) c + (vR M 3 (vR M 8 (40 * (M 258 27).toNatClampNeg + x2_6.toNatClampNeg)).toNatClampNeg).toInt64 * ((ptX (vR M) x) (vR M 8 (40 * (M 258 27).toNatClampNeg + x2_6.toNatClampNeg)).toNatClampNeg c).toInt64 else foP (stP (vR M) (ptX (vR M) x) (vR M 0 0).toNatClampNeg) (fun i => vR M 8 (40 * (M 258 27).toNatClampNeg + i)) x2_6.toNatClampNeg (fun _ => 0) c) ∧ a.2.2 285 c = 1) ∧ (a.1.toInt = 0 ∨ (vR M 8 (40 * (M 258 27).toNatClampNeg + x2_6.toNatClampNeg)).toInt ≠ -9) ∧ IR a.2.1 ∧ (∀ k i, ¬ (k = 258 ∧ i = 25) → a.2.1 k i = M k i) ∧ (∀ k i, ¬ (k = 258 ∧ i = 23) ∧ ¬ (k = 258 ∧ i = 24) ∧ k ≠ 284 ∧ k ≠ 285 → a.2.2 k i = L k i)) (fun a => a.2.1) (fun a => a.2.2) (fun a => [(4, .int a.1), (3, .int r10), (2, .int x2_6), (0, .ref (ad 258)), (1, .int x)]) ((0 : Int32), M_6, L_6) ⟨by show 0 ≤ (0 : Int32).toInt; omega, by show (0 : Int32).toInt ≤ (vR M 0 0).toInt; omega, by show TLo L_6; exact j6_2, by show (M_6 258 25).toInt = 0; exact j6_3, by show ∀ c, c < 10 → L_6 284 c = (if c < (0 : Int32).toNatClampNeg then foP (stP (vR M) (ptX (vR M) x) (vR M 0 0).toNatClampNeg) (fun i => vR M 8 (40 * (M 258 27).toNatClampNeg + i)) x2_6.toNatClampNeg (fun _ => 0) c + (vR M 3 (vR M 8 (40 * (M 258 27).toNatClampNeg + x2_6.toNatClampNeg)).toNatClampNeg).toInt64 * ((ptX (vR M) x) (vR M 8 (40 * (M 258 27).toNatClampNeg + x2_6.toNatClampNeg)).toNatClampNeg c).toInt64 else foP (stP (vR M) (ptX (vR M) x) (vR M 0 0).toNatClampNeg) (fun i => vR M 8 (40 * (M 258 27).toNatClampNeg + i)) x2_6.toNatClampNeg (fun _ => 0) c) ∧ L_6 285 c = 1; intro c hc; rw [if_neg (by show ¬ c < 0; omega)]; exact j6_4 c hc, by show (0 : Int32).toInt = 0 ∨ (vR M 8 (40 * (M 258 27).toNatClampNeg + x2_6.toNatClampNeg)).toInt ≠ -9; omega, hI, hF, hG⟩ rfl rfl rfl ?_
    rintro ⟨x4_28, M_28, L_28⟩ ⟨j28_0, j28_1, j28_2, j28_3, j28_4, j28_5, hI, hF, hG⟩ ih_28
    dsimp only at j28_0 j28_1 j28_2 j28_3 j28_4 j28_5 hI hF hG ih_28 ⊢
    have k25 : M_28 258 25 = M_28 258 25 := rfl
    have l23 : L_28 258 23 = L_28 258 23 := rfl
    have l24 : L_28 258 24 = L_28 258 24 := rfl
    have p284 : L_28 284 = L_28 284 := rfl
    have p285 : L_28 285 = L_28 285 := rfl
    have n4 := ixn (x := x4_28) (by omega)
    have hMv : vR M_28 = vR M := vR_fr (fun k i hk => hF k i (by omega))
    refine g_iload C 0 dX11_tallyPoints_28 rfl ?_
    refine g_aload_n C 3 dX11_tallyPoints_30 rfl ?_
    refine g_get C (.int (M_28 258 2)) 2 in_X11_tallyPoints_11 (List.mem_of_getElem? (i := 3) rfl) (by decide) (ce_model ad cs _ _) rfl (by decide) rfl rfl dX11_tallyPoints_31 ?_
    refine g_ni (fun v14 ev14 => ?_)
    have gv14 : v14 = M 258 2 := ev14.trans (hF 258 2 (by omega))
    have tv14 := congrArg Int32.toInt gv14
    obtain ⟨bv14, dv14⟩ := (show rg 0 10 v14 from (by rw [ev14]; exact hI 258 2))
    refine g_icmp_ge C 126 dX11_tallyPoints_34 (by decide) (fun c15 => ?_) (fun c15 => ?_)
    ·
      have f16 := fle rfl rfl c15
      obtain ⟨v17, ev17⟩ : ∃ y : Int32, y = x2_6 + 1 := ⟨_, rfl⟩
      try have fv17 := fadd rfl (by decide : (1 : Int32).toInt = 1) ev17 (by omega) (by omega)
      refine g_iinc C 2 v17 [(2, .int v17), (4, .int x4_28), (3, .int r10), (0, .ref (ad 258)), (1, .int x)] dX11_tallyPoints_126 rfl (by rw [ev17]; rfl) (by decide) rfl ?_
      refine g_goto C 6 dX11_tallyPoints_129 (by decide) ?_
      refine g_lv [0, 3, 4] [(2, .int v17), (0, .ref (ad 258)), (1, .int x)] rfl ?_
      have nv := ixn (x := v17) (by omega)
      have iv : v17.toNatClampNeg = x2_6.toNatClampNeg + 1 := by omega
      have ar9 : ∀ c, c < 10 → L_28 284 c = foP (stP (vR M) (ptX (vR M) x) (vR M 0 0).toNatClampNeg) (fun i => vR M 8 (40 * (M 258 27).toNatClampNeg + i)) (x2_6.toNatClampNeg + 1) (fun _ => 0) c ∧ L_28 285 c = 1 := by
        intro c hc
        refine ⟨?_, (j28_4 c hc).2⟩
        rw [(j28_4 c hc).1]
        by_cases e9 : (vR M 8 (40 * (M 258 27).toNatClampNeg + x2_6.toNatClampNeg)).toInt = -9
        · rw [foP_e (p := (fun i => vR M 8 (40 * (M 258 27).toNatClampNeg + i))) e9, if_neg (by omega)]
        · rw [foP_s (p := (fun i => vR M 8 (40 * (M 258 27).toNatClampNeg + i))) e9]
          show _ = (if c < (vR M 0 0).toNatClampNeg then foP (stP (vR M) (ptX (vR M) x) (vR M 0 0).toNatClampNeg) (fun i => vR M 8 (40 * (M 258 27).toNatClampNeg + i)) x2_6.toNatClampNeg (fun _ => 0) c + (vR M 3 (vR M 8 (40 * (M 258 27).toNatClampNeg + x2_6.toNatClampNeg)).toNatClampNeg).toInt64 * ((ptX (vR M) x) (vR M 8 (40 * (M 258 27).toNatClampNeg + x2_6.toNatClampNeg)).toNatClampNeg c).toInt64 else foP (stP (vR M) (ptX (vR M) x) (vR M 0 0).toNatClampNeg) (fun i => vR M 8 (40 * (M 258 27).toNatClampNeg + i)) x2_6.toNatClampNeg (fun _ => 0) c)
          by_cases e8 : c < (vR M 0 0).toNatClampNeg
          · rw [if_pos (by omega), if_pos e8]
          · rw [if_neg (by omega), if_neg e8]
      exact ih_6 (v17, M_28, L_28) ⟨by show 0 ≤ v17.toInt; omega, by show v17.toInt ≤ (vR M 7 (M 258 27).toNatClampNeg).toInt; omega, by show TLo L_28; exact j28_2, by show (M_28 258 25).toInt = 0; exact j28_3, by show ∀ c, c < 10 → L_28 284 c = foP (stP (vR M) (ptX (vR M) x) (vR M 0 0).toNatClampNeg) (fun i => vR M 8 (40 * (M 258 27).toNatClampNeg + i)) v17.toNatClampNeg (fun _ => 0) c ∧ L_28 285 c = 1; rw [iv]; exact ar9, hI, hF, hG⟩ (by show (41 - v17.toInt).toNat < (41 - x2_6.toInt).toNat; omega)
    ·
      have f18 := fnle rfl rfl c15
      refine g_iload_n C 1 dX11_tallyPoints_37 rfl ?_
      refine g_bipush C (-9) dX11_tallyPoints_38 (by decide) ?_
      refine g_icmp_eq C 126 dX11_tallyPoints_40 (by decide) (fun c19 => ?_) (fun c19 => ?_)
      ·
        have f20 := feq rfl (by decide : ((-9) : Int32).toInt = (-9)) c19
        obtain ⟨v21, ev21⟩ : ∃ y : Int32, y = x2_6 + 1 := ⟨_, rfl⟩
        try have fv21 := fadd rfl (by decide : (1 : Int32).toInt = 1) ev21 (by omega) (by omega)
        refine g_iinc C 2 v21 [(2, .int v21), (4, .int x4_28), (3, .int r10), (0, .ref (ad 258)), (1, .int x)] dX11_tallyPoints_126 rfl (by rw [ev21]; rfl) (by decide) rfl ?_
        refine g_goto C 6 dX11_tallyPoints_129 (by decide) ?_
        refine g_lv [0, 3, 4] [(2, .int v21), (0, .ref (ad 258)), (1, .int x)] rfl ?_
        have nv := ixn (x := v21) (by omega)
        have iv : v21.toNatClampNeg = x2_6.toNatClampNeg + 1 := by omega
        have ar9 : ∀ c, c < 10 → L_28 284 c = foP (stP (vR M) (ptX (vR M) x) (vR M 0 0).toNatClampNeg) (fun i => vR M 8 (40 * (M 258 27).toNatClampNeg + i)) (x2_6.toNatClampNeg + 1) (fun _ => 0) c ∧ L_28 285 c = 1 := by
          intro c hc
          refine ⟨?_, (j28_4 c hc).2⟩
          rw [(j28_4 c hc).1]
          by_cases e9 : (vR M 8 (40 * (M 258 27).toNatClampNeg + x2_6.toNatClampNeg)).toInt = -9
          · rw [foP_e (p := (fun i => vR M 8 (40 * (M 258 27).toNatClampNeg + i))) e9, if_neg (by omega)]
          · rw [foP_s (p := (fun i => vR M 8 (40 * (M 258 27).toNatClampNeg + i))) e9]
            show _ = (if c < (vR M 0 0).toNatClampNeg then foP (stP (vR M) (ptX (vR M) x) (vR M 0 0).toNatClampNeg) (fun i => vR M 8 (40 * (M 258 27).toNatClampNeg + i)) x2_6.toNatClampNeg (fun _ => 0) c + (vR M 3 (vR M 8 (40 * (M 258 27).toNatClampNeg + x2_6.toNatClampNeg)).toNatClampNeg).toInt64 * ((ptX (vR M) x) (vR M 8 (40 * (M 258 27).toNatClampNeg + x2_6.toNatClampNeg)).toNatClampNeg c).toInt64 else foP (stP (vR M) (ptX (vR M) x) (vR M 0 0).toNatClampNeg) (fun i => vR M 8 (40 * (M 258 27).toNatClampNeg + i)) x2_6.toNatClampNeg (fun _ => 0) c)
            by_cases e8 : c < (vR M 0 0).toNatClampNeg
            · rw [if_pos (by omega), if_pos e8]
            · rw [if_neg (by omega), if_neg e8]
        exact ih_6 (v21, M_28, L_28) ⟨by show 0 ≤ v21.toInt; omega, by show v21.toInt ≤ (vR M 7 (M 258 27).toNatClampNeg).toInt; omega, by show TLo L_28; exact j28_2, by show (M_28 258 25).toInt = 0; exact j28_3, by show ∀ c, c < 10 → L_28 284 c = foP (stP (vR M) (ptX (vR M) x) (vR M 0 0).toNatClampNeg) (fun i => vR M 8 (40 * (M 258 27).toNatClampNeg + i)) v21.toNatClampNeg (fun _ => 0) c ∧ L_28 285 c = 1; rw [iv]; exact ar9, hI, hF, hG⟩ (by show (41 - v21.toInt).toNat < (41 - x2_6.toInt).toNat; omega)
      ·
        have f22 := fne rfl (by decide : ((-9) : Int32).toInt = (-9)) c19
        have nb9 := ixn (x := r10) (by omega)
        have nb8 := ixn (x := (vR M 8 (40 * (M 258 27).toNatClampNeg + x2_6.toNatClampNeg))) (by omega)
        have hpb := hpt (vR M 8 (40 * (M 258 27).toNatClampNeg + x2_6.toNatClampNeg)).toNatClampNeg x4_28.toNatClampNeg (by omega) (by omega)
        have hpp : rg 0 100000 (vR M 3 (vR M 8 (40 * (M 258 27).toNatClampNeg + x2_6.toNatClampNeg)).toNatClampNeg) := hI0 262 _
        refine g_iload_n C 4 dX11_tallyPoints_43 rfl ?_
        refine g_if_eq C 57 dX11_tallyPoints_44 (by decide) (fun c23 => ?_) (fun c23 => ?_)
        ·
          have f24 := feq rfl (by decide : (0 : Int32).toInt = 0) c23
          refine g_aload_n C 3 dX11_tallyPoints_57 rfl ?_
          refine g_get C (.ref (ad 264)) 8 in_X11_tallyPoints_11 (List.mem_of_getElem? (i := 4) rfl) (by decide) (ce_model ad cs _ _) rfl (by decide) rfl rfl dX11_tallyPoints_58 ?_
          refine g_bipush C 10 dX11_tallyPoints_61 (by decide) ?_
          refine g_iload_n C 1 dX11_tallyPoints_63 rfl ?_
          refine g_imul C dX11_tallyPoints_64 ?_
          refine g_ni (fun v25 ev25 => ?_)
          try have fv25 := fmul (by decide : (10 : Int32).toInt = 10) rfl ev25 (by omega) (by omega)
          refine g_iload C 0 dX11_tallyPoints_65 rfl ?_
          refine g_iadd C dX11_tallyPoints_67 ?_
          refine g_ni (fun v26 ev26 => ?_)
          try have fv26 := fadd rfl rfl ev26 (by omega) (by omega)
          refine g_iald C (by decide) (ce_m_marks ad cs _ _) (fin' (n := 600) rfl (by omega) (by omega)) dX11_tallyPoints_68 ?_
          have nr10 := ixn (x := r10) (by omega)
          have nx4_28 := ixn (x := x4_28) (by omega)
          have nv26 := ixn (x := v26) (by omega)
          have iv26 : v26.toNatClampNeg = 10 * r10.toNatClampNeg + x4_28.toNatClampNeg := by omega
          refine g_ni (fun v27 ev27 => ?_)
          have gv27 : v27 = M 264 v26.toNatClampNeg := ev27.trans (hF 264 v26.toNatClampNeg (by omega))
          have gv27 := cg1 (f := M 264) gv27 iv26
          have tv27 := congrArg Int32.toInt gv27
          obtain ⟨bv27, dv27⟩ := (show rg 0 9 v27 from (by rw [ev27]; exact hI 264 v26.toNatClampNeg))
          refine g_istore C [(5, .int v27), (4, .int x4_28), (3, .int r10), (2, .int x2_6), (0, .ref (ad 258)), (1, .int x)] dX11_tallyPoints_69 (by decide) rfl ?_
          refine g_iload_n C 5 dX11_tallyPoints_71 rfl ?_
          refine g_if_ne C 80 dX11_tallyPoints_72 (by decide) (fun c28 => ?_) (fun c28 => ?_)
          ·
            have f29 := fne rfl (by decide : (0 : Int32).toInt = 0) c28
            exfalso; omega
          ·
            have f30 := feq rfl (by decide : (0 : Int32).toInt = 0) c28
            refine g_iload C 0 dX11_tallyPoints_75 rfl ?_
            refine g_goto C 100 dX11_tallyPoints_77 (by decide) ?_
            refine g_istore C [(6, .int v27), (5, .int v27), (4, .int x4_28), (3, .int r10), (2, .int x2_6), (0, .ref (ad 258)), (1, .int x)] dX11_tallyPoints_100 (by decide) rfl ?_
            have ep9 : v27 = (ptX (vR M) x) (vR M 8 (40 * (M 258 27).toNatClampNeg + x2_6.toNatClampNeg)).toNatClampNeg x4_28.toNatClampNeg := by
              unfold ptX
              rw [if_pos (by omega)]; unfold ptsV; simp only [gv27, ev26, ev25, gv14, gv6, gv5, hr10]; try rfl
            refine g_aload_n C 5 dX11_tallyPoints_102 rfl ?_
            refine g_iload C 2 dX11_tallyPoints_103 rfl ?_
            refine g_aload_n C 5 dX11_tallyPoints_105 rfl ?_
            refine g_get C (.ref (ad 262)) 6 in_X11_tallyPoints_11 (List.mem_of_getElem? (i := 5) rfl) (by decide) (ce_model ad cs _ _) rfl (by decide) rfl rfl dX11_tallyPoints_106 ?_
            refine g_iload_n C 3 dX11_tallyPoints_109 rfl ?_
            refine g_iald C (by decide) (ce_m_papersOf ad cs _ _) (fin' (n := 60) rfl (by omega) (by omega)) dX11_tallyPoints_110 ?_
            refine g_ni (fun v31 ev31 => ?_)
            have gv31 : v31 = M 262 r10.toNatClampNeg := ev31.trans (hF 262 r10.toNatClampNeg (by omega))
            have tv31 := congrArg Int32.toInt gv31
            obtain ⟨bv31, dv31⟩ := (show rg 0 100000 v31 from (by rw [ev31]; exact hI 262 r10.toNatClampNeg))
            refine g_i2l C dX11_tallyPoints_111 ?_
            refine g_nl (fun v32 ev32 => ?_)
            have fv32 := fi2l rfl ev32
            refine g_iload C 0 dX11_tallyPoints_112 rfl ?_
            refine g_i2l C dX11_tallyPoints_114 ?_
            refine g_nl (fun v33 ev33 => ?_)
            have fv33 := fi2l rfl ev33
            refine g_lmul C dX11_tallyPoints_115 ?_
            refine g_nl (fun v34 ev34 => ?_)
            try have fv34 := prodI ev34
            refine g_lconst C 1 dX11_tallyPoints_116 (by decide) ?_
            have ey9 : v34 = (vR M 3 (vR M 8 (40 * (M 258 27).toNatClampNeg + x2_6.toNatClampNeg)).toNatClampNeg).toInt64 * ((ptX (vR M) x) (vR M 8 (40 * (M 258 27).toNatClampNeg + x2_6.toNatClampNeg)).toNatClampNeg x4_28.toNatClampNeg).toInt64 := by rw [← ep9]; simp only [ev34, ev33, ev32, gv31, gv27, ev26, ev25, gv14, gv6, gv5, hr10]; try rfl
            have my9 := mul64 hpp hpb
            have ty9 : v34.toInt = (vR M 3 (vR M 8 (40 * (M 258 27).toNatClampNeg + x2_6.toNatClampNeg)).toNatClampNeg).toInt * ((ptX (vR M) x) (vR M 8 (40 * (M 258 27).toNatClampNeg + x2_6.toNatClampNeg)).toNatClampNeg x4_28.toNatClampNeg).toInt := by rw [ey9]; exact my9.1
            have hc28 := j28_4 x4_28.toNatClampNeg (by omega)
            rw [if_neg (Nat.lt_irrefl _)] at hc28
            have hb28 := stP_b (V := vR M) (pts := (ptX (vR M) x)) (p := (fun i => vR M 8 (40 * (M 258 27).toNatClampNeg + i))) (n := (vR M 0 0).toNatClampNeg) (fun b => hI0 262 b) hpt (fun i => hB8 (40 * (M 258 27).toNatClampNeg + i)) (by omega) x2_6.toNatClampNeg (by omega) x4_28.toNatClampNeg
            refine g_callVv C (n := 3) (As := [.int x4_28, .long v34, .long 1]) (st := []) (k_X11_addTo l D ad cs _ _ x4_28 v34 1 hI ⟨by omega, by omega⟩ ⟨by decide, by decide⟩ j28_2) gX11_tallyPoints_X11_addTo rfl rfl rfl (by decide +kernel) ⟨Nat.le_of_ble_eq_true rfl, Nat.le_of_ble_eq_true rfl⟩ rfl (Nat.le_of_ble_eq_true rfl) ⟨Nat.zero_le _, Nat.zero_le _⟩ (by decide) (ce_model ad cs _ _) rfl rfl dX11_tallyPoints_117 (fun M36 L37 hr35 => ?_)
            obtain ⟨hr35, hI, hFr35, hGr35⟩ := hr35
            have hF : ∀ k i, ¬ (k = 258 ∧ i = 25) → M36 k i = M k i := fun k i hk => by (rw [hFr35 k i (by omega)]; try exact hF k i hk)
            have hG : ∀ k i, ¬ (k = 258 ∧ i = 23) ∧ ¬ (k = 258 ∧ i = 24) ∧ k ≠ 284 ∧ k ≠ 285 → L37 k i = L k i := fun k i hk => by (rw [hGr35 k i (by omega)]; try exact hG k i hk)
            have k25 : M36 258 25 = M36 258 25 := rfl
            have kt25 := congrArg Int32.toInt k25
            have l23 : L37 258 23 = L37 258 23 := rfl
            have l24 : L37 258 24 = L37 258 24 := rfl
            have p284 : L37 284 = L37 284 := rfl
            have p285 : L37 285 = L37 285 := rfl
            obtain ⟨hr35o, hr35k, hr35s⟩ := hr35
            obtain ⟨a1, a2, a3⟩ := hr35k (by omega) (by unfold okF; rw [hc28.1, hc28.2]; exact ⟨by omega, by omega, by decide, by decide⟩)
            have ps9 := pt_step (u := L_28 284 x4_28.toNatClampNeg) (y := v34) (by rw [hc28.1]; omega) (by omega)
            rw [hc28.2, ps9.1] at a1
            rw [hc28.2, ps9.2.1] at a2
            rw [hc28.2, ps9.1, ps9.2.1] at a3
            have sp9 : (M36 258 25).toInt = 0 := a3.mpr ⟨j28_3, ps9.2.2⟩
            have ar9 : ∀ c, c < 10 → L37 284 c = (if c < x4_28.toNatClampNeg + 1 then foP (stP (vR M) (ptX (vR M) x) (vR M 0 0).toNatClampNeg) (fun i => vR M 8 (40 * (M 258 27).toNatClampNeg + i)) x2_6.toNatClampNeg (fun _ => 0) c + (vR M 3 (vR M 8 (40 * (M 258 27).toNatClampNeg + x2_6.toNatClampNeg)).toNatClampNeg).toInt64 * ((ptX (vR M) x) (vR M 8 (40 * (M 258 27).toNatClampNeg + x2_6.toNatClampNeg)).toNatClampNeg c).toInt64 else foP (stP (vR M) (ptX (vR M) x) (vR M 0 0).toNatClampNeg) (fun i => vR M 8 (40 * (M 258 27).toNatClampNeg + i)) x2_6.toNatClampNeg (fun _ => 0) c) ∧ L37 285 c = 1 := by
              intro c hc
              rw [a1, a2]
              by_cases e9 : c = x4_28.toNatClampNeg
              · rw [show ∀ (F : Nat → Int64) (v : Int64), vp_updL F x4_28.toNatClampNeg v c = v from fun F v => if_pos e9, show ∀ (F : Nat → Int64) (v : Int64), vp_updL F x4_28.toNatClampNeg v c = v from fun F v => if_pos e9, if_pos (by omega), hc28.1, ey9, e9]; exact ⟨rfl, rfl⟩
              · rw [show ∀ (F : Nat → Int64) (v : Int64), vp_updL F x4_28.toNatClampNeg v c = F c from fun F v => if_neg e9, show ∀ (F : Nat → Int64) (v : Int64), vp_updL F x4_28.toNatClampNeg v c = F c from fun F v => if_neg e9, (j28_4 c hc).1, (j28_4 c hc).2]
                refine ⟨?_, rfl⟩
                by_cases e8 : c < x4_28.toNatClampNeg
                · rw [if_pos e8, if_pos (by omega)]
                · rw [if_neg e8, if_neg (by omega)]
            obtain ⟨v38, ev38⟩ : ∃ y : Int32, y = x4_28 + 1 := ⟨_, rfl⟩
            try have fv38 := fadd rfl (by decide : (1 : Int32).toInt = 1) ev38 (by omega) (by omega)
            refine g_iinc C 2 v38 [(4, .int v38), (6, .int v27), (5, .int v27), (3, .int r10), (2, .int x2_6), (0, .ref (ad 258)), (1, .int x)] dX11_tallyPoints_120 rfl (by rw [ev38]; rfl) (by decide) rfl ?_
            refine g_goto C 28 dX11_tallyPoints_123 (by decide) ?_
            refine g_lv [0, 3, 4, 5, 6] [(4, .int v38), (3, .int r10), (2, .int x2_6), (0, .ref (ad 258)), (1, .int x)] rfl ?_
            have nv := ixn (x := v38) (by omega)
            have iv : v38.toNatClampNeg = x4_28.toNatClampNeg + 1 := by omega
            exact ih_28 (v38, M36, L37) ⟨by show 0 ≤ v38.toInt; omega, by show v38.toInt ≤ (vR M 0 0).toInt; omega, by show TLo L37; exact hr35o, by show (M36 258 25).toInt = 0; exact sp9, by show ∀ c, c < 10 → L37 284 c = (if c < v38.toNatClampNeg then foP (stP (vR M) (ptX (vR M) x) (vR M 0 0).toNatClampNeg) (fun i => vR M 8 (40 * (M 258 27).toNatClampNeg + i)) x2_6.toNatClampNeg (fun _ => 0) c + (vR M 3 (vR M 8 (40 * (M 258 27).toNatClampNeg + x2_6.toNatClampNeg)).toNatClampNeg).toInt64 * ((ptX (vR M) x) (vR M 8 (40 * (M 258 27).toNatClampNeg + x2_6.toNatClampNeg)).toNatClampNeg c).toInt64 else foP (stP (vR M) (ptX (vR M) x) (vR M 0 0).toNatClampNeg) (fun i => vR M 8 (40 * (M 258 27).toNatClampNeg + i)) x2_6.toNatClampNeg (fun _ => 0) c) ∧ L37 285 c = 1; rw [iv]; exact ar9, by show v38.toInt = 0 ∨ (vR M 8 (40 * (M 258 27).toNatClampNeg + x2_6.toNatClampNeg)).toInt ≠ -9; omega, hI, hF, hG⟩ (by show (11 - v38.toInt).toNat < (11 - x4_28.toInt).toNat; omega)
        ·
          have f39 := fne rfl (by decide : (0 : Int32).toInt = 0) c23
          refine g_aload_n C 3 dX11_tallyPoints_47 rfl ?_
          refine g_iload_n C 1 dX11_tallyPoints_48 rfl ?_
          refine g_iload C 0 dX11_tallyPoints_49 rfl ?_
          refine g_callVi C (n := 2) (As := [.int r10, .int x4_28]) (st := []) (s_X11_placeOn l D ad cs _ _ r10 x4_28 hI ⟨by omega, by omega⟩) gX11_tallyPoints_X11_placeOn rfl rfl rfl (by decide +kernel) ⟨Nat.le_of_ble_eq_true rfl, Nat.le_of_ble_eq_true rfl⟩ rfl (Nat.le_of_ble_eq_true rfl) ⟨Nat.zero_le _, Nat.zero_le _⟩ (by decide) (ce_model ad cs _ _) rfl rfl dX11_tallyPoints_51 (fun r40 M41 L42 hr40 => ?_)
          obtain ⟨hq1, hq2, hr40⟩ := hr40
          obtain rfl := hq1.symm
          obtain rfl := hq2.symm
          obtain ⟨hr40, qr40⟩ := hr40
          rw [hMv, hr10] at hr40
          have tr40 := congrArg Int32.toInt hr40
          refine g_goto C 69 dX11_tallyPoints_54 (by decide) ?_
          refine g_istore C [(5, .int r40), (4, .int x4_28), (3, .int r10), (2, .int x2_6), (0, .ref (ad 258)), (1, .int x)] dX11_tallyPoints_69 (by decide) rfl ?_
          refine g_iload_n C 5 dX11_tallyPoints_71 rfl ?_
          refine g_if_ne C 80 dX11_tallyPoints_72 (by decide) (fun c43 => ?_) (fun c43 => ?_)
          ·
            have f44 := fne rfl (by decide : (0 : Int32).toInt = 0) c43
            refine g_iload C 0 dX11_tallyPoints_80 rfl ?_
            refine g_bipush C (-9) dX11_tallyPoints_82 (by decide) ?_
            refine g_icmp_ne C 91 dX11_tallyPoints_84 (by decide) (fun c45 => ?_) (fun c45 => ?_)
            ·
              have f46 := fne rfl (by decide : ((-9) : Int32).toInt = (-9)) c45
              refine g_aload_n C 4 dX11_tallyPoints_91 rfl ?_
              refine g_get C (.int (M_28 258 2)) 2 in_X11_tallyPoints_11 (List.mem_of_getElem? (i := 3) rfl) (by decide) (ce_model ad cs _ _) rfl (by decide) rfl rfl dX11_tallyPoints_92 ?_
              refine g_ni (fun v47 ev47 => ?_)
              have gv47 : v47 = M 258 2 := ev47.trans (hF 258 2 (by omega))
              have tv47 := congrArg Int32.toInt gv47
              obtain ⟨bv47, dv47⟩ := (show rg 0 10 v47 from (by rw [ev47]; exact hI 258 2))
              refine g_iconst C 1 dX11_tallyPoints_95 (by decide) ?_
              refine g_isub C dX11_tallyPoints_96 ?_
              refine g_ni (fun v48 ev48 => ?_)
              try have fv48 := fsub rfl (by decide : (1 : Int32).toInt = 1) ev48 (by omega) (by omega)
              refine g_iload C 0 dX11_tallyPoints_97 rfl ?_
              refine g_isub C dX11_tallyPoints_99 ?_
              refine g_ni (fun v49 ev49 => ?_)
              try have fv49 := fsub rfl rfl ev49 (by omega) (by omega)
              refine g_istore C [(6, .int v49), (5, .int r40), (4, .int x4_28), (3, .int r10), (2, .int x2_6), (0, .ref (ad 258)), (1, .int x)] dX11_tallyPoints_100 (by decide) rfl ?_
              have ep9 : v49 = (ptX (vR M) x) (vR M 8 (40 * (M 258 27).toNatClampNeg + x2_6.toNatClampNeg)).toNatClampNeg x4_28.toNatClampNeg := by
                unfold ptX
                rw [if_neg (by omega)]; unfold plcV; rw [of_ix (x := x4_28) (by omega)]
                have ep8 : pF (mk (vR M) (vR M 8 (40 * (M 258 27).toNatClampNeg + x2_6.toNatClampNeg)).toNatClampNeg) x4_28 (vR M 4 (vR M 8 (40 * (M 258 27).toNatClampNeg + x2_6.toNatClampNeg)).toNatClampNeg).toNatClampNeg 0 = r40 := hr40.symm
                rw [ep8]
                rw [if_neg (by omega)]; simp only [ev49, ev48, gv47, gv14, gv6, gv5]; rfl
              refine g_aload_n C 5 dX11_tallyPoints_102 rfl ?_
              refine g_iload C 2 dX11_tallyPoints_103 rfl ?_
              refine g_aload_n C 5 dX11_tallyPoints_105 rfl ?_
              refine g_get C (.ref (ad 262)) 6 in_X11_tallyPoints_11 (List.mem_of_getElem? (i := 5) rfl) (by decide) (ce_model ad cs _ _) rfl (by decide) rfl rfl dX11_tallyPoints_106 ?_
              refine g_iload_n C 3 dX11_tallyPoints_109 rfl ?_
              refine g_iald C (by decide) (ce_m_papersOf ad cs _ _) (fin' (n := 60) rfl (by omega) (by omega)) dX11_tallyPoints_110 ?_
              refine g_ni (fun v50 ev50 => ?_)
              have gv50 : v50 = M 262 r10.toNatClampNeg := ev50.trans (hF 262 r10.toNatClampNeg (by omega))
              have tv50 := congrArg Int32.toInt gv50
              obtain ⟨bv50, dv50⟩ := (show rg 0 100000 v50 from (by rw [ev50]; exact hI 262 r10.toNatClampNeg))
              refine g_i2l C dX11_tallyPoints_111 ?_
              refine g_nl (fun v51 ev51 => ?_)
              have fv51 := fi2l rfl ev51
              refine g_iload C 0 dX11_tallyPoints_112 rfl ?_
              refine g_i2l C dX11_tallyPoints_114 ?_
              refine g_nl (fun v52 ev52 => ?_)
              have fv52 := fi2l rfl ev52
              refine g_lmul C dX11_tallyPoints_115 ?_
              refine g_nl (fun v53 ev53 => ?_)
              try have fv53 := prodI ev53
              refine g_lconst C 1 dX11_tallyPoints_116 (by decide) ?_
              have ey9 : v53 = (vR M 3 (vR M 8 (40 * (M 258 27).toNatClampNeg + x2_6.toNatClampNeg)).toNatClampNeg).toInt64 * ((ptX (vR M) x) (vR M 8 (40 * (M 258 27).toNatClampNeg + x2_6.toNatClampNeg)).toNatClampNeg x4_28.toNatClampNeg).toInt64 := by rw [← ep9]; simp only [ev53, ev52, ev51, gv50, ev49, ev48, gv47, gv14, gv6, gv5, hr10]; try rfl
              have my9 := mul64 hpp hpb
              have ty9 : v53.toInt = (vR M 3 (vR M 8 (40 * (M 258 27).toNatClampNeg + x2_6.toNatClampNeg)).toNatClampNeg).toInt * ((ptX (vR M) x) (vR M 8 (40 * (M 258 27).toNatClampNeg + x2_6.toNatClampNeg)).toNatClampNeg x4_28.toNatClampNeg).toInt := by rw [ey9]; exact my9.1
              have hc28 := j28_4 x4_28.toNatClampNeg (by omega)
              rw [if_neg (Nat.lt_irrefl _)] at hc28
              have hb28 := stP_b (V := vR M) (pts := (ptX (vR M) x)) (p := (fun i => vR M 8 (40 * (M 258 27).toNatClampNeg + i))) (n := (vR M 0 0).toNatClampNeg) (fun b => hI0 262 b) hpt (fun i => hB8 (40 * (M 258 27).toNatClampNeg + i)) (by omega) x2_6.toNatClampNeg (by omega) x4_28.toNatClampNeg
              refine g_callVv C (n := 3) (As := [.int x4_28, .long v53, .long 1]) (st := []) (k_X11_addTo l D ad cs _ _ x4_28 v53 1 hI ⟨by omega, by omega⟩ ⟨by decide, by decide⟩ j28_2) gX11_tallyPoints_X11_addTo rfl rfl rfl (by decide +kernel) ⟨Nat.le_of_ble_eq_true rfl, Nat.le_of_ble_eq_true rfl⟩ rfl (Nat.le_of_ble_eq_true rfl) ⟨Nat.zero_le _, Nat.zero_le _⟩ (by decide) (ce_model ad cs _ _) rfl rfl dX11_tallyPoints_117 (fun M55 L56 hr54 => ?_)
              obtain ⟨hr54, hI, hFr54, hGr54⟩ := hr54
              have hF : ∀ k i, ¬ (k = 258 ∧ i = 25) → M55 k i = M k i := fun k i hk => by (rw [hFr54 k i (by omega)]; try exact hF k i hk)
              have hG : ∀ k i, ¬ (k = 258 ∧ i = 23) ∧ ¬ (k = 258 ∧ i = 24) ∧ k ≠ 284 ∧ k ≠ 285 → L56 k i = L k i := fun k i hk => by (rw [hGr54 k i (by omega)]; try exact hG k i hk)
              have k25 : M55 258 25 = M55 258 25 := rfl
              have kt25 := congrArg Int32.toInt k25
              have l23 : L56 258 23 = L56 258 23 := rfl
              have l24 : L56 258 24 = L56 258 24 := rfl
              have p284 : L56 284 = L56 284 := rfl
              have p285 : L56 285 = L56 285 := rfl
              obtain ⟨hr54o, hr54k, hr54s⟩ := hr54
              obtain ⟨a1, a2, a3⟩ := hr54k (by omega) (by unfold okF; rw [hc28.1, hc28.2]; exact ⟨by omega, by omega, by decide, by decide⟩)
              have ps9 := pt_step (u := L_28 284 x4_28.toNatClampNeg) (y := v53) (by rw [hc28.1]; omega) (by omega)
              rw [hc28.2, ps9.1] at a1
              rw [hc28.2, ps9.2.1] at a2
              rw [hc28.2, ps9.1, ps9.2.1] at a3
              have sp9 : (M55 258 25).toInt = 0 := a3.mpr ⟨j28_3, ps9.2.2⟩
              have ar9 : ∀ c, c < 10 → L56 284 c = (if c < x4_28.toNatClampNeg + 1 then foP (stP (vR M) (ptX (vR M) x) (vR M 0 0).toNatClampNeg) (fun i => vR M 8 (40 * (M 258 27).toNatClampNeg + i)) x2_6.toNatClampNeg (fun _ => 0) c + (vR M 3 (vR M 8 (40 * (M 258 27).toNatClampNeg + x2_6.toNatClampNeg)).toNatClampNeg).toInt64 * ((ptX (vR M) x) (vR M 8 (40 * (M 258 27).toNatClampNeg + x2_6.toNatClampNeg)).toNatClampNeg c).toInt64 else foP (stP (vR M) (ptX (vR M) x) (vR M 0 0).toNatClampNeg) (fun i => vR M 8 (40 * (M 258 27).toNatClampNeg + i)) x2_6.toNatClampNeg (fun _ => 0) c) ∧ L56 285 c = 1 := by
                intro c hc
                rw [a1, a2]
                by_cases e9 : c = x4_28.toNatClampNeg
                · rw [show ∀ (F : Nat → Int64) (v : Int64), vp_updL F x4_28.toNatClampNeg v c = v from fun F v => if_pos e9, show ∀ (F : Nat → Int64) (v : Int64), vp_updL F x4_28.toNatClampNeg v c = v from fun F v => if_pos e9, if_pos (by omega), hc28.1, ey9, e9]; exact ⟨rfl, rfl⟩
                · rw [show ∀ (F : Nat → Int64) (v : Int64), vp_updL F x4_28.toNatClampNeg v c = F c from fun F v => if_neg e9, show ∀ (F : Nat → Int64) (v : Int64), vp_updL F x4_28.toNatClampNeg v c = F c from fun F v => if_neg e9, (j28_4 c hc).1, (j28_4 c hc).2]
                  refine ⟨?_, rfl⟩
                  by_cases e8 : c < x4_28.toNatClampNeg
                  · rw [if_pos e8, if_pos (by omega)]
                  · rw [if_neg e8, if_neg (by omega)]
              obtain ⟨v57, ev57⟩ : ∃ y : Int32, y = x4_28 + 1 := ⟨_, rfl⟩
              try have fv57 := fadd rfl (by decide : (1 : Int32).toInt = 1) ev57 (by omega) (by omega)
              refine g_iinc C 2 v57 [(4, .int v57), (6, .int v49), (5, .int r40), (3, .int r10), (2, .int x2_6), (0, .ref (ad 258)), (1, .int x)] dX11_tallyPoints_120 rfl (by rw [ev57]; rfl) (by decide) rfl ?_
              refine g_goto C 28 dX11_tallyPoints_123 (by decide) ?_
              refine g_lv [0, 3, 4, 5, 6] [(4, .int v57), (3, .int r10), (2, .int x2_6), (0, .ref (ad 258)), (1, .int x)] rfl ?_
              have nv := ixn (x := v57) (by omega)
              have iv : v57.toNatClampNeg = x4_28.toNatClampNeg + 1 := by omega
              exact ih_28 (v57, M55, L56) ⟨by show 0 ≤ v57.toInt; omega, by show v57.toInt ≤ (vR M 0 0).toInt; omega, by show TLo L56; exact hr54o, by show (M55 258 25).toInt = 0; exact sp9, by show ∀ c, c < 10 → L56 284 c = (if c < v57.toNatClampNeg then foP (stP (vR M) (ptX (vR M) x) (vR M 0 0).toNatClampNeg) (fun i => vR M 8 (40 * (M 258 27).toNatClampNeg + i)) x2_6.toNatClampNeg (fun _ => 0) c + (vR M 3 (vR M 8 (40 * (M 258 27).toNatClampNeg + x2_6.toNatClampNeg)).toNatClampNeg).toInt64 * ((ptX (vR M) x) (vR M 8 (40 * (M 258 27).toNatClampNeg + x2_6.toNatClampNeg)).toNatClampNeg c).toInt64 else foP (stP (vR M) (ptX (vR M) x) (vR M 0 0).toNatClampNeg) (fun i => vR M 8 (40 * (M 258 27).toNatClampNeg + i)) x2_6.toNatClampNeg (fun _ => 0) c) ∧ L56 285 c = 1; rw [iv]; exact ar9, by show v57.toInt = 0 ∨ (vR M 8 (40 * (M 258 27).toNatClampNeg + x2_6.toNatClampNeg)).toInt ≠ -9; omega, hI, hF, hG⟩ (by show (11 - v57.toInt).toNat < (11 - x4_28.toInt).toNat; omega)
            ·
              have f58 := feq rfl (by decide : ((-9) : Int32).toInt = (-9)) c45
              refine g_iconst C 0 dX11_tallyPoints_87 (by decide) ?_
              refine g_goto C 100 dX11_tallyPoints_88 (by decide) ?_
              refine g_istore C [(6, .int 0), (5, .int r40), (4, .int x4_28), (3, .int r10), (2, .int x2_6), (0, .ref (ad 258)), (1, .int x)] dX11_tallyPoints_100 (by decide) rfl ?_
              have ep9 : (0 : Int32) = (ptX (vR M) x) (vR M 8 (40 * (M 258 27).toNatClampNeg + x2_6.toNatClampNeg)).toNatClampNeg x4_28.toNatClampNeg := by
                unfold ptX
                rw [if_neg (by omega)]; unfold plcV; rw [of_ix (x := x4_28) (by omega)]
                have ep8 : pF (mk (vR M) (vR M 8 (40 * (M 258 27).toNatClampNeg + x2_6.toNatClampNeg)).toNatClampNeg) x4_28 (vR M 4 (vR M 8 (40 * (M 258 27).toNatClampNeg + x2_6.toNatClampNeg)).toNatClampNeg).toNatClampNeg 0 = r40 := hr40.symm
                rw [ep8]
                rw [if_pos (by omega)]
              refine g_aload_n C 5 dX11_tallyPoints_102 rfl ?_
              refine g_iload C 2 dX11_tallyPoints_103 rfl ?_
              refine g_aload_n C 5 dX11_tallyPoints_105 rfl ?_
              refine g_get C (.ref (ad 262)) 6 in_X11_tallyPoints_11 (List.mem_of_getElem? (i := 5) rfl) (by decide) (ce_model ad cs _ _) rfl (by decide) rfl rfl dX11_tallyPoints_106 ?_
              refine g_iload_n C 3 dX11_tallyPoints_109 rfl ?_
              refine g_iald C (by decide) (ce_m_papersOf ad cs _ _) (fin' (n := 60) rfl (by omega) (by omega)) dX11_tallyPoints_110 ?_
              refine g_ni (fun v59 ev59 => ?_)
              have gv59 : v59 = M 262 r10.toNatClampNeg := ev59.trans (hF 262 r10.toNatClampNeg (by omega))
              have tv59 := congrArg Int32.toInt gv59
              obtain ⟨bv59, dv59⟩ := (show rg 0 100000 v59 from (by rw [ev59]; exact hI 262 r10.toNatClampNeg))
              refine g_i2l C dX11_tallyPoints_111 ?_
              refine g_nl (fun v60 ev60 => ?_)
              have fv60 := fi2l rfl ev60
              refine g_iload C 0 dX11_tallyPoints_112 rfl ?_
              refine g_i2l C dX11_tallyPoints_114 ?_
              refine g_nl (fun v61 ev61 => ?_)
              have fv61 := fi2l (by decide : (0 : Int32).toInt = 0) ev61
              refine g_lmul C dX11_tallyPoints_115 ?_
              refine g_nl (fun v62 ev62 => ?_)
              try have fv62 := prodI ev62
              refine g_lconst C 1 dX11_tallyPoints_116 (by decide) ?_
              have ey9 : v62 = (vR M 3 (vR M 8 (40 * (M 258 27).toNatClampNeg + x2_6.toNatClampNeg)).toNatClampNeg).toInt64 * ((ptX (vR M) x) (vR M 8 (40 * (M 258 27).toNatClampNeg + x2_6.toNatClampNeg)).toNatClampNeg x4_28.toNatClampNeg).toInt64 := by rw [← ep9]; simp only [ev62, ev61, ev60, gv59, gv14, gv6, gv5, hr10]; try rfl
              have my9 := mul64 hpp hpb
              have ty9 : v62.toInt = (vR M 3 (vR M 8 (40 * (M 258 27).toNatClampNeg + x2_6.toNatClampNeg)).toNatClampNeg).toInt * ((ptX (vR M) x) (vR M 8 (40 * (M 258 27).toNatClampNeg + x2_6.toNatClampNeg)).toNatClampNeg x4_28.toNatClampNeg).toInt := by rw [ey9]; exact my9.1
              have hc28 := j28_4 x4_28.toNatClampNeg (by omega)
              rw [if_neg (Nat.lt_irrefl _)] at hc28
              have hb28 := stP_b (V := vR M) (pts := (ptX (vR M) x)) (p := (fun i => vR M 8 (40 * (M 258 27).toNatClampNeg + i))) (n := (vR M 0 0).toNatClampNeg) (fun b => hI0 262 b) hpt (fun i => hB8 (40 * (M 258 27).toNatClampNeg + i)) (by omega) x2_6.toNatClampNeg (by omega) x4_28.toNatClampNeg
              refine g_callVv C (n := 3) (As := [.int x4_28, .long v62, .long 1]) (st := []) (k_X11_addTo l D ad cs _ _ x4_28 v62 1 hI ⟨by omega, by omega⟩ ⟨by decide, by decide⟩ j28_2) gX11_tallyPoints_X11_addTo rfl rfl rfl (by decide +kernel) ⟨Nat.le_of_ble_eq_true rfl, Nat.le_of_ble_eq_true rfl⟩ rfl (Nat.le_of_ble_eq_true rfl) ⟨Nat.zero_le _, Nat.zero_le _⟩ (by decide) (ce_model ad cs _ _) rfl rfl dX11_tallyPoints_117 (fun M64 L65 hr63 => ?_)
              obtain ⟨hr63, hI, hFr63, hGr63⟩ := hr63
              have hF : ∀ k i, ¬ (k = 258 ∧ i = 25) → M64 k i = M k i := fun k i hk => by (rw [hFr63 k i (by omega)]; try exact hF k i hk)
              have hG : ∀ k i, ¬ (k = 258 ∧ i = 23) ∧ ¬ (k = 258 ∧ i = 24) ∧ k ≠ 284 ∧ k ≠ 285 → L65 k i = L k i := fun k i hk => by (rw [hGr63 k i (by omega)]; try exact hG k i hk)
              have k25 : M64 258 25 = M64 258 25 := rfl
              have kt25 := congrArg Int32.toInt k25
              have l23 : L65 258 23 = L65 258 23 := rfl
              have l24 : L65 258 24 = L65 258 24 := rfl
              have p284 : L65 284 = L65 284 := rfl
              have p285 : L65 285 = L65 285 := rfl
              obtain ⟨hr63o, hr63k, hr63s⟩ := hr63
              obtain ⟨a1, a2, a3⟩ := hr63k (by omega) (by unfold okF; rw [hc28.1, hc28.2]; exact ⟨by omega, by omega, by decide, by decide⟩)
              have ps9 := pt_step (u := L_28 284 x4_28.toNatClampNeg) (y := v62) (by rw [hc28.1]; omega) (by omega)
              rw [hc28.2, ps9.1] at a1
              rw [hc28.2, ps9.2.1] at a2
              rw [hc28.2, ps9.1, ps9.2.1] at a3
              have sp9 : (M64 258 25).toInt = 0 := a3.mpr ⟨j28_3, ps9.2.2⟩
              have ar9 : ∀ c, c < 10 → L65 284 c = (if c < x4_28.toNatClampNeg + 1 then foP (stP (vR M) (ptX (vR M) x) (vR M 0 0).toNatClampNeg) (fun i => vR M 8 (40 * (M 258 27).toNatClampNeg + i)) x2_6.toNatClampNeg (fun _ => 0) c + (vR M 3 (vR M 8 (40 * (M 258 27).toNatClampNeg + x2_6.toNatClampNeg)).toNatClampNeg).toInt64 * ((ptX (vR M) x) (vR M 8 (40 * (M 258 27).toNatClampNeg + x2_6.toNatClampNeg)).toNatClampNeg c).toInt64 else foP (stP (vR M) (ptX (vR M) x) (vR M 0 0).toNatClampNeg) (fun i => vR M 8 (40 * (M 258 27).toNatClampNeg + i)) x2_6.toNatClampNeg (fun _ => 0) c) ∧ L65 285 c = 1 := by
                intro c hc
                rw [a1, a2]
                by_cases e9 : c = x4_28.toNatClampNeg
                · rw [show ∀ (F : Nat → Int64) (v : Int64), vp_updL F x4_28.toNatClampNeg v c = v from fun F v => if_pos e9, show ∀ (F : Nat → Int64) (v : Int64), vp_updL F x4_28.toNatClampNeg v c = v from fun F v => if_pos e9, if_pos (by omega), hc28.1, ey9, e9]; exact ⟨rfl, rfl⟩
                · rw [show ∀ (F : Nat → Int64) (v : Int64), vp_updL F x4_28.toNatClampNeg v c = F c from fun F v => if_neg e9, show ∀ (F : Nat → Int64) (v : Int64), vp_updL F x4_28.toNatClampNeg v c = F c from fun F v => if_neg e9, (j28_4 c hc).1, (j28_4 c hc).2]
                  refine ⟨?_, rfl⟩
                  by_cases e8 : c < x4_28.toNatClampNeg
                  · rw [if_pos e8, if_pos (by omega)]
                  · rw [if_neg e8, if_neg (by omega)]
              obtain ⟨v66, ev66⟩ : ∃ y : Int32, y = x4_28 + 1 := ⟨_, rfl⟩
              try have fv66 := fadd rfl (by decide : (1 : Int32).toInt = 1) ev66 (by omega) (by omega)
              refine g_iinc C 2 v66 [(4, .int v66), (6, .int 0), (5, .int r40), (3, .int r10), (2, .int x2_6), (0, .ref (ad 258)), (1, .int x)] dX11_tallyPoints_120 rfl (by rw [ev66]; rfl) (by decide) rfl ?_
              refine g_goto C 28 dX11_tallyPoints_123 (by decide) ?_
              refine g_lv [0, 3, 4, 5, 6] [(4, .int v66), (3, .int r10), (2, .int x2_6), (0, .ref (ad 258)), (1, .int x)] rfl ?_
              have nv := ixn (x := v66) (by omega)
              have iv : v66.toNatClampNeg = x4_28.toNatClampNeg + 1 := by omega
              exact ih_28 (v66, M64, L65) ⟨by show 0 ≤ v66.toInt; omega, by show v66.toInt ≤ (vR M 0 0).toInt; omega, by show TLo L65; exact hr63o, by show (M64 258 25).toInt = 0; exact sp9, by show ∀ c, c < 10 → L65 284 c = (if c < v66.toNatClampNeg then foP (stP (vR M) (ptX (vR M) x) (vR M 0 0).toNatClampNeg) (fun i => vR M 8 (40 * (M 258 27).toNatClampNeg + i)) x2_6.toNatClampNeg (fun _ => 0) c + (vR M 3 (vR M 8 (40 * (M 258 27).toNatClampNeg + x2_6.toNatClampNeg)).toNatClampNeg).toInt64 * ((ptX (vR M) x) (vR M 8 (40 * (M 258 27).toNatClampNeg + x2_6.toNatClampNeg)).toNatClampNeg c).toInt64 else foP (stP (vR M) (ptX (vR M) x) (vR M 0 0).toNatClampNeg) (fun i => vR M 8 (40 * (M 258 27).toNatClampNeg + i)) x2_6.toNatClampNeg (fun _ => 0) c) ∧ L65 285 c = 1; rw [iv]; exact ar9, by show v66.toInt = 0 ∨ (vR M 8 (40 * (M 258 27).toNatClampNeg + x2_6.toNatClampNeg)).toInt ≠ -9; omega, hI, hF, hG⟩ (by show (11 - v66.toInt).toNat < (11 - x4_28.toInt).toNat; omega)
          ·
            have f67 := feq rfl (by decide : (0 : Int32).toInt = 0) c43
            exfalso; omega
