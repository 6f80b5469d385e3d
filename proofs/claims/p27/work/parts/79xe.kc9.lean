set_option maxHeartbeats 4000000 in
set_option maxRecDepth 100000 in
theorem k_X3_become (l : Launch) (D : va_G) (ad : Nat → Nat) (cs : Nat → ClassId) (M : MI) (L : ML) (x : Int64) (y : Int64) (hI : IC M) (hx : 0 ≤ x.toInt) (hy : 1 ≤ y.toInt) : Cv l yX3_become wsX3_become ({ frames := 0, cells := 0, slots := 0, locals := 0 }) D ad cs [.ref (ad 124), .long x, .long y] M L (fun M1 L1 => (L1 124 0 = frU x y ∧ L1 124 1 = frD x y) ∧ IC M1 ∧ (∀ k i, True → M1 k i = M k i) ∧ ∀ k i, ¬ (k = 124 ∧ i = 0) ∧ ¬ (k = 124 ∧ i = 1) → L1 k i = L k i) := by
  refine enter_v RX3 rfl [(0, .ref (ad 124)), (1, .long x), (3, .long y)] rfl (Nat.le_of_ble_eq_true rfl) (by decide +kernel) rfl ?_
  intro p e s m below meth c C hr
  have hF : ∀ k i, True → M k i = M k i := fun _ _ _ => rfl
  have hG : ∀ k i, ¬ (k = 124 ∧ i = 0) ∧ ¬ (k = 124 ∧ i = 1) → L k i = L k i := fun _ _ _ => rfl
  have w0 : (vC M 0 0).toInt = (M 1 0).toInt := rfl
  have w1 : (vC M 0 1).toInt = (M 3 0).toInt := rfl
  have w2 : (vC M 0 2).toInt = (M 68 0).toInt := rfl
  have w3 : (vC M 0 3).toInt = (M 81 0).toInt := rfl
  obtain ⟨y0a, y0b⟩ := (show rg 0 10 (M 1 0) from hI 1 0 rfl)
  obtain ⟨y1a, y1b⟩ := (show rg 0 60 (M 3 0) from hI 3 0 rfl)
  obtain ⟨y2a, y2b⟩ := (show rg 0 8 (M 68 0) from hI 68 0 rfl)
  obtain ⟨y3a, y3b⟩ := (show rg 0 20 (M 81 0) from hI 81 0 rfl)
  have bx9 := Int64.toInt_lt x
  have by9 := Int64.toInt_lt y
  have l124_0 : L 124 0 = L 124 0 := rfl
  have l124_1 : L 124 1 = L 124 1 := rfl
  refine g_lload_n C 1 dX3_become_0 rfl ?_
  refine g_lstore C [(5, .long x), (0, .ref (ad 124)), (1, .long x), (3, .long y)] dX3_become_1 (by decide) rfl ?_
  refine g_lload_n C 3 dX3_become_3 rfl ?_
  refine g_lstore C [(7, .long y), (5, .long x), (0, .ref (ad 124)), (1, .long x), (3, .long y)] dX3_become_4 (by decide) rfl ?_
  refine g_iconst C 0 dX3_become_6 (by decide) ?_
  refine g_istore C [(9, .int 0), (7, .long y), (5, .long x), (0, .ref (ad 124)), (1, .long x), (3, .long y)] dX3_become_7 (by decide) rfl ?_
  have zy1 : (0 : Int32).toInt = 0 := by decide
  refine g_loop (α := Int32 × Int64 × Int64 × MI × ML) (fun a => (1001 - a.1.toInt).toNat) (fun a => (0 ≤ a.1.toInt) ∧ (a.1.toInt ≤ 1000) ∧ (0 ≤ a.2.1.toInt) ∧ (0 ≤ a.2.2.1.toInt) ∧ (∀ t : Int, (t ∣ a.2.1.toInt ∧ t ∣ a.2.2.1.toInt) ↔ (t ∣ x.toInt ∧ t ∣ y.toInt)) ∧ ((a.1.toInt = 0 ∧ a.2.2.1 = y) ∨ (a.2.2.1.toInt ≤ a.2.1.toInt ∧ 1 ≤ a.2.1.toInt)) ∧ (a.2.1.toInt.toNat * a.2.2.1.toInt.toNat * 2 ^ a.1.toNatClampNeg ≤ 2 ^ 127) ∧ IC a.2.2.2.1 ∧ (∀ k i, True → a.2.2.2.1 k i = M k i) ∧ (∀ k i, ¬ (k = 124 ∧ i = 0) ∧ ¬ (k = 124 ∧ i = 1) → a.2.2.2.2 k i = L k i)) (fun a => a.2.2.2.1) (fun a => a.2.2.2.2) (fun a => [(9, .int a.1), (7, .long a.2.2.1), (5, .long a.2.1), (0, .ref (ad 124)), (1, .long x), (3, .long y)]) ((0 : Int32), x, y, M, L) ⟨by show 0 ≤ (0 : Int32).toInt; omega, by show (0 : Int32).toInt ≤ 1000; omega, by show 0 ≤ x.toInt; omega, by show 0 ≤ y.toInt; omega, by show ∀ t : Int, (t ∣ x.toInt ∧ t ∣ y.toInt) ↔ (t ∣ x.toInt ∧ t ∣ y.toInt); exact fun t => Iff.rfl, by show ((0 : Int32).toInt = 0 ∧ y = y) ∨ (y.toInt ≤ x.toInt ∧ 1 ≤ x.toInt); exact Or.inl ⟨by decide, rfl⟩, by show x.toInt.toNat * y.toInt.toNat * 2 ^ (0 : Int32).toNatClampNeg ≤ 2 ^ 127; have h9 : x.toInt.toNat * y.toInt.toNat ≤ 9223372036854775808 * 9223372036854775808 := Nat.mul_le_mul (by omega) (by omega); rw [show 2 ^ (0 : Int32).toNatClampNeg = 1 by decide, Nat.mul_one]; exact Nat.le_trans h9 (by decide), hI, hF, hG⟩ rfl rfl rfl ?_
  rintro ⟨x9_9, x5_9, x7_9, M_9, L_9⟩ ⟨j9_0, j9_1, j9_2, j9_3, j9_4, j9_5, j9_6, hI, hF, hG⟩ ih_9
  dsimp only at j9_0 j9_1 j9_2 j9_3 j9_4 j9_5 j9_6 hI hF hG ih_9 ⊢
  have l124_0 : L_9 124 0 = L_9 124 0 := rfl
  have l124_1 : L_9 124 1 = L_9 124 1 := rfl
  have hy7 : (0 : Int) = 0 := rfl
  refine g_iload C 0 dX3_become_9 rfl ?_
  refine g_sipush C 1000 dX3_become_11 (by decide) ?_
  refine g_icmp_ge C 45 dX3_become_14 (by decide) (fun c2 => ?_) (fun c2 => ?_)
  ·
    have f3 := fle (by decide : (1000 : Int32).toInt = 1000) rfl c2
    have n9 := ixn (x := x9_9) (by omega)
    have hr0 : x7_9.toInt = 0 := by first | omega | (have h9 := eu_end j9_6 (by omega) (by omega); omega)
    have hgg := (j9_4 x5_9.toInt).mp ⟨Int.dvd_refl _, by rw [hr0]; exact Int.dvd_zero _⟩
    have hgf := frG_of hgg.1 hgg.2 (fun t h1 h2 => ((j9_4 t).mpr ⟨h1, h2⟩).1) j9_2
    have hgp := frG_pos (x := x) (y := y) hy
    refine g_aload_n C 3 dX3_become_45 rfl ?_
    refine g_lload C 2 dX3_become_46 rfl ?_
    refine g_lconst C 1 dX3_become_48 (by decide) ?_
    refine g_lcmp C dX3_become_49 ?_
    refine g_ni (fun v4 ev4 => ?_)
    refine g_if_ge C 57 dX3_become_50 (by decide) (fun c5 => ?_) (fun c5 => ?_)
    ·
      have f6 := cge rfl (by decide : (1 : Int64).toInt = 1) ev4 c5
      refine g_lload_n C 4 dX3_become_57 rfl ?_
      refine g_lload C 2 dX3_become_58 rfl ?_
      refine g_ldiv C dX3_become_60 (by intro h9; have h8 := congrArg Int64.toInt h9; have h7 : (0 : Int64).toInt = 0 := (by decide); omega) ?_
      refine g_nl (fun v7 ev7 => ?_)
      have fv7 := quoI ev7
      refine g_putJ C 0 in_X3_become_3 (List.mem_of_getElem? (i := 1) rfl) (by decide) (ce_frac ad cs _ _) rfl (by decide) rfl tyX3 tyX3_ok nmX3 rfl rfl rfl rfl (Nat.le_of_ble_eq_true rfl) (by rw [sJ_k]; rfl) dX3_become_61 ?_
      refine g_nmL (fun L8 hL8 => ?_)
      have hG : ∀ k i, ¬ (k = 124 ∧ i = 0) ∧ ¬ (k = 124 ∧ i = 1) → L8 k i = L k i := fun k i hk => by (rw [hL8, sJ_at, if_neg (by omega)]; try exact hG k i hk)
      have l124_0 : L8 124 0 = v7 := by rw [hL8, sJ_at, if_pos (by decide)]
      have l124_1 : L8 124 1 = L_9 124 1 := by rw [hL8, sJ_at, if_neg (by omega)]; try exact l124_1
      refine g_aload_n C 3 dX3_become_64 rfl ?_
      refine g_lload C 2 dX3_become_65 rfl ?_
      refine g_lconst C 1 dX3_become_67 (by decide) ?_
      refine g_lcmp C dX3_become_68 ?_
      refine g_ni (fun v9 ev9 => ?_)
      refine g_if_ge C 76 dX3_become_69 (by decide) (fun c10 => ?_) (fun c10 => ?_)
      ·
        have f11 := cge rfl (by decide : (1 : Int64).toInt = 1) ev9 c10
        refine g_lload_n C 5 dX3_become_76 rfl ?_
        refine g_lload C 2 dX3_become_77 rfl ?_
        refine g_ldiv C dX3_become_79 (by intro h9; have h8 := congrArg Int64.toInt h9; have h7 : (0 : Int64).toInt = 0 := (by decide); omega) ?_
        refine g_nl (fun v12 ev12 => ?_)
        have fv12 := quoI ev12
        refine g_putJ C 1 in_X3_become_3 (List.mem_of_getElem? (i := 2) rfl) (by decide) (ce_frac ad cs _ _) rfl (by decide) rfl tyX3 tyX3_ok nmX3 rfl rfl rfl rfl (Nat.le_of_ble_eq_true rfl) (by rw [sJ_k]; rfl) dX3_become_80 ?_
        refine g_nmL (fun L13 hL13 => ?_)
        have hG : ∀ k i, ¬ (k = 124 ∧ i = 0) ∧ ¬ (k = 124 ∧ i = 1) → L13 k i = L k i := fun k i hk => by (rw [hL13, sJ_at, if_neg (by omega)]; try exact hG k i hk)
        have l124_0 : L13 124 0 = v7 := by rw [hL13, sJ_at, if_neg (by omega)]; try exact l124_0
        have l124_1 : L13 124 1 = v12 := by rw [hL13, sJ_at, if_pos (by decide)]
        exact g_vret C hr ⟨(by first | (exfalso; omega) | exact ⟨by rw [l124_0]; exact frU_t hx hy hgf fv7, by rw [l124_1]; exact frD_t hy hgf fv12⟩), hI, hF, hG⟩ dX3_become_83
      ·
        have f14 := cnge rfl (by decide : (1 : Int64).toInt = 1) ev9 c10
        refine g_lconst C 1 dX3_become_72 (by decide) ?_
        refine g_goto C 80 dX3_become_73 (by decide) ?_
        refine g_putJ C 1 in_X3_become_3 (List.mem_of_getElem? (i := 2) rfl) (by decide) (ce_frac ad cs _ _) rfl (by decide) rfl tyX3 tyX3_ok nmX3 rfl rfl rfl rfl (Nat.le_of_ble_eq_true rfl) (by rw [sJ_k]; rfl) dX3_become_80 ?_
        refine g_nmL (fun L15 hL15 => ?_)
        have hG : ∀ k i, ¬ (k = 124 ∧ i = 0) ∧ ¬ (k = 124 ∧ i = 1) → L15 k i = L k i := fun k i hk => by (rw [hL15, sJ_at, if_neg (by omega)]; try exact hG k i hk)
        have l124_0 : L15 124 0 = v7 := by rw [hL15, sJ_at, if_neg (by omega)]; try exact l124_0
        have l124_1 : L15 124 1 = 1 := by rw [hL15, sJ_at, if_pos (by decide)]
        exact g_vret C hr ⟨(by exfalso; omega), hI, hF, hG⟩ dX3_become_83
    ·
      have f16 := cnge rfl (by decide : (1 : Int64).toInt = 1) ev4 c5
      refine g_lconst C 0 dX3_become_53 (by decide) ?_
      refine g_goto C 61 dX3_become_54 (by decide) ?_
      refine g_putJ C 0 in_X3_become_3 (List.mem_of_getElem? (i := 1) rfl) (by decide) (ce_frac ad cs _ _) rfl (by decide) rfl tyX3 tyX3_ok nmX3 rfl rfl rfl rfl (Nat.le_of_ble_eq_true rfl) (by rw [sJ_k]; rfl) dX3_become_61 ?_
      refine g_nmL (fun L17 hL17 => ?_)
      have hG : ∀ k i, ¬ (k = 124 ∧ i = 0) ∧ ¬ (k = 124 ∧ i = 1) → L17 k i = L k i := fun k i hk => by (rw [hL17, sJ_at, if_neg (by omega)]; try exact hG k i hk)
      have l124_0 : L17 124 0 = 0 := by rw [hL17, sJ_at, if_pos (by decide)]
      have l124_1 : L17 124 1 = L_9 124 1 := by rw [hL17, sJ_at, if_neg (by omega)]; try exact l124_1
      refine g_aload_n C 3 dX3_become_64 rfl ?_
      refine g_lload C 2 dX3_become_65 rfl ?_
      refine g_lconst C 1 dX3_become_67 (by decide) ?_
      refine g_lcmp C dX3_become_68 ?_
      refine g_ni (fun v18 ev18 => ?_)
      refine g_if_ge C 76 dX3_become_69 (by decide) (fun c19 => ?_) (fun c19 => ?_)
      ·
        have f20 := cge rfl (by decide : (1 : Int64).toInt = 1) ev18 c19
        refine g_lload_n C 5 dX3_become_76 rfl ?_
        refine g_lload C 2 dX3_become_77 rfl ?_
        refine g_ldiv C dX3_become_79 (by intro h9; have h8 := congrArg Int64.toInt h9; have h7 : (0 : Int64).toInt = 0 := (by decide); omega) ?_
        refine g_nl (fun v21 ev21 => ?_)
        have fv21 := quoI ev21
        refine g_putJ C 1 in_X3_become_3 (List.mem_of_getElem? (i := 2) rfl) (by decide) (ce_frac ad cs _ _) rfl (by decide) rfl tyX3 tyX3_ok nmX3 rfl rfl rfl rfl (Nat.le_of_ble_eq_true rfl) (by rw [sJ_k]; rfl) dX3_become_80 ?_
        refine g_nmL (fun L22 hL22 => ?_)
        have hG : ∀ k i, ¬ (k = 124 ∧ i = 0) ∧ ¬ (k = 124 ∧ i = 1) → L22 k i = L k i := fun k i hk => by (rw [hL22, sJ_at, if_neg (by omega)]; try exact hG k i hk)
        have l124_0 : L22 124 0 = 0 := by rw [hL22, sJ_at, if_neg (by omega)]; try exact l124_0
        have l124_1 : L22 124 1 = v21 := by rw [hL22, sJ_at, if_pos (by decide)]
        exact g_vret C hr ⟨(by exfalso; omega), hI, hF, hG⟩ dX3_become_83
      ·
        have f23 := cnge rfl (by decide : (1 : Int64).toInt = 1) ev18 c19
        refine g_lconst C 1 dX3_become_72 (by decide) ?_
        refine g_goto C 80 dX3_become_73 (by decide) ?_
        refine g_putJ C 1 in_X3_become_3 (List.mem_of_getElem? (i := 2) rfl) (by decide) (ce_frac ad cs _ _) rfl (by decide) rfl tyX3 tyX3_ok nmX3 rfl rfl rfl rfl (Nat.le_of_ble_eq_true rfl) (by rw [sJ_k]; rfl) dX3_become_80 ?_
        refine g_nmL (fun L24 hL24 => ?_)
        have hG : ∀ k i, ¬ (k = 124 ∧ i = 0) ∧ ¬ (k = 124 ∧ i = 1) → L24 k i = L k i := fun k i hk => by (rw [hL24, sJ_at, if_neg (by omega)]; try exact hG k i hk)
        have l124_0 : L24 124 0 = 0 := by rw [hL24, sJ_at, if_neg (by omega)]; try exact l124_0
        have l124_1 : L24 124 1 = 1 := by rw [hL24, sJ_at, if_pos (by decide)]
        exact g_vret C hr ⟨(by exfalso; omega), hI, hF, hG⟩ dX3_become_83
  ·
    have f25 := fnle (by decide : (1000 : Int32).toInt = 1000) rfl c2
    refine g_lload C 1 dX3_become_17 rfl ?_
    refine g_lconst C 0 dX3_become_19 (by decide) ?_
    refine g_lcmp C dX3_become_20 ?_
    refine g_ni (fun v26 ev26 => ?_)
    refine g_if_eq C 45 dX3_become_21 (by decide) (fun c27 => ?_) (fun c27 => ?_)
    ·
      have f28 := ceq rfl (by decide : (0 : Int64).toInt = 0) ev26 c27
      have n9 := ixn (x := x9_9) (by omega)
      have hr0 : x7_9.toInt = 0 := by first | omega | (have h9 := eu_end j9_6 (by omega) (by omega); omega)
      have hgg := (j9_4 x5_9.toInt).mp ⟨Int.dvd_refl _, by rw [hr0]; exact Int.dvd_zero _⟩
      have hgf := frG_of hgg.1 hgg.2 (fun t h1 h2 => ((j9_4 t).mpr ⟨h1, h2⟩).1) j9_2
      have hgp := frG_pos (x := x) (y := y) hy
      refine g_aload_n C 3 dX3_become_45 rfl ?_
      refine g_lload C 2 dX3_become_46 rfl ?_
      refine g_lconst C 1 dX3_become_48 (by decide) ?_
      refine g_lcmp C dX3_become_49 ?_
      refine g_ni (fun v29 ev29 => ?_)
      refine g_if_ge C 57 dX3_become_50 (by decide) (fun c30 => ?_) (fun c30 => ?_)
      ·
        have f31 := cge rfl (by decide : (1 : Int64).toInt = 1) ev29 c30
        refine g_lload_n C 4 dX3_become_57 rfl ?_
        refine g_lload C 2 dX3_become_58 rfl ?_
        refine g_ldiv C dX3_become_60 (by intro h9; have h8 := congrArg Int64.toInt h9; have h7 : (0 : Int64).toInt = 0 := (by decide); omega) ?_
        refine g_nl (fun v32 ev32 => ?_)
        have fv32 := quoI ev32
        refine g_putJ C 0 in_X3_become_3 (List.mem_of_getElem? (i := 1) rfl) (by decide) (ce_frac ad cs _ _) rfl (by decide) rfl tyX3 tyX3_ok nmX3 rfl rfl rfl rfl (Nat.le_of_ble_eq_true rfl) (by rw [sJ_k]; rfl) dX3_become_61 ?_
        refine g_nmL (fun L33 hL33 => ?_)
        have hG : ∀ k i, ¬ (k = 124 ∧ i = 0) ∧ ¬ (k = 124 ∧ i = 1) → L33 k i = L k i := fun k i hk => by (rw [hL33, sJ_at, if_neg (by omega)]; try exact hG k i hk)
        have l124_0 : L33 124 0 = v32 := by rw [hL33, sJ_at, if_pos (by decide)]
        have l124_1 : L33 124 1 = L_9 124 1 := by rw [hL33, sJ_at, if_neg (by omega)]; try exact l124_1
        refine g_aload_n C 3 dX3_become_64 rfl ?_
        refine g_lload C 2 dX3_become_65 rfl ?_
        refine g_lconst C 1 dX3_become_67 (by decide) ?_
        refine g_lcmp C dX3_become_68 ?_
        refine g_ni (fun v34 ev34 => ?_)
        refine g_if_ge C 76 dX3_become_69 (by decide) (fun c35 => ?_) (fun c35 => ?_)
        ·
          have f36 := cge rfl (by decide : (1 : Int64).toInt = 1) ev34 c35
          refine g_lload_n C 5 dX3_become_76 rfl ?_
          refine g_lload C 2 dX3_become_77 rfl ?_
          refine g_ldiv C dX3_become_79 (by intro h9; have h8 := congrArg Int64.toInt h9; have h7 : (0 : Int64).toInt = 0 := (by decide); omega) ?_
          refine g_nl (fun v37 ev37 => ?_)
          have fv37 := quoI ev37
          refine g_putJ C 1 in_X3_become_3 (List.mem_of_getElem? (i := 2) rfl) (by decide) (ce_frac ad cs _ _) rfl (by decide) rfl tyX3 tyX3_ok nmX3 rfl rfl rfl rfl (Nat.le_of_ble_eq_true rfl) (by rw [sJ_k]; rfl) dX3_become_80 ?_
          refine g_nmL (fun L38 hL38 => ?_)
          have hG : ∀ k i, ¬ (k = 124 ∧ i = 0) ∧ ¬ (k = 124 ∧ i = 1) → L38 k i = L k i := fun k i hk => by (rw [hL38, sJ_at, if_neg (by omega)]; try exact hG k i hk)
          have l124_0 : L38 124 0 = v32 := by rw [hL38, sJ_at, if_neg (by omega)]; try exact l124_0
          have l124_1 : L38 124 1 = v37 := by rw [hL38, sJ_at, if_pos (by decide)]
          exact g_vret C hr ⟨(by first | (exfalso; omega) | exact ⟨by rw [l124_0]; exact frU_t hx hy hgf fv32, by rw [l124_1]; exact frD_t hy hgf fv37⟩), hI, hF, hG⟩ dX3_become_83
        ·
          have f39 := cnge rfl (by decide : (1 : Int64).toInt = 1) ev34 c35
          refine g_lconst C 1 dX3_become_72 (by decide) ?_
          refine g_goto C 80 dX3_become_73 (by decide) ?_
          refine g_putJ C 1 in_X3_become_3 (List.mem_of_getElem? (i := 2) rfl) (by decide) (ce_frac ad cs _ _) rfl (by decide) rfl tyX3 tyX3_ok nmX3 rfl rfl rfl rfl (Nat.le_of_ble_eq_true rfl) (by rw [sJ_k]; rfl) dX3_become_80 ?_
          refine g_nmL (fun L40 hL40 => ?_)
          have hG : ∀ k i, ¬ (k = 124 ∧ i = 0) ∧ ¬ (k = 124 ∧ i = 1) → L40 k i = L k i := fun k i hk => by (rw [hL40, sJ_at, if_neg (by omega)]; try exact hG k i hk)
          have l124_0 : L40 124 0 = v32 := by rw [hL40, sJ_at, if_neg (by omega)]; try exact l124_0
          have l124_1 : L40 124 1 = 1 := by rw [hL40, sJ_at, if_pos (by decide)]
          exact g_vret C hr ⟨(by exfalso; omega), hI, hF, hG⟩ dX3_become_83
      ·
        have f41 := cnge rfl (by decide : (1 : Int64).toInt = 1) ev29 c30
        refine g_lconst C 0 dX3_become_53 (by decide) ?_
        refine g_goto C 61 dX3_become_54 (by decide) ?_
        refine g_putJ C 0 in_X3_become_3 (List.mem_of_getElem? (i := 1) rfl) (by decide) (ce_frac ad cs _ _) rfl (by decide) rfl tyX3 tyX3_ok nmX3 rfl rfl rfl rfl (Nat.le_of_ble_eq_true rfl) (by rw [sJ_k]; rfl) dX3_become_61 ?_
        refine g_nmL (fun L42 hL42 => ?_)
        have hG : ∀ k i, ¬ (k = 124 ∧ i = 0) ∧ ¬ (k = 124 ∧ i = 1) → L42 k i = L k i := fun k i hk => by (rw [hL42, sJ_at, if_neg (by omega)]; try exact hG k i hk)
        have l124_0 : L42 124 0 = 0 := by rw [hL42, sJ_at, if_pos (by decide)]
        have l124_1 : L42 124 1 = L_9 124 1 := by rw [hL42, sJ_at, if_neg (by omega)]; try exact l124_1
        refine g_aload_n C 3 dX3_become_64 rfl ?_
        refine g_lload C 2 dX3_become_65 rfl ?_
        refine g_lconst C 1 dX3_become_67 (by decide) ?_
        refine g_lcmp C dX3_become_68 ?_
        refine g_ni (fun v43 ev43 => ?_)
        refine g_if_ge C 76 dX3_become_69 (by decide) (fun c44 => ?_) (fun c44 => ?_)
        ·
          have f45 := cge rfl (by decide : (1 : Int64).toInt = 1) ev43 c44
          refine g_lload_n C 5 dX3_become_76 rfl ?_
          refine g_lload C 2 dX3_become_77 rfl ?_
          refine g_ldiv C dX3_become_79 (by intro h9; have h8 := congrArg Int64.toInt h9; have h7 : (0 : Int64).toInt = 0 := (by decide); omega) ?_
          refine g_nl (fun v46 ev46 => ?_)
          have fv46 := quoI ev46
          refine g_putJ C 1 in_X3_become_3 (List.mem_of_getElem? (i := 2) rfl) (by decide) (ce_frac ad cs _ _) rfl (by decide) rfl tyX3 tyX3_ok nmX3 rfl rfl rfl rfl (Nat.le_of_ble_eq_true rfl) (by rw [sJ_k]; rfl) dX3_become_80 ?_
          refine g_nmL (fun L47 hL47 => ?_)
          have hG : ∀ k i, ¬ (k = 124 ∧ i = 0) ∧ ¬ (k = 124 ∧ i = 1) → L47 k i = L k i := fun k i hk => by (rw [hL47, sJ_at, if_neg (by omega)]; try exact hG k i hk)
          have l124_0 : L47 124 0 = 0 := by rw [hL47, sJ_at, if_neg (by omega)]; try exact l124_0
          have l124_1 : L47 124 1 = v46 := by rw [hL47, sJ_at, if_pos (by decide)]
          exact g_vret C hr ⟨(by exfalso; omega), hI, hF, hG⟩ dX3_become_83
        ·
          have f48 := cnge rfl (by decide : (1 : Int64).toInt = 1) ev43 c44
          refine g_lconst C 1 dX3_become_72 (by decide) ?_
          refine g_goto C 80 dX3_become_73 (by decide) ?_
          refine g_putJ C 1 in_X3_become_3 (List.mem_of_getElem? (i := 2) rfl) (by decide) (ce_frac ad cs _ _) rfl (by decide) rfl tyX3 tyX3_ok nmX3 rfl rfl rfl rfl (Nat.le_of_ble_eq_true rfl) (by rw [sJ_k]; rfl) dX3_become_80 ?_
          refine g_nmL (fun L49 hL49 => ?_)
          have hG : ∀ k i, ¬ (k = 124 ∧ i = 0) ∧ ¬ (k = 124 ∧ i = 1) → L49 k i = L k i := fun k i hk => by (rw [hL49, sJ_at, if_neg (by omega)]; try exact hG k i hk)
          have l124_0 : L49 124 0 = 0 := by rw [hL49, sJ_at, if_neg (by omega)]; try exact l124_0
          have l124_1 : L49 124 1 = 1 := by rw [hL49, sJ_at, if_pos (by decide)]
          exact g_vret C hr ⟨(by exfalso; omega), hI, hF, hG⟩ dX3_become_83
    ·
      have f50 := cne rfl (by decide : (0 : Int64).toInt = 0) ev26 c27
      refine g_lload C 2 dX3_become_24 rfl ?_
      refine g_lload C 1 dX3_become_26 rfl ?_
      refine g_lrem C dX3_become_28 (by intro h9; have h8 := congrArg Int64.toInt h9; have h7 : (0 : Int64).toInt = 0 := (by decide); omega) ?_
      refine g_nl (fun v51 ev51 => ?_)
      have fv51 := lremI ev51
      refine g_lstore C [(10, .long v51), (9, .int x9_9), (7, .long x7_9), (5, .long x5_9), (0, .ref (ad 124)), (1, .long x), (3, .long y)] dX3_become_29 (by decide) rfl ?_
      refine g_lload C 2 dX3_become_31 rfl ?_
      refine g_lstore C [(5, .long x7_9), (10, .long v51), (9, .int x9_9), (7, .long x7_9), (0, .ref (ad 124)), (1, .long x), (3, .long y)] dX3_become_33 (by decide) rfl ?_
      refine g_lload C 1 dX3_become_35 rfl ?_
      refine g_lstore C [(7, .long v51), (5, .long x7_9), (10, .long v51), (9, .int x9_9), (0, .ref (ad 124)), (1, .long x), (3, .long y)] dX3_become_37 (by decide) rfl ?_
      obtain ⟨v52, ev52⟩ : ∃ y : Int32, y = x9_9 + 1 := ⟨_, rfl⟩
      try have fv52 := fadd rfl (by decide : (1 : Int32).toInt = 1) ev52 (by omega) (by omega)
      refine g_iinc C 3 v52 [(9, .int v52), (7, .long v51), (5, .long x7_9), (10, .long v51), (0, .ref (ad 124)), (1, .long x), (3, .long y)] dX3_become_39 rfl (by rw [ev52]; rfl) (by decide) rfl ?_
      refine g_goto C 9 dX3_become_42 (by decide) ?_
      refine g_lv [0, 1, 2, 4, 5, 6] [(9, .int v52), (7, .long v51), (5, .long x7_9), (0, .ref (ad 124)), (1, .long x), (3, .long y)] rfl ?_
      have n9 := ixn (x := x9_9) (by omega)
      have nv := ixn (x := v52) (by omega)
      have iv : v52.toNatClampNeg = x9_9.toNatClampNeg + 1 := by omega
      have hrn := Int.tmod_nonneg x7_9.toInt j9_2
      have hrl := Int.tmod_lt_of_pos x5_9.toInt (show 0 < x7_9.toInt by omega)
      have b7 := Int64.toInt_lt x7_9
      have hst : x7_9.toInt.toNat * v51.toInt.toNat * 2 ^ v52.toNatClampNeg ≤ 2 ^ 127 := by rw [iv, fv51, tmod_nat j9_2 j9_3]; exact eu_step (by omega) (by omega) (by omega) j9_6
      exact ih_9 (v52, x7_9, v51, M_9, L_9) ⟨by show 0 ≤ v52.toInt; omega, by show v52.toInt ≤ 1000; omega, by show 0 ≤ x7_9.toInt; omega, by show 0 ≤ v51.toInt; rw [fv51]; exact hrn, by show ∀ t : Int, (t ∣ x7_9.toInt ∧ t ∣ v51.toInt) ↔ (t ∣ x.toInt ∧ t ∣ y.toInt); intro t; rw [fv51]; exact dvd_tmod.trans (j9_4 t), by show (v52.toInt = 0 ∧ v51 = y) ∨ (v51.toInt ≤ x7_9.toInt ∧ 1 ≤ x7_9.toInt); exact Or.inr ⟨by omega, by omega⟩, by show x7_9.toInt.toNat * v51.toInt.toNat * 2 ^ v52.toNatClampNeg ≤ 2 ^ 127; exact hst, hI, hF, hG⟩ (by show (1001 - v52.toInt).toNat < (1001 - x9_9.toInt).toNat; omega)
set_option maxHeartbeats 4000000 in
set_option maxRecDepth 100000 in
theorem k_X3_add (l : Launch) (D : va_G) (ad : Nat → Nat) (cs : Nat → ClassId) (M : MI) (L : ML) (x : Int64) (y : Int64) (hI : IC M) (h1 : 0 ≤ (L 124 0 * y + x * L 124 1).toInt) (h2 : 1 ≤ (L 124 1 * y).toInt) : Cv l yX3_add wsX3_add ({ frames := 1, cells := 0, slots := 0, locals := 31 }) D ad cs [.ref (ad 124), .long x, .long y] M L (fun M1 L1 => (L1 124 0 = frU (L 124 0 * y + x * L 124 1) (L 124 1 * y) ∧ L1 124 1 = frD (L 124 0 * y + x * L 124 1) (L 124 1 * y)) ∧ IC M1 ∧ (∀ k i, True → M1 k i = M k i) ∧ ∀ k i, ¬ (k = 124 ∧ i = 0) ∧ ¬ (k = 124 ∧ i = 1) → L1 k i = L k i) := by
  refine enter_v RX3 rfl [(0, .ref (ad 124)), (1, .long x), (3, .long y)] rfl (Nat.le_of_ble_eq_true rfl) (by decide +kernel) rfl ?_
  intro p e s m below meth c C hr
  have hF : ∀ k i, True → M k i = M k i := fun _ _ _ => rfl
  have hG : ∀ k i, ¬ (k = 124 ∧ i = 0) ∧ ¬ (k = 124 ∧ i = 1) → L k i = L k i := fun _ _ _ => rfl
  have w0 : (vC M 0 0).toInt = (M 1 0).toInt := rfl
  have w1 : (vC M 0 1).toInt = (M 3 0).toInt := rfl
  have w2 : (vC M 0 2).toInt = (M 68 0).toInt := rfl
  have w3 : (vC M 0 3).toInt = (M 81 0).toInt := rfl
  obtain ⟨y0a, y0b⟩ := (show rg 0 10 (M 1 0) from hI 1 0 rfl)
  obtain ⟨y1a, y1b⟩ := (show rg 0 60 (M 3 0) from hI 3 0 rfl)
  obtain ⟨y2a, y2b⟩ := (show rg 0 8 (M 68 0) from hI 68 0 rfl)
  obtain ⟨y3a, y3b⟩ := (show rg 0 20 (M 81 0) from hI 81 0 rfl)
  have l124_0 : L 124 0 = L 124 0 := rfl
  have l124_1 : L 124 1 = L 124 1 := rfl
  refine g_aload_n C 0 dX3_add_0 rfl ?_
  refine g_aload_n C 0 dX3_add_1 rfl ?_
  refine g_get C (.long (L 124 0)) 0 in_X3_add_3 (List.mem_of_getElem? (i := 1) rfl) (by decide) (ce_frac ad cs _ _) rfl (by decide) rfl rfl dX3_add_2 ?_
  refine g_nl (fun v1 ev1 => ?_)
  have gv1 : v1 = L 124 0 := ev1.trans l124_0
  have tv1 := congrArg Int64.toInt gv1
  refine g_lload_n C 2 dX3_add_5 rfl ?_
  refine g_lmul C dX3_add_6 ?_
  refine g_nl (fun v2 ev2 => ?_)
  try have fv2 := prodI ev2
  refine g_lload_n C 1 dX3_add_7 rfl ?_
  refine g_aload_n C 0 dX3_add_8 rfl ?_
  refine g_get C (.long (L 124 1)) 1 in_X3_add_3 (List.mem_of_getElem? (i := 2) rfl) (by decide) (ce_frac ad cs _ _) rfl (by decide) rfl rfl dX3_add_9 ?_
  refine g_nl (fun v3 ev3 => ?_)
  have gv3 : v3 = L 124 1 := ev3.trans l124_1
  have tv3 := congrArg Int64.toInt gv3
  refine g_lmul C dX3_add_12 ?_
  refine g_nl (fun v4 ev4 => ?_)
  try have fv4 := prodI ev4
  refine g_ladd C dX3_add_13 ?_
  refine g_nl (fun v5 ev5 => ?_)
  try have fv5 := fladd rfl rfl ev5 (by omega) (by omega)
  refine g_aload_n C 0 dX3_add_14 rfl ?_
  refine g_get C (.long (L 124 1)) 1 in_X3_add_3 (List.mem_of_getElem? (i := 2) rfl) (by decide) (ce_frac ad cs _ _) rfl (by decide) rfl rfl dX3_add_15 ?_
  refine g_nl (fun v6 ev6 => ?_)
  have gv6 : v6 = L 124 1 := ev6.trans l124_1
  have tv6 := congrArg Int64.toInt gv6
  refine g_lload_n C 2 dX3_add_18 rfl ?_
  refine g_lmul C dX3_add_19 ?_
  refine g_nl (fun v7 ev7 => ?_)
  try have fv7 := prodI ev7
  have eA9 : v5 = (L 124 0 * y + x * L 124 1) := by simp only [ev7, gv6, ev5, ev4, gv3, ev2, gv1]
  have eB9 : v7 = (L 124 1 * y) := by simp only [ev7, gv6, ev5, ev4, gv3, ev2, gv1]
  refine g_callVv C (n := 2) (As := [.long v5, .long v7]) (st := []) (k_X3_become l D ad cs _ _ v5 v7 hI (by rw [eA9]; exact h1) (by rw [eB9]; exact h2)) gX3_add_X3_become rfl rfl rfl (by decide +kernel) ⟨Nat.le_of_ble_eq_true rfl, Nat.le_of_ble_eq_true rfl⟩ rfl (Nat.le_of_ble_eq_true rfl) ⟨Nat.zero_le _, Nat.zero_le _⟩ (by decide) (ce_frac ad cs _ _) rfl rfl dX3_add_20 (fun M9 L10 hr8 => ?_)
  obtain ⟨hr8, hI, hFr8, hGr8⟩ := hr8
  have hF : ∀ k i, True → M9 k i = M k i := fun k i hk => by (rw [hFr8 k i trivial]; try exact hF k i hk)
  have hG : ∀ k i, ¬ (k = 124 ∧ i = 0) ∧ ¬ (k = 124 ∧ i = 1) → L10 k i = L k i := fun k i hk => by (rw [hGr8 k i (by omega)]; try exact hG k i hk)
  have l124_0 : L10 124 0 = L10 124 0 := rfl
  have l124_1 : L10 124 1 = L10 124 1 := rfl
  obtain ⟨bu, bd⟩ := hr8
  rw [eA9, eB9] at bu bd
  exact g_vret C hr ⟨⟨bu, bd⟩, hI, hF, hG⟩ dX3_add_23
set_option maxHeartbeats 4000000 in
set_option maxRecDepth 100000 in
theorem k_X3_multiply (l : Launch) (D : va_G) (ad : Nat → Nat) (cs : Nat → ClassId) (M : MI) (L : ML) (x : Int64) (y : Int64) (hI : IC M) (h1 : 0 ≤ (L 124 0 * x).toInt) (h2 : 1 ≤ (L 124 1 * y).toInt) : Cv l yX3_multiply wsX3_multiply ({ frames := 1, cells := 0, slots := 0, locals := 31 }) D ad cs [.ref (ad 124), .long x, .long y] M L (fun M1 L1 => (L1 124 0 = frU (L 124 0 * x) (L 124 1 * y) ∧ L1 124 1 = frD (L 124 0 * x) (L 124 1 * y)) ∧ IC M1 ∧ (∀ k i, True → M1 k i = M k i) ∧ ∀ k i, ¬ (k = 124 ∧ i = 0) ∧ ¬ (k = 124 ∧ i = 1) → L1 k i = L k i) := by
  refine enter_v RX3 rfl [(0, .ref (ad 124)), (1, .long x), (3, .long y)] rfl (Nat.le_of_ble_eq_true rfl) (by decide +kernel) rfl ?_
  intro p e s m below meth c C hr
  have hF : ∀ k i, True → M k i = M k i := fun _ _ _ => rfl
  have hG : ∀ k i, ¬ (k = 124 ∧ i = 0) ∧ ¬ (k = 124 ∧ i = 1) → L k i = L k i := fun _ _ _ => rfl
  have w0 : (vC M 0 0).toInt = (M 1 0).toInt := rfl
  have w1 : (vC M 0 1).toInt = (M 3 0).toInt := rfl
  have w2 : (vC M 0 2).toInt = (M 68 0).toInt := rfl
  have w3 : (vC M 0 3).toInt = (M 81 0).toInt := rfl
  obtain ⟨y0a, y0b⟩ := (show rg 0 10 (M 1 0) from hI 1 0 rfl)
  obtain ⟨y1a, y1b⟩ := (show rg 0 60 (M 3 0) from hI 3 0 rfl)
  obtain ⟨y2a, y2b⟩ := (show rg 0 8 (M 68 0) from hI 68 0 rfl)
  obtain ⟨y3a, y3b⟩ := (show rg 0 20 (M 81 0) from hI 81 0 rfl)
  have l124_0 : L 124 0 = L 124 0 := rfl
  have l124_1 : L 124 1 = L 124 1 := rfl
  refine g_aload_n C 0 dX3_multiply_0 rfl ?_
  refine g_aload_n C 0 dX3_multiply_1 rfl ?_
  refine g_get C (.long (L 124 0)) 0 in_X3_multiply_3 (List.mem_of_getElem? (i := 1) rfl) (by decide) (ce_frac ad cs _ _) rfl (by decide) rfl rfl dX3_multiply_2 ?_
  refine g_nl (fun v1 ev1 => ?_)
  have gv1 : v1 = L 124 0 := ev1.trans l124_0
  have tv1 := congrArg Int64.toInt gv1
  refine g_lload_n C 1 dX3_multiply_5 rfl ?_
  refine g_lmul C dX3_multiply_6 ?_
  refine g_nl (fun v2 ev2 => ?_)
  try have fv2 := prodI ev2
  refine g_aload_n C 0 dX3_multiply_7 rfl ?_
  refine g_get C (.long (L 124 1)) 1 in_X3_multiply_3 (List.mem_of_getElem? (i := 2) rfl) (by decide) (ce_frac ad cs _ _) rfl (by decide) rfl rfl dX3_multiply_8 ?_
  refine g_nl (fun v3 ev3 => ?_)
  have gv3 : v3 = L 124 1 := ev3.trans l124_1
  have tv3 := congrArg Int64.toInt gv3
  refine g_lload_n C 2 dX3_multiply_11 rfl ?_
  refine g_lmul C dX3_multiply_12 ?_
  refine g_nl (fun v4 ev4 => ?_)
  try have fv4 := prodI ev4
  have eA9 : v2 = (L 124 0 * x) := by simp only [ev4, gv3, ev2, gv1]
  have eB9 : v4 = (L 124 1 * y) := by simp only [ev4, gv3, ev2, gv1]
  refine g_callVv C (n := 2) (As := [.long v2, .long v4]) (st := []) (k_X3_become l D ad cs _ _ v2 v4 hI (by rw [eA9]; exact h1) (by rw [eB9]; exact h2)) gX3_multiply_X3_become rfl rfl rfl (by decide +kernel) ⟨Nat.le_of_ble_eq_true rfl, Nat.le_of_ble_eq_true rfl⟩ rfl (Nat.le_of_ble_eq_true rfl) ⟨Nat.zero_le _, Nat.zero_le _⟩ (by decide) (ce_frac ad cs _ _) rfl rfl dX3_multiply_13 (fun M6 L7 hr5 => ?_)
  obtain ⟨hr5, hI, hFr5, hGr5⟩ := hr5
  have hF : ∀ k i, True → M6 k i = M k i := fun k i hk => by (rw [hFr5 k i trivial]; try exact hF k i hk)
  have hG : ∀ k i, ¬ (k = 124 ∧ i = 0) ∧ ¬ (k = 124 ∧ i = 1) → L7 k i = L k i := fun k i hk => by (rw [hGr5 k i (by omega)]; try exact hG k i hk)
  have l124_0 : L7 124 0 = L7 124 0 := rfl
  have l124_1 : L7 124 1 = L7 124 1 := rfl
  obtain ⟨bu, bd⟩ := hr5
  rw [eA9, eB9] at bu bd
  exact g_vret C hr ⟨⟨bu, bd⟩, hI, hF, hG⟩ dX3_multiply_16
