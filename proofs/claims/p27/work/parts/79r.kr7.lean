set_option maxHeartbeats 4000000 in
set_option maxRecDepth 100000 in
theorem k_X11_begin (l : Launch) (D : va_G) (ad : Nat → Nat) (cs : Nat → ClassId) (M : MI) (L : ML) (x : Int32) (y : Int32) (hI : IR M) (hx : 0 ≤ x.toInt ∧ x.toInt < 8) (hy : 1 ≤ y.toInt ∧ y.toInt ≤ 30) : Cv l yX11_begin wsX11_begin ({ frames := 0, cells := 0, slots := 0, locals := 0 }) D ad cs [.ref (ad 258), .int x, .int y] M L (fun M1 L1 => (M1 258 27 = x ∧ M1 258 28 = y ∧ M1 258 29 = 0 ∧ M1 258 31 = 0 ∧ M1 258 25 = 0 ∧ (∀ c : Nat, c < 10 → M1 282 c = if (c : Int) < (M 258 2).toInt then 1 else 0) ∧ ∀ i : Nat, i < 40 → okF (L1 286 i) (L1 287 i) ∧ (L1 286 i = (if (M 267 (40 * x.toNatClampNeg + i)).toInt = -9 then 0 else (M 262 (M 267 (40 * x.toNatClampNeg + i)).toNatClampNeg).toInt64) ∧ L1 287 i = 1)) ∧ IR M1 ∧ (∀ k i, ¬ (k = 258 ∧ i = 25) ∧ ¬ (k = 258 ∧ i = 27) ∧ ¬ (k = 258 ∧ i = 28) ∧ ¬ (k = 258 ∧ i = 29) ∧ ¬ (k = 258 ∧ i = 31) ∧ k ≠ 282 → M1 k i = M k i) ∧ ∀ k i, k ≠ 286 ∧ k ≠ 287 → L1 k i = L k i) := by
  refine enter_v RX11 rfl [(0, .ref (ad 258)), (1, .int x), (2, .int y)] rfl (Nat.le_of_ble_eq_true rfl) (by decide +kernel) rfl ?_
  intro p e s m below meth c C hr
  have hF : ∀ k i, ¬ (k = 258 ∧ i = 25) ∧ ¬ (k = 258 ∧ i = 27) ∧ ¬ (k = 258 ∧ i = 28) ∧ ¬ (k = 258 ∧ i = 29) ∧ ¬ (k = 258 ∧ i = 31) ∧ k ≠ 282 → M k i = M k i := fun _ _ _ => rfl
  have hG : ∀ k i, k ≠ 286 ∧ k ≠ 287 → L k i = L k i := fun _ _ _ => rfl
  obtain ⟨hx1, hx2⟩ := hx
  obtain ⟨hy1, hy2⟩ := hy
  have k25 : M 258 25 = M 258 25 := rfl
  have k27 : M 258 27 = M 258 27 := rfl
  have k28 : M 258 28 = M 258 28 := rfl
  have k29 : M 258 29 = M 258 29 := rfl
  have k31 : M 258 31 = M 258 31 := rfl
  have p286 : L 286 = L 286 := rfl
  have p287 : L 287 = L 287 := rfl
  have q282 : M 282 = M 282 := rfl
  refine g_aload_n C 0 dX11_begin_0 rfl ?_
  refine g_iload_n C 1 dX11_begin_1 rfl ?_
  refine g_putI C 27 in_X11_begin_11 (List.mem_of_getElem? (i := 1) rfl) (by decide) (ce_model ad cs _ _) rfl (by decide) rfl tyX11 tyX11_ok nmX11 rfl rfl rfl rfl (Nat.le_of_ble_eq_true rfl) (by rw [sI_k]; rfl) dX11_begin_2 ?_
  refine g_nm (fun M1 hM1 => ?_)
  have hI : IR M1 := by rw [hM1]; exact hI.st (show bR 258 27 _ from ⟨by first | omega | decide, by first | omega | decide⟩)
  have hF : ∀ k i, ¬ (k = 258 ∧ i = 25) ∧ ¬ (k = 258 ∧ i = 27) ∧ ¬ (k = 258 ∧ i = 28) ∧ ¬ (k = 258 ∧ i = 29) ∧ ¬ (k = 258 ∧ i = 31) ∧ k ≠ 282 → M1 k i = M k i := fun k i hk => by (rw [hM1, sI_at, if_neg (by omega)]; try exact hF k i hk)
  have k25 : M1 258 25 = M 258 25 := by rw [hM1, sI_at, if_neg (by decide)]; try exact k25
  have k28 : M1 258 28 = M 258 28 := by rw [hM1, sI_at, if_neg (by decide)]; try exact k28
  have k29 : M1 258 29 = M 258 29 := by rw [hM1, sI_at, if_neg (by decide)]; try exact k29
  have k31 : M1 258 31 = M 258 31 := by rw [hM1, sI_at, if_neg (by decide)]; try exact k31
  have k27 : M1 258 27 = x := by rw [hM1, sI_at, if_pos (by decide)]
  have q282 : M1 282 = M 282 := by rw [hM1, sI_n _ _ _ (by decide)]; try exact q282
  refine g_aload_n C 0 dX11_begin_5 rfl ?_
  refine g_iload_n C 2 dX11_begin_6 rfl ?_
  refine g_putI C 28 in_X11_begin_11 (List.mem_of_getElem? (i := 2) rfl) (by decide) (ce_model ad cs _ _) rfl (by decide) rfl tyX11 tyX11_ok nmX11 rfl rfl rfl rfl (Nat.le_of_ble_eq_true rfl) (by rw [sI_k]; rfl) dX11_begin_7 ?_
  refine g_nm (fun M2 hM2 => ?_)
  have hI : IR M2 := by rw [hM2]; exact hI.st (show bR 258 28 _ from ⟨by first | omega | decide, by first | omega | decide⟩)
  have hF : ∀ k i, ¬ (k = 258 ∧ i = 25) ∧ ¬ (k = 258 ∧ i = 27) ∧ ¬ (k = 258 ∧ i = 28) ∧ ¬ (k = 258 ∧ i = 29) ∧ ¬ (k = 258 ∧ i = 31) ∧ k ≠ 282 → M2 k i = M k i := fun k i hk => by (rw [hM2, sI_at, if_neg (by omega)]; try exact hF k i hk)
  have k25 : M2 258 25 = M 258 25 := by rw [hM2, sI_at, if_neg (by decide)]; try exact k25
  have k27 : M2 258 27 = x := by rw [hM2, sI_at, if_neg (by decide)]; try exact k27
  have k29 : M2 258 29 = M 258 29 := by rw [hM2, sI_at, if_neg (by decide)]; try exact k29
  have k31 : M2 258 31 = M 258 31 := by rw [hM2, sI_at, if_neg (by decide)]; try exact k31
  have k28 : M2 258 28 = y := by rw [hM2, sI_at, if_pos (by decide)]
  have q282 : M2 282 = M 282 := by rw [hM2, sI_n _ _ _ (by decide)]; try exact q282
  refine g_aload_n C 0 dX11_begin_10 rfl ?_
  refine g_iconst C 0 dX11_begin_11 (by decide) ?_
  refine g_putI C 29 in_X11_begin_11 (List.mem_of_getElem? (i := 3) rfl) (by decide) (ce_model ad cs _ _) rfl (by decide) rfl tyX11 tyX11_ok nmX11 rfl rfl rfl rfl (Nat.le_of_ble_eq_true rfl) (by rw [sI_k]; rfl) dX11_begin_12 ?_
  refine g_nm (fun M3 hM3 => ?_)
  have zy4 : (0 : Int32).toInt = 0 := by decide
  have hI : IR M3 := by rw [hM3]; exact hI.st (show bR 258 29 _ from ⟨by first | omega | decide, by first | omega | decide⟩)
  have hF : ∀ k i, ¬ (k = 258 ∧ i = 25) ∧ ¬ (k = 258 ∧ i = 27) ∧ ¬ (k = 258 ∧ i = 28) ∧ ¬ (k = 258 ∧ i = 29) ∧ ¬ (k = 258 ∧ i = 31) ∧ k ≠ 282 → M3 k i = M k i := fun k i hk => by (rw [hM3, sI_at, if_neg (by omega)]; try exact hF k i hk)
  have k25 : M3 258 25 = M 258 25 := by rw [hM3, sI_at, if_neg (by decide)]; try exact k25
  have k27 : M3 258 27 = x := by rw [hM3, sI_at, if_neg (by decide)]; try exact k27
  have k28 : M3 258 28 = y := by rw [hM3, sI_at, if_neg (by decide)]; try exact k28
  have k31 : M3 258 31 = M 258 31 := by rw [hM3, sI_at, if_neg (by decide)]; try exact k31
  have k29 : M3 258 29 = 0 := by rw [hM3, sI_at, if_pos (by decide)]
  have q282 : M3 282 = M 282 := by rw [hM3, sI_n _ _ _ (by decide)]; try exact q282
  refine g_aload_n C 0 dX11_begin_15 rfl ?_
  refine g_iconst C 0 dX11_begin_16 (by decide) ?_
  refine g_putI C 31 in_X11_begin_11 (List.mem_of_getElem? (i := 4) rfl) (by decide) (ce_model ad cs _ _) rfl (by decide) rfl tyX11 tyX11_ok nmX11 rfl rfl rfl rfl (Nat.le_of_ble_eq_true rfl) (by rw [sI_k]; rfl) dX11_begin_17 ?_
  refine g_nm (fun M5 hM5 => ?_)
  have zy6 : (0 : Int32).toInt = 0 := by decide
  have hI : IR M5 := by rw [hM5]; exact hI.st (show bR 258 31 _ from ⟨by first | omega | decide, by first | omega | decide⟩)
  have hF : ∀ k i, ¬ (k = 258 ∧ i = 25) ∧ ¬ (k = 258 ∧ i = 27) ∧ ¬ (k = 258 ∧ i = 28) ∧ ¬ (k = 258 ∧ i = 29) ∧ ¬ (k = 258 ∧ i = 31) ∧ k ≠ 282 → M5 k i = M k i := fun k i hk => by (rw [hM5, sI_at, if_neg (by omega)]; try exact hF k i hk)
  have k25 : M5 258 25 = M 258 25 := by rw [hM5, sI_at, if_neg (by decide)]; try exact k25
  have k27 : M5 258 27 = x := by rw [hM5, sI_at, if_neg (by decide)]; try exact k27
  have k28 : M5 258 28 = y := by rw [hM5, sI_at, if_neg (by decide)]; try exact k28
  have k29 : M5 258 29 = 0 := by rw [hM5, sI_at, if_neg (by decide)]; try exact k29
  have k31 : M5 258 31 = 0 := by rw [hM5, sI_at, if_pos (by decide)]
  have q282 : M5 282 = M 282 := by rw [hM5, sI_n _ _ _ (by decide)]; try exact q282
  refine g_aload_n C 0 dX11_begin_20 rfl ?_
  refine g_iconst C 0 dX11_begin_21 (by decide) ?_
  refine g_putI C 25 in_X11_begin_11 (List.mem_of_getElem? (i := 5) rfl) (by decide) (ce_model ad cs _ _) rfl (by decide) rfl tyX11 tyX11_ok nmX11 rfl rfl rfl rfl (Nat.le_of_ble_eq_true rfl) (by rw [sI_k]; rfl) dX11_begin_22 ?_
  refine g_nm (fun M7 hM7 => ?_)
  have zy8 : (0 : Int32).toInt = 0 := by decide
  have hI : IR M7 := by rw [hM7]; exact hI.st (show bR 258 25 _ from ⟨by first | omega | decide, by first | omega | decide⟩)
  have hF : ∀ k i, ¬ (k = 258 ∧ i = 25) ∧ ¬ (k = 258 ∧ i = 27) ∧ ¬ (k = 258 ∧ i = 28) ∧ ¬ (k = 258 ∧ i = 29) ∧ ¬ (k = 258 ∧ i = 31) ∧ k ≠ 282 → M7 k i = M k i := fun k i hk => by (rw [hM7, sI_at, if_neg (by omega)]; try exact hF k i hk)
  have k27 : M7 258 27 = x := by rw [hM7, sI_at, if_neg (by decide)]; try exact k27
  have k28 : M7 258 28 = y := by rw [hM7, sI_at, if_neg (by decide)]; try exact k28
  have k29 : M7 258 29 = 0 := by rw [hM7, sI_at, if_neg (by decide)]; try exact k29
  have k31 : M7 258 31 = 0 := by rw [hM7, sI_at, if_neg (by decide)]; try exact k31
  have k25 : M7 258 25 = 0 := by rw [hM7, sI_at, if_pos (by decide)]
  have q282 : M7 282 = M 282 := by rw [hM7, sI_n _ _ _ (by decide)]; try exact q282
  refine g_iconst C 0 dX11_begin_25 (by decide) ?_
  refine g_istore_n C [(3, .int 0), (0, .ref (ad 258)), (1, .int x), (2, .int y)] dX11_begin_26 (by decide) rfl ?_
  have zy9 : (0 : Int32).toInt = 0 := by decide
  refine g_loop (α := Int32 × MI × ML) (fun a => (11 - a.1.toInt).toNat) (fun a => (0 ≤ a.1.toInt) ∧ (a.1.toInt ≤ 10) ∧ (a.2.1 258 27 = x) ∧ (a.2.1 258 28 = y) ∧ (a.2.1 258 29 = 0) ∧ (a.2.1 258 31 = 0) ∧ (a.2.1 258 25 = 0) ∧ (∀ c : Nat, c < a.1.toNatClampNeg → a.2.1 282 c = if (c : Int) < (M 258 2).toInt then 1 else 0) ∧ IR a.2.1 ∧ (∀ k i, ¬ (k = 258 ∧ i = 25) ∧ ¬ (k = 258 ∧ i = 27) ∧ ¬ (k = 258 ∧ i = 28) ∧ ¬ (k = 258 ∧ i = 29) ∧ ¬ (k = 258 ∧ i = 31) ∧ k ≠ 282 → a.2.1 k i = M k i) ∧ (∀ k i, k ≠ 286 ∧ k ≠ 287 → a.2.2 k i = L k i)) (fun a => a.2.1) (fun a => a.2.2) (fun a => [(3, .int a.1), (0, .ref (ad 258)), (1, .int x), (2, .int y)]) ((0 : Int32), M7, L) ⟨by show 0 ≤ (0 : Int32).toInt; omega, by show (0 : Int32).toInt ≤ 10; omega, by show M7 258 27 = x; exact k27, by show M7 258 28 = y; exact k28, by show M7 258 29 = 0; exact k29, by show M7 258 31 = 0; exact k31, by show M7 258 25 = 0; exact k25, by show ∀ c : Nat, c < (0 : Int32).toNatClampNeg → M7 282 c = if (c : Int) < (M 258 2).toInt then 1 else 0; intro c hc; exact absurd hc (by show ¬ c < 0; omega), hI, hF, hG⟩ rfl rfl rfl ?_
  rintro ⟨x3_27, M_27, L_27⟩ ⟨j27_0, j27_1, j27_2, j27_3, j27_4, j27_5, j27_6, j27_7, hI, hF, hG⟩ ih_27
  dsimp only at j27_0 j27_1 j27_2 j27_3 j27_4 j27_5 j27_6 j27_7 hI hF hG ih_27 ⊢
  have k25 : M_27 258 25 = M_27 258 25 := rfl
  have k27 : M_27 258 27 = M_27 258 27 := rfl
  have k28 : M_27 258 28 = M_27 258 28 := rfl
  have k29 : M_27 258 29 = M_27 258 29 := rfl
  have k31 : M_27 258 31 = M_27 258 31 := rfl
  have p286 : L_27 286 = L_27 286 := rfl
  have p287 : L_27 287 = L_27 287 := rfl
  have q282 : M_27 282 = M_27 282 := rfl
  have n3 := ixn (x := x3_27) (by omega)
  refine g_iload_n C 0 dX11_begin_27 rfl ?_
  refine g_bipush C 10 dX11_begin_28 (by decide) ?_
  refine g_icmp_ge C 58 dX11_begin_30 (by decide) (fun c10 => ?_) (fun c10 => ?_)
  ·
    have f11 := fle (by decide : (10 : Int32).toInt = 10) rfl c10
    refine g_iconst C 0 dX11_begin_58 (by decide) ?_
    refine g_istore_n C [(3, .int 0), (0, .ref (ad 258)), (1, .int x), (2, .int y)] dX11_begin_59 (by decide) rfl ?_
    have zy12 : (0 : Int32).toInt = 0 := by decide
    refine g_loop (α := Int32 × MI × ML) (fun a => (41 - a.1.toInt).toNat) (fun a => (0 ≤ a.1.toInt) ∧ (a.1.toInt ≤ 40) ∧ (a.2.1 = M_27) ∧ (∀ i : Nat, i < a.1.toNatClampNeg → okF (a.2.2 286 i) (a.2.2 287 i) ∧ (a.2.2 286 i = (if (M 267 (40 * x.toNatClampNeg + i)).toInt = -9 then 0 else (M 262 (M 267 (40 * x.toNatClampNeg + i)).toNatClampNeg).toInt64) ∧ a.2.2 287 i = 1)) ∧ IR a.2.1 ∧ (∀ k i, ¬ (k = 258 ∧ i = 25) ∧ ¬ (k = 258 ∧ i = 27) ∧ ¬ (k = 258 ∧ i = 28) ∧ ¬ (k = 258 ∧ i = 29) ∧ ¬ (k = 258 ∧ i = 31) ∧ k ≠ 282 → a.2.1 k i = M k i) ∧ (∀ k i, k ≠ 286 ∧ k ≠ 287 → a.2.2 k i = L k i)) (fun a => a.2.1) (fun a => a.2.2) (fun a => [(3, .int a.1), (0, .ref (ad 258)), (1, .int x), (2, .int y)]) ((0 : Int32), M_27, L_27) ⟨by show 0 ≤ (0 : Int32).toInt; omega, by show (0 : Int32).toInt ≤ 40; omega, by show M_27 = M_27; rfl, by show ∀ i : Nat, i < (0 : Int32).toNatClampNeg → okF (L_27 286 i) (L_27 287 i) ∧ (L_27 286 i = (if (M 267 (40 * x.toNatClampNeg + i)).toInt = -9 then 0 else (M 262 (M 267 (40 * x.toNatClampNeg + i)).toNatClampNeg).toInt64) ∧ L_27 287 i = 1); intro i hi; exact absurd hi (by show ¬ i < 0; omega), hI, hF, hG⟩ rfl rfl rfl ?_
    rintro ⟨x3_60, M_60, L_60⟩ ⟨j60_0, j60_1, j60_2, j60_3, hI, hF, hG⟩ ih_60
    dsimp only at j60_0 j60_1 j60_2 j60_3 hI hF hG ih_60 ⊢
    have k25 : M_60 258 25 = M_60 258 25 := rfl
    have k27 : M_60 258 27 = M_60 258 27 := rfl
    have k28 : M_60 258 28 = M_60 258 28 := rfl
    have k29 : M_60 258 29 = M_60 258 29 := rfl
    have k31 : M_60 258 31 = M_60 258 31 := rfl
    have p286 : L_60 286 = L_60 286 := rfl
    have p287 : L_60 287 = L_60 287 := rfl
    have q282 : M_60 282 = M_60 282 := rfl
    have n3b := ixn (x := x3_60) (by omega)
    refine g_iload_n C 0 dX11_begin_60 rfl ?_
    refine g_bipush C 40 dX11_begin_61 (by decide) ?_
    refine g_icmp_ge C 117 dX11_begin_63 (by decide) (fun c13 => ?_) (fun c13 => ?_)
    ·
      have f14 := fle (by decide : (40 : Int32).toInt = 40) rfl c13
      exact g_vret C hr ⟨⟨by rw [j60_2]; exact j27_2, by rw [j60_2]; exact j27_3, by rw [j60_2]; exact j27_4, by rw [j60_2]; exact j27_5, by rw [j60_2]; exact j27_6, by (intro c hc; rw [j60_2]; exact j27_7 c (by omega)), fun i hi => j60_3 i (by omega)⟩, hI, hF, hG⟩ dX11_begin_117
    ·
      have f15 := fnle (by decide : (40 : Int32).toInt = 40) rfl c13
      refine g_aload_n C 1 dX11_begin_66 rfl ?_
      refine g_get C (.ref (ad 267)) 12 in_X11_begin_11 (List.mem_of_getElem? (i := 8) rfl) (by decide) (ce_model ad cs _ _) rfl (by decide) rfl rfl dX11_begin_67 ?_
      refine g_bipush C 40 dX11_begin_70 (by decide) ?_
      refine g_iload_n C 2 dX11_begin_72 rfl ?_
      refine g_imul C dX11_begin_73 ?_
      refine g_ni (fun v16 ev16 => ?_)
      try have fv16 := fmul (by decide : (40 : Int32).toInt = 40) rfl ev16 (by omega) (by omega)
      refine g_iload_n C 0 dX11_begin_74 rfl ?_
      refine g_iadd C dX11_begin_75 ?_
      refine g_ni (fun v17 ev17 => ?_)
      try have fv17 := fadd rfl rfl ev17 (by omega) (by omega)
      refine g_iald C (by decide) (ce_m_boxed ad cs _ _) (fin' (n := 320) rfl (by omega) (by omega)) dX11_begin_76 ?_
      have nx := ixn (x := x) (by omega)
      have nx3_60 := ixn (x := x3_60) (by omega)
      have nv17 := ixn (x := v17) (by omega)
      have iv17 : v17.toNatClampNeg = 40 * x.toNatClampNeg + x3_60.toNatClampNeg := by omega
      refine g_ni (fun v18 ev18 => ?_)
      have gv18 : v18 = M 267 v17.toNatClampNeg := ev18.trans (hF 267 v17.toNatClampNeg (by omega))
      have gv18 := cg1 (f := M 267) gv18 iv17
      have tv18 := congrArg Int32.toInt gv18
      have bv18 : bxd v18 := (by rw [ev18]; exact hI 267 v17.toNatClampNeg)
      unfold bxd at bv18
      refine g_istore C [(4, .int v18), (3, .int x3_60), (0, .ref (ad 258)), (1, .int x), (2, .int y)] dX11_begin_77 (by decide) rfl ?_
      refine g_aload_n C 2 dX11_begin_79 rfl ?_
      refine g_get C (.ref (ad 286)) 40 in_X11_begin_11 (List.mem_of_getElem? (i := 9) rfl) (by decide) (ce_model ad cs _ _) rfl (by decide) rfl rfl dX11_begin_80 ?_
      refine g_iload_n C 1 dX11_begin_83 rfl ?_
      refine g_iload C 0 dX11_begin_84 rfl ?_
      refine g_bipush C (-9) dX11_begin_86 (by decide) ?_
      refine g_icmp_ne C 95 dX11_begin_88 (by decide) (fun c19 => ?_) (fun c19 => ?_)
      ·
        have f20 := fne rfl (by decide : ((-9) : Int32).toInt = (-9)) c19
        refine g_aload_n C 2 dX11_begin_95 rfl ?_
        refine g_get C (.ref (ad 262)) 6 in_X11_begin_11 (List.mem_of_getElem? (i := 10) rfl) (by decide) (ce_model ad cs _ _) rfl (by decide) rfl rfl dX11_begin_96 ?_
        refine g_iload C 0 dX11_begin_99 rfl ?_
        refine g_iald C (by decide) (ce_m_papersOf ad cs _ _) (fin' (n := 60) rfl (by omega) (by omega)) dX11_begin_101 ?_
        refine g_ni (fun v21 ev21 => ?_)
        have gv21 : v21 = M 262 v18.toNatClampNeg := ev21.trans (hF 262 v18.toNatClampNeg (by omega))
        have tv21 := congrArg Int32.toInt gv21
        obtain ⟨bv21, dv21⟩ := (show rg 0 100000 v21 from (by rw [ev21]; exact hI 262 v18.toNatClampNeg))
        refine g_i2l C dX11_begin_102 ?_
        refine g_nl (fun v22 ev22 => ?_)
        have fv22 := fi2l rfl ev22
        refine g_last C (by decide) (ce_m_weightUp ad cs _ _) (by rw [sJ_k]; rfl) (fin' (n := 40) rfl (by omega) (by omega)) dX11_begin_103 ?_
        refine g_nmL (fun L23 hL23 => ?_)
        have hG : ∀ k i, k ≠ 286 ∧ k ≠ 287 → L23 k i = L k i := fun k i hk => by (rw [hL23, sJ_at, if_neg (by omega)]; try exact hG k i hk)
        have p287 : L23 287 = L_60 287 := by rw [hL23, sJ_n _ _ _ (by decide)]; try exact p287
        refine g_aload_n C 2 dX11_begin_104 rfl ?_
        refine g_get C (.ref (ad 287)) 41 in_X11_begin_11 (List.mem_of_getElem? (i := 11) rfl) (by decide) (ce_model ad cs _ _) rfl (by decide) rfl rfl dX11_begin_105 ?_
        refine g_iload_n C 1 dX11_begin_108 rfl ?_
        refine g_lconst C 1 dX11_begin_109 (by decide) ?_
        refine g_last C (by decide) (ce_m_weightDown ad cs _ _) (by rw [sJ_k]; rfl) (fin' (n := 40) rfl (by omega) (by omega)) dX11_begin_110 ?_
        refine g_nmL (fun L24 hL24 => ?_)
        have hG : ∀ k i, k ≠ 286 ∧ k ≠ 287 → L24 k i = L k i := fun k i hk => by (rw [hL24, sJ_at, if_neg (by omega)]; try exact hG k i hk)
        obtain ⟨v25, ev25⟩ : ∃ y : Int32, y = x3_60 + 1 := ⟨_, rfl⟩
        try have fv25 := fadd rfl (by decide : (1 : Int32).toInt = 1) ev25 (by omega) (by omega)
        refine g_iinc C 1 v25 [(3, .int v25), (4, .int v18), (0, .ref (ad 258)), (1, .int x), (2, .int y)] dX11_begin_111 rfl (by rw [ev25]; rfl) (by decide) rfl ?_
        refine g_goto C 60 dX11_begin_114 (by decide) ?_
        refine g_lv [0, 2, 3, 4] [(3, .int v25), (0, .ref (ad 258)), (1, .int x), (2, .int y)] rfl ?_
        have nv := ixn (x := v25) (by omega)
        have hall : ∀ i : Nat, i < v25.toNatClampNeg → okF (L24 286 i) (L24 287 i) ∧ (L24 286 i = (if (M 267 (40 * x.toNatClampNeg + i)).toInt = -9 then 0 else (M 262 (M 267 (40 * x.toNatClampNeg + i)).toNatClampNeg).toInt64) ∧ L24 287 i = 1) := by
          intro i hi
          rw [hL24, sJ_n _ _ _ (by decide), sJ_at, hL23, sJ_at, sJ_n _ _ _ (by decide)]
          by_cases e9 : i = x3_60.toNatClampNeg
          · rw [if_pos ⟨rfl, e9⟩, if_pos ⟨rfl, e9⟩]
            have z1 : (1 : Int64).toInt = 1 := by decide
            have z0 : (0 : Int64).toInt = 0 := by decide
            refine ⟨by unfold okF; omega, ?_, rfl⟩
            rw [e9]
            first | (rw [if_pos (by omega)]) | (rw [if_neg (by omega)]; simp only [ev22, gv21, gv18, ev17, ev16])
          · rw [if_neg (fun h => e9 h.2), if_neg (fun h => e9 h.2)]; exact j60_3 i (by omega)
        exact ih_60 (v25, M_60, L24) ⟨by show 0 ≤ v25.toInt; omega, by show v25.toInt ≤ 40; omega, by show M_60 = M_27; exact j60_2, by show ∀ i : Nat, i < v25.toNatClampNeg → okF (L24 286 i) (L24 287 i) ∧ (L24 286 i = (if (M 267 (40 * x.toNatClampNeg + i)).toInt = -9 then 0 else (M 262 (M 267 (40 * x.toNatClampNeg + i)).toNatClampNeg).toInt64) ∧ L24 287 i = 1); exact hall, hI, hF, hG⟩ (by show (41 - v25.toInt).toNat < (41 - x3_60.toInt).toNat; omega)
      ·
        have f26 := feq rfl (by decide : ((-9) : Int32).toInt = (-9)) c19
        refine g_lconst C 0 dX11_begin_91 (by decide) ?_
        refine g_goto C 103 dX11_begin_92 (by decide) ?_
        refine g_last C (by decide) (ce_m_weightUp ad cs _ _) (by rw [sJ_k]; rfl) (fin' (n := 40) rfl (by omega) (by omega)) dX11_begin_103 ?_
        refine g_nmL (fun L27 hL27 => ?_)
        have hG : ∀ k i, k ≠ 286 ∧ k ≠ 287 → L27 k i = L k i := fun k i hk => by (rw [hL27, sJ_at, if_neg (by omega)]; try exact hG k i hk)
        have p287 : L27 287 = L_60 287 := by rw [hL27, sJ_n _ _ _ (by decide)]; try exact p287
        refine g_aload_n C 2 dX11_begin_104 rfl ?_
        refine g_get C (.ref (ad 287)) 41 in_X11_begin_11 (List.mem_of_getElem? (i := 11) rfl) (by decide) (ce_model ad cs _ _) rfl (by decide) rfl rfl dX11_begin_105 ?_
        refine g_iload_n C 1 dX11_begin_108 rfl ?_
        refine g_lconst C 1 dX11_begin_109 (by decide) ?_
        refine g_last C (by decide) (ce_m_weightDown ad cs _ _) (by rw [sJ_k]; rfl) (fin' (n := 40) rfl (by omega) (by omega)) dX11_begin_110 ?_
        refine g_nmL (fun L28 hL28 => ?_)
        have hG : ∀ k i, k ≠ 286 ∧ k ≠ 287 → L28 k i = L k i := fun k i hk => by (rw [hL28, sJ_at, if_neg (by omega)]; try exact hG k i hk)
        obtain ⟨v29, ev29⟩ : ∃ y : Int32, y = x3_60 + 1 := ⟨_, rfl⟩
        try have fv29 := fadd rfl (by decide : (1 : Int32).toInt = 1) ev29 (by omega) (by omega)
        refine g_iinc C 1 v29 [(3, .int v29), (4, .int v18), (0, .ref (ad 258)), (1, .int x), (2, .int y)] dX11_begin_111 rfl (by rw [ev29]; rfl) (by decide) rfl ?_
        refine g_goto C 60 dX11_begin_114 (by decide) ?_
        refine g_lv [0, 2, 3, 4] [(3, .int v29), (0, .ref (ad 258)), (1, .int x), (2, .int y)] rfl ?_
        have nv := ixn (x := v29) (by omega)
        have hall : ∀ i : Nat, i < v29.toNatClampNeg → okF (L28 286 i) (L28 287 i) ∧ (L28 286 i = (if (M 267 (40 * x.toNatClampNeg + i)).toInt = -9 then 0 else (M 262 (M 267 (40 * x.toNatClampNeg + i)).toNatClampNeg).toInt64) ∧ L28 287 i = 1) := by
          intro i hi
          rw [hL28, sJ_n _ _ _ (by decide), sJ_at, hL27, sJ_at, sJ_n _ _ _ (by decide)]
          by_cases e9 : i = x3_60.toNatClampNeg
          · rw [if_pos ⟨rfl, e9⟩, if_pos ⟨rfl, e9⟩]
            have z1 : (1 : Int64).toInt = 1 := by decide
            have z0 : (0 : Int64).toInt = 0 := by decide
            refine ⟨by unfold okF; omega, ?_, rfl⟩
            rw [e9]
            first | (rw [if_pos (by omega)]) | (rw [if_neg (by omega)]; simp only [gv18, ev17, ev16])
          · rw [if_neg (fun h => e9 h.2), if_neg (fun h => e9 h.2)]; exact j60_3 i (by omega)
        exact ih_60 (v29, M_60, L28) ⟨by show 0 ≤ v29.toInt; omega, by show v29.toInt ≤ 40; omega, by show M_60 = M_27; exact j60_2, by show ∀ i : Nat, i < v29.toNatClampNeg → okF (L28 286 i) (L28 287 i) ∧ (L28 286 i = (if (M 267 (40 * x.toNatClampNeg + i)).toInt = -9 then 0 else (M 262 (M 267 (40 * x.toNatClampNeg + i)).toNatClampNeg).toInt64) ∧ L28 287 i = 1); exact hall, hI, hF, hG⟩ (by show (41 - v29.toInt).toNat < (41 - x3_60.toInt).toNat; omega)
  ·
    have f30 := fnle (by decide : (10 : Int32).toInt = 10) rfl c10
    refine g_aload_n C 1 dX11_begin_33 rfl ?_
    refine g_get C (.ref (ad 282)) 36 in_X11_begin_11 (List.mem_of_getElem? (i := 6) rfl) (by decide) (ce_model ad cs _ _) rfl (by decide) rfl rfl dX11_begin_34 ?_
    refine g_iload_n C 0 dX11_begin_37 rfl ?_
    refine g_iload_n C 0 dX11_begin_38 rfl ?_
    refine g_aload_n C 1 dX11_begin_39 rfl ?_
    refine g_get C (.int (M_27 258 2)) 2 in_X11_begin_11 (List.mem_of_getElem? (i := 7) rfl) (by decide) (ce_model ad cs _ _) rfl (by decide) rfl rfl dX11_begin_40 ?_
    refine g_ni (fun v31 ev31 => ?_)
    have gv31 : v31 = M 258 2 := ev31.trans (hF 258 2 (by omega))
    have tv31 := congrArg Int32.toInt gv31
    obtain ⟨bv31, dv31⟩ := (show rg 0 10 v31 from (by rw [ev31]; exact hI 258 2))
    refine g_icmp_ge C 50 dX11_begin_43 (by decide) (fun c32 => ?_) (fun c32 => ?_)
    ·
      have f33 := fle rfl rfl c32
      refine g_iconst C 0 dX11_begin_50 (by decide) ?_
      refine g_zast C (by decide) (ce_m_isIn ad cs _ _) (by rw [sI_k]; rfl) (fin' (n := 10) rfl (by omega) (by omega)) dX11_begin_51 ?_
      refine g_nm (fun M34 hM34 => ?_)
      have zy35 : (0 : Int32).toInt = 0 := by decide
      have hI : IR M34 := by rw [hM34]; exact hI.st (show bR 282 _ _ from trivial)
      have hF : ∀ k i, ¬ (k = 258 ∧ i = 25) ∧ ¬ (k = 258 ∧ i = 27) ∧ ¬ (k = 258 ∧ i = 28) ∧ ¬ (k = 258 ∧ i = 29) ∧ ¬ (k = 258 ∧ i = 31) ∧ k ≠ 282 → M34 k i = M k i := fun k i hk => by (rw [hM34, sI_at, if_neg (by omega)]; try exact hF k i hk)
      have k25 : M34 258 25 = M_27 258 25 := by rw [hM34, sI_n _ _ _ (by decide)]; try exact k25
      have k27 : M34 258 27 = M_27 258 27 := by rw [hM34, sI_n _ _ _ (by decide)]; try exact k27
      have k28 : M34 258 28 = M_27 258 28 := by rw [hM34, sI_n _ _ _ (by decide)]; try exact k28
      have k29 : M34 258 29 = M_27 258 29 := by rw [hM34, sI_n _ _ _ (by decide)]; try exact k29
      have k31 : M34 258 31 = M_27 258 31 := by rw [hM34, sI_n _ _ _ (by decide)]; try exact k31
      obtain ⟨v36, ev36⟩ : ∃ y : Int32, y = x3_27 + 1 := ⟨_, rfl⟩
      try have fv36 := fadd rfl (by decide : (1 : Int32).toInt = 1) ev36 (by omega) (by omega)
      refine g_iinc C 0 v36 [(3, .int v36), (0, .ref (ad 258)), (1, .int x), (2, .int y)] dX11_begin_52 rfl (by rw [ev36]; rfl) (by decide) rfl ?_
      refine g_goto C 27 dX11_begin_55 (by decide) ?_
      have nv := ixn (x := v36) (by omega)
      have hall : ∀ c : Nat, c < v36.toNatClampNeg → M34 282 c = if (c : Int) < (M 258 2).toInt then 1 else 0 := by
        intro c hc
        rw [hM34, sI_at]
        by_cases e9 : c = x3_27.toNatClampNeg
        · rw [if_pos ⟨rfl, e9⟩]; first | (rw [if_pos (by omega)]; rfl) | (rw [if_neg (by omega)]; rfl)
        · rw [if_neg (fun h => e9 h.2)]; exact j27_7 c (by omega)
      exact ih_27 (v36, M34, L_27) ⟨by show 0 ≤ v36.toInt; omega, by show v36.toInt ≤ 10; omega, by show M34 258 27 = x; exact k27.trans j27_2, by show M34 258 28 = y; exact k28.trans j27_3, by show M34 258 29 = 0; exact k29.trans j27_4, by show M34 258 31 = 0; exact k31.trans j27_5, by show M34 258 25 = 0; exact k25.trans j27_6, by show ∀ c : Nat, c < v36.toNatClampNeg → M34 282 c = if (c : Int) < (M 258 2).toInt then 1 else 0; exact hall, hI, hF, hG⟩ (by show (11 - v36.toInt).toNat < (11 - x3_27.toInt).toNat; omega)
    ·
      have f37 := fnle rfl rfl c32
      refine g_iconst C 1 dX11_begin_46 (by decide) ?_
      refine g_goto C 51 dX11_begin_47 (by decide) ?_
      refine g_zast C (by decide) (ce_m_isIn ad cs _ _) (by rw [sI_k]; rfl) (fin' (n := 10) rfl (by omega) (by omega)) dX11_begin_51 ?_
      refine g_nm (fun M38 hM38 => ?_)
      have zy39 : (1 : Int32).toInt = 1 := by decide
      have hI : IR M38 := by rw [hM38]; exact hI.st (show bR 282 _ _ from trivial)
      have hF : ∀ k i, ¬ (k = 258 ∧ i = 25) ∧ ¬ (k = 258 ∧ i = 27) ∧ ¬ (k = 258 ∧ i = 28) ∧ ¬ (k = 258 ∧ i = 29) ∧ ¬ (k = 258 ∧ i = 31) ∧ k ≠ 282 → M38 k i = M k i := fun k i hk => by (rw [hM38, sI_at, if_neg (by omega)]; try exact hF k i hk)
      have k25 : M38 258 25 = M_27 258 25 := by rw [hM38, sI_n _ _ _ (by decide)]; try exact k25
      have k27 : M38 258 27 = M_27 258 27 := by rw [hM38, sI_n _ _ _ (by decide)]; try exact k27
      have k28 : M38 258 28 = M_27 258 28 := by rw [hM38, sI_n _ _ _ (by decide)]; try exact k28
      have k29 : M38 258 29 = M_27 258 29 := by rw [hM38, sI_n _ _ _ (by decide)]; try exact k29
      have k31 : M38 258 31 = M_27 258 31 := by rw [hM38, sI_n _ _ _ (by decide)]; try exact k31
      obtain ⟨v40, ev40⟩ : ∃ y : Int32, y = x3_27 + 1 := ⟨_, rfl⟩
      try have fv40 := fadd rfl (by decide : (1 : Int32).toInt = 1) ev40 (by omega) (by omega)
      refine g_iinc C 0 v40 [(3, .int v40), (0, .ref (ad 258)), (1, .int x), (2, .int y)] dX11_begin_52 rfl (by rw [ev40]; rfl) (by decide) rfl ?_
      refine g_goto C 27 dX11_begin_55 (by decide) ?_
      have nv := ixn (x := v40) (by omega)
      have hall : ∀ c : Nat, c < v40.toNatClampNeg → M38 282 c = if (c : Int) < (M 258 2).toInt then 1 else 0 := by
        intro c hc
        rw [hM38, sI_at]
        by_cases e9 : c = x3_27.toNatClampNeg
        · rw [if_pos ⟨rfl, e9⟩]; first | (rw [if_pos (by omega)]; rfl) | (rw [if_neg (by omega)]; rfl)
        · rw [if_neg (fun h => e9 h.2)]; exact j27_7 c (by omega)
      exact ih_27 (v40, M38, L_27) ⟨by show 0 ≤ v40.toInt; omega, by show v40.toInt ≤ 10; omega, by show M38 258 27 = x; exact k27.trans j27_2, by show M38 258 28 = y; exact k28.trans j27_3, by show M38 258 29 = 0; exact k29.trans j27_4, by show M38 258 31 = 0; exact k31.trans j27_5, by show M38 258 25 = 0; exact k25.trans j27_6, by show ∀ c : Nat, c < v40.toNatClampNeg → M38 282 c = if (c : Int) < (M 258 2).toInt then 1 else 0; exact hall, hI, hF, hG⟩ (by show (11 - v40.toInt).toNat < (11 - x3_27.toInt).toNat; omega)
set_option maxHeartbeats 4000000 in
set_option maxRecDepth 100000 in
theorem k_X11_takeOver (l : Launch) (D : va_G) (ad : Nat → Nat) (cs : Nat → ClassId) (M : MI) (L : ML)  (hI : IR M) : Cv l yX11_takeOver wsX11_takeOver ({ frames := 0, cells := 0, slots := 0, locals := 0 }) D ad cs [.ref (ad 258)] M L (fun M1 L1 => (M1 258 42 = M 258 29 ∧ M1 258 44 = M 258 31 ∧ (∀ j : Nat, j < 30 → M1 288 j = M 277 j) ∧ (∀ j : Nat, j < 40 → M1 289 j = M 278 j ∧ M1 290 j = M 279 j)) ∧ IR M1 ∧ (∀ k i, ¬ (k = 258 ∧ i = 42) ∧ ¬ (k = 258 ∧ i = 44) ∧ k ≠ 288 ∧ k ≠ 289 ∧ k ≠ 290 → M1 k i = M k i) ∧ ∀ k i, k ≠ 291 ∧ k ≠ 292 → L1 k i = L k i) := by
  refine enter_v RX11 rfl [(0, .ref (ad 258))] rfl (Nat.le_of_ble_eq_true rfl) (by decide +kernel) rfl ?_
  intro p e s m below meth c C hr
  have hF : ∀ k i, ¬ (k = 258 ∧ i = 42) ∧ ¬ (k = 258 ∧ i = 44) ∧ k ≠ 288 ∧ k ≠ 289 ∧ k ≠ 290 → M k i = M k i := fun _ _ _ => rfl
  have hG : ∀ k i, k ≠ 291 ∧ k ≠ 292 → L k i = L k i := fun _ _ _ => rfl
  have k42 : M 258 42 = M 258 42 := rfl
  have k44 : M 258 44 = M 258 44 := rfl
  have p291 : L 291 = L 291 := rfl
  have p292 : L 292 = L 292 := rfl
  have q288 : M 288 = M 288 := rfl
  have q289 : M 289 = M 289 := rfl
  have q290 : M 290 = M 290 := rfl
  refine g_aload_n C 0 dX11_takeOver_0 rfl ?_
  refine g_aload_n C 0 dX11_takeOver_1 rfl ?_
  refine g_get C (.int (M 258 29)) 29 in_X11_takeOver_11 (List.mem_of_getElem? (i := 1) rfl) (by decide) (ce_model ad cs _ _) rfl (by decide) rfl rfl dX11_takeOver_2 ?_
  refine g_ni (fun v1 ev1 => ?_)
  have gv1 : v1 = M 258 29 := ev1
  have tv1 := congrArg Int32.toInt gv1
  obtain ⟨bv1, dv1⟩ := (show rg 0 30 v1 from (by rw [ev1]; exact hI 258 29))
  refine g_putI C 42 in_X11_takeOver_11 (List.mem_of_getElem? (i := 2) rfl) (by decide) (ce_model ad cs _ _) rfl (by decide) rfl tyX11 tyX11_ok nmX11 rfl rfl rfl rfl (Nat.le_of_ble_eq_true rfl) (by rw [sI_k]; rfl) dX11_takeOver_5 ?_
  refine g_nm (fun M2 hM2 => ?_)
  have hI : IR M2 := by rw [hM2]; exact hI.st (show bR 258 42 _ from ⟨by first | omega | decide, by first | omega | decide⟩)
  have hF : ∀ k i, ¬ (k = 258 ∧ i = 42) ∧ ¬ (k = 258 ∧ i = 44) ∧ k ≠ 288 ∧ k ≠ 289 ∧ k ≠ 290 → M2 k i = M k i := fun k i hk => by (rw [hM2, sI_at, if_neg (by omega)]; try exact hF k i hk)
  have k44 : M2 258 44 = M 258 44 := by rw [hM2, sI_at, if_neg (by decide)]; try exact k44
  have k42 : M2 258 42 = v1 := by rw [hM2, sI_at, if_pos (by decide)]
  have q288 : M2 288 = M 288 := by rw [hM2, sI_n _ _ _ (by decide)]; try exact q288
  have q289 : M2 289 = M 289 := by rw [hM2, sI_n _ _ _ (by decide)]; try exact q289
  have q290 : M2 290 = M 290 := by rw [hM2, sI_n _ _ _ (by decide)]; try exact q290
  refine g_aload_n C 0 dX11_takeOver_8 rfl ?_
  refine g_aload_n C 0 dX11_takeOver_9 rfl ?_
  refine g_get C (.int (M2 258 31)) 31 in_X11_takeOver_11 (List.mem_of_getElem? (i := 3) rfl) (by decide) (ce_model ad cs _ _) rfl (by decide) rfl rfl dX11_takeOver_10 ?_
  refine g_ni (fun v3 ev3 => ?_)
  have gv3 : v3 = M 258 31 := ev3.trans (hF 258 31 (by omega))
  have tv3 := congrArg Int32.toInt gv3
  obtain ⟨bv3, dv3⟩ := (show rg 0 40 v3 from (by rw [ev3]; exact hI 258 31))
  refine g_putI C 44 in_X11_takeOver_11 (List.mem_of_getElem? (i := 4) rfl) (by decide) (ce_model ad cs _ _) rfl (by decide) rfl tyX11 tyX11_ok nmX11 rfl rfl rfl rfl (Nat.le_of_ble_eq_true rfl) (by rw [sI_k]; rfl) dX11_takeOver_13 ?_
  refine g_nm (fun M4 hM4 => ?_)
  have hI : IR M4 := by rw [hM4]; exact hI.st (show bR 258 44 _ from ⟨by first | omega | decide, by first | omega | decide⟩)
  have hF : ∀ k i, ¬ (k = 258 ∧ i = 42) ∧ ¬ (k = 258 ∧ i = 44) ∧ k ≠ 288 ∧ k ≠ 289 ∧ k ≠ 290 → M4 k i = M k i := fun k i hk => by (rw [hM4, sI_at, if_neg (by omega)]; try exact hF k i hk)
  have k42 : M4 258 42 = v1 := by rw [hM4, sI_at, if_neg (by decide)]; try exact k42
  have k44 : M4 258 44 = v3 := by rw [hM4, sI_at, if_pos (by decide)]
  have q288 : M4 288 = M 288 := by rw [hM4, sI_n _ _ _ (by decide)]; try exact q288
  have q289 : M4 289 = M 289 := by rw [hM4, sI_n _ _ _ (by decide)]; try exact q289
  have q290 : M4 290 = M 290 := by rw [hM4, sI_n _ _ _ (by decide)]; try exact q290
  have t42 : M4 258 42 = M 258 29 := by rw [k42]; simp only [gv3, gv1]
  have t44 : M4 258 44 = M 258 31 := by rw [k44]; simp only [gv3, gv1]
  refine g_iconst C 0 dX11_takeOver_16 (by decide) ?_
  refine g_istore_n C [(1, .int 0), (0, .ref (ad 258))] dX11_takeOver_17 (by decide) rfl ?_
  have zy5 : (0 : Int32).toInt = 0 := by decide
  refine g_loop (α := Int32 × MI × ML) (fun a => (31 - a.1.toInt).toNat) (fun a => (0 ≤ a.1.toInt) ∧ (a.1.toInt ≤ 30) ∧ (a.2.1 258 42 = M 258 29) ∧ (a.2.1 258 44 = M 258 31) ∧ (∀ j : Nat, j < a.1.toNatClampNeg → a.2.1 288 j = M 277 j) ∧ IR a.2.1 ∧ (∀ k i, ¬ (k = 258 ∧ i = 42) ∧ ¬ (k = 258 ∧ i = 44) ∧ k ≠ 288 ∧ k ≠ 289 ∧ k ≠ 290 → a.2.1 k i = M k i) ∧ (∀ k i, k ≠ 291 ∧ k ≠ 292 → a.2.2 k i = L k i)) (fun a => a.2.1) (fun a => a.2.2) (fun a => [(1, .int a.1), (0, .ref (ad 258))]) ((0 : Int32), M4, L) ⟨by show 0 ≤ (0 : Int32).toInt; omega, by show (0 : Int32).toInt ≤ 30; omega, by show M4 258 42 = M 258 29; exact t42, by show M4 258 44 = M 258 31; exact t44, by show ∀ j : Nat, j < (0 : Int32).toNatClampNeg → M4 288 j = M 277 j; intro j hj; exact absurd hj (by show ¬ j < 0; omega), hI, hF, hG⟩ rfl rfl rfl ?_
  rintro ⟨x1_18, M_18, L_18⟩ ⟨j18_0, j18_1, j18_2, j18_3, j18_4, hI, hF, hG⟩ ih_18
  dsimp only at j18_0 j18_1 j18_2 j18_3 j18_4 hI hF hG ih_18 ⊢
  have k42 : M_18 258 42 = M_18 258 42 := rfl
  have k44 : M_18 258 44 = M_18 258 44 := rfl
  have p291 : L_18 291 = L_18 291 := rfl
  have p292 : L_18 292 = L_18 292 := rfl
  have q288 : M_18 288 = M_18 288 := rfl
  have q289 : M_18 289 = M_18 289 := rfl
  have q290 : M_18 290 = M_18 290 := rfl
  have n1_18 := ixn (x := x1_18) (by omega)
  refine g_iload_n C 0 dX11_takeOver_18 rfl ?_
  refine g_bipush C 30 dX11_takeOver_19 (by decide) ?_
  refine g_icmp_ge C 42 dX11_takeOver_21 (by decide) (fun c6 => ?_) (fun c6 => ?_)
  ·
    have f7 := fle (by decide : (30 : Int32).toInt = 30) rfl c6
    refine g_iconst C 0 dX11_takeOver_42 (by decide) ?_
    refine g_istore_n C [(1, .int 0), (0, .ref (ad 258))] dX11_takeOver_43 (by decide) rfl ?_
    have zy8 : (0 : Int32).toInt = 0 := by decide
    refine g_loop (α := Int32 × MI × ML) (fun a => (41 - a.1.toInt).toNat) (fun a => (0 ≤ a.1.toInt) ∧ (a.1.toInt ≤ 40) ∧ (a.2.1 258 42 = M 258 29) ∧ (a.2.1 258 44 = M 258 31) ∧ (∀ j : Nat, j < 30 → a.2.1 288 j = M 277 j) ∧ (∀ j : Nat, j < a.1.toNatClampNeg → a.2.1 289 j = M 278 j ∧ a.2.1 290 j = M 279 j) ∧ IR a.2.1 ∧ (∀ k i, ¬ (k = 258 ∧ i = 42) ∧ ¬ (k = 258 ∧ i = 44) ∧ k ≠ 288 ∧ k ≠ 289 ∧ k ≠ 290 → a.2.1 k i = M k i) ∧ (∀ k i, k ≠ 291 ∧ k ≠ 292 → a.2.2 k i = L k i)) (fun a => a.2.1) (fun a => a.2.2) (fun a => [(1, .int a.1), (0, .ref (ad 258))]) ((0 : Int32), M_18, L_18) ⟨by show 0 ≤ (0 : Int32).toInt; omega, by show (0 : Int32).toInt ≤ 40; omega, by show M_18 258 42 = M 258 29; exact j18_2, by show M_18 258 44 = M 258 31; exact j18_3, by show ∀ j : Nat, j < 30 → M_18 288 j = M 277 j; intro j hj; exact j18_4 j (by omega), by show ∀ j : Nat, j < (0 : Int32).toNatClampNeg → M_18 289 j = M 278 j ∧ M_18 290 j = M 279 j; intro j hj; exact absurd hj (by show ¬ j < 0; omega), hI, hF, hG⟩ rfl rfl rfl ?_
    rintro ⟨x1_44, M_44, L_44⟩ ⟨j44_0, j44_1, j44_2, j44_3, j44_4, j44_5, hI, hF, hG⟩ ih_44
    dsimp only at j44_0 j44_1 j44_2 j44_3 j44_4 j44_5 hI hF hG ih_44 ⊢
    have k42 : M_44 258 42 = M_44 258 42 := rfl
    have k44 : M_44 258 44 = M_44 258 44 := rfl
    have p291 : L_44 291 = L_44 291 := rfl
    have p292 : L_44 292 = L_44 292 := rfl
    have q288 : M_44 288 = M_44 288 := rfl
    have q289 : M_44 289 = M_44 289 := rfl
    have q290 : M_44 290 = M_44 290 := rfl
    have n1_44 := ixn (x := x1_44) (by omega)
    refine g_iload_n C 0 dX11_takeOver_44 rfl ?_
    refine g_bipush C 40 dX11_takeOver_45 (by decide) ?_
    refine g_icmp_ge C 80 dX11_takeOver_47 (by decide) (fun c9 => ?_) (fun c9 => ?_)
    ·
      have f10 := fle (by decide : (40 : Int32).toInt = 40) rfl c9
      refine g_iconst C 0 dX11_takeOver_80 (by decide) ?_
      refine g_istore_n C [(1, .int 0), (0, .ref (ad 258))] dX11_takeOver_81 (by decide) rfl ?_
      have zy11 : (0 : Int32).toInt = 0 := by decide
      refine g_loop (α := Int32 × MI × ML) (fun a => (401 - a.1.toInt).toNat) (fun a => (0 ≤ a.1.toInt) ∧ (a.1.toInt ≤ 400) ∧ (a.2.1 258 42 = M 258 29) ∧ (a.2.1 258 44 = M 258 31) ∧ (∀ j : Nat, j < 30 → a.2.1 288 j = M 277 j) ∧ (∀ j : Nat, j < 40 → a.2.1 289 j = M 278 j ∧ a.2.1 290 j = M 279 j) ∧ IR a.2.1 ∧ (∀ k i, ¬ (k = 258 ∧ i = 42) ∧ ¬ (k = 258 ∧ i = 44) ∧ k ≠ 288 ∧ k ≠ 289 ∧ k ≠ 290 → a.2.1 k i = M k i) ∧ (∀ k i, k ≠ 291 ∧ k ≠ 292 → a.2.2 k i = L k i)) (fun a => a.2.1) (fun a => a.2.2) (fun a => [(1, .int a.1), (0, .ref (ad 258))]) ((0 : Int32), M_44, L_44) ⟨by show 0 ≤ (0 : Int32).toInt; omega, by show (0 : Int32).toInt ≤ 400; omega, by show M_44 258 42 = M 258 29; exact j44_2, by show M_44 258 44 = M 258 31; exact j44_3, by show ∀ j : Nat, j < 30 → M_44 288 j = M 277 j; exact j44_4, by show ∀ j : Nat, j < 40 → M_44 289 j = M 278 j ∧ M_44 290 j = M 279 j; intro j hj; exact j44_5 j (by omega), hI, hF, hG⟩ rfl rfl rfl ?_
      rintro ⟨x1_82, M_82, L_82⟩ ⟨j82_0, j82_1, j82_2, j82_3, j82_4, j82_5, hI, hF, hG⟩ ih_82
      dsimp only at j82_0 j82_1 j82_2 j82_3 j82_4 j82_5 hI hF hG ih_82 ⊢
      have k42 : M_82 258 42 = M_82 258 42 := rfl
      have k44 : M_82 258 44 = M_82 258 44 := rfl
      have p291 : L_82 291 = L_82 291 := rfl
      have p292 : L_82 292 = L_82 292 := rfl
      have q288 : M_82 288 = M_82 288 := rfl
      have q289 : M_82 289 = M_82 289 := rfl
      have q290 : M_82 290 = M_82 290 := rfl
      refine g_iload_n C 0 dX11_takeOver_82 rfl ?_
      refine g_sipush C 400 dX11_takeOver_83 (by decide) ?_
      refine g_icmp_ge C 119 dX11_takeOver_86 (by decide) (fun c12 => ?_) (fun c12 => ?_)
      ·
        have f13 := fle (by decide : (400 : Int32).toInt = 400) rfl c12
        exact g_vret C hr ⟨⟨j82_2, j82_3, j82_4, j82_5⟩, hI, hF, hG⟩ dX11_takeOver_119
      ·
        have f14 := fnle (by decide : (400 : Int32).toInt = 400) rfl c12
        refine g_aload_n C 1 dX11_takeOver_89 rfl ?_
        refine g_get C (.ref (ad 291)) 47 in_X11_takeOver_11 (List.mem_of_getElem? (i := 11) rfl) (by decide) (ce_model ad cs _ _) rfl (by decide) rfl rfl dX11_takeOver_90 ?_
        refine g_iload_n C 0 dX11_takeOver_93 rfl ?_
        refine g_aload_n C 1 dX11_takeOver_94 rfl ?_
        refine g_get C (.ref (ad 280)) 34 in_X11_takeOver_11 (List.mem_of_getElem? (i := 12) rfl) (by decide) (ce_model ad cs _ _) rfl (by decide) rfl rfl dX11_takeOver_95 ?_
        refine g_iload_n C 0 dX11_takeOver_98 rfl ?_
        refine g_lald C (by decide) (ce_m_tallyUp ad cs _ _) (fin' (n := 400) rfl (by omega) (by omega)) dX11_takeOver_99 ?_
        refine g_nl (fun v15 ev15 => ?_)
        have gv15 : v15 = L 280 x1_82.toNatClampNeg := ev15.trans (hG 280 _ (by omega))
        have tv15 := congrArg Int64.toInt gv15
        refine g_last C (by decide) (ce_m_toldUp ad cs _ _) (by rw [sJ_k]; rfl) (fin' (n := 400) rfl (by omega) (by omega)) dX11_takeOver_100 ?_
        refine g_nmL (fun L16 hL16 => ?_)
        have hG : ∀ k i, k ≠ 291 ∧ k ≠ 292 → L16 k i = L k i := fun k i hk => by (rw [hL16, sJ_at, if_neg (by omega)]; try exact hG k i hk)
        have p292 : L16 292 = L_82 292 := by rw [hL16, sJ_n _ _ _ (by decide)]; try exact p292
        refine g_aload_n C 1 dX11_takeOver_101 rfl ?_
        refine g_get C (.ref (ad 292)) 48 in_X11_takeOver_11 (List.mem_of_getElem? (i := 13) rfl) (by decide) (ce_model ad cs _ _) rfl (by decide) rfl rfl dX11_takeOver_102 ?_
        refine g_iload_n C 0 dX11_takeOver_105 rfl ?_
        refine g_aload_n C 1 dX11_takeOver_106 rfl ?_
        refine g_get C (.ref (ad 281)) 35 in_X11_takeOver_11 (List.mem_of_getElem? (i := 14) rfl) (by decide) (ce_model ad cs _ _) rfl (by decide) rfl rfl dX11_takeOver_107 ?_
        refine g_iload_n C 0 dX11_takeOver_110 rfl ?_
        refine g_lald C (by decide) (ce_m_tallyDown ad cs _ _) (fin' (n := 400) rfl (by omega) (by omega)) dX11_takeOver_111 ?_
        refine g_nl (fun v17 ev17 => ?_)
        have gv17 : v17 = L 281 x1_82.toNatClampNeg := ev17.trans (hG 281 _ (by omega))
        have tv17 := congrArg Int64.toInt gv17
        refine g_last C (by decide) (ce_m_toldDown ad cs _ _) (by rw [sJ_k]; rfl) (fin' (n := 400) rfl (by omega) (by omega)) dX11_takeOver_112 ?_
        refine g_nmL (fun L18 hL18 => ?_)
        have hG : ∀ k i, k ≠ 291 ∧ k ≠ 292 → L18 k i = L k i := fun k i hk => by (rw [hL18, sJ_at, if_neg (by omega)]; try exact hG k i hk)
        obtain ⟨v19, ev19⟩ : ∃ y : Int32, y = x1_82 + 1 := ⟨_, rfl⟩
        try have fv19 := fadd rfl (by decide : (1 : Int32).toInt = 1) ev19 (by omega) (by omega)
        refine g_iinc C 0 v19 [(1, .int v19), (0, .ref (ad 258))] dX11_takeOver_113 rfl (by rw [ev19]; rfl) (by decide) rfl ?_
        refine g_goto C 82 dX11_takeOver_116 (by decide) ?_
        exact ih_82 (v19, M_82, L18) ⟨by show 0 ≤ v19.toInt; omega, by show v19.toInt ≤ 400; omega, by show M_82 258 42 = M 258 29; exact j82_2, by show M_82 258 44 = M 258 31; exact j82_3, by show ∀ j : Nat, j < 30 → M_82 288 j = M 277 j; exact j82_4, by show ∀ j : Nat, j < 40 → M_82 289 j = M 278 j ∧ M_82 290 j = M 279 j; exact j82_5, hI, hF, hG⟩ (by show (401 - v19.toInt).toNat < (401 - x1_82.toInt).toNat; omega)
    ·
      have f20 := fnle (by decide : (40 : Int32).toInt = 40) rfl c9
      refine g_aload_n C 1 dX11_takeOver_50 rfl ?_
      refine g_get C (.ref (ad 289)) 45 in_X11_takeOver_11 (List.mem_of_getElem? (i := 7) rfl) (by decide) (ce_model ad cs _ _) rfl (by decide) rfl rfl dX11_takeOver_51 ?_
      refine g_iload_n C 0 dX11_takeOver_54 rfl ?_
      refine g_aload_n C 1 dX11_takeOver_55 rfl ?_
      refine g_get C (.ref (ad 278)) 32 in_X11_takeOver_11 (List.mem_of_getElem? (i := 8) rfl) (by decide) (ce_model ad cs _ _) rfl (by decide) rfl rfl dX11_takeOver_56 ?_
      refine g_iload_n C 0 dX11_takeOver_59 rfl ?_
      refine g_iald C (by decide) (ce_m_roundWhat ad cs _ _) (fin' (n := 40) rfl (by omega) (by omega)) dX11_takeOver_60 ?_
      refine g_ni (fun v21 ev21 => ?_)
      have gv21 : v21 = M 278 x1_44.toNatClampNeg := ev21.trans (hF 278 x1_44.toNatClampNeg (by omega))
      have tv21 := congrArg Int32.toInt gv21
      refine g_iast C (by decide) (ce_m_toldWhat ad cs _ _) (by rw [sI_k]; rfl) (fin' (n := 40) rfl (by omega) (by omega)) dX11_takeOver_61 ?_
      refine g_nm (fun M22 hM22 => ?_)
      have hI : IR M22 := by rw [hM22]; exact hI.st (show bR 289 _ _ from trivial)
      have hF : ∀ k i, ¬ (k = 258 ∧ i = 42) ∧ ¬ (k = 258 ∧ i = 44) ∧ k ≠ 288 ∧ k ≠ 289 ∧ k ≠ 290 → M22 k i = M k i := fun k i hk => by (rw [hM22, sI_at, if_neg (by omega)]; try exact hF k i hk)
      have k42 : M22 258 42 = M_44 258 42 := by rw [hM22, sI_n _ _ _ (by decide)]; try exact k42
      have k44 : M22 258 44 = M_44 258 44 := by rw [hM22, sI_n _ _ _ (by decide)]; try exact k44
      have q288 : M22 288 = M_44 288 := by rw [hM22, sI_n _ _ _ (by decide)]; try exact q288
      have q290 : M22 290 = M_44 290 := by rw [hM22, sI_n _ _ _ (by decide)]; try exact q290
      refine g_aload_n C 1 dX11_takeOver_62 rfl ?_
      refine g_get C (.ref (ad 290)) 46 in_X11_takeOver_11 (List.mem_of_getElem? (i := 9) rfl) (by decide) (ce_model ad cs _ _) rfl (by decide) rfl rfl dX11_takeOver_63 ?_
      refine g_iload_n C 0 dX11_takeOver_66 rfl ?_
      refine g_aload_n C 1 dX11_takeOver_67 rfl ?_
      refine g_get C (.ref (ad 279)) 33 in_X11_takeOver_11 (List.mem_of_getElem? (i := 10) rfl) (by decide) (ce_model ad cs _ _) rfl (by decide) rfl rfl dX11_takeOver_68 ?_
      refine g_iload_n C 0 dX11_takeOver_71 rfl ?_
      refine g_iald C (by decide) (ce_m_roundWho ad cs _ _) (fin' (n := 40) rfl (by omega) (by omega)) dX11_takeOver_72 ?_
      refine g_ni (fun v23 ev23 => ?_)
      have gv23 : v23 = M 279 x1_44.toNatClampNeg := ev23.trans (hF 279 x1_44.toNatClampNeg (by omega))
      have tv23 := congrArg Int32.toInt gv23
      refine g_iast C (by decide) (ce_m_toldWho ad cs _ _) (by rw [sI_k]; rfl) (fin' (n := 40) rfl (by omega) (by omega)) dX11_takeOver_73 ?_
      refine g_nm (fun M24 hM24 => ?_)
      have hI : IR M24 := by rw [hM24]; exact hI.st (show bR 290 _ _ from trivial)
      have hF : ∀ k i, ¬ (k = 258 ∧ i = 42) ∧ ¬ (k = 258 ∧ i = 44) ∧ k ≠ 288 ∧ k ≠ 289 ∧ k ≠ 290 → M24 k i = M k i := fun k i hk => by (rw [hM24, sI_at, if_neg (by omega)]; try exact hF k i hk)
      have k42 : M24 258 42 = M_44 258 42 := by rw [hM24, sI_n _ _ _ (by decide)]; try exact k42
      have k44 : M24 258 44 = M_44 258 44 := by rw [hM24, sI_n _ _ _ (by decide)]; try exact k44
      have q288 : M24 288 = M_44 288 := by rw [hM24, sI_n _ _ _ (by decide)]; try exact q288
      obtain ⟨v25, ev25⟩ : ∃ y : Int32, y = x1_44 + 1 := ⟨_, rfl⟩
      try have fv25 := fadd rfl (by decide : (1 : Int32).toInt = 1) ev25 (by omega) (by omega)
      refine g_iinc C 0 v25 [(1, .int v25), (0, .ref (ad 258))] dX11_takeOver_74 rfl (by rw [ev25]; rfl) (by decide) rfl ?_
      refine g_goto C 44 dX11_takeOver_77 (by decide) ?_
      have nv := ixn (x := v25) (by omega)
      have hall : ∀ j : Nat, j < v25.toNatClampNeg → M24 289 j = M 278 j ∧ M24 290 j = M 279 j := by
        intro j hj
        rw [hM24, sI_n _ _ _ (by decide), sI_at, hM22, sI_at, sI_n _ _ _ (by decide)]
        by_cases e9 : j = x1_44.toNatClampNeg
        · rw [if_pos ⟨rfl, e9⟩, if_pos ⟨rfl, e9⟩, e9]; exact ⟨by simp only [gv23, gv21, gv3, gv1], by simp only [gv23, gv21, gv3, gv1]⟩
        · rw [if_neg (fun h => e9 h.2), if_neg (fun h => e9 h.2)]; exact j44_5 j (by omega)
      exact ih_44 (v25, M24, L_44) ⟨by show 0 ≤ v25.toInt; omega, by show v25.toInt ≤ 40; omega, by show M24 258 42 = M 258 29; rw [k42]; exact j44_2, by show M24 258 44 = M 258 31; rw [k44]; exact j44_3, by show ∀ j : Nat, j < 30 → M24 288 j = M 277 j; intro j hj; rw [congrFun q288 j]; exact j44_4 j hj, by show ∀ j : Nat, j < v25.toNatClampNeg → M24 289 j = M 278 j ∧ M24 290 j = M 279 j; exact hall, hI, hF, hG⟩ (by show (41 - v25.toInt).toNat < (41 - x1_44.toInt).toNat; omega)
  ·
    have f26 := fnle (by decide : (30 : Int32).toInt = 30) rfl c6
    refine g_aload_n C 1 dX11_takeOver_24 rfl ?_
    refine g_get C (.ref (ad 288)) 43 in_X11_takeOver_11 (List.mem_of_getElem? (i := 5) rfl) (by decide) (ce_model ad cs _ _) rfl (by decide) rfl rfl dX11_takeOver_25 ?_
    refine g_iload_n C 0 dX11_takeOver_28 rfl ?_
    refine g_aload_n C 1 dX11_takeOver_29 rfl ?_
    refine g_get C (.ref (ad 277)) 30 in_X11_takeOver_11 (List.mem_of_getElem? (i := 6) rfl) (by decide) (ce_model ad cs _ _) rfl (by decide) rfl rfl dX11_takeOver_30 ?_
    refine g_iload_n C 0 dX11_takeOver_33 rfl ?_
    refine g_iald C (by decide) (ce_m_seat ad cs _ _) (fin' (n := 30) rfl (by omega) (by omega)) dX11_takeOver_34 ?_
    refine g_ni (fun v27 ev27 => ?_)
    have gv27 : v27 = M 277 x1_18.toNatClampNeg := ev27.trans (hF 277 x1_18.toNatClampNeg (by omega))
    have tv27 := congrArg Int32.toInt gv27
    refine g_iast C (by decide) (ce_m_toldSeat ad cs _ _) (by rw [sI_k]; rfl) (fin' (n := 30) rfl (by omega) (by omega)) dX11_takeOver_35 ?_
    refine g_nm (fun M28 hM28 => ?_)
    have hI : IR M28 := by rw [hM28]; exact hI.st (show bR 288 _ _ from trivial)
    have hF : ∀ k i, ¬ (k = 258 ∧ i = 42) ∧ ¬ (k = 258 ∧ i = 44) ∧ k ≠ 288 ∧ k ≠ 289 ∧ k ≠ 290 → M28 k i = M k i := fun k i hk => by (rw [hM28, sI_at, if_neg (by omega)]; try exact hF k i hk)
    have k42 : M28 258 42 = M_18 258 42 := by rw [hM28, sI_n _ _ _ (by decide)]; try exact k42
    have k44 : M28 258 44 = M_18 258 44 := by rw [hM28, sI_n _ _ _ (by decide)]; try exact k44
    have q289 : M28 289 = M_18 289 := by rw [hM28, sI_n _ _ _ (by decide)]; try exact q289
    have q290 : M28 290 = M_18 290 := by rw [hM28, sI_n _ _ _ (by decide)]; try exact q290
    obtain ⟨v29, ev29⟩ : ∃ y : Int32, y = x1_18 + 1 := ⟨_, rfl⟩
    try have fv29 := fadd rfl (by decide : (1 : Int32).toInt = 1) ev29 (by omega) (by omega)
    refine g_iinc C 0 v29 [(1, .int v29), (0, .ref (ad 258))] dX11_takeOver_36 rfl (by rw [ev29]; rfl) (by decide) rfl ?_
    refine g_goto C 18 dX11_takeOver_39 (by decide) ?_
    have nv := ixn (x := v29) (by omega)
    have hall : ∀ j : Nat, j < v29.toNatClampNeg → M28 288 j = M 277 j := by
      intro j hj
      rw [hM28, sI_at]
      by_cases e9 : j = x1_18.toNatClampNeg
      · rw [if_pos ⟨rfl, e9⟩, e9]; simp only [gv27, gv3, gv1]
      · rw [if_neg (fun h => e9 h.2)]; exact j18_4 j (by omega)
    exact ih_18 (v29, M28, L_18) ⟨by show 0 ≤ v29.toInt; omega, by show v29.toInt ≤ 30; omega, by show M28 258 42 = M 258 29; rw [k42]; exact j18_2, by show M28 258 44 = M 258 31; rw [k44]; exact j18_3, by show ∀ j : Nat, j < v29.toNatClampNeg → M28 288 j = M 277 j; exact hall, hI, hF, hG⟩ (by show (31 - v29.toInt).toNat < (31 - x1_18.toInt).toNat; omega)
