set_option maxHeartbeats 4000000 in
set_option maxRecDepth 100000 in
theorem v_X1_come (l : Launch) (D : va_G) (ad : Nat → Nat) (cs : Nat → ClassId) (M : MI) (L : ML) (x : Int32) (y : Int32) (hI : IC M) (hn : 0 ≤ y.toInt ∧ y.toInt ≤ 40) (h8n : ∀ i : Nat, (vC M 0 2).toInt ≤ ((i / 40 : Nat) : Int) → vC M 8 i = -9) : Ci l yX1_come wsX1_come ({ frames := 0, cells := 0, slots := 0, locals := 0 }) D ad cs [.ref (ad 68), .int x, .int y] M L (fun r M1 L1 => ((if (vC M 0 2).toInt = 8 then ((-2 : Int32), vC M) else (vC M 0 2, sI (sI (sI (vC M) 6 ((vC M 0 2).toNatClampNeg) x) 7 ((vC M 0 2).toNatClampNeg) y) 0 2 (vC M 0 2 + 1))) = (r, vC M1)) ∧ IC M1 ∧ (∀ k i, ¬ (k = 68 ∧ i = 0) ∧ k ≠ 69 ∧ k ≠ 70 ∧ ¬ (73 ≤ k ∧ k < 81) → M1 k i = M k i) ∧ ∀ k i, True → L1 k i = L k i) := by
  refine enter_i RX1 rfl [(0, .ref (ad 68)), (1, .int x), (2, .int y)] rfl (Nat.le_of_ble_eq_true rfl) (by decide +kernel) rfl ?_
  intro p e s m below meth c C hr
  have hF : ∀ k i, ¬ (k = 68 ∧ i = 0) ∧ k ≠ 69 ∧ k ≠ 70 ∧ ¬ (73 ≤ k ∧ k < 81) → M k i = M k i := fun _ _ _ => rfl
  have hG : ∀ k i, True → L k i = L k i := fun _ _ _ => rfl
  have w0 : (vC M 0 0).toInt = (M 1 0).toInt := rfl
  have w1 : (vC M 0 1).toInt = (M 3 0).toInt := rfl
  have w2 : (vC M 0 2).toInt = (M 68 0).toInt := rfl
  have w3 : (vC M 0 3).toInt = (M 81 0).toInt := rfl
  obtain ⟨y0a, y0b⟩ := (show rg 0 10 (M 1 0) from hI 1 0 rfl)
  obtain ⟨y1a, y1b⟩ := (show rg 0 60 (M 3 0) from hI 3 0 rfl)
  obtain ⟨y2a, y2b⟩ := (show rg 0 8 (M 68 0) from hI 68 0 rfl)
  obtain ⟨y3a, y3b⟩ := (show rg 0 20 (M 81 0) from hI 81 0 rfl)
  obtain ⟨hn1, hn2⟩ := hn
  have k68_0 : M 68 0 = vC M 0 2 := rfl
  have q69 : M 69 = M 69 := rfl
  have q70 : M 70 = M 70 := rfl
  have q73 : ∀ k, 73 ≤ k ∧ k < 81 → M k = M k := fun _ _ => rfl
  have hV : vC M = vC M := rfl
  refine g_aload_n C 0 dX1_come_0 rfl ?_
  refine g_get C (.int (M 68 0)) 0 in_X1_come_1 (List.mem_of_getElem? (i := 1) rfl) (by decide) (ce_box ad cs _ _) rfl (by decide) rfl rfl dX1_come_1 ?_
  refine g_ni (fun v1 ev1 => ?_)
  have gv1 : v1 = vC M 0 2 := ev1.trans k68_0
  have tv1 := congrArg Int32.toInt gv1
  obtain ⟨bv1, dv1⟩ := (show rg 0 8 v1 from (by rw [ev1]; exact hI 68 0 rfl))
  refine g_bipush C 8 dX1_come_4 (by decide) ?_
  refine g_icmp_ne C 12 dX1_come_6 (by decide) (fun c2 => ?_) (fun c2 => ?_)
  ·
    have f3 := fne rfl (by decide : (8 : Int32).toInt = 8) c2
    refine g_aload_n C 0 dX1_come_12 rfl ?_
    refine g_get C (.ref (ad 69)) 1 in_X1_come_1 (List.mem_of_getElem? (i := 2) rfl) (by decide) (ce_box ad cs _ _) rfl (by decide) rfl rfl dX1_come_13 ?_
    refine g_aload_n C 0 dX1_come_16 rfl ?_
    refine g_get C (.int (M 68 0)) 0 in_X1_come_1 (List.mem_of_getElem? (i := 1) rfl) (by decide) (ce_box ad cs _ _) rfl (by decide) rfl rfl dX1_come_17 ?_
    refine g_ni (fun v4 ev4 => ?_)
    have gv4 : v4 = vC M 0 2 := ev4.trans k68_0
    have tv4 := congrArg Int32.toInt gv4
    obtain ⟨bv4, dv4⟩ := (show rg 0 8 v4 from (by rw [ev4]; exact hI 68 0 rfl))
    refine g_iload_n C 1 dX1_come_20 rfl ?_
    have nv4 := ixn (x := v4) (by omega)
    refine g_iast C (by decide) (ce_xsort ad cs _ _) (by rw [sI_k]; rfl) (fin' (n := 8) rfl (by omega) (by omega)) dX1_come_21 ?_
    refine g_nm (fun M5 hM5 => ?_)
    have hI : IC M5 := by rw [hM5]; exact hI.st trivial
    have hF : ∀ k i, ¬ (k = 68 ∧ i = 0) ∧ k ≠ 69 ∧ k ≠ 70 ∧ ¬ (73 ≤ k ∧ k < 81) → M5 k i = M k i := fun k i hk => by (rw [hM5, sI_at, if_neg (by omega)]; try exact hF k i hk)
    have k68_0 : M5 68 0 = vC M 0 2 := by rw [hM5, sI_n _ _ _ (by decide)]; try exact k68_0
    have q70 : M5 70 = M 70 := by rw [hM5, sI_n _ _ _ (by decide)]; try exact q70
    have q73 : ∀ k, 73 ≤ k ∧ k < 81 → M5 k = M k := fun k hk => by rw [hM5, sI_n _ _ _ (by omega)]; try exact q73 k hk
    have hV : vC M5 = sI (vC M) 6 v4.toNatClampNeg x := by rw [hM5, vC_a (c := 6) (by decide), hV]
    refine g_aload_n C 0 dX1_come_22 rfl ?_
    refine g_get C (.ref (ad 70)) 2 in_X1_come_1 (List.mem_of_getElem? (i := 3) rfl) (by decide) (ce_box ad cs _ _) rfl (by decide) rfl rfl dX1_come_23 ?_
    refine g_aload_n C 0 dX1_come_26 rfl ?_
    refine g_get C (.int (M5 68 0)) 0 in_X1_come_1 (List.mem_of_getElem? (i := 1) rfl) (by decide) (ce_box ad cs _ _) rfl (by decide) rfl rfl dX1_come_27 ?_
    refine g_ni (fun v6 ev6 => ?_)
    have gv6 : v6 = vC M 0 2 := ev6.trans k68_0
    have tv6 := congrArg Int32.toInt gv6
    obtain ⟨bv6, dv6⟩ := (show rg 0 8 v6 from (by rw [ev6]; exact hI 68 0 rfl))
    refine g_iload_n C 2 dX1_come_30 rfl ?_
    have nv6 := ixn (x := v6) (by omega)
    refine g_iast C (by decide) (ce_xsize ad cs _ _) (by rw [sI_k]; rfl) (fin' (n := 8) rfl (by omega) (by omega)) dX1_come_31 ?_
    refine g_nm (fun M7 hM7 => ?_)
    have hI : IC M7 := by rw [hM7]; exact hI.st ⟨by first | omega | decide, by first | omega | decide⟩
    have hF : ∀ k i, ¬ (k = 68 ∧ i = 0) ∧ k ≠ 69 ∧ k ≠ 70 ∧ ¬ (73 ≤ k ∧ k < 81) → M7 k i = M k i := fun k i hk => by (rw [hM7, sI_at, if_neg (by omega)]; try exact hF k i hk)
    have k68_0 : M7 68 0 = vC M 0 2 := by rw [hM7, sI_n _ _ _ (by decide)]; try exact k68_0
    have q73 : ∀ k, 73 ≤ k ∧ k < 81 → M7 k = M k := fun k hk => by rw [hM7, sI_n _ _ _ (by omega)]; try exact q73 k hk
    refine g_iconst C 0 dX1_come_32 (by decide) ?_
    refine g_istore_n C [(3, .int 0), (0, .ref (ad 68)), (1, .int x), (2, .int y)] dX1_come_33 (by decide) rfl ?_
    have zy8 : (0 : Int32).toInt = 0 := by decide
    have n02 := ixn (x := vC M 0 2) (by omega)
    have e69 : M7 69 = upd (M 69) (vC M 0 2).toNatClampNeg x := by rw [hM7, sI_n _ _ _ (by decide), hM5, sI_k]; simp only [gv6, gv4, gv1]
    have e70 : M7 70 = upd (M 70) (vC M 0 2).toNatClampNeg y := by rw [hM7, sI_k, hM5, sI_n _ _ _ (by decide)]; simp only [gv6, gv4, gv1]
    have eo : ∀ k i, k ≠ 69 → k ≠ 70 → k ≠ 73 + (vC M 0 2).toNatClampNeg → M7 k i = M k i := fun k i a b _ => by rw [hM7, sI_n _ _ _ b, hM5, sI_n _ _ _ a]
    refine g_loop (α := Int32 × MI × ML) (fun a => (41 - a.1.toInt).toNat) (fun a => (0 ≤ a.1.toInt) ∧ (a.1.toInt ≤ y.toInt) ∧ (a.2.1 68 0 = vC M 0 2) ∧ (a.2.1 69 = upd (M 69) (vC M 0 2).toNatClampNeg x) ∧ (a.2.1 70 = upd (M 70) (vC M 0 2).toNatClampNeg y) ∧ (∀ k i, k ≠ 69 → k ≠ 70 → k ≠ 73 + (vC M 0 2).toNatClampNeg → a.2.1 k i = M k i) ∧ (∀ j : Nat, j < a.1.toNatClampNeg → a.2.1 (73 + (vC M 0 2).toNatClampNeg) j = -9) ∧ IC a.2.1 ∧ (∀ k i, ¬ (k = 68 ∧ i = 0) ∧ k ≠ 69 ∧ k ≠ 70 ∧ ¬ (73 ≤ k ∧ k < 81) → a.2.1 k i = M k i) ∧ (∀ k i, True → a.2.2 k i = L k i)) (fun a => a.2.1) (fun a => a.2.2) (fun a => [(3, .int a.1), (0, .ref (ad 68)), (1, .int x), (2, .int y)]) ((0 : Int32), M7, L) ⟨by show 0 ≤ (0 : Int32).toInt; omega, by show (0 : Int32).toInt ≤ y.toInt; omega, by show M7 68 0 = vC M 0 2; exact k68_0, by show M7 69 = upd (M 69) (vC M 0 2).toNatClampNeg x; exact e69, by show M7 70 = upd (M 70) (vC M 0 2).toNatClampNeg y; exact e70, by show ∀ k i, k ≠ 69 → k ≠ 70 → k ≠ 73 + (vC M 0 2).toNatClampNeg → M7 k i = M k i; exact eo, by show ∀ j : Nat, j < (0 : Int32).toNatClampNeg → M7 (73 + (vC M 0 2).toNatClampNeg) j = -9; intro j hj; exact absurd hj (by show ¬ j < 0; omega), hI, hF, hG⟩ rfl rfl rfl ?_
    rintro ⟨x3_34, M_34, L_34⟩ ⟨j34_0, j34_1, j34_2, j34_3, j34_4, j34_5, j34_6, hI, hF, hG⟩ ih_34
    dsimp only at j34_0 j34_1 j34_2 j34_3 j34_4 j34_5 j34_6 hI hF hG ih_34 ⊢
    have k68_0 : M_34 68 0 = M_34 68 0 := rfl
    have hV : vC M_34 = vC M_34 := rfl
    have q69 : M_34 69 = M_34 69 := rfl
    have q70 : M_34 70 = M_34 70 := rfl
    have q73 : ∀ k, 73 ≤ k ∧ k < 81 → M_34 k = M_34 k := fun _ _ => rfl
    have k68_0 : M_34 68 0 = vC M 0 2 := j34_2
    have n3 := ixn (x := x3_34) (by omega)
    have n02 := ixn (x := vC M 0 2) (by omega)
    refine g_iload_n C 0 dX1_come_34 rfl ?_
    refine g_iload_n C 3 dX1_come_35 rfl ?_
    refine g_icmp_ge C 58 dX1_come_36 (by decide) (fun c9 => ?_) (fun c9 => ?_)
    ·
      have f10 := fle rfl rfl c9
      refine g_aload_n C 1 dX1_come_58 rfl ?_
      refine g_dup C dX1_come_59 rfl ?_
      refine g_get C (.int (M_34 68 0)) 0 in_X1_come_1 (List.mem_of_getElem? (i := 1) rfl) (by decide) (ce_box ad cs _ _) rfl (by decide) rfl rfl dX1_come_60 ?_
      refine g_ni (fun v11 ev11 => ?_)
      have gv11 : v11 = vC M 0 2 := ev11.trans k68_0
      have tv11 := congrArg Int32.toInt gv11
      obtain ⟨bv11, dv11⟩ := (show rg 0 8 v11 from (by rw [ev11]; exact hI 68 0 rfl))
      refine g_iconst C 1 dX1_come_63 (by decide) ?_
      refine g_iadd C dX1_come_64 ?_
      refine g_ni (fun v12 ev12 => ?_)
      try have fv12 := fadd rfl (by decide : (1 : Int32).toInt = 1) ev12 (by omega) (by omega)
      refine g_putI C 0 in_X1_come_1 (List.mem_of_getElem? (i := 1) rfl) (by decide) (ce_box ad cs _ _) rfl (by decide) rfl tyX1 tyX1_ok nmX1 rfl rfl rfl rfl (Nat.le_of_ble_eq_true rfl) (by rw [sI_k]; rfl) dX1_come_65 ?_
      refine g_nm (fun M13 hM13 => ?_)
      have hI : IC M13 := by rw [hM13]; exact hI.st (fun _ => ⟨by first | omega | decide, by first | omega | decide⟩)
      have hF : ∀ k i, ¬ (k = 68 ∧ i = 0) ∧ k ≠ 69 ∧ k ≠ 70 ∧ ¬ (73 ≤ k ∧ k < 81) → M13 k i = M k i := fun k i hk => by (rw [hM13, sI_at, if_neg (by omega)]; try exact hF k i hk)
      have k68_0 : M13 68 0 = v12 := by rw [hM13, sI_at, if_pos (by decide)]
      have q69 : M13 69 = M_34 69 := by rw [hM13, sI_n _ _ _ (by decide)]; try exact q69
      have q70 : M13 70 = M_34 70 := by rw [hM13, sI_n _ _ _ (by decide)]; try exact q70
      have q73 : ∀ k, 73 ≤ k ∧ k < 81 → M13 k = M_34 k := fun k hk => by rw [hM13, sI_n _ _ _ (by omega)]; try exact q73 k hk
      have hV : vC M13 = sI (vC M_34) 0 2 v12 := by rw [hM13, vC_s (c := 2) (by decide), hV]
      refine g_aload_n C 1 dX1_come_68 rfl ?_
      refine g_get C (.int (M13 68 0)) 0 in_X1_come_1 (List.mem_of_getElem? (i := 1) rfl) (by decide) (ce_box ad cs _ _) rfl (by decide) rfl rfl dX1_come_69 ?_
      refine g_ni (fun v14 ev14 => ?_)
      have gv14 : v14 = v12 := ev14.trans k68_0
      have tv14 := congrArg Int32.toInt gv14
      obtain ⟨bv14, dv14⟩ := (show rg 0 8 v14 from (by rw [ev14]; exact hI 68 0 rfl))
      refine g_iconst C 1 dX1_come_72 (by decide) ?_
      refine g_isub C dX1_come_73 ?_
      refine g_ni (fun v15 ev15 => ?_)
      try have fv15 := fsub rfl (by decide : (1 : Int32).toInt = 1) ev15 (by omega) (by omega)
      have fin9 : vC M13 = sI (sI (sI (vC M) 6 (vC M 0 2).toNatClampNeg x) 7 (vC M 0 2).toNatClampNeg y) 0 2 (vC M 0 2 + 1) := vC_come (by omega) (by rw [hM13, sI_n _ _ _ (by decide)]; exact j34_3) (by rw [hM13, sI_n _ _ _ (by decide)]; exact j34_4) (by rw [hM13, sI_at, if_pos ⟨rfl, rfl⟩]; simp only [ev15, gv14, ev12, gv11, gv6, gv4, gv1]) (fun j hj => by rw [hM13, sI_n _ _ _ (by omega)]; exact j34_6 j (by omega)) (fun k i a b c9 d9 => by rw [hM13, sI_n _ _ _ d9]; exact j34_5 k i a b c9) (fun i hi => h8n i (by omega))
      exact g_iret C hr ⟨(by rw [if_neg (by omega), fin9]; simp only [ev15, gv14, ev12, gv11, gv6, gv4, gv1, inc_dec]), hI, hF, hG⟩ dX1_come_74
    ·
      have f16 := fnle rfl rfl c9
      refine g_aload_n C 1 dX1_come_39 rfl ?_
      refine g_get C (.ref (ad 71)) 3 in_X1_come_1 (List.mem_of_getElem? (i := 4) rfl) (by decide) (ce_box ad cs _ _) rfl (by decide) rfl rfl dX1_come_40 ?_
      refine g_aload_n C 1 dX1_come_43 rfl ?_
      refine g_get C (.int (M_34 68 0)) 0 in_X1_come_1 (List.mem_of_getElem? (i := 1) rfl) (by decide) (ce_box ad cs _ _) rfl (by decide) rfl rfl dX1_come_44 ?_
      refine g_ni (fun v17 ev17 => ?_)
      have gv17 : v17 = vC M 0 2 := ev17.trans k68_0
      have tv17 := congrArg Int32.toInt gv17
      obtain ⟨bv17, dv17⟩ := (show rg 0 8 v17 from (by rw [ev17]; exact hI 68 0 rfl))
      have hi18 : vp_in v17 8 := (fin' (n := 8) rfl (by omega) (by omega))
      have nhi18 := tn hi18
      have mhi18 := ixn (x := v17) (by omega)
      refine g_aald C (by decide) (ce_xplacem ad cs _ _) rfl hi18 dX1_come_47 ?_
      refine g_iload_n C 0 dX1_come_48 rfl ?_
      refine g_bipush C (-9) dX1_come_49 (by decide) ?_
      have nx3_34 := ixn (x := x3_34) (by omega)
      refine g_iast C (by omega) (ce_xplace ad cs _ _ nhi18) (by rw [sI_k]; exact (ce_xplace ad cs _ _ nhi18)) (fin' (n := 40) rfl (by omega) (by omega)) dX1_come_51 ?_
      refine g_nm (fun M19 hM19 => ?_)
      have zy20 : ((-9) : Int32).toInt = (-9) := by decide
      have hI : IC M19 := by rw [hM19]; exact hI.st (bC_free (by omega) (by omega) (by omega) (by omega) (by omega) (by omega) (by omega))
      have hF : ∀ k i, ¬ (k = 68 ∧ i = 0) ∧ k ≠ 69 ∧ k ≠ 70 ∧ ¬ (73 ≤ k ∧ k < 81) → M19 k i = M k i := fun k i hk => by (rw [hM19, sI_at, if_neg (by omega)]; try exact hF k i hk)
      have k68_0 : M19 68 0 = vC M 0 2 := by rw [hM19, sI_n _ _ _ (by omega)]; try exact k68_0
      have q69 : M19 69 = M_34 69 := by rw [hM19, sI_n _ _ _ (by omega)]; try exact q69
      have q70 : M19 70 = M_34 70 := by rw [hM19, sI_n _ _ _ (by omega)]; try exact q70
      obtain ⟨v21, ev21⟩ : ∃ y : Int32, y = x3_34 + 1 := ⟨_, rfl⟩
      try have fv21 := fadd rfl (by decide : (1 : Int32).toInt = 1) ev21 (by omega) (by omega)
      refine g_iinc C 0 v21 [(3, .int v21), (0, .ref (ad 68)), (1, .int x), (2, .int y)] dX1_come_52 rfl (by rw [ev21]; rfl) (by decide) rfl ?_
      refine g_goto C 34 dX1_come_55 (by decide) ?_
      have nv := ixn (x := v21) (by omega)
      have ev9 : v17.toNatClampNeg = (vC M 0 2).toNatClampNeg := by rw [gv17]
      have e69 : M19 69 = upd (M 69) (vC M 0 2).toNatClampNeg x := by rw [hM19, sI_n _ _ _ (by omega)]; exact j34_3
      have e70 : M19 70 = upd (M 70) (vC M 0 2).toNatClampNeg y := by rw [hM19, sI_n _ _ _ (by omega)]; exact j34_4
      have eo : ∀ k i, k ≠ 69 → k ≠ 70 → k ≠ 73 + (vC M 0 2).toNatClampNeg → M19 k i = M k i := fun k i a b c9 => by rw [hM19, ev9, sI_n _ _ _ c9]; exact j34_5 k i a b c9
      have hall : ∀ j : Nat, j < v21.toNatClampNeg → M19 (73 + (vC M 0 2).toNatClampNeg) j = -9 := by
        intro j hj
        rw [hM19, ev9, sI_at]
        by_cases e9 : j = x3_34.toNatClampNeg
        · rw [if_pos ⟨rfl, e9⟩]
        · rw [if_neg (fun h => e9 h.2)]; exact j34_6 j (by omega)
      exact ih_34 (v21, M19, L_34) ⟨by show 0 ≤ v21.toInt; omega, by show v21.toInt ≤ y.toInt; omega, by show M19 68 0 = vC M 0 2; exact k68_0, by show M19 69 = upd (M 69) (vC M 0 2).toNatClampNeg x; exact e69, by show M19 70 = upd (M 70) (vC M 0 2).toNatClampNeg y; exact e70, by show ∀ k i, k ≠ 69 → k ≠ 70 → k ≠ 73 + (vC M 0 2).toNatClampNeg → M19 k i = M k i; exact eo, by show ∀ j : Nat, j < v21.toNatClampNeg → M19 (73 + (vC M 0 2).toNatClampNeg) j = -9; exact hall, hI, hF, hG⟩ (by show (41 - v21.toInt).toNat < (41 - x3_34.toInt).toNat; omega)
  ·
    have f22 := feq rfl (by decide : (8 : Int32).toInt = 8) c2
    refine g_bipush C (-2) dX1_come_9 (by decide) ?_
    have zr9 : ((-2) : Int32).toInt = (-2) := by decide
    exact g_iret C hr ⟨(by rw [if_pos (by omega)]), hI, hF, hG⟩ dX1_come_11
set_option maxHeartbeats 4000000 in
set_option maxRecDepth 100000 in
theorem v_X10_box (l : Launch) (D : va_G) (ad : Nat → Nat) (cs : Nat → ClassId) (M : MI) (L : ML) (x : Int32) (y : Int32) (hI : IC M) (h8n : ∀ i : Nat, (vC M 0 2).toInt ≤ ((i / 40 : Nat) : Int) → vC M 8 i = -9) : Ci l yX10_box wsX10_box ({ frames := 1, cells := 0, slots := 0, locals := 23 }) D ad cs [.ref (ad 0), .int x, .int y] M L (fun r M1 L1 => (A_box (vC M) x y = (r, vC M1)) ∧ IC M1 ∧ (∀ k i, ¬ (k = 0 ∧ i = 11) ∧ k ≠ 257 ∧ ¬ (k = 68 ∧ i = 0) ∧ k ≠ 69 ∧ k ≠ 70 ∧ ¬ (73 ≤ k ∧ k < 81) → M1 k i = M k i) ∧ ∀ k i, True → L1 k i = L k i) := by
  refine enter_i RX10 rfl [(0, .ref (ad 0)), (1, .int x), (2, .int y)] rfl (Nat.le_of_ble_eq_true rfl) (by decide +kernel) rfl ?_
  intro p e s m below meth c C hr
  have hF : ∀ k i, ¬ (k = 0 ∧ i = 11) ∧ k ≠ 257 ∧ ¬ (k = 68 ∧ i = 0) ∧ k ≠ 69 ∧ k ≠ 70 ∧ ¬ (73 ≤ k ∧ k < 81) → M k i = M k i := fun _ _ _ => rfl
  have hG : ∀ k i, True → L k i = L k i := fun _ _ _ => rfl
  have w0 : (vC M 0 0).toInt = (M 1 0).toInt := rfl
  have w1 : (vC M 0 1).toInt = (M 3 0).toInt := rfl
  have w2 : (vC M 0 2).toInt = (M 68 0).toInt := rfl
  have w3 : (vC M 0 3).toInt = (M 81 0).toInt := rfl
  obtain ⟨y0a, y0b⟩ := (show rg 0 10 (M 1 0) from hI 1 0 rfl)
  obtain ⟨y1a, y1b⟩ := (show rg 0 60 (M 3 0) from hI 3 0 rfl)
  obtain ⟨y2a, y2b⟩ := (show rg 0 8 (M 68 0) from hI 68 0 rfl)
  obtain ⟨y3a, y3b⟩ := (show rg 0 20 (M 81 0) from hI 81 0 rfl)
  have k0_11 : M 0 11 = vC M 0 4 := rfl
  have k68_0 : M 68 0 = vC M 0 2 := rfl
  have q69 : M 69 = M 69 := rfl
  have q70 : M 70 = M 70 := rfl
  have q257 : M 257 = M 257 := rfl
  have q73 : ∀ k, 73 ≤ k ∧ k < 81 → M k = M k := fun _ _ => rfl
  have hV : vC M = vC M := rfl
  refine g_iload_n C 1 dX10_box_0 rfl ?_
  refine g_callSi C (n := 1) (As := [.int x]) (st := []) (c_X10_isSort l D ad cs _ _ x ) gX10_box_X10_isSort rfl rfl rfl (by decide +kernel) ⟨Nat.le_of_ble_eq_true rfl, Nat.le_of_ble_eq_true rfl⟩ rfl (Nat.le_of_ble_eq_true rfl) ⟨Nat.zero_le _, Nat.zero_le _⟩ rfl dX10_box_1 (fun r1 M2 L3 hr1 => ?_)
  obtain ⟨hq1, hq2, hr1⟩ := hr1
  obtain rfl := hq1.symm
  obtain rfl := hq2.symm
  have hr1 := zo_lt hr1 (by decide : (4 : Int32).toInt = 4)
  obtain ⟨bar1, bbr1⟩ := zo_b hr1
  refine g_if_eq C 13 dX10_box_4 (by decide) (fun c4 => ?_) (fun c4 => ?_)
  ·
    have f5 := feq rfl (by decide : (0 : Int32).toInt = 0) c4
    have pr1 := zo_f hr1 c4
    try dsimp only [hasC, hasB, hasX, hasM, ofS, ofK, bt] at pr1
    refine g_iconst C (-1) dX10_box_13 (by decide) ?_
    have zr9 : ((-1) : Int32).toInt = (-1) := by decide
    exact g_iret C hr ⟨(by dsimp only [A_box, hasC, hasB, hasX, hasM, ofS, ofK, bt, ix]; (repeat (first | rw [if_pos (by omega)] | rw [if_neg (by omega)])); first | done | rfl | (simp only [ix]; done) | (simp only [ix]; rfl) | (subst_vars; first | rfl | grind)), hI, hF, hG⟩ dX10_box_14
  ·
    have f6 := fne rfl (by decide : (0 : Int32).toInt = 0) c4
    have pr1 := zo_t hr1 c4
    try dsimp only [hasC, hasB, hasX, hasM, ofS, ofK, bt] at pr1
    refine g_iload_n C 2 dX10_box_7 rfl ?_
    refine g_bipush C 40 dX10_box_8 (by decide) ?_
    refine g_icmp_le C 15 dX10_box_10 (by decide) (fun c7 => ?_) (fun c7 => ?_)
    ·
      have f8 := fle rfl (by decide : (40 : Int32).toInt = 40) c7
      refine g_aload_n C 0 dX10_box_15 rfl ?_
      refine g_get C (.ref (ad 68)) 2 in_X10_box_10 (List.mem_of_getElem? (i := 1) rfl) (by decide) (ce_house ad cs _ _) rfl (by decide) rfl rfl dX10_box_16 ?_
      refine g_get C (.int (M 68 0)) 0 in_X10_box_1 (List.mem_of_getElem? (i := 2) rfl) (by decide) (ce_box ad cs _ _) rfl (by decide) rfl rfl dX10_box_19 ?_
      refine g_ni (fun v9 ev9 => ?_)
      have gv9 : v9 = vC M 0 2 := ev9.trans k68_0
      have tv9 := congrArg Int32.toInt gv9
      obtain ⟨bv9, dv9⟩ := (show rg 0 8 v9 from (by rw [ev9]; exact hI 68 0 rfl))
      refine g_bipush C 8 dX10_box_22 (by decide) ?_
      refine g_icmp_ne C 30 dX10_box_24 (by decide) (fun c10 => ?_) (fun c10 => ?_)
      ·
        have f11 := fne rfl (by decide : (8 : Int32).toInt = 8) c10
        refine g_iload_n C 2 dX10_box_30 rfl ?_
        refine g_if_ge C 40 dX10_box_31 (by decide) (fun c12 => ?_) (fun c12 => ?_)
        ·
          have f13 := fle (by decide : (0 : Int32).toInt = 0) rfl c12
          refine g_aload_n C 0 dX10_box_40 rfl ?_
          refine g_get C (.ref (ad 68)) 2 in_X10_box_10 (List.mem_of_getElem? (i := 1) rfl) (by decide) (ce_house ad cs _ _) rfl (by decide) rfl rfl dX10_box_41 ?_
          refine g_iload_n C 1 dX10_box_44 rfl ?_
          refine g_iload_n C 2 dX10_box_45 rfl ?_
          refine g_callVi C (n := 2) (As := [.int x, .int y]) (st := []) (v_X1_come l D ad cs _ _ x y hI ⟨by omega, by omega⟩ h8n) gX10_box_X1_come rfl rfl rfl (by decide +kernel) ⟨Nat.le_of_ble_eq_true rfl, Nat.le_of_ble_eq_true rfl⟩ rfl (Nat.le_of_ble_eq_true rfl) ⟨Nat.zero_le _, Nat.zero_le _⟩ (by decide) (ce_box ad cs _ _) rfl rfl dX10_box_46 (fun r14 M15 L16 hr14 => ?_)
          obtain ⟨hr14, hI, hFr14, hGr14⟩ := hr14
          have hF : ∀ k i, ¬ (k = 0 ∧ i = 11) ∧ k ≠ 257 ∧ ¬ (k = 68 ∧ i = 0) ∧ k ≠ 69 ∧ k ≠ 70 ∧ ¬ (73 ≤ k ∧ k < 81) → M15 k i = M k i := fun k i hk => by (rw [hFr14 k i (by omega)]; try exact hF k i hk)
          have hG : ∀ k i, True → L16 k i = L k i := fun k i hk => by (rw [hGr14 k i trivial]; try exact hG k i hk)
          have k0_11 : M15 0 11 = vC M 0 4 := (hFr14 0 11 (by omega)).trans k0_11
          have k68_0 : M15 68 0 = M15 68 0 := rfl
          have q73 : ∀ k, 73 ≤ k ∧ k < 81 → M15 k = M15 k := fun _ _ => rfl
          have q69 : M15 69 = M15 69 := rfl
          have q70 : M15 70 = M15 70 := rfl
          have q257 : M15 257 = M 257 := (funext (fun i => hFr14 257 i (by omega))).trans q257
          exact g_iret C hr ⟨(by dsimp only [A_box, bt]; rw [if_pos (by omega)]; have h9 := hr14; rw [if_neg (by omega)] at h9 ⊢; rw [if_neg (by omega)]; exact h9), hI, hF, hG⟩ dX10_box_49
        ·
          have f17 := fnle (by decide : (0 : Int32).toInt = 0) rfl c12
          refine g_aload_n C 0 dX10_box_34 rfl ?_
          refine g_iconst C 5 dX10_box_35 (by decide) ?_
          refine g_callVi C (n := 1) (As := [.int 5]) (st := []) (v_X10_found l D ad cs _ _ 5 hI ⟨by first | omega | decide, by first | omega | decide⟩) gX10_box_X10_found rfl rfl rfl (by decide +kernel) ⟨Nat.le_of_ble_eq_true rfl, Nat.le_of_ble_eq_true rfl⟩ rfl (Nat.le_of_ble_eq_true rfl) ⟨Nat.zero_le _, Nat.zero_le _⟩ (by decide) (ce_house ad cs _ _) rfl rfl dX10_box_36 (fun r18 M19 L20 hr18 => ?_)
          obtain ⟨hr18, hI, hFr18, hGr18⟩ := hr18
          have hF : ∀ k i, ¬ (k = 0 ∧ i = 11) ∧ k ≠ 257 ∧ ¬ (k = 68 ∧ i = 0) ∧ k ≠ 69 ∧ k ≠ 70 ∧ ¬ (73 ≤ k ∧ k < 81) → M19 k i = M k i := fun k i hk => by (rw [hFr18 k i (by omega)]; try exact hF k i hk)
          have hG : ∀ k i, True → L20 k i = L k i := fun k i hk => by (rw [hGr18 k i trivial]; try exact hG k i hk)
          have hV : vC M19 = meetsV (vC M) 5 := by rw [hr18.2, hV]
          have k68_0 : M19 68 0 = vC M 0 2 := (hFr18 68 0 (by omega)).trans k68_0
          have k0_11 : M19 0 11 = M19 0 11 := rfl
          have q73 : ∀ k, 73 ≤ k ∧ k < 81 → M19 k = M k := fun k hk => (funext (fun i => hFr18 k i (by omega))).trans (q73 k hk)
          have q69 : M19 69 = M 69 := (funext (fun i => hFr18 69 i (by omega))).trans q69
          have q70 : M19 70 = M 70 := (funext (fun i => hFr18 70 i (by omega))).trans q70
          have q257 : M19 257 = M19 257 := rfl
          exact g_iret C hr ⟨(by dsimp only [A_box, hasC, hasB, hasX, hasM, ofS, ofK, bt, ix]; (repeat (first | rw [if_pos (by omega)] | rw [if_neg (by omega)])); rw [hV]; first | done | rfl | (simp only [gv9]; done) | (simp only [gv9]; rfl) | (subst_vars; first | rfl | grind)), hI, hF, hG⟩ dX10_box_39
      ·
        have f21 := feq rfl (by decide : (8 : Int32).toInt = 8) c10
        refine g_bipush C (-2) dX10_box_27 (by decide) ?_
        have zr9 : ((-2) : Int32).toInt = (-2) := by decide
        exact g_iret C hr ⟨(by dsimp only [A_box, hasC, hasB, hasX, hasM, ofS, ofK, bt, ix]; (repeat (first | rw [if_pos (by omega)] | rw [if_neg (by omega)])); first | done | rfl | (simp only [gv9]; done) | (simp only [gv9]; rfl) | (subst_vars; first | rfl | grind)), hI, hF, hG⟩ dX10_box_29
    ·
      have f22 := fnle rfl (by decide : (40 : Int32).toInt = 40) c7
      refine g_iconst C (-1) dX10_box_13 (by decide) ?_
      have zr9 : ((-1) : Int32).toInt = (-1) := by decide
      exact g_iret C hr ⟨(by dsimp only [A_box, hasC, hasB, hasX, hasM, ofS, ofK, bt, ix]; (repeat (first | rw [if_pos (by omega)] | rw [if_neg (by omega)])); first | done | rfl | (simp only [ix]; done) | (simp only [ix]; rfl) | (subst_vars; first | rfl | grind)), hI, hF, hG⟩ dX10_box_14
set_option maxHeartbeats 4000000 in
set_option maxRecDepth 100000 in
theorem v_X1_copy (l : Launch) (D : va_G) (ad : Nat → Nat) (cs : Nat → ClassId) (M : MI) (L : ML) (x : Int32) (y : Int32) (z : Int32) (u : Int32) (w : Int32) (hI : IC M) (hx : hasX (vC M) x) (hz : hasX (vC M) z) (hn : 0 ≤ y.toInt ∧ 0 ≤ u.toInt ∧ 0 ≤ w.toInt ∧ y.toInt + w.toInt ≤ (vC M 7 (x.toNatClampNeg)).toInt ∧ u.toInt + w.toInt ≤ (vC M 7 (z.toNatClampNeg)).toInt) : Cv l yX1_copy wsX1_copy ({ frames := 0, cells := 0, slots := 0, locals := 0 }) D ad cs [.ref (ad 68), .int x, .int y, .int z, .int u, .int w] M L (fun M1 L1 => (vC M1 = pourV (vC M) (40 * x.toNatClampNeg + y.toNatClampNeg) (40 * z.toNatClampNeg + u.toNatClampNeg) (w.toNatClampNeg)) ∧ IC M1 ∧ (∀ k i, k ≠ 72 ∧ ¬ (73 ≤ k ∧ k < 81) → M1 k i = M k i) ∧ ∀ k i, True → L1 k i = L k i) := by
  refine enter_v RX1 rfl [(0, .ref (ad 68)), (1, .int x), (2, .int y), (3, .int z), (4, .int u), (5, .int w)] rfl (Nat.le_of_ble_eq_true rfl) (by decide +kernel) rfl ?_
  intro p e s m below meth c C hr
  have hF : ∀ k i, k ≠ 72 ∧ ¬ (73 ≤ k ∧ k < 81) → M k i = M k i := fun _ _ _ => rfl
  have hG : ∀ k i, True → L k i = L k i := fun _ _ _ => rfl
  have w0 : (vC M 0 0).toInt = (M 1 0).toInt := rfl
  have w1 : (vC M 0 1).toInt = (M 3 0).toInt := rfl
  have w2 : (vC M 0 2).toInt = (M 68 0).toInt := rfl
  have w3 : (vC M 0 3).toInt = (M 81 0).toInt := rfl
  obtain ⟨y0a, y0b⟩ := (show rg 0 10 (M 1 0) from hI 1 0 rfl)
  obtain ⟨y1a, y1b⟩ := (show rg 0 60 (M 3 0) from hI 3 0 rfl)
  obtain ⟨y2a, y2b⟩ := (show rg 0 8 (M 68 0) from hI 68 0 rfl)
  obtain ⟨y3a, y3b⟩ := (show rg 0 20 (M 81 0) from hI 81 0 rfl)
  obtain ⟨hx1, hx2⟩ := hx
  obtain ⟨hz1, hz2⟩ := hz
  obtain ⟨hn1, hn2, hn3, hn4, hn5⟩ := hn
  obtain ⟨sa, sb⟩ := (show rg 0 40 (vC M 7 x.toNatClampNeg) from hI 70 _)
  obtain ⟨sc, sd⟩ := (show rg 0 40 (vC M 7 z.toNatClampNeg) from hI 70 _)
  have qy := Int32.toInt_lt y
  have qu := Int32.toInt_lt u
  have qw := Int32.toInt_lt w
  have nx := ixn (x := x) (by omega)
  have ny := ixn (x := y) (by omega)
  have nz := ixn (x := z) (by omega)
  have nu := ixn (x := u) (by omega)
  have nw := ixn (x := w) (by omega)
  have q72 : M 72 = M 72 := rfl
  have q73 : ∀ k, 73 ≤ k ∧ k < 81 → M k = M k := fun _ _ => rfl
  have hV : vC M = vC M := rfl
  refine g_iconst C 0 dX1_copy_0 (by decide) ?_
  refine g_istore C [(6, .int 0), (0, .ref (ad 68)), (1, .int x), (2, .int y), (3, .int z), (4, .int u), (5, .int w)] dX1_copy_1 (by decide) rfl ?_
  have zy1 : (0 : Int32).toInt = 0 := by decide
  refine g_loop (α := Int32 × MI × ML) (fun a => (41 - a.1.toInt).toNat) (fun a => (0 ≤ a.1.toInt) ∧ (a.1.toInt ≤ w.toInt) ∧ (vC a.2.1 = vC M) ∧ (∀ k, k ≠ 72 → a.2.1 k = M k) ∧ (∀ j : Nat, j < a.1.toNatClampNeg → a.2.1 72 j = vC M 8 (40 * x.toNatClampNeg + y.toNatClampNeg + j)) ∧ IC a.2.1 ∧ (∀ k i, k ≠ 72 ∧ ¬ (73 ≤ k ∧ k < 81) → a.2.1 k i = M k i) ∧ (∀ k i, True → a.2.2 k i = L k i)) (fun a => a.2.1) (fun a => a.2.2) (fun a => [(6, .int a.1), (0, .ref (ad 68)), (1, .int x), (2, .int y), (3, .int z), (4, .int u), (5, .int w)]) ((0 : Int32), M, L) ⟨by show 0 ≤ (0 : Int32).toInt; omega, by show (0 : Int32).toInt ≤ w.toInt; omega, by show vC M = vC M; rfl, by show ∀ k, k ≠ 72 → M k = M k; intro k _; rfl, by show ∀ j : Nat, j < (0 : Int32).toNatClampNeg → M 72 j = vC M 8 (40 * x.toNatClampNeg + y.toNatClampNeg + j); intro j hj; exact absurd hj (by show ¬ j < 0; omega), hI, hF, hG⟩ rfl rfl rfl ?_
  rintro ⟨x6_3, M_3, L_3⟩ ⟨j3_0, j3_1, j3_2, j3_3, j3_4, hI, hF, hG⟩ ih_3
  dsimp only at j3_0 j3_1 j3_2 j3_3 j3_4 hI hF hG ih_3 ⊢
  have hV : vC M_3 = vC M_3 := rfl
  have q72 : M_3 72 = M_3 72 := rfl
  have q73 : ∀ k, 73 ≤ k ∧ k < 81 → M_3 k = M_3 k := fun _ _ => rfl
  have q73 : ∀ k, 73 ≤ k ∧ k < 81 → M_3 k = M k := fun k hk => j3_3 k (by omega)
  have n6 := ixn (x := x6_3) (by omega)
  refine g_iload C 0 dX1_copy_3 rfl ?_
  refine g_iload C 6 dX1_copy_5 rfl ?_
  refine g_icmp_ge C 34 dX1_copy_7 (by decide) (fun c2 => ?_) (fun c2 => ?_)
  ·
    have f3 := fle rfl rfl c2
    refine g_iconst C 0 dX1_copy_34 (by decide) ?_
    refine g_istore C [(6, .int 0), (0, .ref (ad 68)), (1, .int x), (2, .int y), (3, .int z), (4, .int u), (5, .int w)] dX1_copy_35 (by decide) rfl ?_
    have zy4 : (0 : Int32).toInt = 0 := by decide
    refine g_loop (α := Int32 × MI × ML) (fun a => (41 - a.1.toInt).toNat) (fun a => (0 ≤ a.1.toInt) ∧ (a.1.toInt ≤ w.toInt) ∧ (∀ j : Nat, j < w.toNatClampNeg → a.2.1 72 j = vC M 8 (40 * x.toNatClampNeg + y.toNatClampNeg + j)) ∧ (vC a.2.1 = pourV (vC M) (40 * x.toNatClampNeg + y.toNatClampNeg) (40 * z.toNatClampNeg + u.toNatClampNeg) a.1.toNatClampNeg) ∧ IC a.2.1 ∧ (∀ k i, k ≠ 72 ∧ ¬ (73 ≤ k ∧ k < 81) → a.2.1 k i = M k i) ∧ (∀ k i, True → a.2.2 k i = L k i)) (fun a => a.2.1) (fun a => a.2.2) (fun a => [(6, .int a.1), (0, .ref (ad 68)), (1, .int x), (2, .int y), (3, .int z), (4, .int u), (5, .int w)]) ((0 : Int32), M_3, L_3) ⟨by show 0 ≤ (0 : Int32).toInt; omega, by show (0 : Int32).toInt ≤ w.toInt; omega, by show ∀ j : Nat, j < w.toNatClampNeg → M_3 72 j = vC M 8 (40 * x.toNatClampNeg + y.toNatClampNeg + j); intro j hj; exact j3_4 j (by omega), by show vC M_3 = pourV (vC M) (40 * x.toNatClampNeg + y.toNatClampNeg) (40 * z.toNatClampNeg + u.toNatClampNeg) (0 : Int32).toNatClampNeg; rw [j3_2]; exact (pourV_0 _ _ _).symm, hI, hF, hG⟩ rfl rfl rfl ?_
    rintro ⟨x6_37, M_37, L_37⟩ ⟨j37_0, j37_1, j37_2, j37_3, hI, hF, hG⟩ ih_37
    dsimp only at j37_0 j37_1 j37_2 j37_3 hI hF hG ih_37 ⊢
    have hV : vC M_37 = vC M_37 := rfl
    have q72 : M_37 72 = M_37 72 := rfl
    have q73 : ∀ k, 73 ≤ k ∧ k < 81 → M_37 k = M_37 k := fun _ _ => rfl
    have n6 := ixn (x := x6_37) (by omega)
    have s70 : ∀ i, M_37 70 i = M 70 i := fun i => hF 70 i (by omega)
    have s7 : (M 70 z.toNatClampNeg).toInt = (vC M 7 z.toNatClampNeg).toInt := rfl
    refine g_iload C 0 dX1_copy_37 rfl ?_
    refine g_iload C 6 dX1_copy_39 rfl ?_
    refine g_icmp_ge C 69 dX1_copy_41 (by decide) (fun c5 => ?_) (fun c5 => ?_)
    ·
      have f6 := fle rfl rfl c5
      exact g_vret C hr ⟨(by rw [j37_3, show x6_37.toNatClampNeg = w.toNatClampNeg by omega]), hI, hF, hG⟩ dX1_copy_69
    ·
      have f7 := fnle rfl rfl c5
      refine g_aload_n C 1 dX1_copy_44 rfl ?_
      refine g_get C (.ref (ad 71)) 3 in_X1_copy_1 (List.mem_of_getElem? (i := 2) rfl) (by decide) (ce_box ad cs _ _) rfl (by decide) rfl rfl dX1_copy_45 ?_
      refine g_iload_n C 4 dX1_copy_48 rfl ?_
      have hi8 : vp_in z 8 := (fin' (n := 8) rfl (by omega) (by omega))
      have nhi8 := tn hi8
      have mhi8 := ixn (x := z) (by omega)
      refine g_aald C (by decide) (ce_xplacem ad cs _ _) rfl hi8 dX1_copy_49 ?_
      refine g_iload C 5 dX1_copy_50 rfl ?_
      refine g_iload C 0 dX1_copy_52 rfl ?_
      refine g_iadd C dX1_copy_54 ?_
      refine g_ni (fun v9 ev9 => ?_)
      try have fv9 := fadd rfl rfl ev9 (by omega) (by omega)
      refine g_aload_n C 1 dX1_copy_55 rfl ?_
      refine g_get C (.ref (ad 72)) 4 in_X1_copy_1 (List.mem_of_getElem? (i := 1) rfl) (by decide) (ce_box ad cs _ _) rfl (by decide) rfl rfl dX1_copy_56 ?_
      refine g_iload C 0 dX1_copy_59 rfl ?_
      have nx6_37 := ixn (x := x6_37) (by omega)
      refine g_iald C (by decide) (ce_xtaken ad cs _ _) (fin' (n := 40) rfl (by omega) (by omega)) dX1_copy_61 ?_
      refine g_ni (fun v10 ev10 => ?_)
      have gv10 : v10 = M_37 72 x6_37.toNatClampNeg := ev10.trans (congrFun q72 _)
      have tv10 := congrArg Int32.toInt gv10
      have nu := ixn (x := u) (by omega)
      have nx6_37 := ixn (x := x6_37) (by omega)
      have nv9 := ixn (x := v9) (by omega)
      have iv9 : v9.toNatClampNeg = u.toNatClampNeg + x6_37.toNatClampNeg := by omega
      refine g_iast C (by omega) (ce_xplace ad cs _ _ nhi8) (by rw [sI_k]; exact (ce_xplace ad cs _ _ nhi8)) (fin' (n := 40) rfl (by omega) (by omega)) dX1_copy_62 ?_
      refine g_nm (fun M11 hM11 => ?_)
      have hI : IC M11 := by rw [hM11]; exact hI.st (bC_free (by omega) (by omega) (by omega) (by omega) (by omega) (by omega) (by omega))
      have hF : ∀ k i, k ≠ 72 ∧ ¬ (73 ≤ k ∧ k < 81) → M11 k i = M k i := fun k i hk => by (rw [hM11, sI_at, if_neg (by omega)]; try exact hF k i hk)
      have q72 : M11 72 = M_37 72 := by rw [hM11, sI_n _ _ _ (by omega)]; try exact q72
      have hV : vC M11 = sI (vC M_37) 8 (40 * z.toNatClampNeg + (u.toNatClampNeg + x6_37.toNatClampNeg)) v10 := by rw [hM11, iv9, vC_pl (by omega) (by omega) (by rw [s70]; omega), hV]
      obtain ⟨v12, ev12⟩ : ∃ y : Int32, y = x6_37 + 1 := ⟨_, rfl⟩
      try have fv12 := fadd rfl (by decide : (1 : Int32).toInt = 1) ev12 (by omega) (by omega)
      refine g_iinc C 0 v12 [(6, .int v12), (0, .ref (ad 68)), (1, .int x), (2, .int y), (3, .int z), (4, .int u), (5, .int w)] dX1_copy_63 rfl (by rw [ev12]; rfl) (by decide) rfl ?_
      refine g_goto C 37 dX1_copy_66 (by decide) ?_
      have nv := ixn (x := v12) (by omega)
      have iv : v12.toNatClampNeg = x6_37.toNatClampNeg + 1 := by omega
      exact ih_37 (v12, M11, L_37) ⟨by show 0 ≤ v12.toInt; omega, by show v12.toInt ≤ w.toInt; omega, by show ∀ j : Nat, j < w.toNatClampNeg → M11 72 j = vC M 8 (40 * x.toNatClampNeg + y.toNatClampNeg + j); intro j hj; rw [q72]; exact j37_2 j hj, by show vC M11 = pourV (vC M) (40 * x.toNatClampNeg + y.toNatClampNeg) (40 * z.toNatClampNeg + u.toNatClampNeg) v12.toNatClampNeg; rw [hV, j37_3, iv, ← pourV_s, ← j37_2 _ (by omega), Nat.add_assoc (40 * z.toNatClampNeg)]; first | done | (simp only [gv10, ev9]; done) | (simp only [gv10, ev9]; rfl), hI, hF, hG⟩ (by show (41 - v12.toInt).toNat < (41 - x6_37.toInt).toNat; omega)
  ·
    have f13 := fnle rfl rfl c2
    refine g_aload_n C 1 dX1_copy_10 rfl ?_
    refine g_get C (.ref (ad 72)) 4 in_X1_copy_1 (List.mem_of_getElem? (i := 1) rfl) (by decide) (ce_box ad cs _ _) rfl (by decide) rfl rfl dX1_copy_11 ?_
    refine g_iload C 0 dX1_copy_14 rfl ?_
    refine g_aload_n C 1 dX1_copy_16 rfl ?_
    refine g_get C (.ref (ad 71)) 3 in_X1_copy_1 (List.mem_of_getElem? (i := 2) rfl) (by decide) (ce_box ad cs _ _) rfl (by decide) rfl rfl dX1_copy_17 ?_
    refine g_iload_n C 2 dX1_copy_20 rfl ?_
    have hi14 : vp_in x 8 := (fin' (n := 8) rfl (by omega) (by omega))
    have nhi14 := tn hi14
    have mhi14 := ixn (x := x) (by omega)
    refine g_aald C (by decide) (ce_xplacem ad cs _ _) rfl hi14 dX1_copy_21 ?_
    refine g_iload_n C 3 dX1_copy_22 rfl ?_
    refine g_iload C 0 dX1_copy_23 rfl ?_
    refine g_iadd C dX1_copy_25 ?_
    refine g_ni (fun v15 ev15 => ?_)
    try have fv15 := fadd rfl rfl ev15 (by omega) (by omega)
    have ny := ixn (x := y) (by omega)
    have nx6_3 := ixn (x := x6_3) (by omega)
    have nv15 := ixn (x := v15) (by omega)
    have iv15 : v15.toNatClampNeg = y.toNatClampNeg + x6_3.toNatClampNeg := by omega
    refine g_iald C (by omega) (ce_xplace ad cs _ _ nhi14) (fin' (n := 40) rfl (by omega) (by omega)) dX1_copy_26 ?_
    refine g_ni (fun v16 ev16 => ?_)
    have gv16 := ev16.trans (congrFun (q73 _ (by omega)) _)
    rw [iv15] at gv16
    have gv16 := gv16.trans (vC8 (M := M) (by omega) (by omega) (by omega)).symm
    have tv16 := congrArg Int32.toInt gv16
    have nx6_3 := ixn (x := x6_3) (by omega)
    refine g_iast C (by decide) (ce_xtaken ad cs _ _) (by rw [sI_k]; rfl) (fin' (n := 40) rfl (by omega) (by omega)) dX1_copy_27 ?_
    refine g_nm (fun M17 hM17 => ?_)
    have hI : IC M17 := by rw [hM17]; exact hI.st (bC_free (by decide) (by decide) (by decide) (by decide) (by decide) (by decide) (by decide))
    have hF : ∀ k i, k ≠ 72 ∧ ¬ (73 ≤ k ∧ k < 81) → M17 k i = M k i := fun k i hk => by (rw [hM17, sI_at, if_neg (by omega)]; try exact hF k i hk)
    have q73 : ∀ k, 73 ≤ k ∧ k < 81 → M17 k = M k := fun k hk => by rw [hM17, sI_n _ _ _ (by omega)]; try exact q73 k hk
    have hV : vC M17 = vC M_3 := by rw [hM17, vC_z (by decide), hV]
    obtain ⟨v18, ev18⟩ : ∃ y : Int32, y = x6_3 + 1 := ⟨_, rfl⟩
    try have fv18 := fadd rfl (by decide : (1 : Int32).toInt = 1) ev18 (by omega) (by omega)
    refine g_iinc C 0 v18 [(6, .int v18), (0, .ref (ad 68)), (1, .int x), (2, .int y), (3, .int z), (4, .int u), (5, .int w)] dX1_copy_28 rfl (by rw [ev18]; rfl) (by decide) rfl ?_
    refine g_goto C 3 dX1_copy_31 (by decide) ?_
    have nv := ixn (x := v18) (by omega)
    have hko : ∀ k, k ≠ 72 → M17 k = M k := fun k hk => by rw [hM17, sI_n _ _ _ hk]; exact j3_3 k hk
    have hall : ∀ j : Nat, j < v18.toNatClampNeg → M17 72 j = vC M 8 (40 * x.toNatClampNeg + y.toNatClampNeg + j) := by
      intro j hj
      rw [hM17, sI_at]
      by_cases e9 : j = x6_3.toNatClampNeg
      · rw [if_pos ⟨rfl, e9⟩, e9, Nat.add_assoc]; exact gv16
      · rw [if_neg (fun h => e9 h.2)]; exact j3_4 j (by omega)
    exact ih_3 (v18, M17, L_3) ⟨by show 0 ≤ v18.toInt; omega, by show v18.toInt ≤ w.toInt; omega, by show vC M17 = vC M; rw [hV, j3_2], by show ∀ k, k ≠ 72 → M17 k = M k; exact hko, by show ∀ j : Nat, j < v18.toNatClampNeg → M17 72 j = vC M 8 (40 * x.toNatClampNeg + y.toNatClampNeg + j); exact hall, hI, hF, hG⟩ (by show (41 - v18.toInt).toNat < (41 - x6_3.toInt).toNat; omega)
set_option maxHeartbeats 4000000 in
set_option maxRecDepth 100000 in
theorem v_X10_pour (l : Launch) (D : va_G) (ad : Nat → Nat) (cs : Nat → ClassId) (M : MI) (L : ML) (x : Int32) (y : Int32) (z : Int32) (u : Int32) (w : Int32) (hI : IC M) : Ci l yX10_pour wsX10_pour ({ frames := 1, cells := 0, slots := 0, locals := 26 }) D ad cs [.ref (ad 0), .int x, .int y, .int z, .int u, .int w] M L (fun r M1 L1 => (A_pour (vC M) x y z u w = (r, vC M1)) ∧ IC M1 ∧ (∀ k i, ¬ (k = 0 ∧ i = 11) ∧ k ≠ 257 ∧ k ≠ 72 ∧ ¬ (73 ≤ k ∧ k < 81) → M1 k i = M k i) ∧ ∀ k i, True → L1 k i = L k i) := by
  refine enter_i RX10 rfl [(0, .ref (ad 0)), (1, .int x), (2, .int y), (3, .int z), (4, .int u), (5, .int w)] rfl (Nat.le_of_ble_eq_true rfl) (by decide +kernel) rfl ?_
  intro p e s m below meth c C hr
  have hF : ∀ k i, ¬ (k = 0 ∧ i = 11) ∧ k ≠ 257 ∧ k ≠ 72 ∧ ¬ (73 ≤ k ∧ k < 81) → M k i = M k i := fun _ _ _ => rfl
  have hG : ∀ k i, True → L k i = L k i := fun _ _ _ => rfl
  have w0 : (vC M 0 0).toInt = (M 1 0).toInt := rfl
  have w1 : (vC M 0 1).toInt = (M 3 0).toInt := rfl
  have w2 : (vC M 0 2).toInt = (M 68 0).toInt := rfl
  have w3 : (vC M 0 3).toInt = (M 81 0).toInt := rfl
  obtain ⟨y0a, y0b⟩ := (show rg 0 10 (M 1 0) from hI 1 0 rfl)
  obtain ⟨y1a, y1b⟩ := (show rg 0 60 (M 3 0) from hI 3 0 rfl)
  obtain ⟨y2a, y2b⟩ := (show rg 0 8 (M 68 0) from hI 68 0 rfl)
  obtain ⟨y3a, y3b⟩ := (show rg 0 20 (M 81 0) from hI 81 0 rfl)
  obtain ⟨sa, sb⟩ := (show rg 0 40 (vC M 7 x.toNatClampNeg) from hI 70 _)
  obtain ⟨sc, sd⟩ := (show rg 0 40 (vC M 7 z.toNatClampNeg) from hI 70 _)
  have qy := Int32.toInt_lt y
  have qu := Int32.toInt_lt u
  have qw := Int32.toInt_lt w
  have k0_11 : M 0 11 = vC M 0 4 := rfl
  have q72 : M 72 = M 72 := rfl
  have q257 : M 257 = M 257 := rfl
  have q73 : ∀ k, 73 ≤ k ∧ k < 81 → M k = M k := fun _ _ => rfl
  have hV : vC M = vC M := rfl
  refine g_aload_n C 0 dX10_pour_0 rfl ?_
  refine g_get C (.ref (ad 68)) 2 in_X10_pour_10 (List.mem_of_getElem? (i := 1) rfl) (by decide) (ce_house ad cs _ _) rfl (by decide) rfl rfl dX10_pour_1 ?_
  refine g_iload_n C 1 dX10_pour_4 rfl ?_
  refine g_callVi C (n := 1) (As := [.int x]) (st := []) (c_X1_has l D ad cs _ _ x ) gX10_pour_X1_has rfl rfl rfl (by decide +kernel) ⟨Nat.le_of_ble_eq_true rfl, Nat.le_of_ble_eq_true rfl⟩ rfl (Nat.le_of_ble_eq_true rfl) ⟨Nat.zero_le _, Nat.zero_le _⟩ (by decide) (ce_box ad cs _ _) rfl rfl dX10_pour_5 (fun r1 M2 L3 hr1 => ?_)
  obtain ⟨hq1, hq2, hr1⟩ := hr1
  obtain rfl := hq1.symm
  obtain rfl := hq2.symm
  have hr1 := zo_has hr1
  obtain ⟨bar1, bbr1⟩ := zo_b hr1
  refine g_if_eq C 22 dX10_pour_8 (by decide) (fun c4 => ?_) (fun c4 => ?_)
  ·
    have f5 := feq rfl (by decide : (0 : Int32).toInt = 0) c4
    have pr1 := zo_f hr1 c4
    try dsimp only [hasC, hasB, hasX, hasM, ofS, ofK, bt] at pr1
    refine g_iconst C (-1) dX10_pour_22 (by decide) ?_
    have zr9 : ((-1) : Int32).toInt = (-1) := by decide
    exact g_iret C hr ⟨(by dsimp only [A_pour, hasC, hasB, hasX, hasM, ofS, ofK, bt, ix]; (repeat (first | rw [if_pos (by omega)] | rw [if_neg (by omega)])); first | done | rfl | (simp only [ix]; done) | (simp only [ix]; rfl) | (subst_vars; first | rfl | grind)), hI, hF, hG⟩ dX10_pour_23
  ·
    have f6 := fne rfl (by decide : (0 : Int32).toInt = 0) c4
    have pr1 := zo_t hr1 c4
    try dsimp only [hasC, hasB, hasX, hasM, ofS, ofK, bt] at pr1
    refine g_aload_n C 0 dX10_pour_11 rfl ?_
    refine g_get C (.ref (ad 68)) 2 in_X10_pour_10 (List.mem_of_getElem? (i := 1) rfl) (by decide) (ce_house ad cs _ _) rfl (by decide) rfl rfl dX10_pour_12 ?_
    refine g_iload_n C 3 dX10_pour_15 rfl ?_
    refine g_callVi C (n := 1) (As := [.int z]) (st := []) (c_X1_has l D ad cs _ _ z ) gX10_pour_X1_has rfl rfl rfl (by decide +kernel) ⟨Nat.le_of_ble_eq_true rfl, Nat.le_of_ble_eq_true rfl⟩ rfl (Nat.le_of_ble_eq_true rfl) ⟨Nat.zero_le _, Nat.zero_le _⟩ (by decide) (ce_box ad cs _ _) rfl rfl dX10_pour_16 (fun r7 M8 L9 hr7 => ?_)
    obtain ⟨hq1, hq2, hr7⟩ := hr7
    obtain rfl := hq1.symm
    obtain rfl := hq2.symm
    have hr7 := zo_has hr7
    obtain ⟨bar7, bbr7⟩ := zo_b hr7
    refine g_if_ne C 24 dX10_pour_19 (by decide) (fun c10 => ?_) (fun c10 => ?_)
    ·
      have f11 := fne rfl (by decide : (0 : Int32).toInt = 0) c10
      have pr7 := zo_t hr7 c10
      try dsimp only [hasC, hasB, hasX, hasM, ofS, ofK, bt] at pr7
      refine g_aload_n C 0 dX10_pour_24 rfl ?_
      refine g_get C (.ref (ad 68)) 2 in_X10_pour_10 (List.mem_of_getElem? (i := 1) rfl) (by decide) (ce_house ad cs _ _) rfl (by decide) rfl rfl dX10_pour_25 ?_
      refine g_get C (.ref (ad 69)) 1 in_X10_pour_1 (List.mem_of_getElem? (i := 2) rfl) (by decide) (ce_box ad cs _ _) rfl (by decide) rfl rfl dX10_pour_28 ?_
      refine g_iload_n C 1 dX10_pour_31 rfl ?_
      have nx := ixn (x := x) (by omega)
      refine g_iald C (by decide) (ce_xsort ad cs _ _) (fin' (n := 8) rfl (by omega) (by omega)) dX10_pour_32 ?_
      refine g_ni (fun v12 ev12 => ?_)
      have gv12 : v12 = vC M 6 x.toNatClampNeg := ev12
      have tv12 := congrArg Int32.toInt gv12
      refine g_aload_n C 0 dX10_pour_33 rfl ?_
      refine g_get C (.ref (ad 68)) 2 in_X10_pour_10 (List.mem_of_getElem? (i := 1) rfl) (by decide) (ce_house ad cs _ _) rfl (by decide) rfl rfl dX10_pour_34 ?_
      refine g_get C (.ref (ad 69)) 1 in_X10_pour_1 (List.mem_of_getElem? (i := 2) rfl) (by decide) (ce_box ad cs _ _) rfl (by decide) rfl rfl dX10_pour_37 ?_
      refine g_iload_n C 3 dX10_pour_40 rfl ?_
      have nz := ixn (x := z) (by omega)
      refine g_iald C (by decide) (ce_xsort ad cs _ _) (fin' (n := 8) rfl (by omega) (by omega)) dX10_pour_41 ?_
      refine g_ni (fun v13 ev13 => ?_)
      have gv13 : v13 = vC M 6 z.toNatClampNeg := ev13
      have tv13 := congrArg Int32.toInt gv13
      refine g_icmp_eq C 52 dX10_pour_42 (by decide) (fun c14 => ?_) (fun c14 => ?_)
      ·
        have f15 := feq rfl rfl c14
        refine g_aload_n C 0 dX10_pour_52 rfl ?_
        refine g_get C (.ref (ad 68)) 2 in_X10_pour_10 (List.mem_of_getElem? (i := 1) rfl) (by decide) (ce_house ad cs _ _) rfl (by decide) rfl rfl dX10_pour_53 ?_
        refine g_iload_n C 1 dX10_pour_56 rfl ?_
        refine g_iload_n C 2 dX10_pour_57 rfl ?_
        refine g_iload C 5 dX10_pour_58 rfl ?_
        refine g_callVi C (n := 3) (As := [.int x, .int y, .int w]) (st := []) (v_X1_hasPlaces l D ad cs _ _ x y w hI ⟨by omega, by omega⟩) gX10_pour_X1_hasPlaces rfl rfl rfl (by decide +kernel) ⟨Nat.le_of_ble_eq_true rfl, Nat.le_of_ble_eq_true rfl⟩ rfl (Nat.le_of_ble_eq_true rfl) ⟨Nat.zero_le _, Nat.zero_le _⟩ (by decide) (ce_box ad cs _ _) rfl rfl dX10_pour_60 (fun r16 M17 L18 hr16 => ?_)
        obtain ⟨hq1, hq2, hr16⟩ := hr16
        obtain rfl := hq1.symm
        obtain rfl := hq2.symm
        obtain ⟨bar16, bbr16⟩ := zo_b hr16
        refine g_if_eq C 81 dX10_pour_63 (by decide) (fun c19 => ?_) (fun c19 => ?_)
        ·
          have f20 := feq rfl (by decide : (0 : Int32).toInt = 0) c19
          have pr16 := zo_f hr16 c19
          try dsimp only [hasC, hasB, hasX, hasM, ofS, ofK, bt] at pr16
          refine g_aload_n C 0 dX10_pour_81 rfl ?_
          refine g_iconst C 2 dX10_pour_82 (by decide) ?_
          refine g_callVi C (n := 1) (As := [.int 2]) (st := []) (v_X10_found l D ad cs _ _ 2 hI ⟨by first | omega | decide, by first | omega | decide⟩) gX10_pour_X10_found rfl rfl rfl (by decide +kernel) ⟨Nat.le_of_ble_eq_true rfl, Nat.le_of_ble_eq_true rfl⟩ rfl (Nat.le_of_ble_eq_true rfl) ⟨Nat.zero_le _, Nat.zero_le _⟩ (by decide) (ce_house ad cs _ _) rfl rfl dX10_pour_83 (fun r21 M22 L23 hr21 => ?_)
          obtain ⟨hr21, hI, hFr21, hGr21⟩ := hr21
          have hF : ∀ k i, ¬ (k = 0 ∧ i = 11) ∧ k ≠ 257 ∧ k ≠ 72 ∧ ¬ (73 ≤ k ∧ k < 81) → M22 k i = M k i := fun k i hk => by (rw [hFr21 k i (by omega)]; try exact hF k i hk)
          have hG : ∀ k i, True → L23 k i = L k i := fun k i hk => by (rw [hGr21 k i trivial]; try exact hG k i hk)
          have hV : vC M22 = meetsV (vC M) 2 := by rw [hr21.2, hV]
          have k0_11 : M22 0 11 = M22 0 11 := rfl
          have q73 : ∀ k, 73 ≤ k ∧ k < 81 → M22 k = M k := fun k hk => (funext (fun i => hFr21 k i (by omega))).trans (q73 k hk)
          have q72 : M22 72 = M 72 := (funext (fun i => hFr21 72 i (by omega))).trans q72
          have q257 : M22 257 = M22 257 := rfl
          exact g_iret C hr ⟨(by dsimp only [A_pour, hasC, hasB, hasX, hasM, ofS, ofK, bt, ix]; (repeat (first | rw [if_pos (by omega)] | rw [if_neg (by omega)])); rw [hV]; first | done | rfl | (simp only [gv13, gv12]; done) | (simp only [gv13, gv12]; rfl) | (subst_vars; first | rfl | grind)), hI, hF, hG⟩ dX10_pour_86
        ·
          have f24 := fne rfl (by decide : (0 : Int32).toInt = 0) c19
          have pr16 := zo_t hr16 c19
          try dsimp only [hasC, hasB, hasX, hasM, ofS, ofK, bt] at pr16
          refine g_aload_n C 0 dX10_pour_66 rfl ?_
          refine g_get C (.ref (ad 68)) 2 in_X10_pour_10 (List.mem_of_getElem? (i := 1) rfl) (by decide) (ce_house ad cs _ _) rfl (by decide) rfl rfl dX10_pour_67 ?_
          refine g_iload_n C 3 dX10_pour_70 rfl ?_
          refine g_iload C 4 dX10_pour_71 rfl ?_
          refine g_iload C 5 dX10_pour_73 rfl ?_
          refine g_callVi C (n := 3) (As := [.int z, .int u, .int w]) (st := []) (v_X1_hasPlaces l D ad cs _ _ z u w hI ⟨by omega, by omega⟩) gX10_pour_X1_hasPlaces rfl rfl rfl (by decide +kernel) ⟨Nat.le_of_ble_eq_true rfl, Nat.le_of_ble_eq_true rfl⟩ rfl (Nat.le_of_ble_eq_true rfl) ⟨Nat.zero_le _, Nat.zero_le _⟩ (by decide) (ce_box ad cs _ _) rfl rfl dX10_pour_75 (fun r25 M26 L27 hr25 => ?_)
          obtain ⟨hq1, hq2, hr25⟩ := hr25
          obtain rfl := hq1.symm
          obtain rfl := hq2.symm
          obtain ⟨bar25, bbr25⟩ := zo_b hr25
          refine g_if_ne C 87 dX10_pour_78 (by decide) (fun c28 => ?_) (fun c28 => ?_)
          ·
            have f29 := fne rfl (by decide : (0 : Int32).toInt = 0) c28
            have pr25 := zo_t hr25 c28
            try dsimp only [hasC, hasB, hasX, hasM, ofS, ofK, bt] at pr25
            refine g_aload_n C 0 dX10_pour_87 rfl ?_
            refine g_get C (.ref (ad 68)) 2 in_X10_pour_10 (List.mem_of_getElem? (i := 1) rfl) (by decide) (ce_house ad cs _ _) rfl (by decide) rfl rfl dX10_pour_88 ?_
            refine g_iload_n C 1 dX10_pour_91 rfl ?_
            refine g_iload_n C 2 dX10_pour_92 rfl ?_
            refine g_iload_n C 3 dX10_pour_93 rfl ?_
            refine g_iload C 4 dX10_pour_94 rfl ?_
            refine g_iload C 5 dX10_pour_96 rfl ?_
            refine g_callVv C (n := 5) (As := [.int x, .int y, .int z, .int u, .int w]) (st := []) (v_X1_copy l D ad cs _ _ x y z u w hI ⟨by omega, by omega⟩ ⟨by omega, by omega⟩ ⟨by omega, by omega, by omega, by omega, by omega⟩) gX10_pour_X1_copy rfl rfl rfl (by decide +kernel) ⟨Nat.le_of_ble_eq_true rfl, Nat.le_of_ble_eq_true rfl⟩ rfl (Nat.le_of_ble_eq_true rfl) ⟨Nat.zero_le _, Nat.zero_le _⟩ (by decide) (ce_box ad cs _ _) rfl rfl dX10_pour_98 (fun M31 L32 hr30 => ?_)
            obtain ⟨hr30, hI, hFr30, hGr30⟩ := hr30
            have hF : ∀ k i, ¬ (k = 0 ∧ i = 11) ∧ k ≠ 257 ∧ k ≠ 72 ∧ ¬ (73 ≤ k ∧ k < 81) → M31 k i = M k i := fun k i hk => by (rw [hFr30 k i (by omega)]; try exact hF k i hk)
            have hG : ∀ k i, True → L32 k i = L k i := fun k i hk => by (rw [hGr30 k i trivial]; try exact hG k i hk)
            have hV : vC M31 = pourV (vC M) (40 * x.toNatClampNeg + y.toNatClampNeg) (40 * z.toNatClampNeg + u.toNatClampNeg) w.toNatClampNeg := by rw [hr30, hV]
            have k0_11 : M31 0 11 = vC M 0 4 := (hFr30 0 11 (by omega)).trans k0_11
            have q73 : ∀ k, 73 ≤ k ∧ k < 81 → M31 k = M31 k := fun _ _ => rfl
            have q72 : M31 72 = M31 72 := rfl
            have q257 : M31 257 = M 257 := (funext (fun i => hFr30 257 i (by omega))).trans q257
            refine g_iconst C 1 dX10_pour_101 (by decide) ?_
            have zr9 : (1 : Int32).toInt = 1 := by decide
            exact g_iret C hr ⟨(by dsimp only [A_pour, hasC, hasB, hasX, hasM, ofS, ofK, bt, ix]; (repeat (first | rw [if_pos (by omega)] | rw [if_neg (by omega)])); rw [hV]; first | done | rfl | (simp only [gv13, gv12]; done) | (simp only [gv13, gv12]; rfl) | (subst_vars; first | rfl | grind)), hI, hF, hG⟩ dX10_pour_102
          ·
            have f33 := feq rfl (by decide : (0 : Int32).toInt = 0) c28
            have pr25 := zo_f hr25 c28
            try dsimp only [hasC, hasB, hasX, hasM, ofS, ofK, bt] at pr25
            refine g_aload_n C 0 dX10_pour_81 rfl ?_
            refine g_iconst C 2 dX10_pour_82 (by decide) ?_
            refine g_callVi C (n := 1) (As := [.int 2]) (st := []) (v_X10_found l D ad cs _ _ 2 hI ⟨by first | omega | decide, by first | omega | decide⟩) gX10_pour_X10_found rfl rfl rfl (by decide +kernel) ⟨Nat.le_of_ble_eq_true rfl, Nat.le_of_ble_eq_true rfl⟩ rfl (Nat.le_of_ble_eq_true rfl) ⟨Nat.zero_le _, Nat.zero_le _⟩ (by decide) (ce_house ad cs _ _) rfl rfl dX10_pour_83 (fun r34 M35 L36 hr34 => ?_)
            obtain ⟨hr34, hI, hFr34, hGr34⟩ := hr34
            have hF : ∀ k i, ¬ (k = 0 ∧ i = 11) ∧ k ≠ 257 ∧ k ≠ 72 ∧ ¬ (73 ≤ k ∧ k < 81) → M35 k i = M k i := fun k i hk => by (rw [hFr34 k i (by omega)]; try exact hF k i hk)
            have hG : ∀ k i, True → L36 k i = L k i := fun k i hk => by (rw [hGr34 k i trivial]; try exact hG k i hk)
            have hV : vC M35 = meetsV (vC M) 2 := by rw [hr34.2, hV]
            have k0_11 : M35 0 11 = M35 0 11 := rfl
            have q73 : ∀ k, 73 ≤ k ∧ k < 81 → M35 k = M k := fun k hk => (funext (fun i => hFr34 k i (by omega))).trans (q73 k hk)
            have q72 : M35 72 = M 72 := (funext (fun i => hFr34 72 i (by omega))).trans q72
            have q257 : M35 257 = M35 257 := rfl
            exact g_iret C hr ⟨(by dsimp only [A_pour, hasC, hasB, hasX, hasM, ofS, ofK, bt, ix]; (repeat (first | rw [if_pos (by omega)] | rw [if_neg (by omega)])); rw [hV]; first | done | rfl | (simp only [gv13, gv12]; done) | (simp only [gv13, gv12]; rfl) | (subst_vars; first | rfl | grind)), hI, hF, hG⟩ dX10_pour_86
      ·
        have f37 := fne rfl rfl c14
        refine g_aload_n C 0 dX10_pour_45 rfl ?_
        refine g_bipush C 6 dX10_pour_46 (by decide) ?_
        refine g_callVi C (n := 1) (As := [.int 6]) (st := []) (v_X10_found l D ad cs _ _ 6 hI ⟨by first | omega | decide, by first | omega | decide⟩) gX10_pour_X10_found rfl rfl rfl (by decide +kernel) ⟨Nat.le_of_ble_eq_true rfl, Nat.le_of_ble_eq_true rfl⟩ rfl (Nat.le_of_ble_eq_true rfl) ⟨Nat.zero_le _, Nat.zero_le _⟩ (by decide) (ce_house ad cs _ _) rfl rfl dX10_pour_48 (fun r38 M39 L40 hr38 => ?_)
        obtain ⟨hr38, hI, hFr38, hGr38⟩ := hr38
        have hF : ∀ k i, ¬ (k = 0 ∧ i = 11) ∧ k ≠ 257 ∧ k ≠ 72 ∧ ¬ (73 ≤ k ∧ k < 81) → M39 k i = M k i := fun k i hk => by (rw [hFr38 k i (by omega)]; try exact hF k i hk)
        have hG : ∀ k i, True → L40 k i = L k i := fun k i hk => by (rw [hGr38 k i trivial]; try exact hG k i hk)
        have hV : vC M39 = meetsV (vC M) 6 := by rw [hr38.2, hV]
        have k0_11 : M39 0 11 = M39 0 11 := rfl
        have q73 : ∀ k, 73 ≤ k ∧ k < 81 → M39 k = M k := fun k hk => (funext (fun i => hFr38 k i (by omega))).trans (q73 k hk)
        have q72 : M39 72 = M 72 := (funext (fun i => hFr38 72 i (by omega))).trans q72
        have q257 : M39 257 = M39 257 := rfl
        exact g_iret C hr ⟨(by dsimp only [A_pour, hasC, hasB, hasX, hasM, ofS, ofK, bt, ix]; (repeat (first | rw [if_pos (by omega)] | rw [if_neg (by omega)])); rw [hV]; first | done | rfl | (simp only [gv13, gv12]; done) | (simp only [gv13, gv12]; rfl) | (subst_vars; first | rfl | grind)), hI, hF, hG⟩ dX10_pour_51
    ·
      have f41 := feq rfl (by decide : (0 : Int32).toInt = 0) c10
      have pr7 := zo_f hr7 c10
      try dsimp only [hasC, hasB, hasX, hasM, ofS, ofK, bt] at pr7
      refine g_iconst C (-1) dX10_pour_22 (by decide) ?_
      have zr9 : ((-1) : Int32).toInt = (-1) := by decide
      exact g_iret C hr ⟨(by dsimp only [A_pour, hasC, hasB, hasX, hasM, ofS, ofK, bt, ix]; (repeat (first | rw [if_pos (by omega)] | rw [if_neg (by omega)])); first | done | rfl | (simp only [ix]; done) | (simp only [ix]; rfl) | (subst_vars; first | rfl | grind)), hI, hF, hG⟩ dX10_pour_23
set_option maxHeartbeats 4000000 in
set_option maxRecDepth 100000 in
theorem v_X10_share (l : Launch) (D : va_G) (ad : Nat → Nat) (cs : Nat → ClassId) (M : MI) (L : ML) (x : Int32) (y : Int32) (hI : IC M) (h8 : ∀ i : Nat, (vC M 8 i).toInt = -9 ∨ (0 ≤ (vC M 8 i).toInt ∧ (vC M 8 i).toInt < (vC M 0 1).toInt)) (hSh : hasX (vC M) x → (lacksV (vC M) x y).toInt = 0 → 0 < (sumP (vC M) (x.toNatClampNeg) ((vC M 7 (x.toNatClampNeg)).toNatClampNeg)).toInt) : Ci l yX10_share wsX10_share ({ frames := 3, cells := 0, slots := 0, locals := 65 }) D ad cs [.ref (ad 0), .int x, .int y] M L (fun r M1 L1 => (A_share (vC M) x y = (r, vC M1)) ∧ IC M1 ∧ (∀ k i, ¬ (k = 0 ∧ i = 11) ∧ k ≠ 257 → M1 k i = M k i) ∧ ∀ k i, True → L1 k i = L k i) := by
  refine enter_i RX10 rfl [(0, .ref (ad 0)), (1, .int x), (2, .int y)] rfl (Nat.le_of_ble_eq_true rfl) (by decide +kernel) rfl ?_
  intro p e s m below meth c C hr
  have hF : ∀ k i, ¬ (k = 0 ∧ i = 11) ∧ k ≠ 257 → M k i = M k i := fun _ _ _ => rfl
  have hG : ∀ k i, True → L k i = L k i := fun _ _ _ => rfl
  have w0 : (vC M 0 0).toInt = (M 1 0).toInt := rfl
  have w1 : (vC M 0 1).toInt = (M 3 0).toInt := rfl
  have w2 : (vC M 0 2).toInt = (M 68 0).toInt := rfl
  have w3 : (vC M 0 3).toInt = (M 81 0).toInt := rfl
  obtain ⟨y0a, y0b⟩ := (show rg 0 10 (M 1 0) from hI 1 0 rfl)
  obtain ⟨y1a, y1b⟩ := (show rg 0 60 (M 3 0) from hI 3 0 rfl)
  obtain ⟨y2a, y2b⟩ := (show rg 0 8 (M 68 0) from hI 68 0 rfl)
  obtain ⟨y3a, y3b⟩ := (show rg 0 20 (M 81 0) from hI 81 0 rfl)
  obtain ⟨sza, szb⟩ := (show rg 0 40 (vC M 7 x.toNatClampNeg) from hI 70 _)
  have k0_11 : M 0 11 = vC M 0 4 := rfl
  have q257 : M 257 = M 257 := rfl
  have hV : vC M = vC M := rfl
  refine g_aload_n C 0 dX10_share_0 rfl ?_
  refine g_get C (.ref (ad 68)) 2 in_X10_share_10 (List.mem_of_getElem? (i := 1) rfl) (by decide) (ce_house ad cs _ _) rfl (by decide) rfl rfl dX10_share_1 ?_
  refine g_iload_n C 1 dX10_share_4 rfl ?_
  refine g_callVi C (n := 1) (As := [.int x]) (st := []) (c_X1_has l D ad cs _ _ x ) gX10_share_X1_has rfl rfl rfl (by decide +kernel) ⟨Nat.le_of_ble_eq_true rfl, Nat.le_of_ble_eq_true rfl⟩ rfl (Nat.le_of_ble_eq_true rfl) ⟨Nat.zero_le _, Nat.zero_le _⟩ (by decide) (ce_box ad cs _ _) rfl rfl dX10_share_5 (fun r1 M2 L3 hr1 => ?_)
  obtain ⟨hq1, hq2, hr1⟩ := hr1
  obtain rfl := hq1.symm
  obtain rfl := hq2.symm
  have hr1 := zo_has hr1
  obtain ⟨bar1, bbr1⟩ := zo_b hr1
  refine g_if_ne C 13 dX10_share_8 (by decide) (fun c4 => ?_) (fun c4 => ?_)
  ·
    have f5 := fne rfl (by decide : (0 : Int32).toInt = 0) c4
    have pr1 := zo_t hr1 c4
    try dsimp only [hasC, hasB, hasX, hasM, ofS, ofK, bt] at pr1
    refine g_aload_n C 0 dX10_share_13 rfl ?_
    refine g_iload_n C 1 dX10_share_14 rfl ?_
    refine g_iload_n C 2 dX10_share_15 rfl ?_
    refine g_callVi C (n := 2) (As := [.int x, .int y]) (st := []) (v_X10_missingAt l D ad cs _ _ x y hI ⟨by omega, by omega⟩) gX10_share_X10_missingAt rfl rfl rfl (by decide +kernel) ⟨Nat.le_of_ble_eq_true rfl, Nat.le_of_ble_eq_true rfl⟩ rfl (Nat.le_of_ble_eq_true rfl) ⟨Nat.zero_le _, Nat.zero_le _⟩ (by decide) (ce_house ad cs _ _) rfl rfl dX10_share_16 (fun r6 M7 L8 hr6 => ?_)
    obtain ⟨hq1, hq2, hr6⟩ := hr6
    obtain rfl := hq1.symm
    obtain rfl := hq2.symm
    obtain ⟨hr6, bar6, bbr6⟩ := hr6
    have tr6 := congrArg Int32.toInt hr6
    refine g_istore_n C [(3, .int r6), (0, .ref (ad 0)), (1, .int x), (2, .int y)] dX10_share_19 (by decide) rfl ?_
    refine g_iload_n C 0 dX10_share_20 rfl ?_
    refine g_if_eq C 30 dX10_share_21 (by decide) (fun c9 => ?_) (fun c9 => ?_)
    ·
      have f10 := feq rfl (by decide : (0 : Int32).toInt = 0) c9
      refine g_aload_n C 1 dX10_share_30 rfl ?_
      refine g_get C (.ref (ad 3)) 1 in_X10_share_10 (List.mem_of_getElem? (i := 2) rfl) (by decide) (ce_house ad cs _ _) rfl (by decide) rfl rfl dX10_share_31 ?_
      refine g_aload_n C 1 dX10_share_34 rfl ?_
      refine g_get C (.ref (ad 68)) 2 in_X10_share_10 (List.mem_of_getElem? (i := 1) rfl) (by decide) (ce_house ad cs _ _) rfl (by decide) rfl rfl dX10_share_35 ?_
      refine g_get C (.ref (ad 71)) 3 in_X10_share_1 (List.mem_of_getElem? (i := 3) rfl) (by decide) (ce_box ad cs _ _) rfl (by decide) rfl rfl dX10_share_38 ?_
      refine g_iload_n C 2 dX10_share_41 rfl ?_
      have hl : 0 ≤ y.toInt ∧ y.toInt < (vC M 7 x.toNatClampNeg).toInt ∧ ¬ (vC M 8 (40 * x.toNatClampNeg + y.toNatClampNeg)).toInt = -9 := lk0 (show (lacksV (vC M) x y).toInt = 0 by omega)
      have h89 := h8 (40 * x.toNatClampNeg + y.toNatClampNeg)
      have hs9 := hSh ⟨by omega, by omega⟩ (by omega)
      have hi11 : vp_in x 8 := (fin' (n := 8) rfl (by omega) (by omega))
      have nhi11 := tn hi11
      have mhi11 := ixn (x := x) (by omega)
      refine g_aald C (by decide) (ce_xplacem ad cs _ _) rfl hi11 dX10_share_42 ?_
      refine g_iload_n C 3 dX10_share_43 rfl ?_
      have ny := ixn (x := y) (by omega)
      refine g_iald C (by omega) (ce_xplace ad cs _ _ nhi11) (fin' (n := 40) rfl (by omega) (by omega)) dX10_share_44 ?_
      refine g_ni (fun v12 ev12 => ?_)
      have gv12 := ev12
      have gv12 := gv12.trans (vC8 (M := M) (by omega) (by omega) (by omega)).symm
      have tv12 := congrArg Int32.toInt gv12
      refine g_callVi C (n := 1) (As := [.int v12]) (st := []) (v_X0_papersAt l D ad cs _ _ v12 hI ) gX10_share_X0_papersAt rfl rfl rfl (by decide +kernel) ⟨Nat.le_of_ble_eq_true rfl, Nat.le_of_ble_eq_true rfl⟩ rfl (Nat.le_of_ble_eq_true rfl) ⟨Nat.zero_le _, Nat.zero_le _⟩ (by decide) (ce_ball ad cs _ _) rfl rfl dX10_share_45 (fun r13 M14 L15 hr13 => ?_)
      obtain ⟨hq1, hq2, hr13⟩ := hr13
      obtain rfl := hq1.symm
      obtain rfl := hq2.symm
      have pr13 : r13 = vC M 3 v12.toNatClampNeg := by rw [hr13, if_pos (show hasB (vC M) v12 from ⟨by omega, by omega⟩)]
      refine g_aload_n C 1 dX10_share_48 rfl ?_
      refine g_iload_n C 2 dX10_share_49 rfl ?_
      refine g_callVi C (n := 1) (As := [.int x]) (st := [.int r13]) (v_X10_papersIn l D ad cs _ _ x hI ⟨by omega, by omega⟩ h8) gX10_share_X10_papersIn rfl rfl rfl (by decide +kernel) ⟨Nat.le_of_ble_eq_true rfl, Nat.le_of_ble_eq_true rfl⟩ rfl (Nat.le_of_ble_eq_true rfl) ⟨Nat.zero_le _, Nat.zero_le _⟩ (by decide) (ce_house ad cs _ _) rfl rfl dX10_share_50 (fun r16 M17 L18 hr16 => ?_)
      obtain ⟨hq1, hq2, hr16⟩ := hr16
      obtain rfl := hq1.symm
      obtain rfl := hq2.symm
      have tr16 := congrArg Int32.toInt hr16
      refine g_callSi C (n := 2) (As := [.int r13, .int r16]) (st := []) (v_X10_thousandths l D ad cs _ _ r13 r16 hI ) gX10_share_X10_thousandths rfl rfl rfl (by decide +kernel) ⟨Nat.le_of_ble_eq_true rfl, Nat.le_of_ble_eq_true rfl⟩ rfl (Nat.le_of_ble_eq_true rfl) ⟨Nat.zero_le _, Nat.zero_le _⟩ rfl dX10_share_53 (fun r19 M20 L21 hr19 => ?_)
      obtain ⟨hq1, hq2, hr19⟩ := hr19
      obtain rfl := hq1.symm
      obtain rfl := hq2.symm
      exact g_iret C hr ⟨(by dsimp only [A_share, hasC, hasB, hasX, hasM, ofS, ofK, bt, ix]; (repeat (first | rw [if_pos (by omega)] | rw [if_neg (by omega)])); rw [hr19, if_neg (by omega)]; simp only [hr16, pr13, gv12, hr6]), hI, hF, hG⟩ dX10_share_56
    ·
      have f22 := fne rfl (by decide : (0 : Int32).toInt = 0) c9
      refine g_aload_n C 1 dX10_share_24 rfl ?_
      refine g_iload_n C 0 dX10_share_25 rfl ?_
      refine g_callVi C (n := 1) (As := [.int r6]) (st := []) (v_X10_found l D ad cs _ _ r6 hI ⟨by first | omega | decide, by first | omega | decide⟩) gX10_share_X10_found rfl rfl rfl (by decide +kernel) ⟨Nat.le_of_ble_eq_true rfl, Nat.le_of_ble_eq_true rfl⟩ rfl (Nat.le_of_ble_eq_true rfl) ⟨Nat.zero_le _, Nat.zero_le _⟩ (by decide) (ce_house ad cs _ _) rfl rfl dX10_share_26 (fun r23 M24 L25 hr23 => ?_)
      obtain ⟨hr23, hI, hFr23, hGr23⟩ := hr23
      have hF : ∀ k i, ¬ (k = 0 ∧ i = 11) ∧ k ≠ 257 → M24 k i = M k i := fun k i hk => by (rw [hFr23 k i (by omega)]; try exact hF k i hk)
      have hG : ∀ k i, True → L25 k i = L k i := fun k i hk => by (rw [hGr23 k i trivial]; try exact hG k i hk)
      have hV : vC M24 = meetsV (vC M) r6 := by rw [hr23.2, hV]
      have k0_11 : M24 0 11 = M24 0 11 := rfl
      have q257 : M24 257 = M24 257 := rfl
      exact g_iret C hr ⟨(by dsimp only [A_share, hasC, hasB, hasX, hasM, ofS, ofK, bt, ix]; (repeat (first | rw [if_pos (by omega)] | rw [if_neg (by omega)])); rw [hV]; first | done | rfl | (simp only [hr6]; done) | (simp only [hr6]; rfl) | (subst_vars; first | rfl | grind)), hI, hF, hG⟩ dX10_share_29
  ·
    have f26 := feq rfl (by decide : (0 : Int32).toInt = 0) c4
    have pr1 := zo_f hr1 c4
    try dsimp only [hasC, hasB, hasX, hasM, ofS, ofK, bt] at pr1
    refine g_iconst C (-1) dX10_share_11 (by decide) ?_
    have zr9 : ((-1) : Int32).toInt = (-1) := by decide
    exact g_iret C hr ⟨(by dsimp only [A_share, hasC, hasB, hasX, hasM, ofS, ofK, bt, ix]; (repeat (first | rw [if_pos (by omega)] | rw [if_neg (by omega)])); first | done | rfl | (simp only [ix]; done) | (simp only [ix]; rfl) | (subst_vars; first | rfl | grind)), hI, hF, hG⟩ dX10_share_12
set_option maxHeartbeats 4000000 in
set_option maxRecDepth 100000 in
theorem v_X10_weight (l : Launch) (D : va_G) (ad : Nat → Nat) (cs : Nat → ClassId) (M : MI) (L : ML) (b : Int32) (x : Int32) (hI : IC M) (hS : ∀ b, 0 ≤ (vC M 2 b).toInt ∧ (vC M 2 b).toInt ≤ 3) (hSm : hasB (vC M) b → (vC M 2 (b.toNatClampNeg)).toInt = 3 → sumM (vC M) (b.toNatClampNeg) 10 = sumM (vC M) (b.toNatClampNeg) ((vC M 0 0).toNatClampNeg)) : Ci l yX10_weight wsX10_weight ({ frames := 2, cells := 0, slots := 0, locals := 46 }) D ad cs [.ref (ad 0), .int b, .int x] M L (fun r M1 L1 => (A_weight (vC M) b x = (r, vC M1)) ∧ IC M1 ∧ (∀ k i, ¬ (k = 0 ∧ i = 11) ∧ k ≠ 257 → M1 k i = M k i) ∧ ∀ k i, True → L1 k i = L k i) := by
  refine enter_i RX10 rfl [(0, .ref (ad 0)), (1, .int b), (2, .int x)] rfl (Nat.le_of_ble_eq_true rfl) (by decide +kernel) rfl ?_
  intro p e s m below meth c C hr
  have hF : ∀ k i, ¬ (k = 0 ∧ i = 11) ∧ k ≠ 257 → M k i = M k i := fun _ _ _ => rfl
  have hG : ∀ k i, True → L k i = L k i := fun _ _ _ => rfl
  have w0 : (vC M 0 0).toInt = (M 1 0).toInt := rfl
  have w1 : (vC M 0 1).toInt = (M 3 0).toInt := rfl
  have w2 : (vC M 0 2).toInt = (M 68 0).toInt := rfl
  have w3 : (vC M 0 3).toInt = (M 81 0).toInt := rfl
  obtain ⟨y0a, y0b⟩ := (show rg 0 10 (M 1 0) from hI 1 0 rfl)
  obtain ⟨y1a, y1b⟩ := (show rg 0 60 (M 3 0) from hI 3 0 rfl)
  obtain ⟨y2a, y2b⟩ := (show rg 0 8 (M 68 0) from hI 68 0 rfl)
  obtain ⟨y3a, y3b⟩ := (show rg 0 20 (M 81 0) from hI 81 0 rfl)
  have z3 : (3 : Int32).toInt = 3 := by decide
  have hSb := hS b.toNatClampNeg
  have n00 := ixn (x := vC M 0 0) (by omega)
  have k0_11 : M 0 11 = vC M 0 4 := rfl
  have q257 : M 257 = M 257 := rfl
  have hV : vC M = vC M := rfl
  refine g_aload_n C 0 dX10_weight_0 rfl ?_
  refine g_get C (.ref (ad 3)) 1 in_X10_weight_10 (List.mem_of_getElem? (i := 1) rfl) (by decide) (ce_house ad cs _ _) rfl (by decide) rfl rfl dX10_weight_1 ?_
  refine g_iload_n C 1 dX10_weight_4 rfl ?_
  refine g_callVi C (n := 1) (As := [.int b]) (st := []) (c_X0_has l D ad cs _ _ b ) gX10_weight_X0_has rfl rfl rfl (by decide +kernel) ⟨Nat.le_of_ble_eq_true rfl, Nat.le_of_ble_eq_true rfl⟩ rfl (Nat.le_of_ble_eq_true rfl) ⟨Nat.zero_le _, Nat.zero_le _⟩ (by decide) (ce_ball ad cs _ _) rfl rfl dX10_weight_5 (fun r1 M2 L3 hr1 => ?_)
  obtain ⟨hq1, hq2, hr1⟩ := hr1
  obtain rfl := hq1.symm
  obtain rfl := hq2.symm
  have hr1 := zo_has hr1
  obtain ⟨bar1, bbr1⟩ := zo_b hr1
  refine g_if_eq C 22 dX10_weight_8 (by decide) (fun c4 => ?_) (fun c4 => ?_)
  ·
    have f5 := feq rfl (by decide : (0 : Int32).toInt = 0) c4
    have pr1 := zo_f hr1 c4
    try dsimp only [hasC, hasB, hasX, hasM, ofS, ofK, bt] at pr1
    refine g_iconst C (-1) dX10_weight_22 (by decide) ?_
    have zr9 : ((-1) : Int32).toInt = (-1) := by decide
    exact g_iret C hr ⟨(by dsimp only [A_weight, hasC, hasB, hasX, hasM, ofS, ofK, bt, ix]; (repeat (first | rw [if_pos (by omega)] | rw [if_neg (by omega)])); first | done | rfl | (simp only [ix]; done) | (simp only [ix]; rfl) | (subst_vars; first | rfl | grind)), hI, hF, hG⟩ dX10_weight_23
  ·
    have f6 := fne rfl (by decide : (0 : Int32).toInt = 0) c4
    have pr1 := zo_t hr1 c4
    try dsimp only [hasC, hasB, hasX, hasM, ofS, ofK, bt] at pr1
    refine g_aload_n C 0 dX10_weight_11 rfl ?_
    refine g_get C (.ref (ad 1)) 0 in_X10_weight_10 (List.mem_of_getElem? (i := 2) rfl) (by decide) (ce_house ad cs _ _) rfl (by decide) rfl rfl dX10_weight_12 ?_
    refine g_iload_n C 2 dX10_weight_15 rfl ?_
    refine g_callVi C (n := 1) (As := [.int x]) (st := []) (c_X2_has l D ad cs _ _ x ) gX10_weight_X2_has rfl rfl rfl (by decide +kernel) ⟨Nat.le_of_ble_eq_true rfl, Nat.le_of_ble_eq_true rfl⟩ rfl (Nat.le_of_ble_eq_true rfl) ⟨Nat.zero_le _, Nat.zero_le _⟩ (by decide) (ce_cand ad cs _ _) rfl rfl dX10_weight_16 (fun r7 M8 L9 hr7 => ?_)
    obtain ⟨hq1, hq2, hr7⟩ := hr7
    obtain rfl := hq1.symm
    obtain rfl := hq2.symm
    have hr7 := zo_has hr7
    obtain ⟨bar7, bbr7⟩ := zo_b hr7
    refine g_if_ne C 24 dX10_weight_19 (by decide) (fun c10 => ?_) (fun c10 => ?_)
    ·
      have f11 := fne rfl (by decide : (0 : Int32).toInt = 0) c10
      have pr7 := zo_t hr7 c10
      try dsimp only [hasC, hasB, hasX, hasM, ofS, ofK, bt] at pr7
      refine g_aload_n C 0 dX10_weight_24 rfl ?_
      refine g_get C (.ref (ad 3)) 1 in_X10_weight_10 (List.mem_of_getElem? (i := 1) rfl) (by decide) (ce_house ad cs _ _) rfl (by decide) rfl rfl dX10_weight_25 ?_
      refine g_iload_n C 1 dX10_weight_28 rfl ?_
      refine g_iconst C 3 dX10_weight_29 (by decide) ?_
      refine g_callVi C (n := 2) (As := [.int b, .int 3]) (st := []) (v_X0_isOf l D ad cs _ _ b 3 hI ⟨by omega, by omega⟩ (by first | omega | decide) hS) gX10_weight_X0_isOf rfl rfl rfl (by decide +kernel) ⟨Nat.le_of_ble_eq_true rfl, Nat.le_of_ble_eq_true rfl⟩ rfl (Nat.le_of_ble_eq_true rfl) ⟨Nat.zero_le _, Nat.zero_le _⟩ (by decide) (ce_ball ad cs _ _) rfl rfl dX10_weight_30 (fun r12 M13 L14 hr12 => ?_)
      obtain ⟨hq1, hq2, hr12⟩ := hr12
      obtain rfl := hq1.symm
      obtain rfl := hq2.symm
      obtain ⟨bar12, bbr12⟩ := zo_b hr12
      refine g_if_ne C 42 dX10_weight_33 (by decide) (fun c15 => ?_) (fun c15 => ?_)
      ·
        have f16 := fne rfl (by decide : (0 : Int32).toInt = 0) c15
        have pr12 := zo_t hr12 c15
        try dsimp only [hasC, hasB, hasX, hasM, ofS, ofK, bt] at pr12
        refine g_aload_n C 0 dX10_weight_42 rfl ?_
        refine g_get C (.ref (ad 3)) 1 in_X10_weight_10 (List.mem_of_getElem? (i := 1) rfl) (by decide) (ce_house ad cs _ _) rfl (by decide) rfl rfl dX10_weight_43 ?_
        refine g_iload_n C 1 dX10_weight_46 rfl ?_
        refine g_callVi C (n := 1) (As := [.int b]) (st := []) (v_X0_allPoints l D ad cs _ _ b hI ⟨by omega, by omega⟩) gX10_weight_X0_allPoints rfl rfl rfl (by decide +kernel) ⟨Nat.le_of_ble_eq_true rfl, Nat.le_of_ble_eq_true rfl⟩ rfl (Nat.le_of_ble_eq_true rfl) ⟨Nat.zero_le _, Nat.zero_le _⟩ (by decide) (ce_ball ad cs _ _) rfl rfl dX10_weight_47 (fun r17 M18 L19 hr17 => ?_)
        obtain ⟨hq1, hq2, hr17⟩ := hr17
        obtain rfl := hq1.symm
        obtain rfl := hq2.symm
        have hr17s : r17 = sumM (vC M) b.toNatClampNeg (vC M 0 0).toNatClampNeg := by rw [hr17]; exact hSm ⟨by omega, by omega⟩ (by dsimp only [ofS] at *; omega)
        have ts9 := congrArg Int32.toInt hr17s
        have sb9 := sumM_b (V := vC M) (b := b.toNatClampNeg) (vC5b hI) (vC M 0 0).toNatClampNeg (by omega)
        refine g_istore_n C [(3, .int r17), (0, .ref (ad 0)), (1, .int b), (2, .int x)] dX10_weight_50 (by decide) rfl ?_
        refine g_iload_n C 0 dX10_weight_51 rfl ?_
        refine g_if_ne C 61 dX10_weight_52 (by decide) (fun c20 => ?_) (fun c20 => ?_)
        ·
          have f21 := fne rfl (by decide : (0 : Int32).toInt = 0) c20
          refine g_aload_n C 1 dX10_weight_61 rfl ?_
          refine g_get C (.ref (ad 3)) 1 in_X10_weight_10 (List.mem_of_getElem? (i := 1) rfl) (by decide) (ce_house ad cs _ _) rfl (by decide) rfl rfl dX10_weight_62 ?_
          refine g_get C (.ref (ad 7)) 4 in_X10_weight_0 (List.mem_of_getElem? (i := 3) rfl) (by decide) (ce_ball ad cs _ _) rfl (by decide) rfl rfl dX10_weight_65 ?_
          refine g_iload_n C 2 dX10_weight_68 rfl ?_
          have hi22 : vp_in b 60 := (fin' (n := 60) rfl (by omega) (by omega))
          have nhi22 := tn hi22
          have mhi22 := ixn (x := b) (by omega)
          refine g_aald C (by decide) (ce_browm ad cs _ _) rfl hi22 dX10_weight_69 ?_
          refine g_iload_n C 3 dX10_weight_70 rfl ?_
          have nx := ixn (x := x) (by omega)
          refine g_iald C (by omega) (ce_brow ad cs _ _ nhi22) (fin' (n := 10) rfl (by omega) (by omega)) dX10_weight_71 ?_
          refine g_ni (fun v23 ev23 => ?_)
          have gv23 := ev23
          have gv23 := gv23.trans (vC5 (M := M) (by omega) (by omega)).symm
          have tv23 := congrArg Int32.toInt gv23
          obtain ⟨bv23, dv23⟩ := (show rg 0 9 v23 from (by rw [ev23]; exact hI.row _ (by omega) (by omega)))
          refine g_iload_n C 0 dX10_weight_72 rfl ?_
          refine g_callSi C (n := 2) (As := [.int v23, .int r17]) (st := []) (v_X10_thousandths l D ad cs _ _ v23 r17 hI ) gX10_weight_X10_thousandths rfl rfl rfl (by decide +kernel) ⟨Nat.le_of_ble_eq_true rfl, Nat.le_of_ble_eq_true rfl⟩ rfl (Nat.le_of_ble_eq_true rfl) ⟨Nat.zero_le _, Nat.zero_le _⟩ rfl dX10_weight_73 (fun r24 M25 L26 hr24 => ?_)
          obtain ⟨hq1, hq2, hr24⟩ := hr24
          obtain rfl := hq1.symm
          obtain rfl := hq2.symm
          exact g_iret C hr ⟨(by dsimp only [A_weight, hasC, hasB, hasX, hasM, ofS, ofK, bt, ix]; (repeat (first | rw [if_pos (by omega)] | rw [if_neg (by omega)])); rw [hr24, if_neg (by omega)]; simp only [gv23, hr17s]), hI, hF, hG⟩ dX10_weight_76
        ·
          have f27 := feq rfl (by decide : (0 : Int32).toInt = 0) c20
          refine g_aload_n C 1 dX10_weight_55 rfl ?_
          refine g_iconst C 4 dX10_weight_56 (by decide) ?_
          refine g_callVi C (n := 1) (As := [.int 4]) (st := []) (v_X10_found l D ad cs _ _ 4 hI ⟨by first | omega | decide, by first | omega | decide⟩) gX10_weight_X10_found rfl rfl rfl (by decide +kernel) ⟨Nat.le_of_ble_eq_true rfl, Nat.le_of_ble_eq_true rfl⟩ rfl (Nat.le_of_ble_eq_true rfl) ⟨Nat.zero_le _, Nat.zero_le _⟩ (by decide) (ce_house ad cs _ _) rfl rfl dX10_weight_57 (fun r28 M29 L30 hr28 => ?_)
          obtain ⟨hr28, hI, hFr28, hGr28⟩ := hr28
          have hF : ∀ k i, ¬ (k = 0 ∧ i = 11) ∧ k ≠ 257 → M29 k i = M k i := fun k i hk => by (rw [hFr28 k i (by omega)]; try exact hF k i hk)
          have hG : ∀ k i, True → L30 k i = L k i := fun k i hk => by (rw [hGr28 k i trivial]; try exact hG k i hk)
          have hV : vC M29 = meetsV (vC M) 4 := by rw [hr28.2, hV]
          have k0_11 : M29 0 11 = M29 0 11 := rfl
          have q257 : M29 257 = M29 257 := rfl
          exact g_iret C hr ⟨(by dsimp only [A_weight, hasC, hasB, hasX, hasM, ofS, ofK, bt, ix]; (repeat (first | rw [if_pos (by omega)] | rw [if_neg (by omega)])); rw [hV]; first | done | rfl | (simp only [hr17s]; done) | (simp only [hr17s]; rfl) | (subst_vars; first | rfl | grind)), hI, hF, hG⟩ dX10_weight_60
      ·
        have f31 := feq rfl (by decide : (0 : Int32).toInt = 0) c15
        have pr12 := zo_f hr12 c15
        try dsimp only [hasC, hasB, hasX, hasM, ofS, ofK, bt] at pr12
        refine g_aload_n C 0 dX10_weight_36 rfl ?_
        refine g_iconst C 3 dX10_weight_37 (by decide) ?_
        refine g_callVi C (n := 1) (As := [.int 3]) (st := []) (v_X10_found l D ad cs _ _ 3 hI ⟨by first | omega | decide, by first | omega | decide⟩) gX10_weight_X10_found rfl rfl rfl (by decide +kernel) ⟨Nat.le_of_ble_eq_true rfl, Nat.le_of_ble_eq_true rfl⟩ rfl (Nat.le_of_ble_eq_true rfl) ⟨Nat.zero_le _, Nat.zero_le _⟩ (by decide) (ce_house ad cs _ _) rfl rfl dX10_weight_38 (fun r32 M33 L34 hr32 => ?_)
        obtain ⟨hr32, hI, hFr32, hGr32⟩ := hr32
        have hF : ∀ k i, ¬ (k = 0 ∧ i = 11) ∧ k ≠ 257 → M33 k i = M k i := fun k i hk => by (rw [hFr32 k i (by omega)]; try exact hF k i hk)
        have hG : ∀ k i, True → L34 k i = L k i := fun k i hk => by (rw [hGr32 k i trivial]; try exact hG k i hk)
        have hV : vC M33 = meetsV (vC M) 3 := by rw [hr32.2, hV]
        have k0_11 : M33 0 11 = M33 0 11 := rfl
        have q257 : M33 257 = M33 257 := rfl
        exact g_iret C hr ⟨(by dsimp only [A_weight, hasC, hasB, hasX, hasM, ofS, ofK, bt, ix]; (repeat (first | rw [if_pos (by omega)] | rw [if_neg (by omega)])); rw [hV]; first | done | rfl | (simp only [ix]; done) | (simp only [ix]; rfl) | (subst_vars; first | rfl | grind)), hI, hF, hG⟩ dX10_weight_41
    ·
      have f35 := feq rfl (by decide : (0 : Int32).toInt = 0) c10
      have pr7 := zo_f hr7 c10
      try dsimp only [hasC, hasB, hasX, hasM, ofS, ofK, bt] at pr7
      refine g_iconst C (-1) dX10_weight_22 (by decide) ?_
      have zr9 : ((-1) : Int32).toInt = (-1) := by decide
      exact g_iret C hr ⟨(by dsimp only [A_weight, hasC, hasB, hasX, hasM, ofS, ofK, bt, ix]; (repeat (first | rw [if_pos (by omega)] | rw [if_neg (by omega)])); first | done | rfl | (simp only [ix]; done) | (simp only [ix]; rfl) | (subst_vars; first | rfl | grind)), hI, hF, hG⟩ dX10_weight_23
