set_option maxHeartbeats 4000000 in
set_option maxRecDepth 100000 in
theorem k_X9_strengthenWays (l : Launch) (D : va_G) (ad : Nat → Nat) (cs : Nat → ClassId) (M : MI) (L : ML)  (hI : IC M) : Cv l yX9_strengthenWays wsX9_strengthenWays ({ frames := 1, cells := 0, slots := 0, locals := 40 }) D ad cs [.ref (ad 96)] M L (fun M1 L1 => (∀ ua, ua < (M 1 0).toNatClampNeg → ∀ ub, ub < (M 1 0).toNatClampNeg → wC M1 ua ub = wX (wC M) (M 1 0).toNatClampNeg ua ub) ∧ IC M1 ∧ (∀ k i, ¬ (110 ≤ k ∧ k < 120) → M1 k i = M k i) ∧ ∀ k i, True → L1 k i = L k i) := by
  refine enter_v RX9 rfl [(0, .ref (ad 96))] rfl (Nat.le_of_ble_eq_true rfl) (by decide +kernel) rfl ?_
  intro p e s m below meth c C hr
  have hF : ∀ k i, ¬ (110 ≤ k ∧ k < 120) → M k i = M k i := fun _ _ _ => rfl
  have hG : ∀ k i, True → L k i = L k i := fun _ _ _ => rfl
  have w0 : (vC M 0 0).toInt = (M 1 0).toInt := rfl
  have w1 : (vC M 0 1).toInt = (M 3 0).toInt := rfl
  have w2 : (vC M 0 2).toInt = (M 68 0).toInt := rfl
  have w3 : (vC M 0 3).toInt = (M 81 0).toInt := rfl
  obtain ⟨y0a, y0b⟩ := (show rg 0 10 (M 1 0) from hI 1 0 rfl)
  obtain ⟨y1a, y1b⟩ := (show rg 0 60 (M 3 0) from hI 3 0 rfl)
  obtain ⟨y2a, y2b⟩ := (show rg 0 8 (M 68 0) from hI 68 0 rfl)
  obtain ⟨y3a, y3b⟩ := (show rg 0 20 (M 81 0) from hI 81 0 rfl)
  have n02 := ixn y0a
  have q110 : ∀ k, 110 ≤ k ∧ k < 120 → M k = M k := fun _ _ => rfl
  have hV : vC M = vC M := rfl
  refine g_aload_n C 0 dX9_strengthenWays_0 rfl ?_
  refine g_get C (.ref (ad 88)) 0 in_X9_strengthenWays_9 (List.mem_of_getElem? (i := 1) rfl) (by decide) (ce_ways ad cs _ _) rfl (by decide) rfl rfl dX9_strengthenWays_1 ?_
  refine g_get C (.ref (ad 1)) 0 in_X9_strengthenWays_6 (List.mem_of_getElem? (i := 2) rfl) (by decide) (ce_poll ad cs _ _) rfl (by decide) rfl rfl dX9_strengthenWays_4 ?_
  refine g_get C (.int (M 1 0)) 0 in_X9_strengthenWays_2 (List.mem_of_getElem? (i := 3) rfl) (by decide) (ce_cand ad cs _ _) rfl (by decide) rfl rfl dX9_strengthenWays_7 ?_
  refine g_ni (fun v1 ev1 => ?_)
  have gv1 : v1 = vC M 0 0 := ev1
  have tv1 := congrArg Int32.toInt gv1
  obtain ⟨bv1, dv1⟩ := (show rg 0 10 v1 from (by rw [ev1]; exact hI 1 0 rfl))
  refine g_istore_n C [(1, .int v1), (0, .ref (ad 96))] dX9_strengthenWays_10 (by decide) rfl ?_
  refine g_iconst C 0 dX9_strengthenWays_11 (by decide) ?_
  refine g_istore_n C [(2, .int 0), (1, .int v1), (0, .ref (ad 96))] dX9_strengthenWays_12 (by decide) rfl ?_
  have zy2 : (0 : Int32).toInt = 0 := by decide
  refine g_loop (α := Int32 × MI × ML) (fun a => (11 - a.1.toInt).toNat) (fun a => (0 ≤ a.1.toInt) ∧ (a.1.toInt ≤ (M 1 0).toInt) ∧ (∀ ua, ua < (M 1 0).toNatClampNeg → ∀ ub, ub < (M 1 0).toNatClampNeg → wC a.2.1 ua ub = wX (wC M) a.1.toNatClampNeg ua ub) ∧ IC a.2.1 ∧ (∀ k i, ¬ (110 ≤ k ∧ k < 120) → a.2.1 k i = M k i) ∧ (∀ k i, True → a.2.2 k i = L k i)) (fun a => a.2.1) (fun a => a.2.2) (fun a => [(2, .int a.1), (1, .int v1), (0, .ref (ad 96))]) ((0 : Int32), M, L) ⟨by show 0 ≤ (0 : Int32).toInt; omega, by show (0 : Int32).toInt ≤ (M 1 0).toInt; omega, by show ∀ ua, ua < (M 1 0).toNatClampNeg → ∀ ub, ub < (M 1 0).toNatClampNeg → wC M ua ub = wX (wC M) (0 : Int32).toNatClampNeg ua ub; intro ua ha ub hb; rfl, hI, hF, hG⟩ rfl rfl rfl ?_
  rintro ⟨x2_13, M_13, L_13⟩ ⟨j13_0, j13_1, j13_2, hI, hF, hG⟩ ih_13
  dsimp only at j13_0 j13_1 j13_2 hI hF hG ih_13 ⊢
  have hV : vC M_13 = vC M_13 := rfl
  have q110 : ∀ k, 110 ≤ k ∧ k < 120 → M_13 k = M_13 k := fun _ _ => rfl
  have n_x2_13 := ixn (x := x2_13) (by omega)
  refine g_iload_n C 0 dX9_strengthenWays_13 rfl ?_
  refine g_iload_n C 1 dX9_strengthenWays_14 rfl ?_
  refine g_icmp_ge C 93 dX9_strengthenWays_15 (by decide) (fun c3 => ?_) (fun c3 => ?_)
  ·
    have f4 := fle rfl rfl c3
    exact g_vret C hr ⟨(by have e9 : x2_13.toNatClampNeg = (M 1 0).toNatClampNeg := (by omega); rw [e9] at j13_2; exact j13_2), hI, hF, hG⟩ dX9_strengthenWays_93
  ·
    have f5 := fnle rfl rfl c3
    refine g_iconst C 0 dX9_strengthenWays_18 (by decide) ?_
    refine g_istore_n C [(3, .int 0), (2, .int x2_13), (1, .int v1), (0, .ref (ad 96))] dX9_strengthenWays_19 (by decide) rfl ?_
    have zy6 : (0 : Int32).toInt = 0 := by decide
    refine g_loop (α := Int32 × MI × ML) (fun a => (11 - a.1.toInt).toNat) (fun a => (0 ≤ a.1.toInt) ∧ (a.1.toInt ≤ (M 1 0).toInt) ∧ (GR M_13 a.2.1 110 (M 1 0).toNatClampNeg (fun ua ub => ua < a.1.toNatClampNeg) (fX M_13 110 x2_13.toNatClampNeg)) ∧ IC a.2.1 ∧ (∀ k i, ¬ (110 ≤ k ∧ k < 120) → a.2.1 k i = M k i) ∧ (∀ k i, True → a.2.2 k i = L k i)) (fun a => a.2.1) (fun a => a.2.2) (fun a => [(3, .int a.1), (2, .int x2_13), (1, .int v1), (0, .ref (ad 96))]) ((0 : Int32), M_13, L_13) ⟨by show 0 ≤ (0 : Int32).toInt; omega, by show (0 : Int32).toInt ≤ (M 1 0).toInt; omega, by show GR M_13 M_13 110 (M 1 0).toNatClampNeg (fun ua ub => ua < (0 : Int32).toNatClampNeg) (fX M_13 110 x2_13.toNatClampNeg); exact GR_0 (fun ua ub _ _ => by show ¬ ua < 0; omega) (fun _ _ => rfl), hI, hF, hG⟩ rfl rfl rfl ?_
    rintro ⟨x3_20, M_20, L_20⟩ ⟨j20_0, j20_1, j20_2, hI, hF, hG⟩ ih_20
    dsimp only at j20_0 j20_1 j20_2 hI hF hG ih_20 ⊢
    have hV : vC M_20 = vC M_20 := rfl
    have q110 : ∀ k, 110 ≤ k ∧ k < 120 → M_20 k = M_20 k := fun _ _ => rfl
    have n_x3_20 := ixn (x := x3_20) (by omega)
    refine g_iload_n C 0 dX9_strengthenWays_20 rfl ?_
    refine g_iload_n C 2 dX9_strengthenWays_21 rfl ?_
    refine g_icmp_ge C 87 dX9_strengthenWays_22 (by decide) (fun c7 => ?_) (fun c7 => ?_)
    ·
      have f8 := fle rfl rfl c7
      obtain ⟨v9, ev9⟩ : ∃ y : Int32, y = x2_13 + 1 := ⟨_, rfl⟩
      try have fv9 := fadd rfl (by decide : (1 : Int32).toInt = 1) ev9 (by omega) (by omega)
      refine g_iinc C 1 v9 [(2, .int v9), (3, .int x3_20), (1, .int v1), (0, .ref (ad 96))] dX9_strengthenWays_87 rfl (by rw [ev9]; rfl) (by decide) rfl ?_
      refine g_goto C 13 dX9_strengthenWays_90 (by decide) ?_
      refine g_lv [0, 2, 3] [(2, .int v9), (1, .int v1), (0, .ref (ad 96))] rfl ?_
      have nv := ixn (x := v9) (by omega)
      have iv : v9.toNatClampNeg = x2_13.toNatClampNeg + 1 := by omega
      have hwx : ∀ ua, ua < (M 1 0).toNatClampNeg → ∀ ub, ub < (M 1 0).toNatClampNeg → wC M_20 ua ub = wX (wC M) (x2_13.toNatClampNeg + 1) ua ub := by
        intro ua ha ub hb
        have h9 := (j20_2 ua ha ub hb).1 (by omega)
        show (M_20 (110 + ua) ub).toInt = max (wX (wC M) x2_13.toNatClampNeg ua ub) (min (wX (wC M) x2_13.toNatClampNeg ua x2_13.toNatClampNeg) (wX (wC M) x2_13.toNatClampNeg x2_13.toNatClampNeg ub))
        rw [h9, fX_t, ← j13_2 ua ha ub hb, ← j13_2 ua ha x2_13.toNatClampNeg (by omega), ← j13_2 x2_13.toNatClampNeg (by omega) ub hb]
        rfl
      exact ih_13 (v9, M_20, L_20) ⟨by show 0 ≤ v9.toInt; omega, by show v9.toInt ≤ (M 1 0).toInt; omega, by show ∀ ua, ua < (M 1 0).toNatClampNeg → ∀ ub, ub < (M 1 0).toNatClampNeg → wC M_20 ua ub = wX (wC M) v9.toNatClampNeg ua ub; rw [iv]; exact hwx, hI, hF, hG⟩ (by show (11 - v9.toInt).toNat < (11 - x2_13.toInt).toNat; omega)
    ·
      have f10 := fnle rfl rfl c7
      refine g_iconst C 0 dX9_strengthenWays_25 (by decide) ?_
      refine g_istore C [(4, .int 0), (3, .int x3_20), (2, .int x2_13), (1, .int v1), (0, .ref (ad 96))] dX9_strengthenWays_26 (by decide) rfl ?_
      have zy11 : (0 : Int32).toInt = 0 := by decide
      refine g_loop (α := Int32 × MI × ML) (fun a => (11 - a.1.toInt).toNat) (fun a => (0 ≤ a.1.toInt) ∧ (a.1.toInt ≤ (M 1 0).toInt) ∧ (GR M_13 a.2.1 110 (M 1 0).toNatClampNeg (fun ua ub => ua < x3_20.toNatClampNeg ∨ (ua = x3_20.toNatClampNeg ∧ ub < a.1.toNatClampNeg)) (fX M_13 110 x2_13.toNatClampNeg)) ∧ IC a.2.1 ∧ (∀ k i, ¬ (110 ≤ k ∧ k < 120) → a.2.1 k i = M k i) ∧ (∀ k i, True → a.2.2 k i = L k i)) (fun a => a.2.1) (fun a => a.2.2) (fun a => [(4, .int a.1), (3, .int x3_20), (2, .int x2_13), (1, .int v1), (0, .ref (ad 96))]) ((0 : Int32), M_20, L_20) ⟨by show 0 ≤ (0 : Int32).toInt; omega, by show (0 : Int32).toInt ≤ (M 1 0).toInt; omega, by show GR M_13 M_20 110 (M 1 0).toNatClampNeg (fun ua ub => ua < x3_20.toNatClampNeg ∨ (ua = x3_20.toNatClampNeg ∧ ub < (0 : Int32).toNatClampNeg)) (fX M_13 110 x2_13.toNatClampNeg); exact GR_congr j20_2 (fun ua ub _ _ => by rw [show (0 : Int32).toNatClampNeg = 0 by decide]; omega), hI, hF, hG⟩ rfl rfl rfl ?_
      rintro ⟨x4_28, M_28, L_28⟩ ⟨j28_0, j28_1, j28_2, hI, hF, hG⟩ ih_28
      dsimp only at j28_0 j28_1 j28_2 hI hF hG ih_28 ⊢
      have hV : vC M_28 = vC M_28 := rfl
      have q110 : ∀ k, 110 ≤ k ∧ k < 120 → M_28 k = M_28 k := fun _ _ => rfl
      have n_x4_28 := ixn (x := x4_28) (by omega)
      refine g_iload C 0 dX9_strengthenWays_28 rfl ?_
      refine g_iload_n C 3 dX9_strengthenWays_30 rfl ?_
      refine g_icmp_ge C 81 dX9_strengthenWays_31 (by decide) (fun c12 => ?_) (fun c12 => ?_)
      ·
        have f13 := fle rfl rfl c12
        obtain ⟨v14, ev14⟩ : ∃ y : Int32, y = x3_20 + 1 := ⟨_, rfl⟩
        try have fv14 := fadd rfl (by decide : (1 : Int32).toInt = 1) ev14 (by omega) (by omega)
        refine g_iinc C 1 v14 [(3, .int v14), (4, .int x4_28), (2, .int x2_13), (1, .int v1), (0, .ref (ad 96))] dX9_strengthenWays_81 rfl (by rw [ev14]; rfl) (by decide) rfl ?_
        refine g_goto C 20 dX9_strengthenWays_84 (by decide) ?_
        refine g_lv [0, 2, 3, 4] [(3, .int v14), (2, .int x2_13), (1, .int v1), (0, .ref (ad 96))] rfl ?_
        have nv := ixn (x := v14) (by omega)
        have iv : v14.toNatClampNeg = x3_20.toNatClampNeg + 1 := by omega
        exact ih_20 (v14, M_28, L_28) ⟨by show 0 ≤ v14.toInt; omega, by show v14.toInt ≤ (M 1 0).toInt; omega, by show GR M_13 M_28 110 (M 1 0).toNatClampNeg (fun ua ub => ua < v14.toNatClampNeg) (fX M_13 110 x2_13.toNatClampNeg); exact GR_congr j28_2 (fun ua ub _ _ => by omega), hI, hF, hG⟩ (by show (11 - v14.toInt).toNat < (11 - x3_20.toInt).toNat; omega)
      ·
        have f15 := fnle rfl rfl c12
        refine g_aload_n C 4 dX9_strengthenWays_34 rfl ?_
        refine g_get C (.ref (ad 99)) 3 in_X9_strengthenWays_9 (List.mem_of_getElem? (i := 4) rfl) (by decide) (ce_ways ad cs _ _) rfl (by decide) rfl rfl dX9_strengthenWays_35 ?_
        refine g_iload_n C 1 dX9_strengthenWays_38 rfl ?_
        have hi16 : vp_in x3_20 10 := (fin' (n := 10) rfl (by omega) (by omega))
        have nhi16 := tn hi16
        have mhi16 := ixn (x := x3_20) (by omega)
        refine g_aald C (by decide) (ce_wwaym ad cs _ _) rfl hi16 dX9_strengthenWays_39 ?_
        refine g_iload C 0 dX9_strengthenWays_40 rfl ?_
        refine g_aload_n C 4 dX9_strengthenWays_42 rfl ?_
        refine g_get C (.ref (ad 99)) 3 in_X9_strengthenWays_9 (List.mem_of_getElem? (i := 4) rfl) (by decide) (ce_ways ad cs _ _) rfl (by decide) rfl rfl dX9_strengthenWays_43 ?_
        refine g_iload_n C 1 dX9_strengthenWays_46 rfl ?_
        have hi17 : vp_in x3_20 10 := (fin' (n := 10) rfl (by omega) (by omega))
        have nhi17 := tn hi17
        have mhi17 := ixn (x := x3_20) (by omega)
        refine g_aald C (by decide) (ce_wwaym ad cs _ _) rfl hi17 dX9_strengthenWays_47 ?_
        refine g_iload C 0 dX9_strengthenWays_48 rfl ?_
        have nx4_28 := ixn (x := x4_28) (by omega)
        refine g_iald C (by omega) (ce_wway ad cs _ _ nhi17) (fin' (n := 10) rfl (by omega) (by omega)) dX9_strengthenWays_50 ?_
        refine g_ni (fun v18 ev18 => ?_)
        have gv18 := ev18.trans (congrFun (q110 _ (by omega)) _)
        have tv18 := congrArg Int32.toInt gv18
        refine g_aload_n C 4 dX9_strengthenWays_51 rfl ?_
        refine g_get C (.ref (ad 99)) 3 in_X9_strengthenWays_9 (List.mem_of_getElem? (i := 4) rfl) (by decide) (ce_ways ad cs _ _) rfl (by decide) rfl rfl dX9_strengthenWays_52 ?_
        refine g_iload_n C 1 dX9_strengthenWays_55 rfl ?_
        have hi19 : vp_in x3_20 10 := (fin' (n := 10) rfl (by omega) (by omega))
        have nhi19 := tn hi19
        have mhi19 := ixn (x := x3_20) (by omega)
        refine g_aald C (by decide) (ce_wwaym ad cs _ _) rfl hi19 dX9_strengthenWays_56 ?_
        refine g_iload_n C 2 dX9_strengthenWays_57 rfl ?_
        have nx2_13 := ixn (x := x2_13) (by omega)
        refine g_iald C (by omega) (ce_wway ad cs _ _ nhi19) (fin' (n := 10) rfl (by omega) (by omega)) dX9_strengthenWays_58 ?_
        refine g_ni (fun v20 ev20 => ?_)
        have gv20 := ev20.trans (congrFun (q110 _ (by omega)) _)
        have tv20 := congrArg Int32.toInt gv20
        refine g_aload_n C 4 dX9_strengthenWays_59 rfl ?_
        refine g_get C (.ref (ad 99)) 3 in_X9_strengthenWays_9 (List.mem_of_getElem? (i := 4) rfl) (by decide) (ce_ways ad cs _ _) rfl (by decide) rfl rfl dX9_strengthenWays_60 ?_
        refine g_iload_n C 2 dX9_strengthenWays_63 rfl ?_
        have hi21 : vp_in x2_13 10 := (fin' (n := 10) rfl (by omega) (by omega))
        have nhi21 := tn hi21
        have mhi21 := ixn (x := x2_13) (by omega)
        refine g_aald C (by decide) (ce_wwaym ad cs _ _) rfl hi21 dX9_strengthenWays_64 ?_
        refine g_iload C 0 dX9_strengthenWays_65 rfl ?_
        have nx4_28 := ixn (x := x4_28) (by omega)
        refine g_iald C (by omega) (ce_wway ad cs _ _ nhi21) (fin' (n := 10) rfl (by omega) (by omega)) dX9_strengthenWays_67 ?_
        refine g_ni (fun v22 ev22 => ?_)
        have gv22 := ev22.trans (congrFun (q110 _ (by omega)) _)
        have tv22 := congrArg Int32.toInt gv22
        refine g_mmin C (List.mem_of_getElem? (i := 5) rfl) (List.mem_of_getElem? (i := 6) rfl) (List.mem_of_getElem? (i := 7) rfl) (List.mem_of_getElem? (i := 8) rfl) (Nat.le_of_ble_eq_true rfl) (Nat.le_of_ble_eq_true rfl) ⟨Nat.zero_le _, Nat.zero_le _⟩ dX9_strengthenWays_68 ?_
        refine g_ni (fun v23 ev23 => ?_)
        refine g_mmax C (List.mem_of_getElem? (i := 9) rfl) (List.mem_of_getElem? (i := 10) rfl) (List.mem_of_getElem? (i := 7) rfl) (List.mem_of_getElem? (i := 11) rfl) (Nat.le_of_ble_eq_true rfl) (Nat.le_of_ble_eq_true rfl) ⟨Nat.zero_le _, Nat.zero_le _⟩ dX9_strengthenWays_71 ?_
        refine g_ni (fun v24 ev24 => ?_)
        have nx4_28 := ixn (x := x4_28) (by omega)
        refine g_iast C (by omega) (ce_wway ad cs _ _ nhi16) (by rw [sI_k]; exact (ce_wway ad cs _ _ nhi16)) (fin' (n := 10) rfl (by omega) (by omega)) dX9_strengthenWays_74 ?_
        refine g_nm (fun M25 hM25 => ?_)
        have hI : IC M25 := by rw [hM25]; exact hI.st (bC_free (by omega) (by omega) (by omega) (by omega) (by omega) (by omega) (by omega))
        have hF : ∀ k i, ¬ (110 ≤ k ∧ k < 120) → M25 k i = M k i := fun k i hk => by (rw [hM25, sI_at, if_neg (by omega)]; try exact hF k i hk)
        have hV : vC M25 = vC M_28 := by rw [hM25, vC_z (by omega), hV]
        obtain ⟨v26, ev26⟩ : ∃ y : Int32, y = x4_28 + 1 := ⟨_, rfl⟩
        try have fv26 := fadd rfl (by decide : (1 : Int32).toInt = 1) ev26 (by omega) (by omega)
        refine g_iinc C 0 v26 [(4, .int v26), (3, .int x3_20), (2, .int x2_13), (1, .int v1), (0, .ref (ad 96))] dX9_strengthenWays_75 rfl (by rw [ev26]; rfl) (by decide) rfl ?_
        refine g_goto C 28 dX9_strengthenWays_78 (by decide) ?_
        have nv := ixn (x := v26) (by omega)
        have iv : v26.toNatClampNeg = x4_28.toNatClampNeg + 1 := by omega
        have r1 := (j28_2 x3_20.toNatClampNeg (by omega) x4_28.toNatClampNeg (by omega)).2 (by omega)
        have r2 := GRX_col j28_2 (a := x3_20.toNatClampNeg) (by omega) (show x2_13.toNatClampNeg < (M 1 0).toNatClampNeg by omega)
        have r3 := GRX_row j28_2 (b := x4_28.toNatClampNeg) (by omega) (show x2_13.toNatClampNeg < (M 1 0).toNatClampNeg by omega)
        have hgr : GR M_13 M25 110 (M 1 0).toNatClampNeg (fun ua ub => ua < x3_20.toNatClampNeg ∨ (ua = x3_20.toNatClampNeg ∧ ub < x4_28.toNatClampNeg + 1)) (fX M_13 110 x2_13.toNatClampNeg) := by
          refine GR_step (x := x3_20.toNatClampNeg) (y := x4_28.toNatClampNeg) j28_2 hM25 ?_ (fun ua ub _ _ => by omega)
          show _ = mx32 (M_13 (110 + x3_20.toNatClampNeg) x4_28.toNatClampNeg) (mn32 (M_13 (110 + x3_20.toNatClampNeg) x2_13.toNatClampNeg) (M_13 (110 + x2_13.toNatClampNeg) x4_28.toNatClampNeg))
          rw [← r1, ← r2, ← r3]
          simp only [ev24, ev23, gv22, gv20, gv18, gv1]
        exact ih_28 (v26, M25, L_28) ⟨by show 0 ≤ v26.toInt; omega, by show v26.toInt ≤ (M 1 0).toInt; omega, by show GR M_13 M25 110 (M 1 0).toNatClampNeg (fun ua ub => ua < x3_20.toNatClampNeg ∨ (ua = x3_20.toNatClampNeg ∧ ub < v26.toNatClampNeg)) (fX M_13 110 x2_13.toNatClampNeg); rw [iv]; exact hgr, hI, hF, hG⟩ (by show (11 - v26.toInt).toNat < (11 - x4_28.toInt).toNat; omega)
set_option maxHeartbeats 4000000 in
set_option maxRecDepth 100000 in
theorem k_X9_leastWay (l : Launch) (D : va_G) (ad : Nat → Nat) (cs : Nat → ClassId) (M : MI) (L : ML) (x : Int32) (hI : IC M) (hx : 0 ≤ x.toInt ∧ x.toInt < 10) : Ci l yX9_leastWay wsX9_leastWay ({ frames := 0, cells := 0, slots := 0, locals := 0 }) D ad cs [.ref (ad 96), .int x] M L (fun r M1 L1 => M1 = M ∧ L1 = L ∧ (True)) := by
  refine enter_i RX9 rfl [(0, .ref (ad 96)), (1, .int x)] rfl (Nat.le_of_ble_eq_true rfl) (by decide +kernel) rfl ?_
  intro p e s m below meth c C hr
  have hF : ∀ k i, True → M k i = M k i := fun _ _ _ => rfl
  have hG : ∀ k i, True → L k i = L k i := fun _ _ _ => rfl
  have w0 : (vC M 0 0).toInt = (M 1 0).toInt := rfl
  have w1 : (vC M 0 1).toInt = (M 3 0).toInt := rfl
  have w2 : (vC M 0 2).toInt = (M 68 0).toInt := rfl
  have w3 : (vC M 0 3).toInt = (M 81 0).toInt := rfl
  obtain ⟨y0a, y0b⟩ := (show rg 0 10 (M 1 0) from hI 1 0 rfl)
  obtain ⟨y1a, y1b⟩ := (show rg 0 60 (M 3 0) from hI 3 0 rfl)
  obtain ⟨y2a, y2b⟩ := (show rg 0 8 (M 68 0) from hI 68 0 rfl)
  obtain ⟨y3a, y3b⟩ := (show rg 0 20 (M 81 0) from hI 81 0 rfl)
  obtain ⟨hx1, hx2⟩ := hx
  refine g_bipush C (-9) dX9_leastWay_0 (by decide) ?_
  refine g_istore_n C [(2, .int ((-9))), (0, .ref (ad 96)), (1, .int x)] dX9_leastWay_2 (by decide) rfl ?_
  refine g_iconst C 0 dX9_leastWay_3 (by decide) ?_
  refine g_istore_n C [(3, .int 0), (2, .int ((-9))), (0, .ref (ad 96)), (1, .int x)] dX9_leastWay_4 (by decide) rfl ?_
  have zy1 : (0 : Int32).toInt = 0 := by decide
  have zy2 : ((-9) : Int32).toInt = (-9) := by decide
  refine g_loop (α := Int32 × Int32 × MI × ML) (fun a => (11 - a.1.toInt).toNat) (fun a => (0 ≤ a.1.toInt) ∧ (a.1.toInt ≤ (M 1 0).toInt) ∧ IC a.2.2.1 ∧ (∀ k i, True → a.2.2.1 k i = M k i) ∧ (∀ k i, True → a.2.2.2 k i = L k i)) (fun a => a.2.2.1) (fun a => a.2.2.2) (fun a => [(3, .int a.1), (2, .int a.2.1), (0, .ref (ad 96)), (1, .int x)]) ((0 : Int32), (-9 : Int32), M, L) ⟨by show 0 ≤ (0 : Int32).toInt; omega, by show (0 : Int32).toInt ≤ (M 1 0).toInt; omega, hI, hF, hG⟩ rfl rfl rfl ?_
  rintro ⟨x3_5, x2_5, M_5, L_5⟩ ⟨j5_0, j5_1, hI, hF, hG⟩ ih_5
  dsimp only at j5_0 j5_1 hI hF hG ih_5 ⊢
  refine g_iload_n C 0 dX9_leastWay_5 rfl ?_
  refine g_aload_n C 2 dX9_leastWay_6 rfl ?_
  refine g_get C (.ref (ad 88)) 0 in_X9_leastWay_9 (List.mem_of_getElem? (i := 1) rfl) (by decide) (ce_ways ad cs _ _) rfl (by decide) rfl rfl dX9_leastWay_7 ?_
  refine g_get C (.ref (ad 1)) 0 in_X9_leastWay_6 (List.mem_of_getElem? (i := 2) rfl) (by decide) (ce_poll ad cs _ _) rfl (by decide) rfl rfl dX9_leastWay_10 ?_
  refine g_get C (.int (M_5 1 0)) 0 in_X9_leastWay_2 (List.mem_of_getElem? (i := 3) rfl) (by decide) (ce_cand ad cs _ _) rfl (by decide) rfl rfl dX9_leastWay_13 ?_
  refine g_ni (fun v3 ev3 => ?_)
  have gv3 : v3 = vC M 0 0 := ev3.trans (hF 1 0 trivial)
  have tv3 := congrArg Int32.toInt gv3
  obtain ⟨bv3, dv3⟩ := (show rg 0 10 v3 from (by rw [ev3]; exact hI 1 0 rfl))
  refine g_icmp_ge C 81 dX9_leastWay_16 (by decide) (fun c4 => ?_) (fun c4 => ?_)
  ·
    have f5 := fle rfl rfl c4
    refine g_iload_n C 1 dX9_leastWay_81 rfl ?_
    refine g_bipush C (-9) dX9_leastWay_82 (by decide) ?_
    refine g_icmp_ne C 91 dX9_leastWay_84 (by decide) (fun c6 => ?_) (fun c6 => ?_)
    ·
      have f7 := fne rfl (by decide : ((-9) : Int32).toInt = (-9)) c6
      refine g_iload_n C 1 dX9_leastWay_91 rfl ?_
      exact g_iret C hr ⟨funext (fun k => funext (fun i => hF k i trivial)), funext (fun k => funext (fun i => hG k i trivial)), trivial⟩ dX9_leastWay_92
    ·
      have f8 := feq rfl (by decide : ((-9) : Int32).toInt = (-9)) c6
      refine g_iconst C 0 dX9_leastWay_87 (by decide) ?_
      refine g_goto C 92 dX9_leastWay_88 (by decide) ?_
      have zr9 : (0 : Int32).toInt = 0 := by decide
      exact g_iret C hr ⟨funext (fun k => funext (fun i => hF k i trivial)), funext (fun k => funext (fun i => hG k i trivial)), trivial⟩ dX9_leastWay_92
  ·
    have f9 := fnle rfl rfl c4
    refine g_iload_n C 0 dX9_leastWay_19 rfl ?_
    refine g_iload_n C 3 dX9_leastWay_20 rfl ?_
    refine g_icmp_eq C 40 dX9_leastWay_21 (by decide) (fun c10 => ?_) (fun c10 => ?_)
    ·
      have f11 := feq rfl rfl c10
      refine g_iconst C 0 dX9_leastWay_40 (by decide) ?_
      refine g_istore C [(4, .int 0), (3, .int x3_5), (2, .int x2_5), (0, .ref (ad 96)), (1, .int x)] dX9_leastWay_41 (by decide) rfl ?_
      refine g_iload C 0 dX9_leastWay_43 rfl ?_
      refine g_if_eq C 75 dX9_leastWay_45 (by decide) (fun _ => ?_) (fun c12 => absurd c12 (by decide))
      obtain ⟨v13, ev13⟩ : ∃ y : Int32, y = x3_5 + 1 := ⟨_, rfl⟩
      try have fv13 := fadd rfl (by decide : (1 : Int32).toInt = 1) ev13 (by omega) (by omega)
      refine g_iinc C 1 v13 [(3, .int v13), (4, .int 0), (2, .int x2_5), (0, .ref (ad 96)), (1, .int x)] dX9_leastWay_75 rfl (by rw [ev13]; rfl) (by decide) rfl ?_
      refine g_goto C 5 dX9_leastWay_78 (by decide) ?_
      refine g_lv [0, 2, 3, 4] [(3, .int v13), (2, .int x2_5), (0, .ref (ad 96)), (1, .int x)] rfl ?_
      exact ih_5 (v13, x2_5, M_5, L_5) ⟨by show 0 ≤ v13.toInt; omega, by show v13.toInt ≤ (M 1 0).toInt; omega, hI, hF, hG⟩ (by show (11 - v13.toInt).toNat < (11 - x3_5.toInt).toNat; omega)
    ·
      have f14 := fne rfl rfl c10
      refine g_aload_n C 2 dX9_leastWay_24 rfl ?_
      refine g_get C (.ref (ad 88)) 0 in_X9_leastWay_9 (List.mem_of_getElem? (i := 1) rfl) (by decide) (ce_ways ad cs _ _) rfl (by decide) rfl rfl dX9_leastWay_25 ?_
      refine g_get C (.ref (ad 90)) 5 in_X9_leastWay_6 (List.mem_of_getElem? (i := 4) rfl) (by decide) (ce_poll ad cs _ _) rfl (by decide) rfl rfl dX9_leastWay_28 ?_
      refine g_iload_n C 0 dX9_leastWay_31 rfl ?_
      have nx3_5 := ixn (x := x3_5) (by omega)
      refine g_zald C (by decide) (ce_pin ad cs _ _) (fin' (n := 10) rfl (by omega) (by omega)) dX9_leastWay_32 ?_
      refine g_ni (fun v15 ev15 => ?_)
      have gv15 : v15 = M 90 x3_5.toNatClampNeg := ev15.trans (hF 90 x3_5.toNatClampNeg trivial)
      have tv15 := congrArg Int32.toInt gv15
      refine g_if_eq C 40 dX9_leastWay_33 (by decide) (fun c16 => ?_) (fun c16 => ?_)
      ·
        have f17 := feq rfl (by decide : (0 : Int32).toInt = 0) c16
        refine g_iconst C 0 dX9_leastWay_40 (by decide) ?_
        refine g_istore C [(4, .int 0), (3, .int x3_5), (2, .int x2_5), (0, .ref (ad 96)), (1, .int x)] dX9_leastWay_41 (by decide) rfl ?_
        refine g_iload C 0 dX9_leastWay_43 rfl ?_
        refine g_if_eq C 75 dX9_leastWay_45 (by decide) (fun _ => ?_) (fun c18 => absurd c18 (by decide))
        obtain ⟨v19, ev19⟩ : ∃ y : Int32, y = x3_5 + 1 := ⟨_, rfl⟩
        try have fv19 := fadd rfl (by decide : (1 : Int32).toInt = 1) ev19 (by omega) (by omega)
        refine g_iinc C 1 v19 [(3, .int v19), (4, .int 0), (2, .int x2_5), (0, .ref (ad 96)), (1, .int x)] dX9_leastWay_75 rfl (by rw [ev19]; rfl) (by decide) rfl ?_
        refine g_goto C 5 dX9_leastWay_78 (by decide) ?_
        refine g_lv [0, 2, 3, 4] [(3, .int v19), (2, .int x2_5), (0, .ref (ad 96)), (1, .int x)] rfl ?_
        exact ih_5 (v19, x2_5, M_5, L_5) ⟨by show 0 ≤ v19.toInt; omega, by show v19.toInt ≤ (M 1 0).toInt; omega, hI, hF, hG⟩ (by show (11 - v19.toInt).toNat < (11 - x3_5.toInt).toNat; omega)
      ·
        have f20 := fne rfl (by decide : (0 : Int32).toInt = 0) c16
        refine g_iconst C 1 dX9_leastWay_36 (by decide) ?_
        refine g_goto C 41 dX9_leastWay_37 (by decide) ?_
        refine g_istore C [(4, .int 1), (3, .int x3_5), (2, .int x2_5), (0, .ref (ad 96)), (1, .int x)] dX9_leastWay_41 (by decide) rfl ?_
        refine g_iload C 0 dX9_leastWay_43 rfl ?_
        refine g_if_eq C 75 dX9_leastWay_45 (by decide) (fun c21 => absurd c21 (by decide)) (fun _ => ?_)
        refine g_iload_n C 2 dX9_leastWay_48 rfl ?_
        refine g_bipush C (-9) dX9_leastWay_49 (by decide) ?_
        refine g_icmp_eq C 66 dX9_leastWay_51 (by decide) (fun c22 => ?_) (fun c22 => ?_)
        ·
          have f23 := feq rfl (by decide : ((-9) : Int32).toInt = (-9)) c22
          refine g_aload_n C 3 dX9_leastWay_66 rfl ?_
          refine g_get C (.ref (ad 99)) 3 in_X9_leastWay_9 (List.mem_of_getElem? (i := 5) rfl) (by decide) (ce_ways ad cs _ _) rfl (by decide) rfl rfl dX9_leastWay_67 ?_
          refine g_iload_n C 4 dX9_leastWay_70 rfl ?_
          have hi24 : vp_in x 10 := (fin' (n := 10) rfl (by omega) (by omega))
          have nhi24 := tn hi24
          have mhi24 := ixn (x := x) (by omega)
          refine g_aald C (by decide) (ce_wwaym ad cs _ _) rfl hi24 dX9_leastWay_71 ?_
          refine g_iload_n C 1 dX9_leastWay_72 rfl ?_
          have nx3_5 := ixn (x := x3_5) (by omega)
          refine g_iald C (by omega) (ce_wway ad cs _ _ nhi24) (fin' (n := 10) rfl (by omega) (by omega)) dX9_leastWay_73 ?_
          refine g_ni (fun v25 ev25 => ?_)
          have gv25 := ev25.trans (hF (110 + x.toNatClampNeg) x3_5.toNatClampNeg trivial)
          have tv25 := congrArg Int32.toInt gv25
          refine g_istore_n C [(2, .int v25), (4, .int 1), (3, .int x3_5), (0, .ref (ad 96)), (1, .int x)] dX9_leastWay_74 (by decide) rfl ?_
          obtain ⟨v26, ev26⟩ : ∃ y : Int32, y = x3_5 + 1 := ⟨_, rfl⟩
          try have fv26 := fadd rfl (by decide : (1 : Int32).toInt = 1) ev26 (by omega) (by omega)
          refine g_iinc C 2 v26 [(3, .int v26), (2, .int v25), (4, .int 1), (0, .ref (ad 96)), (1, .int x)] dX9_leastWay_75 rfl (by rw [ev26]; rfl) (by decide) rfl ?_
          refine g_goto C 5 dX9_leastWay_78 (by decide) ?_
          refine g_lv [0, 1, 3, 4] [(3, .int v26), (2, .int v25), (0, .ref (ad 96)), (1, .int x)] rfl ?_
          exact ih_5 (v26, v25, M_5, L_5) ⟨by show 0 ≤ v26.toInt; omega, by show v26.toInt ≤ (M 1 0).toInt; omega, hI, hF, hG⟩ (by show (11 - v26.toInt).toNat < (11 - x3_5.toInt).toNat; omega)
        ·
          have f27 := fne rfl (by decide : ((-9) : Int32).toInt = (-9)) c22
          refine g_aload_n C 3 dX9_leastWay_54 rfl ?_
          refine g_get C (.ref (ad 99)) 3 in_X9_leastWay_9 (List.mem_of_getElem? (i := 5) rfl) (by decide) (ce_ways ad cs _ _) rfl (by decide) rfl rfl dX9_leastWay_55 ?_
          refine g_iload_n C 4 dX9_leastWay_58 rfl ?_
          have hi28 : vp_in x 10 := (fin' (n := 10) rfl (by omega) (by omega))
          have nhi28 := tn hi28
          have mhi28 := ixn (x := x) (by omega)
          refine g_aald C (by decide) (ce_wwaym ad cs _ _) rfl hi28 dX9_leastWay_59 ?_
          refine g_iload_n C 1 dX9_leastWay_60 rfl ?_
          have nx3_5 := ixn (x := x3_5) (by omega)
          refine g_iald C (by omega) (ce_wway ad cs _ _ nhi28) (fin' (n := 10) rfl (by omega) (by omega)) dX9_leastWay_61 ?_
          refine g_ni (fun v29 ev29 => ?_)
          have gv29 := ev29.trans (hF (110 + x.toNatClampNeg) x3_5.toNatClampNeg trivial)
          have tv29 := congrArg Int32.toInt gv29
          refine g_iload_n C 2 dX9_leastWay_62 rfl ?_
          refine g_icmp_ge C 75 dX9_leastWay_63 (by decide) (fun c30 => ?_) (fun c30 => ?_)
          ·
            have f31 := fle rfl rfl c30
            obtain ⟨v32, ev32⟩ : ∃ y : Int32, y = x3_5 + 1 := ⟨_, rfl⟩
            try have fv32 := fadd rfl (by decide : (1 : Int32).toInt = 1) ev32 (by omega) (by omega)
            refine g_iinc C 1 v32 [(3, .int v32), (4, .int 1), (2, .int x2_5), (0, .ref (ad 96)), (1, .int x)] dX9_leastWay_75 rfl (by rw [ev32]; rfl) (by decide) rfl ?_
            refine g_goto C 5 dX9_leastWay_78 (by decide) ?_
            refine g_lv [0, 2, 3, 4] [(3, .int v32), (2, .int x2_5), (0, .ref (ad 96)), (1, .int x)] rfl ?_
            exact ih_5 (v32, x2_5, M_5, L_5) ⟨by show 0 ≤ v32.toInt; omega, by show v32.toInt ≤ (M 1 0).toInt; omega, hI, hF, hG⟩ (by show (11 - v32.toInt).toNat < (11 - x3_5.toInt).toNat; omega)
          ·
            have f33 := fnle rfl rfl c30
            refine g_aload_n C 3 dX9_leastWay_66 rfl ?_
            refine g_get C (.ref (ad 99)) 3 in_X9_leastWay_9 (List.mem_of_getElem? (i := 5) rfl) (by decide) (ce_ways ad cs _ _) rfl (by decide) rfl rfl dX9_leastWay_67 ?_
            refine g_iload_n C 4 dX9_leastWay_70 rfl ?_
            have hi34 : vp_in x 10 := (fin' (n := 10) rfl (by omega) (by omega))
            have nhi34 := tn hi34
            have mhi34 := ixn (x := x) (by omega)
            refine g_aald C (by decide) (ce_wwaym ad cs _ _) rfl hi34 dX9_leastWay_71 ?_
            refine g_iload_n C 1 dX9_leastWay_72 rfl ?_
            have nx3_5 := ixn (x := x3_5) (by omega)
            refine g_iald C (by omega) (ce_wway ad cs _ _ nhi34) (fin' (n := 10) rfl (by omega) (by omega)) dX9_leastWay_73 ?_
            refine g_ni (fun v35 ev35 => ?_)
            have gv35 := ev35.trans (hF (110 + x.toNatClampNeg) x3_5.toNatClampNeg trivial)
            have tv35 := congrArg Int32.toInt gv35
            refine g_istore_n C [(2, .int v35), (4, .int 1), (3, .int x3_5), (0, .ref (ad 96)), (1, .int x)] dX9_leastWay_74 (by decide) rfl ?_
            obtain ⟨v36, ev36⟩ : ∃ y : Int32, y = x3_5 + 1 := ⟨_, rfl⟩
            try have fv36 := fadd rfl (by decide : (1 : Int32).toInt = 1) ev36 (by omega) (by omega)
            refine g_iinc C 2 v36 [(3, .int v36), (2, .int v35), (4, .int 1), (0, .ref (ad 96)), (1, .int x)] dX9_leastWay_75 rfl (by rw [ev36]; rfl) (by decide) rfl ?_
            refine g_goto C 5 dX9_leastWay_78 (by decide) ?_
            refine g_lv [0, 1, 3, 4] [(3, .int v36), (2, .int v35), (0, .ref (ad 96)), (1, .int x)] rfl ?_
            exact ih_5 (v36, v35, M_5, L_5) ⟨by show 0 ≤ v36.toInt; omega, by show v36.toInt ≤ (M 1 0).toInt; omega, hI, hF, hG⟩ (by show (11 - v36.toInt).toNat < (11 - x3_5.toInt).toNat; omega)
