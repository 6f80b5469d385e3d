set_option maxHeartbeats 4000000 in
set_option maxRecDepth 100000 in
theorem k_X10_count (l : Launch) (D : va_G) (ad : Nat → Nat) (cs : Nat → ClassId) (M : MI) (L : ML) (x : Int32) (y : Int32) (z : Int32) (hI : IC M) (hK : ∀ m, 0 ≤ (vC M 9 m).toInt ∧ (vC M 9 m).toInt ≤ 8) (hN : NOv (vC M)) (hB : b012 (vC M 13)) (h8 : ∀ i : Nat, (vC M 8 i).toInt = -9 ∨ (0 ≤ (vC M 8 i).toInt ∧ (vC M 8 i).toInt < (vC M 0 1).toInt)) (hS : ∀ b, 0 ≤ (vC M 2 b).toInt ∧ (vC M 2 b).toInt ≤ 3) (hP3 : ∀ b, 0 ≤ (vC M 3 b).toInt ∧ (vC M 3 b).toInt ≤ 100000) (hA3 : ∀ b : Nat, b < 60 → ∀ i : Nat, (i : Int) < (vC M 4 b).toInt → (vC M 5 (10 * b + i)).toInt < (vC M 0 0).toInt) (hdis : ∀ b : Nat, b < 60 → ∀ i j : Nat, i < j → (j : Int) < (vC M 4 b).toInt → (vC M 5 (10 * b + i)).toInt ≠ (vC M 5 (10 * b + j)).toInt) (hl4 : ∀ b : Nat, b < 60 → (vC M 4 b).toInt ≤ (vC M 0 0).toInt) (hrl : ∀ i, i < (M 1 0).toNatClampNeg → (M 2 i).toInt < ((M 1 0).toNatClampNeg : Int)) (hD : DP (vC M)) (h8k : hasM (vC M) x → (startV (vC M) x 13 x.toNatClampNeg).toInt = 1 → (vC M 9 x.toNatClampNeg).toInt ≠ 8) (hLS : LSc M) : Ci l yX10_count wsX10_count ({ frames := 6, cells := 0, slots := 0, locals := 161 }) D ad cs [.ref (ad 0), .int x, .int y, .int z] M L (fun r M1 L1 => ((A_count (vC M) x y z).2 = vC M1 ∧ ((A_count (vC M) x y z).1 ≠ 0 → r = (A_count (vC M) x y z).1 ∧ CDs M M1) ∧ ((A_count (vC M) x y z).1 = 0 → ∃ ok S R, OUT (A_count (vC M) x y z).2 (vC M 9 (x.toNatClampNeg)) y z ok S R ∧ (ok = true → r.toInt = (S.length : Int) ∧ CD M1 S R ∧ LSc M1) ∧ (ok = false → r = -6 ∧ CDs M M1))) ∧ IC M1 ∧ (∀ k i, ¬ (k = 0 ∧ i = 8) ∧ ¬ (k = 0 ∧ i = 9) ∧ ¬ (k = 0 ∧ i = 10) ∧ ¬ (k = 0 ∧ i = 11) ∧ k ≠ 83 ∧ k ≠ 87 ∧ k ≠ 257 ∧ ¬ (k = 88 ∧ i = 3) ∧ ¬ (k = 88 ∧ i = 4) ∧ k ≠ 89 ∧ k ≠ 90 ∧ k ≠ 94 ∧ k ≠ 95 ∧ k ≠ 97 ∧ ¬ (100 ≤ k ∧ k < 110) ∧ ¬ (110 ≤ k ∧ k < 120) ∧ k ≠ 123 ∧ ¬ (k = 125 ∧ i = 0) ∧ ¬ (k = 125 ∧ i = 2) ∧ ¬ (k = 191 ∧ i = 0) ∧ ¬ (k = 191 ∧ i = 2) ∧ k ≠ 126 ∧ k ≠ 127 ∧ k ≠ 128 ∧ k ≠ 192 ∧ k ≠ 193 ∧ k ≠ 194 → M1 k i = M k i) ∧ ∀ k i, k ≠ 91 ∧ k ≠ 92 ∧ k ≠ 121 ∧ k ≠ 122 ∧ ¬ (k = 124 ∧ i = 0) ∧ ¬ (k = 124 ∧ i = 1) ∧ ¬ (131 ≤ k ∧ k < 191) ∧ ¬ (197 ≤ k ∧ k < 257) → L1 k i = L k i) := by
  refine enter_i RX10 rfl [(0, .ref (ad 0)), (1, .int x), (2, .int y), (3, .int z)] rfl (Nat.le_of_ble_eq_true rfl) (by decide +kernel) rfl ?_
  intro p e s m below meth c C hr
  have hF : ∀ k i, ¬ (k = 0 ∧ i = 8) ∧ ¬ (k = 0 ∧ i = 9) ∧ ¬ (k = 0 ∧ i = 10) ∧ ¬ (k = 0 ∧ i = 11) ∧ k ≠ 83 ∧ k ≠ 87 ∧ k ≠ 257 ∧ ¬ (k = 88 ∧ i = 3) ∧ ¬ (k = 88 ∧ i = 4) ∧ k ≠ 89 ∧ k ≠ 90 ∧ k ≠ 94 ∧ k ≠ 95 ∧ k ≠ 97 ∧ ¬ (100 ≤ k ∧ k < 110) ∧ ¬ (110 ≤ k ∧ k < 120) ∧ k ≠ 123 ∧ ¬ (k = 125 ∧ i = 0) ∧ ¬ (k = 125 ∧ i = 2) ∧ ¬ (k = 191 ∧ i = 0) ∧ ¬ (k = 191 ∧ i = 2) ∧ k ≠ 126 ∧ k ≠ 127 ∧ k ≠ 128 ∧ k ≠ 192 ∧ k ≠ 193 ∧ k ≠ 194 → M k i = M k i := fun _ _ _ => rfl
  have hG : ∀ k i, k ≠ 91 ∧ k ≠ 92 ∧ k ≠ 121 ∧ k ≠ 122 ∧ ¬ (k = 124 ∧ i = 0) ∧ ¬ (k = 124 ∧ i = 1) ∧ ¬ (131 ≤ k ∧ k < 191) ∧ ¬ (197 ≤ k ∧ k < 257) → L k i = L k i := fun _ _ _ => rfl
  have w0 : (vC M 0 0).toInt = (M 1 0).toInt := rfl
  have w1 : (vC M 0 1).toInt = (M 3 0).toInt := rfl
  have w2 : (vC M 0 2).toInt = (M 68 0).toInt := rfl
  have w3 : (vC M 0 3).toInt = (M 81 0).toInt := rfl
  obtain ⟨y0a, y0b⟩ := (show rg 0 10 (M 1 0) from hI 1 0 rfl)
  obtain ⟨y1a, y1b⟩ := (show rg 0 60 (M 3 0) from hI 3 0 rfl)
  obtain ⟨y2a, y2b⟩ := (show rg 0 8 (M 68 0) from hI 68 0 rfl)
  obtain ⟨y3a, y3b⟩ := (show rg 0 20 (M 81 0) from hI 81 0 rfl)
  have hI0 := hI
  have hKx := hK x.toNatClampNeg
  have k0_8 : M 0 8 = M 0 8 := rfl
  have k0_9 : M 0 9 = M 0 9 := rfl
  have k0_10 : M 0 10 = vC M 0 5 := rfl
  have k0_11 : M 0 11 = vC M 0 4 := rfl
  have k88_3 : M 88 3 = M 88 3 := rfl
  have k88_4 : M 88 4 = M 88 4 := rfl
  have k125_0 : M 125 0 = M 125 0 := rfl
  have k125_2 : M 125 2 = M 125 2 := rfl
  have k191_0 : M 191 0 = M 191 0 := rfl
  have k191_2 : M 191 2 = M 191 2 := rfl
  have l124_0 : L 124 0 = L 124 0 := rfl
  have l124_1 : L 124 1 = L 124 1 := rfl
  have p91 : L 91 = L 91 := rfl
  have p92 : L 92 = L 92 := rfl
  have p121 : L 121 = L 121 := rfl
  have p122 : L 122 = L 122 := rfl
  have q83 : M 83 = M 83 := rfl
  have q87 : M 87 = M 87 := rfl
  have q89 : M 89 = M 89 := rfl
  have q90 : M 90 = M 90 := rfl
  have q94 : M 94 = M 94 := rfl
  have q95 : M 95 = M 95 := rfl
  have q97 : M 97 = M 97 := rfl
  have q123 : M 123 = M 123 := rfl
  have q126 : M 126 = M 126 := rfl
  have q127 : M 127 = M 127 := rfl
  have q128 : M 128 = M 128 := rfl
  have q192 : M 192 = M 192 := rfl
  have q193 : M 193 = M 193 := rfl
  have q194 : M 194 = M 194 := rfl
  have q257 : M 257 = M 257 := rfl
  have q100 : ∀ k, 100 ≤ k ∧ k < 110 → M k = M k := fun _ _ => rfl
  have q110 : ∀ k, 110 ≤ k ∧ k < 120 → M k = M k := fun _ _ => rfl
  have hV : vC M = vC M := rfl
  refine g_aload_n C 0 dX10_count_0 rfl ?_
  refine g_bipush C (-9) dX10_count_1 (by decide) ?_
  refine g_putI C 10 in_X10_count_10 (List.mem_of_getElem? (i := 1) rfl) (by decide) (ce_house ad cs _ _) rfl (by decide) rfl tyX10 tyX10_ok nmX10 rfl rfl rfl rfl (Nat.le_of_ble_eq_true rfl) (by rw [sI_k]; rfl) dX10_count_3 ?_
  refine g_nm (fun M1 hM1 => ?_)
  have zy2 : ((-9) : Int32).toInt = (-9) := by decide
  have hI : IC M1 := by rw [hM1]; exact hI.st (by intro h; rcases h with h | h <;> exact absurd h (by decide))
  have hF : ∀ k i, ¬ (k = 0 ∧ i = 8) ∧ ¬ (k = 0 ∧ i = 9) ∧ ¬ (k = 0 ∧ i = 10) ∧ ¬ (k = 0 ∧ i = 11) ∧ k ≠ 83 ∧ k ≠ 87 ∧ k ≠ 257 ∧ ¬ (k = 88 ∧ i = 3) ∧ ¬ (k = 88 ∧ i = 4) ∧ k ≠ 89 ∧ k ≠ 90 ∧ k ≠ 94 ∧ k ≠ 95 ∧ k ≠ 97 ∧ ¬ (100 ≤ k ∧ k < 110) ∧ ¬ (110 ≤ k ∧ k < 120) ∧ k ≠ 123 ∧ ¬ (k = 125 ∧ i = 0) ∧ ¬ (k = 125 ∧ i = 2) ∧ ¬ (k = 191 ∧ i = 0) ∧ ¬ (k = 191 ∧ i = 2) ∧ k ≠ 126 ∧ k ≠ 127 ∧ k ≠ 128 ∧ k ≠ 192 ∧ k ≠ 193 ∧ k ≠ 194 → M1 k i = M k i := fun k i hk => by (rw [hM1, sI_at, if_neg (by omega)]; try exact hF k i hk)
  have k0_8 : M1 0 8 = M 0 8 := by rw [hM1, sI_at, if_neg (by decide)]; try exact k0_8
  have k0_9 : M1 0 9 = M 0 9 := by rw [hM1, sI_at, if_neg (by decide)]; try exact k0_9
  have k0_11 : M1 0 11 = vC M 0 4 := by rw [hM1, sI_at, if_neg (by decide)]; try exact k0_11
  have k88_3 : M1 88 3 = M 88 3 := by rw [hM1, sI_at, if_neg (by decide)]; try exact k88_3
  have k88_4 : M1 88 4 = M 88 4 := by rw [hM1, sI_at, if_neg (by decide)]; try exact k88_4
  have k125_0 : M1 125 0 = M 125 0 := by rw [hM1, sI_at, if_neg (by decide)]; try exact k125_0
  have k125_2 : M1 125 2 = M 125 2 := by rw [hM1, sI_at, if_neg (by decide)]; try exact k125_2
  have k191_0 : M1 191 0 = M 191 0 := by rw [hM1, sI_at, if_neg (by decide)]; try exact k191_0
  have k191_2 : M1 191 2 = M 191 2 := by rw [hM1, sI_at, if_neg (by decide)]; try exact k191_2
  have k0_10 : M1 0 10 = (-9) := by rw [hM1, sI_at, if_pos (by decide)]
  have q83 : M1 83 = M 83 := by rw [hM1, sI_n _ _ _ (by decide)]; try exact q83
  have q87 : M1 87 = M 87 := by rw [hM1, sI_n _ _ _ (by decide)]; try exact q87
  have q89 : M1 89 = M 89 := by rw [hM1, sI_n _ _ _ (by decide)]; try exact q89
  have q90 : M1 90 = M 90 := by rw [hM1, sI_n _ _ _ (by decide)]; try exact q90
  have q94 : M1 94 = M 94 := by rw [hM1, sI_n _ _ _ (by decide)]; try exact q94
  have q95 : M1 95 = M 95 := by rw [hM1, sI_n _ _ _ (by decide)]; try exact q95
  have q97 : M1 97 = M 97 := by rw [hM1, sI_n _ _ _ (by decide)]; try exact q97
  have q123 : M1 123 = M 123 := by rw [hM1, sI_n _ _ _ (by decide)]; try exact q123
  have q126 : M1 126 = M 126 := by rw [hM1, sI_n _ _ _ (by decide)]; try exact q126
  have q127 : M1 127 = M 127 := by rw [hM1, sI_n _ _ _ (by decide)]; try exact q127
  have q128 : M1 128 = M 128 := by rw [hM1, sI_n _ _ _ (by decide)]; try exact q128
  have q192 : M1 192 = M 192 := by rw [hM1, sI_n _ _ _ (by decide)]; try exact q192
  have q193 : M1 193 = M 193 := by rw [hM1, sI_n _ _ _ (by decide)]; try exact q193
  have q194 : M1 194 = M 194 := by rw [hM1, sI_n _ _ _ (by decide)]; try exact q194
  have q257 : M1 257 = M 257 := by rw [hM1, sI_n _ _ _ (by decide)]; try exact q257
  have q100 : ∀ k, 100 ≤ k ∧ k < 110 → M1 k = M k := fun k hk => by rw [hM1, sI_n _ _ _ (by omega)]; try exact q100 k hk
  have q110 : ∀ k, 110 ≤ k ∧ k < 120 → M1 k = M k := fun k hk => by rw [hM1, sI_n _ _ _ (by omega)]; try exact q110 k hk
  have hV : vC M1 = sI (vC M) 0 5 ((-9)) := by rw [hM1, vC_s (c := 5) (by decide), hV]
  have hN1 : NOv (vC M1) := by rw [hV]; exact NOv_w hN _
  have eS : startV (vC M1) x = sI (startV (vC M) x) 0 5 (-9) := by rw [hV, startV_w]
  have x0 : (vC M1 0 0).toInt = (vC M 0 0).toInt := by rw [hV, sI_at, if_neg (by decide)]
  have x2 : (vC M1 0 2).toInt = (vC M 0 2).toInt := by rw [hV, sI_at, if_neg (by decide)]
  have x3 : (vC M1 0 3).toInt = (vC M 0 3).toInt := by rw [hV, sI_at, if_neg (by decide)]
  refine g_aload_n C 0 dX10_count_6 rfl ?_
  refine g_get C (.ref (ad 81)) 3 in_X10_count_10 (List.mem_of_getElem? (i := 2) rfl) (by decide) (ce_house ad cs _ _) rfl (by decide) rfl rfl dX10_count_7 ?_
  refine g_iload_n C 1 dX10_count_10 rfl ?_
  refine g_callVi C (n := 1) (As := [.int x]) (st := []) (c_X4_has l D ad cs _ _ x ) gX10_count_X4_has rfl rfl rfl (by decide +kernel) ⟨Nat.le_of_ble_eq_true rfl, Nat.le_of_ble_eq_true rfl⟩ rfl (Nat.le_of_ble_eq_true rfl) ⟨Nat.zero_le _, Nat.zero_le _⟩ (by decide) (ce_meth ad cs _ _) rfl rfl dX10_count_11 (fun r3 M4 L5 hr3 => ?_)
  obtain ⟨hq1, hq2, hr3⟩ := hr3
  obtain rfl := hq1.symm
  obtain rfl := hq2.symm
  have hr3 := zo_has hr3
  rw [show M1 81 0 = M 81 0 from hF 81 0 (by omega)] at hr3
  obtain ⟨bar3, bbr3⟩ := zo_b hr3
  refine g_if_eq C 45 dX10_count_14 (by decide) (fun c6 => ?_) (fun c6 => ?_)
  ·
    have f7 := feq rfl (by decide : (0 : Int32).toInt = 0) c6
    have pr3 := zo_f hr3 c6
    try dsimp only [hasC, hasB, hasX, hasM, ofS, ofK, bt] at pr3
    refine g_iconst C (-1) dX10_count_45 (by decide) ?_
    have hA : A_count (vC M) x y z = (-1, sI (vC M) 0 5 (-9)) := by dsimp only [A_count, hasM, hasX, seatsOk, bt]; (repeat (first | rw [if_pos (by omega)] | rw [if_neg (by omega)]))
    have zr9 : ((-1) : Int32).toInt = (-1) := by decide
    exact g_iret C hr ⟨⟨by rw [hA, hV], fun _ => ⟨by rw [hA], CDs_of (hI0 0 8 (Or.inl rfl)) k0_8 k0_9 ⟨k125_0, q126, k125_2, q127, q128⟩ ⟨k191_0, q192, k191_2, q193, q194⟩⟩, fun h => absurd h (by rw [hA]; show ¬ (-1 : Int32) = 0; decide)⟩, hI, hF, hG⟩ dX10_count_46
  ·
    have f8 := fne rfl (by decide : (0 : Int32).toInt = 0) c6
    have pr3 := zo_t hr3 c6
    try dsimp only [hasC, hasB, hasX, hasM, ofS, ofK, bt] at pr3
    refine g_aload_n C 0 dX10_count_17 rfl ?_
    refine g_get C (.ref (ad 68)) 2 in_X10_count_10 (List.mem_of_getElem? (i := 3) rfl) (by decide) (ce_house ad cs _ _) rfl (by decide) rfl rfl dX10_count_18 ?_
    refine g_iload_n C 2 dX10_count_21 rfl ?_
    refine g_callVi C (n := 1) (As := [.int y]) (st := []) (c_X1_has l D ad cs _ _ y ) gX10_count_X1_has rfl rfl rfl (by decide +kernel) ⟨Nat.le_of_ble_eq_true rfl, Nat.le_of_ble_eq_true rfl⟩ rfl (Nat.le_of_ble_eq_true rfl) ⟨Nat.zero_le _, Nat.zero_le _⟩ (by decide) (ce_box ad cs _ _) rfl rfl dX10_count_22 (fun r9 M10 L11 hr9 => ?_)
    obtain ⟨hq1, hq2, hr9⟩ := hr9
    obtain rfl := hq1.symm
    obtain rfl := hq2.symm
    have hr9 := zo_has hr9
    rw [show M1 68 0 = M 68 0 from hF 68 0 (by omega)] at hr9
    obtain ⟨bar9, bbr9⟩ := zo_b hr9
    refine g_if_eq C 45 dX10_count_25 (by decide) (fun c12 => ?_) (fun c12 => ?_)
    ·
      have f13 := feq rfl (by decide : (0 : Int32).toInt = 0) c12
      have pr9 := zo_f hr9 c12
      try dsimp only [hasC, hasB, hasX, hasM, ofS, ofK, bt] at pr9
      refine g_iconst C (-1) dX10_count_45 (by decide) ?_
      have hA : A_count (vC M) x y z = (-1, sI (vC M) 0 5 (-9)) := by dsimp only [A_count, hasM, hasX, seatsOk, bt]; (repeat (first | rw [if_pos (by omega)] | rw [if_neg (by omega)]))
      have zr9 : ((-1) : Int32).toInt = (-1) := by decide
      exact g_iret C hr ⟨⟨by rw [hA, hV], fun _ => ⟨by rw [hA], CDs_of (hI0 0 8 (Or.inl rfl)) k0_8 k0_9 ⟨k125_0, q126, k125_2, q127, q128⟩ ⟨k191_0, q192, k191_2, q193, q194⟩⟩, fun h => absurd h (by rw [hA]; show ¬ (-1 : Int32) = 0; decide)⟩, hI, hF, hG⟩ dX10_count_46
    ·
      have f14 := fne rfl (by decide : (0 : Int32).toInt = 0) c12
      have pr9 := zo_t hr9 c12
      try dsimp only [hasC, hasB, hasX, hasM, ofS, ofK, bt] at pr9
      refine g_aload_n C 0 dX10_count_28 rfl ?_
      refine g_aload_n C 0 dX10_count_29 rfl ?_
      refine g_get C (.ref (ad 81)) 3 in_X10_count_10 (List.mem_of_getElem? (i := 2) rfl) (by decide) (ce_house ad cs _ _) rfl (by decide) rfl rfl dX10_count_30 ?_
      refine g_get C (.ref (ad 82)) 1 in_X10_count_4 (List.mem_of_getElem? (i := 4) rfl) (by decide) (ce_meth ad cs _ _) rfl (by decide) rfl rfl dX10_count_33 ?_
      refine g_iload_n C 1 dX10_count_36 rfl ?_
      have nx := ixn (x := x) (by omega)
      refine g_iald C (by decide) (ce_mkind ad cs _ _) (fin' (n := 20) rfl (by omega) (by omega)) dX10_count_37 ?_
      refine g_ni (fun v15 ev15 => ?_)
      have gv15 : v15 = vC M 9 x.toNatClampNeg := ev15.trans (hF 82 x.toNatClampNeg (by omega))
      have tv15 := congrArg Int32.toInt gv15
      refine g_iload_n C 3 dX10_count_38 rfl ?_
      refine g_callVi C (n := 2) (As := [.int v15, .int z]) (st := []) (v_X10_maySeat l D ad cs _ _ v15 z hI ⟨by omega, by omega⟩) gX10_count_X10_maySeat rfl rfl rfl (by decide +kernel) ⟨Nat.le_of_ble_eq_true rfl, Nat.le_of_ble_eq_true rfl⟩ rfl (Nat.le_of_ble_eq_true rfl) ⟨Nat.zero_le _, Nat.zero_le _⟩ (by decide) (ce_house ad cs _ _) rfl rfl dX10_count_39 (fun r16 M17 L18 hr16 => ?_)
      obtain ⟨hq1, hq2, hr16⟩ := hr16
      obtain rfl := hq1.symm
      obtain rfl := hq2.symm
      dsimp only [seatsOk, bt] at hr16
      obtain ⟨bar16, bbr16⟩ := zo_b hr16
      refine g_if_ne C 47 dX10_count_42 (by decide) (fun c19 => ?_) (fun c19 => ?_)
      ·
        have f20 := fne rfl (by decide : (0 : Int32).toInt = 0) c19
        have pr16 := zo_t hr16 c19
        try dsimp only [hasC, hasB, hasX, hasM, ofS, ofK, bt] at pr16
        refine g_aload_n C 0 dX10_count_47 rfl ?_
        refine g_get C (.ref (ad 81)) 3 in_X10_count_10 (List.mem_of_getElem? (i := 2) rfl) (by decide) (ce_house ad cs _ _) rfl (by decide) rfl rfl dX10_count_48 ?_
        refine g_iload_n C 1 dX10_count_51 rfl ?_
        refine g_callVi C (n := 1) (As := [.int x]) (st := []) (v_X4_begin l D ad cs _ _ x hI ⟨by omega, by omega⟩ hN1) gX10_count_X4_begin rfl rfl rfl (by decide +kernel) ⟨Nat.le_of_ble_eq_true rfl, Nat.le_of_ble_eq_true rfl⟩ rfl (Nat.le_of_ble_eq_true rfl) ⟨Nat.zero_le _, Nat.zero_le _⟩ (by decide) (ce_meth ad cs _ _) rfl rfl dX10_count_52 (fun r21 M22 L23 hr21 => ?_)
        obtain ⟨hr21, hI, hFr21, hGr21⟩ := hr21
        have hF : ∀ k i, ¬ (k = 0 ∧ i = 8) ∧ ¬ (k = 0 ∧ i = 9) ∧ ¬ (k = 0 ∧ i = 10) ∧ ¬ (k = 0 ∧ i = 11) ∧ k ≠ 83 ∧ k ≠ 87 ∧ k ≠ 257 ∧ ¬ (k = 88 ∧ i = 3) ∧ ¬ (k = 88 ∧ i = 4) ∧ k ≠ 89 ∧ k ≠ 90 ∧ k ≠ 94 ∧ k ≠ 95 ∧ k ≠ 97 ∧ ¬ (100 ≤ k ∧ k < 110) ∧ ¬ (110 ≤ k ∧ k < 120) ∧ k ≠ 123 ∧ ¬ (k = 125 ∧ i = 0) ∧ ¬ (k = 125 ∧ i = 2) ∧ ¬ (k = 191 ∧ i = 0) ∧ ¬ (k = 191 ∧ i = 2) ∧ k ≠ 126 ∧ k ≠ 127 ∧ k ≠ 128 ∧ k ≠ 192 ∧ k ≠ 193 ∧ k ≠ 194 → M22 k i = M k i := fun k i hk => by (rw [hFr21 k i (by omega)]; try exact hF k i hk)
        have hG : ∀ k i, k ≠ 91 ∧ k ≠ 92 ∧ k ≠ 121 ∧ k ≠ 122 ∧ ¬ (k = 124 ∧ i = 0) ∧ ¬ (k = 124 ∧ i = 1) ∧ ¬ (131 ≤ k ∧ k < 191) ∧ ¬ (197 ≤ k ∧ k < 257) → L23 k i = L k i := fun k i hk => by (rw [hGr21 k i trivial]; try exact hG k i hk)
        have hV : vC M22 = startV (sI (vC M) 0 5 ((-9))) x := by rw [hr21.1, hV]
        have k0_8 : M22 0 8 = M 0 8 := (hFr21 0 8 (by omega)).trans k0_8
        have k0_9 : M22 0 9 = M 0 9 := (hFr21 0 9 (by omega)).trans k0_9
        have k0_10 : M22 0 10 = (-9) := (hFr21 0 10 (by omega)).trans k0_10
        have k0_11 : M22 0 11 = vC M 0 4 := (hFr21 0 11 (by omega)).trans k0_11
        have k88_3 : M22 88 3 = M 88 3 := (hFr21 88 3 (by omega)).trans k88_3
        have k88_4 : M22 88 4 = M 88 4 := (hFr21 88 4 (by omega)).trans k88_4
        have k125_0 : M22 125 0 = M 125 0 := (hFr21 125 0 (by omega)).trans k125_0
        have k125_2 : M22 125 2 = M 125 2 := (hFr21 125 2 (by omega)).trans k125_2
        have k191_0 : M22 191 0 = M 191 0 := (hFr21 191 0 (by omega)).trans k191_0
        have k191_2 : M22 191 2 = M 191 2 := (hFr21 191 2 (by omega)).trans k191_2
        have l124_0 : L23 124 0 = L 124 0 := (hGr21 124 0 trivial).trans l124_0
        have l124_1 : L23 124 1 = L 124 1 := (hGr21 124 1 trivial).trans l124_1
        have p91 : L23 91 = L 91 := (funext (fun i => hGr21 91 i trivial)).trans p91
        have p92 : L23 92 = L 92 := (funext (fun i => hGr21 92 i trivial)).trans p92
        have p121 : L23 121 = L 121 := (funext (fun i => hGr21 121 i trivial)).trans p121
        have p122 : L23 122 = L 122 := (funext (fun i => hGr21 122 i trivial)).trans p122
        have q100 : ∀ k, 100 ≤ k ∧ k < 110 → M22 k = M k := fun k hk => (funext (fun i => hFr21 k i (by omega))).trans (q100 k hk)
        have q110 : ∀ k, 110 ≤ k ∧ k < 120 → M22 k = M k := fun k hk => (funext (fun i => hFr21 k i (by omega))).trans (q110 k hk)
        have q83 : M22 83 = M22 83 := rfl
        have q87 : M22 87 = M22 87 := rfl
        have q89 : M22 89 = M 89 := (funext (fun i => hFr21 89 i (by omega))).trans q89
        have q90 : M22 90 = M 90 := (funext (fun i => hFr21 90 i (by omega))).trans q90
        have q94 : M22 94 = M 94 := (funext (fun i => hFr21 94 i (by omega))).trans q94
        have q95 : M22 95 = M 95 := (funext (fun i => hFr21 95 i (by omega))).trans q95
        have q97 : M22 97 = M 97 := (funext (fun i => hFr21 97 i (by omega))).trans q97
        have q123 : M22 123 = M 123 := (funext (fun i => hFr21 123 i (by omega))).trans q123
        have q126 : M22 126 = M 126 := (funext (fun i => hFr21 126 i (by omega))).trans q126
        have q127 : M22 127 = M 127 := (funext (fun i => hFr21 127 i (by omega))).trans q127
        have q128 : M22 128 = M 128 := (funext (fun i => hFr21 128 i (by omega))).trans q128
        have q192 : M22 192 = M 192 := (funext (fun i => hFr21 192 i (by omega))).trans q192
        have q193 : M22 193 = M 193 := (funext (fun i => hFr21 193 i (by omega))).trans q193
        have q194 : M22 194 = M 194 := (funext (fun i => hFr21 194 i (by omega))).trans q194
        have q257 : M22 257 = M 257 := (funext (fun i => hFr21 257 i (by omega))).trans q257
        obtain ⟨hr21v, hr21⟩ := hr21
        rw [eS] at hr21 hr21v
        rw [sI_n _ _ _ (by decide)] at hr21
        have tr21 := congrArg Int32.toInt hr21
        have h12 := start12 (V := vC M) hB (m := x) (by omega)
        have hV : vC M22 = sI (startV (vC M) x) 0 5 (-9) := hr21v
        have y8 : vC M22 8 = vC M 8 := by rw [hV, sI_n _ _ _ (by decide)]; rfl
        have y2 : vC M22 2 = vC M 2 := by rw [hV, sI_n _ _ _ (by decide)]; rfl
        have y7 : vC M22 7 = vC M 7 := by rw [hV, sI_n _ _ _ (by decide)]; rfl
        have y02 : (vC M22 0 2).toInt = (vC M 0 2).toInt := by rw [hV, sI_at, if_neg (by decide)]; rfl
        have y01 : vC M22 0 1 = vC M 0 1 := by rw [hV, sI_at, if_neg (by decide)]; rfl
        refine g_iconst C 1 dX10_count_55 (by decide) ?_
        refine g_icmp_eq C 62 dX10_count_56 (by decide) (fun c24 => ?_) (fun c24 => ?_)
        ·
          have f25 := feq rfl (by decide : (1 : Int32).toInt = 1) c24
          refine g_aload_n C 0 dX10_count_62 rfl ?_
          refine g_get C (.ref (ad 81)) 3 in_X10_count_10 (List.mem_of_getElem? (i := 2) rfl) (by decide) (ce_house ad cs _ _) rfl (by decide) rfl rfl dX10_count_63 ?_
          refine g_get C (.ref (ad 82)) 1 in_X10_count_4 (List.mem_of_getElem? (i := 4) rfl) (by decide) (ce_meth ad cs _ _) rfl (by decide) rfl rfl dX10_count_66 ?_
          refine g_iload_n C 1 dX10_count_69 rfl ?_
          have nx := ixn (x := x) (by omega)
          refine g_iald C (by decide) (ce_mkind ad cs _ _) (fin' (n := 20) rfl (by omega) (by omega)) dX10_count_70 ?_
          refine g_ni (fun v26 ev26 => ?_)
          have gv26 : v26 = vC M 9 x.toNatClampNeg := ev26.trans (hF 82 x.toNatClampNeg (by omega))
          have tv26 := congrArg Int32.toInt gv26
          refine g_istore C [(4, .int v26), (0, .ref (ad 0)), (1, .int x), (2, .int y), (3, .int z)] dX10_count_71 (by decide) rfl ?_
          refine g_aload_n C 1 dX10_count_73 rfl ?_
          refine g_aload_n C 1 dX10_count_74 rfl ?_
          refine g_iload_n C 3 dX10_count_75 rfl ?_
          refine g_iload C 0 dX10_count_76 rfl ?_
          refine g_iconst C 1 dX10_count_78 (by decide) ?_
          refine g_icmp_ne C 86 dX10_count_79 (by decide) (fun c27 => ?_) (fun c27 => ?_)
          ·
            have f28 := fne rfl (by decide : (1 : Int32).toInt = 1) c27
            refine g_iconst C 1 dX10_count_86 (by decide) ?_
            refine g_callVi C (n := 2) (As := [.int y, .int 1]) (st := [.ref (ad 0)]) (v_X10_firstUnlike l D ad cs _ _ y 1 hI ⟨by omega, by omega⟩ (by decide) (by rw [y8, y01]; exact h8) (by rw [y2]; exact hS)) gX10_count_X10_firstUnlike rfl rfl rfl (by decide +kernel) ⟨Nat.le_of_ble_eq_true rfl, Nat.le_of_ble_eq_true rfl⟩ rfl (Nat.le_of_ble_eq_true rfl) ⟨Nat.zero_le _, Nat.zero_le _⟩ (by decide) (ce_house ad cs _ _) rfl rfl dX10_count_87 (fun r29 M30 L31 hr29 => ?_)
            obtain ⟨hq1, hq2, hr29⟩ := hr29
            obtain rfl := hq1.symm
            obtain rfl := hq2.symm
            have hr29 : r29 = unV (vC M) y (vC M 9 x.toNatClampNeg) := by rw [hr29, y7, unF_ext y8 y2]; show _ = unF (vC M) y.toNatClampNeg (if (vC M 9 x.toNatClampNeg).toInt = 1 then 3 else 1) _ 0; first | rw [if_pos (by omega)] | rw [if_neg (by omega)]
            have tr29 := congrArg Int32.toInt hr29
            refine g_putI C 10 in_X10_count_10 (List.mem_of_getElem? (i := 1) rfl) (by decide) (ce_house ad cs _ _) rfl (by decide) rfl tyX10 tyX10_ok nmX10 rfl rfl rfl rfl (Nat.le_of_ble_eq_true rfl) (by rw [sI_k]; rfl) dX10_count_90 ?_
            refine g_nm (fun M32 hM32 => ?_)
            have hI : IC M32 := by rw [hM32]; exact hI.st (by intro h; rcases h with h | h <;> exact absurd h (by decide))
            have hF : ∀ k i, ¬ (k = 0 ∧ i = 8) ∧ ¬ (k = 0 ∧ i = 9) ∧ ¬ (k = 0 ∧ i = 10) ∧ ¬ (k = 0 ∧ i = 11) ∧ k ≠ 83 ∧ k ≠ 87 ∧ k ≠ 257 ∧ ¬ (k = 88 ∧ i = 3) ∧ ¬ (k = 88 ∧ i = 4) ∧ k ≠ 89 ∧ k ≠ 90 ∧ k ≠ 94 ∧ k ≠ 95 ∧ k ≠ 97 ∧ ¬ (100 ≤ k ∧ k < 110) ∧ ¬ (110 ≤ k ∧ k < 120) ∧ k ≠ 123 ∧ ¬ (k = 125 ∧ i = 0) ∧ ¬ (k = 125 ∧ i = 2) ∧ ¬ (k = 191 ∧ i = 0) ∧ ¬ (k = 191 ∧ i = 2) ∧ k ≠ 126 ∧ k ≠ 127 ∧ k ≠ 128 ∧ k ≠ 192 ∧ k ≠ 193 ∧ k ≠ 194 → M32 k i = M k i := fun k i hk => by (rw [hM32, sI_at, if_neg (by omega)]; try exact hF k i hk)
            have k0_8 : M32 0 8 = M 0 8 := by rw [hM32, sI_at, if_neg (by decide)]; try exact k0_8
            have k0_9 : M32 0 9 = M 0 9 := by rw [hM32, sI_at, if_neg (by decide)]; try exact k0_9
            have k0_11 : M32 0 11 = vC M 0 4 := by rw [hM32, sI_at, if_neg (by decide)]; try exact k0_11
            have k88_3 : M32 88 3 = M 88 3 := by rw [hM32, sI_at, if_neg (by decide)]; try exact k88_3
            have k88_4 : M32 88 4 = M 88 4 := by rw [hM32, sI_at, if_neg (by decide)]; try exact k88_4
            have k125_0 : M32 125 0 = M 125 0 := by rw [hM32, sI_at, if_neg (by decide)]; try exact k125_0
            have k125_2 : M32 125 2 = M 125 2 := by rw [hM32, sI_at, if_neg (by decide)]; try exact k125_2
            have k191_0 : M32 191 0 = M 191 0 := by rw [hM32, sI_at, if_neg (by decide)]; try exact k191_0
            have k191_2 : M32 191 2 = M 191 2 := by rw [hM32, sI_at, if_neg (by decide)]; try exact k191_2
            have k0_10 : M32 0 10 = r29 := by rw [hM32, sI_at, if_pos (by decide)]
            have q83 : M32 83 = M22 83 := by rw [hM32, sI_n _ _ _ (by decide)]; try exact q83
            have q87 : M32 87 = M22 87 := by rw [hM32, sI_n _ _ _ (by decide)]; try exact q87
            have q89 : M32 89 = M 89 := by rw [hM32, sI_n _ _ _ (by decide)]; try exact q89
            have q90 : M32 90 = M 90 := by rw [hM32, sI_n _ _ _ (by decide)]; try exact q90
            have q94 : M32 94 = M 94 := by rw [hM32, sI_n _ _ _ (by decide)]; try exact q94
            have q95 : M32 95 = M 95 := by rw [hM32, sI_n _ _ _ (by decide)]; try exact q95
            have q97 : M32 97 = M 97 := by rw [hM32, sI_n _ _ _ (by decide)]; try exact q97
            have q123 : M32 123 = M 123 := by rw [hM32, sI_n _ _ _ (by decide)]; try exact q123
            have q126 : M32 126 = M 126 := by rw [hM32, sI_n _ _ _ (by decide)]; try exact q126
            have q127 : M32 127 = M 127 := by rw [hM32, sI_n _ _ _ (by decide)]; try exact q127
            have q128 : M32 128 = M 128 := by rw [hM32, sI_n _ _ _ (by decide)]; try exact q128
            have q192 : M32 192 = M 192 := by rw [hM32, sI_n _ _ _ (by decide)]; try exact q192
            have q193 : M32 193 = M 193 := by rw [hM32, sI_n _ _ _ (by decide)]; try exact q193
            have q194 : M32 194 = M 194 := by rw [hM32, sI_n _ _ _ (by decide)]; try exact q194
            have q257 : M32 257 = M 257 := by rw [hM32, sI_n _ _ _ (by decide)]; try exact q257
            have q100 : ∀ k, 100 ≤ k ∧ k < 110 → M32 k = M k := fun k hk => by rw [hM32, sI_n _ _ _ (by omega)]; try exact q100 k hk
            have q110 : ∀ k, 110 ≤ k ∧ k < 120 → M32 k = M k := fun k hk => by rw [hM32, sI_n _ _ _ (by omega)]; try exact q110 k hk
            have hV : vC M32 = sI (sI (startV (vC M) x) 0 5 (-9)) 0 5 r29 := by rw [hM32, vC_s (c := 5) (by decide), hV]
            refine g_aload_n C 1 dX10_count_93 rfl ?_
            refine g_get C (.int (M32 0 10)) 10 in_X10_count_10 (List.mem_of_getElem? (i := 1) rfl) (by decide) (ce_house ad cs _ _) rfl (by decide) rfl rfl dX10_count_94 ?_
            refine g_ni (fun v33 ev33 => ?_)
            have gv33 : v33 = r29 := ev33.trans k0_10
            have tv33 := congrArg Int32.toInt gv33
            refine g_bipush C (-9) dX10_count_97 (by decide) ?_
            refine g_icmp_eq C 108 dX10_count_99 (by decide) (fun c34 => ?_) (fun c34 => ?_)
            ·
              have f35 := feq rfl (by decide : ((-9) : Int32).toInt = (-9)) c34
              rcases (hI0 0 8 (Or.inl rfl)) with hg8 | hg8
              ·
                rcases (hI0 0 9 (Or.inr rfl)) with hg9 | hg9
                ·
                  exact absurd (hg8.trans hg9.symm) hLS
                ·
                  refine g_aload_n C 1 dX10_count_108 rfl ?_
                  refine g_get C (.ref (ad 88)) 4 in_X10_count_10 (List.mem_of_getElem? (i := 5) rfl) (by decide) (ce_house ad cs _ _) rfl (by decide) rfl rfl dX10_count_109 ?_
                  refine g_aload_n C 1 dX10_count_112 rfl ?_
                  refine g_get C (.ref (ad 68)) 2 in_X10_count_10 (List.mem_of_getElem? (i := 3) rfl) (by decide) (ce_house ad cs _ _) rfl (by decide) rfl rfl dX10_count_113 ?_
                  refine g_iload_n C 3 dX10_count_116 rfl ?_
                  refine g_iload_n C 4 dX10_count_117 rfl ?_
                  have er9 : r29 = -9 := Int32.toInt_inj.mp (by rw [show (-9 : Int32).toInt = -9 by decide]; omega)
                  have hVt : vC M32 = (sI (startV (vC M) x) 0 5 (-9)) := by rw [hV, sI_sI, er9]
                  have y1v : (sI (startV (vC M) x) 0 5 (-9)) 1 = vC M 1 := by rw [sI_n _ _ _ (by decide)]; rfl
                  have y3v : (sI (startV (vC M) x) 0 5 (-9)) 3 = vC M 3 := by rw [sI_n _ _ _ (by decide)]; rfl
                  have y4v : (sI (startV (vC M) x) 0 5 (-9)) 4 = vC M 4 := by rw [sI_n _ _ _ (by decide)]; rfl
                  have y5v : (sI (startV (vC M) x) 0 5 (-9)) 5 = vC M 5 := by rw [sI_n _ _ _ (by decide)]; rfl
                  have y7v : (sI (startV (vC M) x) 0 5 (-9)) 7 = vC M 7 := by rw [sI_n _ _ _ (by decide)]; rfl
                  have y8v : (sI (startV (vC M) x) 0 5 (-9)) 8 = vC M 8 := by rw [sI_n _ _ _ (by decide)]; rfl
                  have y00v : (sI (startV (vC M) x) 0 5 (-9)) 0 0 = vC M 0 0 := by rw [sI_at, if_neg (by decide)]; rfl
                  have y01v : (sI (startV (vC M) x) 0 5 (-9)) 0 1 = vC M 0 1 := by rw [sI_at, if_neg (by decide)]; rfl
                  have y02v : (sI (startV (vC M) x) 0 5 (-9)) 0 2 = vC M 0 2 := by rw [sI_at, if_neg (by decide)]; rfl
                  have hk9 : (vC M 9 x.toNatClampNeg).toInt ≠ 8 := h8k ⟨by omega, by omega⟩ (by omega)
                  refine g_callVv C (n := 3) (As := [.ref (ad 68), .int y, .int z]) (st := []) (k_X6_take l D ad cs _ _ y z hI (by rw [hVt]; show 0 ≤ y.toInt ∧ y.toInt < ((sI (startV (vC M) x) 0 5 (-9)) 0 2).toInt; rw [y02v]; exact ⟨by omega, by omega⟩) ⟨by omega, by omega⟩ (by rw [hVt, y8v, y01v]; exact h8)) gX10_count_X6_take rfl rfl rfl (by decide +kernel) ⟨Nat.le_of_ble_eq_true rfl, Nat.le_of_ble_eq_true rfl⟩ rfl (Nat.le_of_ble_eq_true rfl) ⟨Nat.zero_le _, Nat.zero_le _⟩ (by decide) (ce_poll ad cs _ _) rfl rfl dX10_count_118 (fun M37 L38 hr36 => ?_)
                  obtain ⟨hr36, hI, hFr36, hGr36⟩ := hr36
                  have hF : ∀ k i, ¬ (k = 0 ∧ i = 8) ∧ ¬ (k = 0 ∧ i = 9) ∧ ¬ (k = 0 ∧ i = 10) ∧ ¬ (k = 0 ∧ i = 11) ∧ k ≠ 83 ∧ k ≠ 87 ∧ k ≠ 257 ∧ ¬ (k = 88 ∧ i = 3) ∧ ¬ (k = 88 ∧ i = 4) ∧ k ≠ 89 ∧ k ≠ 90 ∧ k ≠ 94 ∧ k ≠ 95 ∧ k ≠ 97 ∧ ¬ (100 ≤ k ∧ k < 110) ∧ ¬ (110 ≤ k ∧ k < 120) ∧ k ≠ 123 ∧ ¬ (k = 125 ∧ i = 0) ∧ ¬ (k = 125 ∧ i = 2) ∧ ¬ (k = 191 ∧ i = 0) ∧ ¬ (k = 191 ∧ i = 2) ∧ k ≠ 126 ∧ k ≠ 127 ∧ k ≠ 128 ∧ k ≠ 192 ∧ k ≠ 193 ∧ k ≠ 194 → M37 k i = M k i := fun k i hk => by (rw [hFr36 k i (by omega)]; try exact hF k i hk)
                  have hG : ∀ k i, k ≠ 91 ∧ k ≠ 92 ∧ k ≠ 121 ∧ k ≠ 122 ∧ ¬ (k = 124 ∧ i = 0) ∧ ¬ (k = 124 ∧ i = 1) ∧ ¬ (131 ≤ k ∧ k < 191) ∧ ¬ (197 ≤ k ∧ k < 257) → L38 k i = L k i := fun k i hk => by (rw [hGr36 k i (by omega)]; try exact hG k i hk)
                  have hV : vC M37 = sI (sI (startV (vC M) x) 0 5 (-9)) 0 5 r29 := by rw [vC_fr (fun k hk => funext (fun i => hFr36 k i (by omega))), hV]
                  have k0_8 : M37 0 8 = M 0 8 := (hFr36 0 8 (by omega)).trans k0_8
                  have k0_9 : M37 0 9 = M 0 9 := (hFr36 0 9 (by omega)).trans k0_9
                  have k0_10 : M37 0 10 = r29 := (hFr36 0 10 (by omega)).trans k0_10
                  have k0_11 : M37 0 11 = vC M 0 4 := (hFr36 0 11 (by omega)).trans k0_11
                  have k125_0 : M37 125 0 = M 125 0 := (hFr36 125 0 (by omega)).trans k125_0
                  have k125_2 : M37 125 2 = M 125 2 := (hFr36 125 2 (by omega)).trans k125_2
                  have k191_0 : M37 191 0 = M 191 0 := (hFr36 191 0 (by omega)).trans k191_0
                  have k191_2 : M37 191 2 = M 191 2 := (hFr36 191 2 (by omega)).trans k191_2
                  have k88_3 : M37 88 3 = M37 88 3 := rfl
                  have k88_4 : M37 88 4 = M37 88 4 := rfl
                  have kt0_8 := congrArg Int32.toInt k0_8
                  have kt0_9 := congrArg Int32.toInt k0_9
                  have kt0_10 := congrArg Int32.toInt k0_10
                  have kt0_11 := congrArg Int32.toInt k0_11
                  have kt88_3 := congrArg Int32.toInt k88_3
                  have kt88_4 := congrArg Int32.toInt k88_4
                  have kt125_0 := congrArg Int32.toInt k125_0
                  have kt125_2 := congrArg Int32.toInt k125_2
                  have kt191_0 := congrArg Int32.toInt k191_0
                  have kt191_2 := congrArg Int32.toInt k191_2
                  have l124_0 : L38 124 0 = L 124 0 := (hGr36 124 0 (by omega)).trans l124_0
                  have l124_1 : L38 124 1 = L 124 1 := (hGr36 124 1 (by omega)).trans l124_1
                  have p91 : L38 91 = L38 91 := rfl
                  have p92 : L38 92 = L38 92 := rfl
                  have p121 : L38 121 = L 121 := (funext (fun i => hGr36 121 i (by omega))).trans p121
                  have p122 : L38 122 = L 122 := (funext (fun i => hGr36 122 i (by omega))).trans p122
                  have q100 : ∀ k, 100 ≤ k ∧ k < 110 → M37 k = M k := fun k hk => (funext (fun i => hFr36 k i (by omega))).trans (q100 k hk)
                  have q110 : ∀ k, 110 ≤ k ∧ k < 120 → M37 k = M k := fun k hk => (funext (fun i => hFr36 k i (by omega))).trans (q110 k hk)
                  have q83 : M37 83 = M22 83 := (funext (fun i => hFr36 83 i (by omega))).trans q83
                  have q87 : M37 87 = M22 87 := (funext (fun i => hFr36 87 i (by omega))).trans q87
                  have q89 : M37 89 = M37 89 := rfl
                  have q90 : M37 90 = M37 90 := rfl
                  have q94 : M37 94 = M 94 := (funext (fun i => hFr36 94 i (by omega))).trans q94
                  have q95 : M37 95 = M 95 := (funext (fun i => hFr36 95 i (by omega))).trans q95
                  have q97 : M37 97 = M 97 := (funext (fun i => hFr36 97 i (by omega))).trans q97
                  have q123 : M37 123 = M 123 := (funext (fun i => hFr36 123 i (by omega))).trans q123
                  have q126 : M37 126 = M 126 := (funext (fun i => hFr36 126 i (by omega))).trans q126
                  have q127 : M37 127 = M 127 := (funext (fun i => hFr36 127 i (by omega))).trans q127
                  have q128 : M37 128 = M 128 := (funext (fun i => hFr36 128 i (by omega))).trans q128
                  have q192 : M37 192 = M 192 := (funext (fun i => hFr36 192 i (by omega))).trans q192
                  have q193 : M37 193 = M 193 := (funext (fun i => hFr36 193 i (by omega))).trans q193
                  have q194 : M37 194 = M 194 := (funext (fun i => hFr36 194 i (by omega))).trans q194
                  have q257 : M37 257 = M 257 := (funext (fun i => hFr36 257 i (by omega))).trans q257
                  obtain ⟨tk3, tk4, tkL, tkI, tkT⟩ := hr36
                  rw [hVt] at tk3 tkL tkI
                  refine g_aload_n C 1 dX10_count_121 rfl ?_
                  refine g_get C (.ref (ad ((M37 0 9).toNatClampNeg))) 9 in_X10_count_10 (List.mem_of_getElem? (i := 6) rfl) (by decide) (ce_house ad cs _ _) rfl (by decide) rfl rfl dX10_count_122 ?_
                  refine g_tr 191 (by rw [k0_9, hg9]; rfl) ?_
                  refine g_callVv C (n := 0) (As := []) (st := []) (k_X7_clear_b l D ad cs _ _  hI ) gX10_count_X7_clear rfl rfl rfl (by decide +kernel) ⟨Nat.le_of_ble_eq_true rfl, Nat.le_of_ble_eq_true rfl⟩ rfl (Nat.le_of_ble_eq_true rfl) ⟨Nat.zero_le _, Nat.zero_le _⟩ (by decide) (ce_rb ad cs _ _) rfl rfl dX10_count_125 (fun M40 L41 hr39 => ?_)
                  obtain ⟨hr39, hI, hFr39, hGr39⟩ := hr39
                  have hF : ∀ k i, ¬ (k = 0 ∧ i = 8) ∧ ¬ (k = 0 ∧ i = 9) ∧ ¬ (k = 0 ∧ i = 10) ∧ ¬ (k = 0 ∧ i = 11) ∧ k ≠ 83 ∧ k ≠ 87 ∧ k ≠ 257 ∧ ¬ (k = 88 ∧ i = 3) ∧ ¬ (k = 88 ∧ i = 4) ∧ k ≠ 89 ∧ k ≠ 90 ∧ k ≠ 94 ∧ k ≠ 95 ∧ k ≠ 97 ∧ ¬ (100 ≤ k ∧ k < 110) ∧ ¬ (110 ≤ k ∧ k < 120) ∧ k ≠ 123 ∧ ¬ (k = 125 ∧ i = 0) ∧ ¬ (k = 125 ∧ i = 2) ∧ ¬ (k = 191 ∧ i = 0) ∧ ¬ (k = 191 ∧ i = 2) ∧ k ≠ 126 ∧ k ≠ 127 ∧ k ≠ 128 ∧ k ≠ 192 ∧ k ≠ 193 ∧ k ≠ 194 → M40 k i = M k i := fun k i hk => by (rw [hFr39 k i (by omega)]; try exact hF k i hk)
                  have hG : ∀ k i, k ≠ 91 ∧ k ≠ 92 ∧ k ≠ 121 ∧ k ≠ 122 ∧ ¬ (k = 124 ∧ i = 0) ∧ ¬ (k = 124 ∧ i = 1) ∧ ¬ (131 ≤ k ∧ k < 191) ∧ ¬ (197 ≤ k ∧ k < 257) → L41 k i = L k i := fun k i hk => by (rw [hGr39 k i trivial]; try exact hG k i hk)
                  have hV : vC M40 = sI (sI (startV (vC M) x) 0 5 (-9)) 0 5 r29 := by rw [vC_fr (fun k hk => funext (fun i => hFr39 k i (by omega))), hV]
                  have k0_8 : M40 0 8 = M 0 8 := (hFr39 0 8 (by omega)).trans k0_8
                  have k0_9 : M40 0 9 = M 0 9 := (hFr39 0 9 (by omega)).trans k0_9
                  have k0_10 : M40 0 10 = r29 := (hFr39 0 10 (by omega)).trans k0_10
                  have k0_11 : M40 0 11 = vC M 0 4 := (hFr39 0 11 (by omega)).trans k0_11
                  have k88_3 : M40 88 3 = M37 88 3 := (hFr39 88 3 (by omega)).trans k88_3
                  have k88_4 : M40 88 4 = M37 88 4 := (hFr39 88 4 (by omega)).trans k88_4
                  have k125_0 : M40 125 0 = M 125 0 := (hFr39 125 0 (by omega)).trans k125_0
                  have k125_2 : M40 125 2 = M 125 2 := (hFr39 125 2 (by omega)).trans k125_2
                  have k191_0 : M40 191 0 = M40 191 0 := rfl
                  have k191_2 : M40 191 2 = M40 191 2 := rfl
                  have kt0_8 := congrArg Int32.toInt k0_8
                  have kt0_9 := congrArg Int32.toInt k0_9
                  have kt0_10 := congrArg Int32.toInt k0_10
                  have kt0_11 := congrArg Int32.toInt k0_11
                  have kt88_3 := congrArg Int32.toInt k88_3
                  have kt88_4 := congrArg Int32.toInt k88_4
                  have kt125_0 := congrArg Int32.toInt k125_0
                  have kt125_2 := congrArg Int32.toInt k125_2
                  have kt191_0 := congrArg Int32.toInt k191_0
                  have kt191_2 := congrArg Int32.toInt k191_2
                  have l124_0 : L41 124 0 = L 124 0 := (hGr39 124 0 trivial).trans l124_0
                  have l124_1 : L41 124 1 = L 124 1 := (hGr39 124 1 trivial).trans l124_1
                  have p91 : L41 91 = L38 91 := (funext (fun i => hGr39 91 i trivial)).trans p91
                  have p92 : L41 92 = L38 92 := (funext (fun i => hGr39 92 i trivial)).trans p92
                  have p121 : L41 121 = L 121 := (funext (fun i => hGr39 121 i trivial)).trans p121
                  have p122 : L41 122 = L 122 := (funext (fun i => hGr39 122 i trivial)).trans p122
                  have q100 : ∀ k, 100 ≤ k ∧ k < 110 → M40 k = M k := fun k hk => (funext (fun i => hFr39 k i (by omega))).trans (q100 k hk)
                  have q110 : ∀ k, 110 ≤ k ∧ k < 120 → M40 k = M k := fun k hk => (funext (fun i => hFr39 k i (by omega))).trans (q110 k hk)
                  have q83 : M40 83 = M22 83 := (funext (fun i => hFr39 83 i (by omega))).trans q83
                  have q87 : M40 87 = M22 87 := (funext (fun i => hFr39 87 i (by omega))).trans q87
                  have q89 : M40 89 = M37 89 := (funext (fun i => hFr39 89 i (by omega))).trans q89
                  have q90 : M40 90 = M37 90 := (funext (fun i => hFr39 90 i (by omega))).trans q90
                  have q94 : M40 94 = M 94 := (funext (fun i => hFr39 94 i (by omega))).trans q94
                  have q95 : M40 95 = M 95 := (funext (fun i => hFr39 95 i (by omega))).trans q95
                  have q97 : M40 97 = M 97 := (funext (fun i => hFr39 97 i (by omega))).trans q97
                  have q123 : M40 123 = M 123 := (funext (fun i => hFr39 123 i (by omega))).trans q123
                  have q126 : M40 126 = M 126 := (funext (fun i => hFr39 126 i (by omega))).trans q126
                  have q127 : M40 127 = M 127 := (funext (fun i => hFr39 127 i (by omega))).trans q127
                  have q128 : M40 128 = M 128 := (funext (fun i => hFr39 128 i (by omega))).trans q128
                  have q192 : M40 192 = M 192 := (funext (fun i => hFr39 192 i (by omega))).trans q192
                  have q193 : M40 193 = M 193 := (funext (fun i => hFr39 193 i (by omega))).trans q193
                  have q194 : M40 194 = M 194 := (funext (fun i => hFr39 194 i (by omega))).trans q194
                  have q257 : M40 257 = M 257 := (funext (fun i => hFr39 257 i (by omega))).trans q257
                  obtain ⟨cl0, cl2⟩ := hr39
                  refine g_aload_n C 1 dX10_count_128 rfl ?_
                  refine g_iload C 0 dX10_count_129 rfl ?_
                  refine g_aload_n C 1 dX10_count_131 rfl ?_
                  refine g_get C (.ref (ad ((M40 0 9).toNatClampNeg))) 9 in_X10_count_10 (List.mem_of_getElem? (i := 6) rfl) (by decide) (ce_house ad cs _ _) rfl (by decide) rfl rfl dX10_count_132 ?_
                  refine g_tr 191 (by rw [k0_9, hg9]; rfl) ?_
                  have hVb : vC M40 = (sI (startV (vC M) x) 0 5 (-9)) := by rw [hV, sI_sI, er9]
                  have bLY : LY (fun i => (sI (startV (vC M) x) 0 5 (-9)) 8 (40 * y.toNatClampNeg + i)) (M40 89) ((sI (startV (vC M) x) 0 5 (-9)) 7 y.toNatClampNeg).toNatClampNeg := by rw [q89]; exact tkL
                  have bMN : (M40 88 3).toInt = (cnP (fun i => (sI (startV (vC M) x) 0 5 (-9)) 8 (40 * y.toNatClampNeg + i)) ((sI (startV (vC M) x) 0 5 (-9)) 7 y.toNatClampNeg).toNatClampNeg : Int) := by rw [k88_3]; exact tk3
                  have bmq : ((sI (startV (vC M) x) 0 5 (-9)) 7 y.toNatClampNeg).toNatClampNeg ≤ 40 := by rw [y7v]; have h9 : rg 0 40 (vC M 7 y.toNatClampNeg) := hI0 70 _; have h8_ := ixn h9.1; have h7 := h9.2; omega
                  have mb10 : M40 1 0 = M 1 0 := hF 1 0 (by omega)
                  have mb10t := congrArg Int32.toInt mb10
                  have mb2 : M40 2 = M 2 := funext (fun i => hF 2 i (by omega))
                  have k884t := congrArg Int32.toInt k88_4
                  have tk4t := congrArg Int32.toInt tk4
                  have n10 := ixn y0a
                  have zNI : NIn (M40 90) (M40 1 0).toInt := by
                    intro c hc hi
                    rw [mb10]
                    have h9 := tkI c hc
                    rw [← q90, y00v] at h9
                    by_cases e9 : (c : Int) < (M 1 0).toInt
                    · exact e9
                    · rw [if_neg (show ¬ (c : Int) < (vC M 0 0).toInt by omega)] at h9; rw [h9] at hi; exact absurd (by decide) hi
                  have zcI : cI (M40 90) (M40 1 0).toNatClampNeg = (M40 1 0).toNatClampNeg := by
                    refine cI_all _ (fun c hc => ?_)
                    rw [mb10] at hc
                    rw [congrFun q90 c, tkI c (by omega), y00v, if_pos (by omega)]
                    decide
                  have hkg : v26 = vC M 9 x.toNatClampNeg := gv26
                  have q90k := q90
                  have k884k := k88_4
                  refine g_callVi C (n := 2) (As := [.int v26, .ref (ad 191)]) (st := []) (k_X10_countBy_b l D ad cs _ _ v26 hI (wu := fun i => ((sI (startV (vC M) x) 0 5 (-9)) 3 ((sI (startV (vC M) x) 0 5 (-9)) 8 (40 * y.toNatClampNeg + i)).toNatClampNeg).toInt64) (wd := fun _ => 1) bLY bMN bmq (by rw [hVb]; exact fun _ _ _ => ⟨rfl, rfl⟩) (by rw [hVb, y3v]; exact hP3) (fun j hj => by rw [congrFun p91 j, congrFun p92 j]; exact tkT j hj) (by rw [hVb, y4v, y5v, y00v]; exact hA3) (by rw [hVb, y4v, y5v]; exact hdis) (by rw [hVb, y4v, y00v]; exact hl4) (by rw [mb10, mb2]; exact hrl) (by rw [hVb]; exact DP_w hD x) zNI zcI (by rw [cl0]; decide) (by rw [cl2]; decide) (by omega) (by omega) ⟨by omega, by omega⟩ (fun h6 h7 => by rw [zcI, mb10]; omega)) gX10_count_X10_countBy rfl rfl rfl (by decide +kernel) ⟨Nat.le_of_ble_eq_true rfl, Nat.le_of_ble_eq_true rfl⟩ rfl (Nat.le_of_ble_eq_true rfl) ⟨Nat.zero_le _, Nat.zero_le _⟩ (by decide) (ce_house ad cs _ _) rfl rfl dX10_count_135 (fun r42 M43 L44 hr42 => ?_)
                  obtain ⟨hr42, hI, hFr42, hGr42⟩ := hr42
                  have hF : ∀ k i, ¬ (k = 0 ∧ i = 8) ∧ ¬ (k = 0 ∧ i = 9) ∧ ¬ (k = 0 ∧ i = 10) ∧ ¬ (k = 0 ∧ i = 11) ∧ k ≠ 83 ∧ k ≠ 87 ∧ k ≠ 257 ∧ ¬ (k = 88 ∧ i = 3) ∧ ¬ (k = 88 ∧ i = 4) ∧ k ≠ 89 ∧ k ≠ 90 ∧ k ≠ 94 ∧ k ≠ 95 ∧ k ≠ 97 ∧ ¬ (100 ≤ k ∧ k < 110) ∧ ¬ (110 ≤ k ∧ k < 120) ∧ k ≠ 123 ∧ ¬ (k = 125 ∧ i = 0) ∧ ¬ (k = 125 ∧ i = 2) ∧ ¬ (k = 191 ∧ i = 0) ∧ ¬ (k = 191 ∧ i = 2) ∧ k ≠ 126 ∧ k ≠ 127 ∧ k ≠ 128 ∧ k ≠ 192 ∧ k ≠ 193 ∧ k ≠ 194 → M43 k i = M k i := fun k i hk => by (rw [hFr42 k i (by omega)]; try exact hF k i hk)
                  have hG : ∀ k i, k ≠ 91 ∧ k ≠ 92 ∧ k ≠ 121 ∧ k ≠ 122 ∧ ¬ (k = 124 ∧ i = 0) ∧ ¬ (k = 124 ∧ i = 1) ∧ ¬ (131 ≤ k ∧ k < 191) ∧ ¬ (197 ≤ k ∧ k < 257) → L44 k i = L k i := fun k i hk => by (rw [hGr42 k i (by omega)]; try exact hG k i hk)
                  have hV : vC M43 = sI (sI (startV (vC M) x) 0 5 (-9)) 0 5 r29 := by rw [vC_fr (fun k hk => funext (fun i => hFr42 k i (by omega))), hV]
                  have k0_8 : M43 0 8 = M 0 8 := (hFr42 0 8 (by omega)).trans k0_8
                  have k0_9 : M43 0 9 = M 0 9 := (hFr42 0 9 (by omega)).trans k0_9
                  have k0_10 : M43 0 10 = r29 := (hFr42 0 10 (by omega)).trans k0_10
                  have k0_11 : M43 0 11 = vC M 0 4 := (hFr42 0 11 (by omega)).trans k0_11
                  have k88_3 : M43 88 3 = M37 88 3 := (hFr42 88 3 (by omega)).trans k88_3
                  have k88_4 : M43 88 4 = M37 88 4 := (hFr42 88 4 (by omega)).trans k88_4
                  have k125_0 : M43 125 0 = M 125 0 := (hFr42 125 0 (by omega)).trans k125_0
                  have k125_2 : M43 125 2 = M 125 2 := (hFr42 125 2 (by omega)).trans k125_2
                  have k191_0 : M43 191 0 = M43 191 0 := rfl
                  have k191_2 : M43 191 2 = M43 191 2 := rfl
                  have kt0_8 := congrArg Int32.toInt k0_8
                  have kt0_9 := congrArg Int32.toInt k0_9
                  have kt0_10 := congrArg Int32.toInt k0_10
                  have kt0_11 := congrArg Int32.toInt k0_11
                  have kt88_3 := congrArg Int32.toInt k88_3
                  have kt88_4 := congrArg Int32.toInt k88_4
                  have kt125_0 := congrArg Int32.toInt k125_0
                  have kt125_2 := congrArg Int32.toInt k125_2
                  have kt191_0 := congrArg Int32.toInt k191_0
                  have kt191_2 := congrArg Int32.toInt k191_2
                  have l124_0 : L44 124 0 = L44 124 0 := rfl
                  have l124_1 : L44 124 1 = L44 124 1 := rfl
                  have p91 : L44 91 = L44 91 := rfl
                  have p92 : L44 92 = L44 92 := rfl
                  have p121 : L44 121 = L44 121 := rfl
                  have p122 : L44 122 = L44 122 := rfl
                  have q100 : ∀ k, 100 ≤ k ∧ k < 110 → M43 k = M43 k := fun _ _ => rfl
                  have q110 : ∀ k, 110 ≤ k ∧ k < 120 → M43 k = M43 k := fun _ _ => rfl
                  have q83 : M43 83 = M22 83 := (funext (fun i => hFr42 83 i (by omega))).trans q83
                  have q87 : M43 87 = M22 87 := (funext (fun i => hFr42 87 i (by omega))).trans q87
                  have q89 : M43 89 = M37 89 := (funext (fun i => hFr42 89 i (by omega))).trans q89
                  have q90 : M43 90 = M43 90 := rfl
                  have q94 : M43 94 = M43 94 := rfl
                  have q95 : M43 95 = M43 95 := rfl
                  have q97 : M43 97 = M43 97 := rfl
                  have q123 : M43 123 = M43 123 := rfl
                  have q126 : M43 126 = M 126 := (funext (fun i => hFr42 126 i (by omega))).trans q126
                  have q127 : M43 127 = M 127 := (funext (fun i => hFr42 127 i (by omega))).trans q127
                  have q128 : M43 128 = M 128 := (funext (fun i => hFr42 128 i (by omega))).trans q128
                  have q192 : M43 192 = M43 192 := rfl
                  have q193 : M43 193 = M43 193 := rfl
                  have q194 : M43 194 = M43 194 := rfl
                  have q257 : M43 257 = M 257 := (funext (fun i => hFr42 257 i (by omega))).trans q257
                  obtain ⟨ok9, S9, R9, hcr, hz9, hrr⟩ := hr42
                  obtain ⟨bar42, bbr42⟩ := zo_b hz9
                  have hOUT : OUT (sI (startV (vC M) x) 0 5 (-9)) (vC M 9 x.toNatClampNeg) y z ok9 S9 R9 := by
                    refine ⟨M40 90, _, _, ?_, fun _ _ _ => ⟨rfl, rfl⟩, ?_⟩
                    · intro c hc
                      rw [congrFun q90k c]; exact tkI c hc
                    · have h9 := hcr
                      have eMN : (M40 88 3).toNatClampNeg = cnP (fun i => (sI (startV (vC M) x) 0 5 (-9)) 8 (40 * y.toNatClampNeg + i)) ((sI (startV (vC M) x) 0 5 (-9)) 7 y.toNatClampNeg).toNatClampNeg := by have := ixn (x := M40 88 3) (by omega); omega
                      rw [hVb, eMN, sumK_P _ bLY, k884k, tk4, show M40 2 = (sI (startV (vC M) x) 0 5 (-9)) 1 from (by rw [← hVb]; rfl), show M40 1 0 = (sI (startV (vC M) x) 0 5 (-9)) 0 0 from (by rw [← hVb]; rfl), hkg] at h9
                      exact h9
                  refine g_if_ne C 144 dX10_count_138 (by decide) (fun c45 => ?_) (fun c45 => ?_)
                  ·
                    have f46 := fne rfl (by decide : (0 : Int32).toInt = 0) c45
                    have hok := zo_t hz9 c45
                    refine g_aload_n C 1 dX10_count_144 rfl ?_
                    refine g_get C (.ref (ad ((M43 0 9).toNatClampNeg))) 9 in_X10_count_10 (List.mem_of_getElem? (i := 6) rfl) (by decide) (ce_house ad cs _ _) rfl (by decide) rfl rfl dX10_count_145 ?_
                    refine g_tr 191 (by rw [k0_9, hg9]; rfl) ?_
                    refine g_astore C [(5, .ref (ad 191)), (4, .int v26), (0, .ref (ad 0)), (1, .int x), (2, .int y), (3, .int z)] dX10_count_148 (by decide) rfl ?_
                    refine g_aload_n C 2 dX10_count_150 rfl ?_
                    refine g_aload_n C 2 dX10_count_151 rfl ?_
                    refine g_get C (.ref (ad ((M43 0 8).toNatClampNeg))) 8 in_X10_count_10 (List.mem_of_getElem? (i := 7) rfl) (by decide) (ce_house ad cs _ _) rfl (by decide) rfl rfl dX10_count_152 ?_
                    refine g_tr 125 (by rw [k0_8, hg8]; rfl) ?_
                    refine g_putR C (x9 := 125) 9 in_X10_count_10 (List.mem_of_getElem? (i := 6) rfl) (by decide) (ce_house ad cs _ _) rfl (by decide) rfl tyX10 tyX10_ok nmX10 rfl rfl rfl rfl (Nat.le_of_ble_eq_true rfl) (by rw [sI_k]; rfl) dX10_count_155 ?_
                    refine g_nm (fun M47 hM47 => ?_)
                    have zy48 : (125 : Int32).toInt = 125 := by decide
                    have hI : IC M47 := by rw [hM47]; exact hI.st (fun _ => Or.inl rfl)
                    have hF : ∀ k i, ¬ (k = 0 ∧ i = 8) ∧ ¬ (k = 0 ∧ i = 9) ∧ ¬ (k = 0 ∧ i = 10) ∧ ¬ (k = 0 ∧ i = 11) ∧ k ≠ 83 ∧ k ≠ 87 ∧ k ≠ 257 ∧ ¬ (k = 88 ∧ i = 3) ∧ ¬ (k = 88 ∧ i = 4) ∧ k ≠ 89 ∧ k ≠ 90 ∧ k ≠ 94 ∧ k ≠ 95 ∧ k ≠ 97 ∧ ¬ (100 ≤ k ∧ k < 110) ∧ ¬ (110 ≤ k ∧ k < 120) ∧ k ≠ 123 ∧ ¬ (k = 125 ∧ i = 0) ∧ ¬ (k = 125 ∧ i = 2) ∧ ¬ (k = 191 ∧ i = 0) ∧ ¬ (k = 191 ∧ i = 2) ∧ k ≠ 126 ∧ k ≠ 127 ∧ k ≠ 128 ∧ k ≠ 192 ∧ k ≠ 193 ∧ k ≠ 194 → M47 k i = M k i := fun k i hk => by (rw [hM47, sI_at, if_neg (by omega)]; try exact hF k i hk)
                    have k0_8 : M47 0 8 = M 0 8 := by rw [hM47, sI_at, if_neg (by decide)]; try exact k0_8
                    have k0_10 : M47 0 10 = r29 := by rw [hM47, sI_at, if_neg (by decide)]; try exact k0_10
                    have k0_11 : M47 0 11 = vC M 0 4 := by rw [hM47, sI_at, if_neg (by decide)]; try exact k0_11
                    have k88_3 : M47 88 3 = M37 88 3 := by rw [hM47, sI_at, if_neg (by decide)]; try exact k88_3
                    have k88_4 : M47 88 4 = M37 88 4 := by rw [hM47, sI_at, if_neg (by decide)]; try exact k88_4
                    have k125_0 : M47 125 0 = M 125 0 := by rw [hM47, sI_at, if_neg (by decide)]; try exact k125_0
                    have k125_2 : M47 125 2 = M 125 2 := by rw [hM47, sI_at, if_neg (by decide)]; try exact k125_2
                    have k191_0 : M47 191 0 = M43 191 0 := by rw [hM47, sI_at, if_neg (by decide)]; try exact k191_0
                    have k191_2 : M47 191 2 = M43 191 2 := by rw [hM47, sI_at, if_neg (by decide)]; try exact k191_2
                    have k0_9 : M47 0 9 = 125 := by rw [hM47, sI_at, if_pos (by decide)]
                    have q83 : M47 83 = M22 83 := by rw [hM47, sI_n _ _ _ (by decide)]; try exact q83
                    have q87 : M47 87 = M22 87 := by rw [hM47, sI_n _ _ _ (by decide)]; try exact q87
                    have q89 : M47 89 = M37 89 := by rw [hM47, sI_n _ _ _ (by decide)]; try exact q89
                    have q90 : M47 90 = M43 90 := by rw [hM47, sI_n _ _ _ (by decide)]; try exact q90
                    have q94 : M47 94 = M43 94 := by rw [hM47, sI_n _ _ _ (by decide)]; try exact q94
                    have q95 : M47 95 = M43 95 := by rw [hM47, sI_n _ _ _ (by decide)]; try exact q95
                    have q97 : M47 97 = M43 97 := by rw [hM47, sI_n _ _ _ (by decide)]; try exact q97
                    have q123 : M47 123 = M43 123 := by rw [hM47, sI_n _ _ _ (by decide)]; try exact q123
                    have q126 : M47 126 = M 126 := by rw [hM47, sI_n _ _ _ (by decide)]; try exact q126
                    have q127 : M47 127 = M 127 := by rw [hM47, sI_n _ _ _ (by decide)]; try exact q127
                    have q128 : M47 128 = M 128 := by rw [hM47, sI_n _ _ _ (by decide)]; try exact q128
                    have q192 : M47 192 = M43 192 := by rw [hM47, sI_n _ _ _ (by decide)]; try exact q192
                    have q193 : M47 193 = M43 193 := by rw [hM47, sI_n _ _ _ (by decide)]; try exact q193
                    have q194 : M47 194 = M43 194 := by rw [hM47, sI_n _ _ _ (by decide)]; try exact q194
                    have q257 : M47 257 = M 257 := by rw [hM47, sI_n _ _ _ (by decide)]; try exact q257
                    have q100 : ∀ k, 100 ≤ k ∧ k < 110 → M47 k = M43 k := fun k hk => by rw [hM47, sI_n _ _ _ (by omega)]; try exact q100 k hk
                    have q110 : ∀ k, 110 ≤ k ∧ k < 120 → M47 k = M43 k := fun k hk => by rw [hM47, sI_n _ _ _ (by omega)]; try exact q110 k hk
                    have hV : vC M47 = sI (sI (startV (vC M) x) 0 5 (-9)) 0 5 r29 := by rw [hM47, vC_h (by decide), hV]
                    refine g_aload_n C 2 dX10_count_158 rfl ?_
                    refine g_aload C 0 dX10_count_159 rfl ?_
                    refine g_putR C (x9 := 191) 8 in_X10_count_10 (List.mem_of_getElem? (i := 7) rfl) (by decide) (ce_house ad cs _ _) rfl (by decide) rfl tyX10 tyX10_ok nmX10 rfl rfl rfl rfl (Nat.le_of_ble_eq_true rfl) (by rw [sI_k]; rfl) dX10_count_161 ?_
                    refine g_nm (fun M49 hM49 => ?_)
                    have zy50 : (191 : Int32).toInt = 191 := by decide
                    have hI : IC M49 := by rw [hM49]; exact hI.st (fun _ => Or.inr rfl)
                    have hF : ∀ k i, ¬ (k = 0 ∧ i = 8) ∧ ¬ (k = 0 ∧ i = 9) ∧ ¬ (k = 0 ∧ i = 10) ∧ ¬ (k = 0 ∧ i = 11) ∧ k ≠ 83 ∧ k ≠ 87 ∧ k ≠ 257 ∧ ¬ (k = 88 ∧ i = 3) ∧ ¬ (k = 88 ∧ i = 4) ∧ k ≠ 89 ∧ k ≠ 90 ∧ k ≠ 94 ∧ k ≠ 95 ∧ k ≠ 97 ∧ ¬ (100 ≤ k ∧ k < 110) ∧ ¬ (110 ≤ k ∧ k < 120) ∧ k ≠ 123 ∧ ¬ (k = 125 ∧ i = 0) ∧ ¬ (k = 125 ∧ i = 2) ∧ ¬ (k = 191 ∧ i = 0) ∧ ¬ (k = 191 ∧ i = 2) ∧ k ≠ 126 ∧ k ≠ 127 ∧ k ≠ 128 ∧ k ≠ 192 ∧ k ≠ 193 ∧ k ≠ 194 → M49 k i = M k i := fun k i hk => by (rw [hM49, sI_at, if_neg (by omega)]; try exact hF k i hk)
                    have k0_9 : M49 0 9 = 125 := by rw [hM49, sI_at, if_neg (by decide)]; try exact k0_9
                    have k0_10 : M49 0 10 = r29 := by rw [hM49, sI_at, if_neg (by decide)]; try exact k0_10
                    have k0_11 : M49 0 11 = vC M 0 4 := by rw [hM49, sI_at, if_neg (by decide)]; try exact k0_11
                    have k88_3 : M49 88 3 = M37 88 3 := by rw [hM49, sI_at, if_neg (by decide)]; try exact k88_3
                    have k88_4 : M49 88 4 = M37 88 4 := by rw [hM49, sI_at, if_neg (by decide)]; try exact k88_4
                    have k125_0 : M49 125 0 = M 125 0 := by rw [hM49, sI_at, if_neg (by decide)]; try exact k125_0
                    have k125_2 : M49 125 2 = M 125 2 := by rw [hM49, sI_at, if_neg (by decide)]; try exact k125_2
                    have k191_0 : M49 191 0 = M43 191 0 := by rw [hM49, sI_at, if_neg (by decide)]; try exact k191_0
                    have k191_2 : M49 191 2 = M43 191 2 := by rw [hM49, sI_at, if_neg (by decide)]; try exact k191_2
                    have k0_8 : M49 0 8 = 191 := by rw [hM49, sI_at, if_pos (by decide)]
                    have q83 : M49 83 = M22 83 := by rw [hM49, sI_n _ _ _ (by decide)]; try exact q83
                    have q87 : M49 87 = M22 87 := by rw [hM49, sI_n _ _ _ (by decide)]; try exact q87
                    have q89 : M49 89 = M37 89 := by rw [hM49, sI_n _ _ _ (by decide)]; try exact q89
                    have q90 : M49 90 = M43 90 := by rw [hM49, sI_n _ _ _ (by decide)]; try exact q90
                    have q94 : M49 94 = M43 94 := by rw [hM49, sI_n _ _ _ (by decide)]; try exact q94
                    have q95 : M49 95 = M43 95 := by rw [hM49, sI_n _ _ _ (by decide)]; try exact q95
                    have q97 : M49 97 = M43 97 := by rw [hM49, sI_n _ _ _ (by decide)]; try exact q97
                    have q123 : M49 123 = M43 123 := by rw [hM49, sI_n _ _ _ (by decide)]; try exact q123
                    have q126 : M49 126 = M 126 := by rw [hM49, sI_n _ _ _ (by decide)]; try exact q126
                    have q127 : M49 127 = M 127 := by rw [hM49, sI_n _ _ _ (by decide)]; try exact q127
                    have q128 : M49 128 = M 128 := by rw [hM49, sI_n _ _ _ (by decide)]; try exact q128
                    have q192 : M49 192 = M43 192 := by rw [hM49, sI_n _ _ _ (by decide)]; try exact q192
                    have q193 : M49 193 = M43 193 := by rw [hM49, sI_n _ _ _ (by decide)]; try exact q193
                    have q194 : M49 194 = M43 194 := by rw [hM49, sI_n _ _ _ (by decide)]; try exact q194
                    have q257 : M49 257 = M 257 := by rw [hM49, sI_n _ _ _ (by decide)]; try exact q257
                    have q100 : ∀ k, 100 ≤ k ∧ k < 110 → M49 k = M43 k := fun k hk => by rw [hM49, sI_n _ _ _ (by omega)]; try exact q100 k hk
                    have q110 : ∀ k, 110 ≤ k ∧ k < 120 → M49 k = M43 k := fun k hk => by rw [hM49, sI_n _ _ _ (by omega)]; try exact q110 k hk
                    have hV : vC M49 = sI (sI (startV (vC M) x) 0 5 (-9)) 0 5 r29 := by rw [hM49, vC_h (by decide), hV]
                    refine g_aload_n C 2 dX10_count_164 rfl ?_
                    refine g_get C (.ref (ad ((M49 0 8).toNatClampNeg))) 8 in_X10_count_10 (List.mem_of_getElem? (i := 7) rfl) (by decide) (ce_house ad cs _ _) rfl (by decide) rfl rfl dX10_count_165 ?_
                    refine g_tr 191 (by rw [k0_8]; rfl) ?_
                    refine g_get C (.int (M49 191 0)) 0 in_X10_count_7 (List.mem_of_getElem? (i := 8) rfl) (by decide) (ce_rb ad cs _ _) rfl (by decide) rfl rfl dX10_count_168 ?_
                    refine g_ni (fun v51 ev51 => ?_)
                    have gv51 : v51 = M43 191 0 := ev51.trans k191_0
                    have tv51 := congrArg Int32.toInt gv51
                    obtain ⟨bv51, dv51⟩ := (show rg 0 30 v51 from (by rw [ev51]; exact hI 191 0 (Or.inl rfl)))
                    have hA : A_count (vC M) x y z = (0, sI (startV (vC M) x) 0 5 (-9)) := by dsimp only [A_count, hasM, hasX, seatsOk, bt]; (repeat (first | rw [if_pos (by omega)] | rw [if_neg (by omega)]))
                    have hrr9 := hrr hok
                    have hS9 := hrr9.1
                    have hrz : RP (M49 191 0) (M49 192) (M49 191 2) (M49 193) (M49 194) S9 R9 := by rw [k191_0, k191_2, q192, q193, q194]; exact hrr9
                    exact g_iret C hr ⟨⟨by rw [hA, hV, sI_sI, er9], fun h => absurd (by rw [hA]) h, fun _ => ⟨ok9, S9, R9, by rw [hA]; exact hOUT, fun _ => ⟨by rw [gv51]; exact hS9, Or.inr ⟨k0_8, hrz⟩, by unfold LSc; rw [k0_8, k0_9]; decide⟩, fun h9 => absurd (hok.symm.trans h9) (by decide)⟩⟩, hI, hF, hG⟩ dX10_count_171
                  ·
                    have f52 := feq rfl (by decide : (0 : Int32).toInt = 0) c45
                    have hnok := zo_f hz9 c45
                    refine g_bipush C (-6) dX10_count_141 (by decide) ?_
                    have hA : A_count (vC M) x y z = (0, sI (startV (vC M) x) 0 5 (-9)) := by dsimp only [A_count, hasM, hasX, seatsOk, bt]; (repeat (first | rw [if_pos (by omega)] | rw [if_neg (by omega)]))
                    have zr9 : ((-6) : Int32).toInt = (-6) := by decide
                    exact g_iret C hr ⟨⟨by rw [hA, hV, sI_sI, er9], fun h => absurd (by rw [hA]) h, fun _ => ⟨ok9, S9, R9, by rw [hA]; exact hOUT, fun h9 => absurd h9 hnok, fun _ => ⟨rfl, CDs_125 hg8 k0_8 k0_9 ⟨k125_0, q126, k125_2, q127, q128⟩⟩⟩⟩, hI, hF, hG⟩ dX10_count_143
              ·
                rcases (hI0 0 9 (Or.inr rfl)) with hg9 | hg9
                ·
                  refine g_aload_n C 1 dX10_count_108 rfl ?_
                  refine g_get C (.ref (ad 88)) 4 in_X10_count_10 (List.mem_of_getElem? (i := 5) rfl) (by decide) (ce_house ad cs _ _) rfl (by decide) rfl rfl dX10_count_109 ?_
                  refine g_aload_n C 1 dX10_count_112 rfl ?_
                  refine g_get C (.ref (ad 68)) 2 in_X10_count_10 (List.mem_of_getElem? (i := 3) rfl) (by decide) (ce_house ad cs _ _) rfl (by decide) rfl rfl dX10_count_113 ?_
                  refine g_iload_n C 3 dX10_count_116 rfl ?_
                  refine g_iload_n C 4 dX10_count_117 rfl ?_
                  have er9 : r29 = -9 := Int32.toInt_inj.mp (by rw [show (-9 : Int32).toInt = -9 by decide]; omega)
                  have hVt : vC M32 = (sI (startV (vC M) x) 0 5 (-9)) := by rw [hV, sI_sI, er9]
                  have y1v : (sI (startV (vC M) x) 0 5 (-9)) 1 = vC M 1 := by rw [sI_n _ _ _ (by decide)]; rfl
                  have y3v : (sI (startV (vC M) x) 0 5 (-9)) 3 = vC M 3 := by rw [sI_n _ _ _ (by decide)]; rfl
                  have y4v : (sI (startV (vC M) x) 0 5 (-9)) 4 = vC M 4 := by rw [sI_n _ _ _ (by decide)]; rfl
                  have y5v : (sI (startV (vC M) x) 0 5 (-9)) 5 = vC M 5 := by rw [sI_n _ _ _ (by decide)]; rfl
                  have y7v : (sI (startV (vC M) x) 0 5 (-9)) 7 = vC M 7 := by rw [sI_n _ _ _ (by decide)]; rfl
                  have y8v : (sI (startV (vC M) x) 0 5 (-9)) 8 = vC M 8 := by rw [sI_n _ _ _ (by decide)]; rfl
                  have y00v : (sI (startV (vC M) x) 0 5 (-9)) 0 0 = vC M 0 0 := by rw [sI_at, if_neg (by decide)]; rfl
                  have y01v : (sI (startV (vC M) x) 0 5 (-9)) 0 1 = vC M 0 1 := by rw [sI_at, if_neg (by decide)]; rfl
                  have y02v : (sI (startV (vC M) x) 0 5 (-9)) 0 2 = vC M 0 2 := by rw [sI_at, if_neg (by decide)]; rfl
                  have hk9 : (vC M 9 x.toNatClampNeg).toInt ≠ 8 := h8k ⟨by omega, by omega⟩ (by omega)
                  refine g_callVv C (n := 3) (As := [.ref (ad 68), .int y, .int z]) (st := []) (k_X6_take l D ad cs _ _ y z hI (by rw [hVt]; show 0 ≤ y.toInt ∧ y.toInt < ((sI (startV (vC M) x) 0 5 (-9)) 0 2).toInt; rw [y02v]; exact ⟨by omega, by omega⟩) ⟨by omega, by omega⟩ (by rw [hVt, y8v, y01v]; exact h8)) gX10_count_X6_take rfl rfl rfl (by decide +kernel) ⟨Nat.le_of_ble_eq_true rfl, Nat.le_of_ble_eq_true rfl⟩ rfl (Nat.le_of_ble_eq_true rfl) ⟨Nat.zero_le _, Nat.zero_le _⟩ (by decide) (ce_poll ad cs _ _) rfl rfl dX10_count_118 (fun M54 L55 hr53 => ?_)
                  obtain ⟨hr53, hI, hFr53, hGr53⟩ := hr53
                  have hF : ∀ k i, ¬ (k = 0 ∧ i = 8) ∧ ¬ (k = 0 ∧ i = 9) ∧ ¬ (k = 0 ∧ i = 10) ∧ ¬ (k = 0 ∧ i = 11) ∧ k ≠ 83 ∧ k ≠ 87 ∧ k ≠ 257 ∧ ¬ (k = 88 ∧ i = 3) ∧ ¬ (k = 88 ∧ i = 4) ∧ k ≠ 89 ∧ k ≠ 90 ∧ k ≠ 94 ∧ k ≠ 95 ∧ k ≠ 97 ∧ ¬ (100 ≤ k ∧ k < 110) ∧ ¬ (110 ≤ k ∧ k < 120) ∧ k ≠ 123 ∧ ¬ (k = 125 ∧ i = 0) ∧ ¬ (k = 125 ∧ i = 2) ∧ ¬ (k = 191 ∧ i = 0) ∧ ¬ (k = 191 ∧ i = 2) ∧ k ≠ 126 ∧ k ≠ 127 ∧ k ≠ 128 ∧ k ≠ 192 ∧ k ≠ 193 ∧ k ≠ 194 → M54 k i = M k i := fun k i hk => by (rw [hFr53 k i (by omega)]; try exact hF k i hk)
                  have hG : ∀ k i, k ≠ 91 ∧ k ≠ 92 ∧ k ≠ 121 ∧ k ≠ 122 ∧ ¬ (k = 124 ∧ i = 0) ∧ ¬ (k = 124 ∧ i = 1) ∧ ¬ (131 ≤ k ∧ k < 191) ∧ ¬ (197 ≤ k ∧ k < 257) → L55 k i = L k i := fun k i hk => by (rw [hGr53 k i (by omega)]; try exact hG k i hk)
                  have hV : vC M54 = sI (sI (startV (vC M) x) 0 5 (-9)) 0 5 r29 := by rw [vC_fr (fun k hk => funext (fun i => hFr53 k i (by omega))), hV]
                  have k0_8 : M54 0 8 = M 0 8 := (hFr53 0 8 (by omega)).trans k0_8
                  have k0_9 : M54 0 9 = M 0 9 := (hFr53 0 9 (by omega)).trans k0_9
                  have k0_10 : M54 0 10 = r29 := (hFr53 0 10 (by omega)).trans k0_10
                  have k0_11 : M54 0 11 = vC M 0 4 := (hFr53 0 11 (by omega)).trans k0_11
                  have k125_0 : M54 125 0 = M 125 0 := (hFr53 125 0 (by omega)).trans k125_0
                  have k125_2 : M54 125 2 = M 125 2 := (hFr53 125 2 (by omega)).trans k125_2
                  have k191_0 : M54 191 0 = M 191 0 := (hFr53 191 0 (by omega)).trans k191_0
                  have k191_2 : M54 191 2 = M 191 2 := (hFr53 191 2 (by omega)).trans k191_2
                  have k88_3 : M54 88 3 = M54 88 3 := rfl
                  have k88_4 : M54 88 4 = M54 88 4 := rfl
                  have kt0_8 := congrArg Int32.toInt k0_8
                  have kt0_9 := congrArg Int32.toInt k0_9
                  have kt0_10 := congrArg Int32.toInt k0_10
                  have kt0_11 := congrArg Int32.toInt k0_11
                  have kt88_3 := congrArg Int32.toInt k88_3
                  have kt88_4 := congrArg Int32.toInt k88_4
                  have kt125_0 := congrArg Int32.toInt k125_0
                  have kt125_2 := congrArg Int32.toInt k125_2
                  have kt191_0 := congrArg Int32.toInt k191_0
                  have kt191_2 := congrArg Int32.toInt k191_2
                  have l124_0 : L55 124 0 = L 124 0 := (hGr53 124 0 (by omega)).trans l124_0
                  have l124_1 : L55 124 1 = L 124 1 := (hGr53 124 1 (by omega)).trans l124_1
                  have p91 : L55 91 = L55 91 := rfl
                  have p92 : L55 92 = L55 92 := rfl
                  have p121 : L55 121 = L 121 := (funext (fun i => hGr53 121 i (by omega))).trans p121
                  have p122 : L55 122 = L 122 := (funext (fun i => hGr53 122 i (by omega))).trans p122
                  have q100 : ∀ k, 100 ≤ k ∧ k < 110 → M54 k = M k := fun k hk => (funext (fun i => hFr53 k i (by omega))).trans (q100 k hk)
                  have q110 : ∀ k, 110 ≤ k ∧ k < 120 → M54 k = M k := fun k hk => (funext (fun i => hFr53 k i (by omega))).trans (q110 k hk)
                  have q83 : M54 83 = M22 83 := (funext (fun i => hFr53 83 i (by omega))).trans q83
                  have q87 : M54 87 = M22 87 := (funext (fun i => hFr53 87 i (by omega))).trans q87
                  have q89 : M54 89 = M54 89 := rfl
                  have q90 : M54 90 = M54 90 := rfl
                  have q94 : M54 94 = M 94 := (funext (fun i => hFr53 94 i (by omega))).trans q94
                  have q95 : M54 95 = M 95 := (funext (fun i => hFr53 95 i (by omega))).trans q95
                  have q97 : M54 97 = M 97 := (funext (fun i => hFr53 97 i (by omega))).trans q97
                  have q123 : M54 123 = M 123 := (funext (fun i => hFr53 123 i (by omega))).trans q123
                  have q126 : M54 126 = M 126 := (funext (fun i => hFr53 126 i (by omega))).trans q126
                  have q127 : M54 127 = M 127 := (funext (fun i => hFr53 127 i (by omega))).trans q127
                  have q128 : M54 128 = M 128 := (funext (fun i => hFr53 128 i (by omega))).trans q128
                  have q192 : M54 192 = M 192 := (funext (fun i => hFr53 192 i (by omega))).trans q192
                  have q193 : M54 193 = M 193 := (funext (fun i => hFr53 193 i (by omega))).trans q193
                  have q194 : M54 194 = M 194 := (funext (fun i => hFr53 194 i (by omega))).trans q194
                  have q257 : M54 257 = M 257 := (funext (fun i => hFr53 257 i (by omega))).trans q257
                  obtain ⟨tk3, tk4, tkL, tkI, tkT⟩ := hr53
                  rw [hVt] at tk3 tkL tkI
                  refine g_aload_n C 1 dX10_count_121 rfl ?_
                  refine g_get C (.ref (ad ((M54 0 9).toNatClampNeg))) 9 in_X10_count_10 (List.mem_of_getElem? (i := 6) rfl) (by decide) (ce_house ad cs _ _) rfl (by decide) rfl rfl dX10_count_122 ?_
                  refine g_tr 125 (by rw [k0_9, hg9]; rfl) ?_
                  refine g_callVv C (n := 0) (As := []) (st := []) (k_X7_clear_a l D ad cs _ _  hI ) gX10_count_X7_clear rfl rfl rfl (by decide +kernel) ⟨Nat.le_of_ble_eq_true rfl, Nat.le_of_ble_eq_true rfl⟩ rfl (Nat.le_of_ble_eq_true rfl) ⟨Nat.zero_le _, Nat.zero_le _⟩ (by decide) (ce_ra ad cs _ _) rfl rfl dX10_count_125 (fun M57 L58 hr56 => ?_)
                  obtain ⟨hr56, hI, hFr56, hGr56⟩ := hr56
                  have hF : ∀ k i, ¬ (k = 0 ∧ i = 8) ∧ ¬ (k = 0 ∧ i = 9) ∧ ¬ (k = 0 ∧ i = 10) ∧ ¬ (k = 0 ∧ i = 11) ∧ k ≠ 83 ∧ k ≠ 87 ∧ k ≠ 257 ∧ ¬ (k = 88 ∧ i = 3) ∧ ¬ (k = 88 ∧ i = 4) ∧ k ≠ 89 ∧ k ≠ 90 ∧ k ≠ 94 ∧ k ≠ 95 ∧ k ≠ 97 ∧ ¬ (100 ≤ k ∧ k < 110) ∧ ¬ (110 ≤ k ∧ k < 120) ∧ k ≠ 123 ∧ ¬ (k = 125 ∧ i = 0) ∧ ¬ (k = 125 ∧ i = 2) ∧ ¬ (k = 191 ∧ i = 0) ∧ ¬ (k = 191 ∧ i = 2) ∧ k ≠ 126 ∧ k ≠ 127 ∧ k ≠ 128 ∧ k ≠ 192 ∧ k ≠ 193 ∧ k ≠ 194 → M57 k i = M k i := fun k i hk => by (rw [hFr56 k i (by omega)]; try exact hF k i hk)
                  have hG : ∀ k i, k ≠ 91 ∧ k ≠ 92 ∧ k ≠ 121 ∧ k ≠ 122 ∧ ¬ (k = 124 ∧ i = 0) ∧ ¬ (k = 124 ∧ i = 1) ∧ ¬ (131 ≤ k ∧ k < 191) ∧ ¬ (197 ≤ k ∧ k < 257) → L58 k i = L k i := fun k i hk => by (rw [hGr56 k i trivial]; try exact hG k i hk)
                  have hV : vC M57 = sI (sI (startV (vC M) x) 0 5 (-9)) 0 5 r29 := by rw [vC_fr (fun k hk => funext (fun i => hFr56 k i (by omega))), hV]
                  have k0_8 : M57 0 8 = M 0 8 := (hFr56 0 8 (by omega)).trans k0_8
                  have k0_9 : M57 0 9 = M 0 9 := (hFr56 0 9 (by omega)).trans k0_9
                  have k0_10 : M57 0 10 = r29 := (hFr56 0 10 (by omega)).trans k0_10
                  have k0_11 : M57 0 11 = vC M 0 4 := (hFr56 0 11 (by omega)).trans k0_11
                  have k88_3 : M57 88 3 = M54 88 3 := (hFr56 88 3 (by omega)).trans k88_3
                  have k88_4 : M57 88 4 = M54 88 4 := (hFr56 88 4 (by omega)).trans k88_4
                  have k191_0 : M57 191 0 = M 191 0 := (hFr56 191 0 (by omega)).trans k191_0
                  have k191_2 : M57 191 2 = M 191 2 := (hFr56 191 2 (by omega)).trans k191_2
                  have k125_0 : M57 125 0 = M57 125 0 := rfl
                  have k125_2 : M57 125 2 = M57 125 2 := rfl
                  have kt0_8 := congrArg Int32.toInt k0_8
                  have kt0_9 := congrArg Int32.toInt k0_9
                  have kt0_10 := congrArg Int32.toInt k0_10
                  have kt0_11 := congrArg Int32.toInt k0_11
                  have kt88_3 := congrArg Int32.toInt k88_3
                  have kt88_4 := congrArg Int32.toInt k88_4
                  have kt125_0 := congrArg Int32.toInt k125_0
                  have kt125_2 := congrArg Int32.toInt k125_2
                  have kt191_0 := congrArg Int32.toInt k191_0
                  have kt191_2 := congrArg Int32.toInt k191_2
                  have l124_0 : L58 124 0 = L 124 0 := (hGr56 124 0 trivial).trans l124_0
                  have l124_1 : L58 124 1 = L 124 1 := (hGr56 124 1 trivial).trans l124_1
                  have p91 : L58 91 = L55 91 := (funext (fun i => hGr56 91 i trivial)).trans p91
                  have p92 : L58 92 = L55 92 := (funext (fun i => hGr56 92 i trivial)).trans p92
                  have p121 : L58 121 = L 121 := (funext (fun i => hGr56 121 i trivial)).trans p121
                  have p122 : L58 122 = L 122 := (funext (fun i => hGr56 122 i trivial)).trans p122
                  have q100 : ∀ k, 100 ≤ k ∧ k < 110 → M57 k = M k := fun k hk => (funext (fun i => hFr56 k i (by omega))).trans (q100 k hk)
                  have q110 : ∀ k, 110 ≤ k ∧ k < 120 → M57 k = M k := fun k hk => (funext (fun i => hFr56 k i (by omega))).trans (q110 k hk)
                  have q83 : M57 83 = M22 83 := (funext (fun i => hFr56 83 i (by omega))).trans q83
                  have q87 : M57 87 = M22 87 := (funext (fun i => hFr56 87 i (by omega))).trans q87
                  have q89 : M57 89 = M54 89 := (funext (fun i => hFr56 89 i (by omega))).trans q89
                  have q90 : M57 90 = M54 90 := (funext (fun i => hFr56 90 i (by omega))).trans q90
                  have q94 : M57 94 = M 94 := (funext (fun i => hFr56 94 i (by omega))).trans q94
                  have q95 : M57 95 = M 95 := (funext (fun i => hFr56 95 i (by omega))).trans q95
                  have q97 : M57 97 = M 97 := (funext (fun i => hFr56 97 i (by omega))).trans q97
                  have q123 : M57 123 = M 123 := (funext (fun i => hFr56 123 i (by omega))).trans q123
                  have q126 : M57 126 = M 126 := (funext (fun i => hFr56 126 i (by omega))).trans q126
                  have q127 : M57 127 = M 127 := (funext (fun i => hFr56 127 i (by omega))).trans q127
                  have q128 : M57 128 = M 128 := (funext (fun i => hFr56 128 i (by omega))).trans q128
                  have q192 : M57 192 = M 192 := (funext (fun i => hFr56 192 i (by omega))).trans q192
                  have q193 : M57 193 = M 193 := (funext (fun i => hFr56 193 i (by omega))).trans q193
                  have q194 : M57 194 = M 194 := (funext (fun i => hFr56 194 i (by omega))).trans q194
                  have q257 : M57 257 = M 257 := (funext (fun i => hFr56 257 i (by omega))).trans q257
                  obtain ⟨cl0, cl2⟩ := hr56
                  refine g_aload_n C 1 dX10_count_128 rfl ?_
                  refine g_iload C 0 dX10_count_129 rfl ?_
                  refine g_aload_n C 1 dX10_count_131 rfl ?_
                  refine g_get C (.ref (ad ((M57 0 9).toNatClampNeg))) 9 in_X10_count_10 (List.mem_of_getElem? (i := 6) rfl) (by decide) (ce_house ad cs _ _) rfl (by decide) rfl rfl dX10_count_132 ?_
                  refine g_tr 125 (by rw [k0_9, hg9]; rfl) ?_
                  have hVb : vC M57 = (sI (startV (vC M) x) 0 5 (-9)) := by rw [hV, sI_sI, er9]
                  have bLY : LY (fun i => (sI (startV (vC M) x) 0 5 (-9)) 8 (40 * y.toNatClampNeg + i)) (M57 89) ((sI (startV (vC M) x) 0 5 (-9)) 7 y.toNatClampNeg).toNatClampNeg := by rw [q89]; exact tkL
                  have bMN : (M57 88 3).toInt = (cnP (fun i => (sI (startV (vC M) x) 0 5 (-9)) 8 (40 * y.toNatClampNeg + i)) ((sI (startV (vC M) x) 0 5 (-9)) 7 y.toNatClampNeg).toNatClampNeg : Int) := by rw [k88_3]; exact tk3
                  have bmq : ((sI (startV (vC M) x) 0 5 (-9)) 7 y.toNatClampNeg).toNatClampNeg ≤ 40 := by rw [y7v]; have h9 : rg 0 40 (vC M 7 y.toNatClampNeg) := hI0 70 _; have h8_ := ixn h9.1; have h7 := h9.2; omega
                  have mb10 : M57 1 0 = M 1 0 := hF 1 0 (by omega)
                  have mb10t := congrArg Int32.toInt mb10
                  have mb2 : M57 2 = M 2 := funext (fun i => hF 2 i (by omega))
                  have k884t := congrArg Int32.toInt k88_4
                  have tk4t := congrArg Int32.toInt tk4
                  have n10 := ixn y0a
                  have zNI : NIn (M57 90) (M57 1 0).toInt := by
                    intro c hc hi
                    rw [mb10]
                    have h9 := tkI c hc
                    rw [← q90, y00v] at h9
                    by_cases e9 : (c : Int) < (M 1 0).toInt
                    · exact e9
                    · rw [if_neg (show ¬ (c : Int) < (vC M 0 0).toInt by omega)] at h9; rw [h9] at hi; exact absurd (by decide) hi
                  have zcI : cI (M57 90) (M57 1 0).toNatClampNeg = (M57 1 0).toNatClampNeg := by
                    refine cI_all _ (fun c hc => ?_)
                    rw [mb10] at hc
                    rw [congrFun q90 c, tkI c (by omega), y00v, if_pos (by omega)]
                    decide
                  have hkg : v26 = vC M 9 x.toNatClampNeg := gv26
                  have q90k := q90
                  have k884k := k88_4
                  refine g_callVi C (n := 2) (As := [.int v26, .ref (ad 125)]) (st := []) (k_X10_countBy_a l D ad cs _ _ v26 hI (wu := fun i => ((sI (startV (vC M) x) 0 5 (-9)) 3 ((sI (startV (vC M) x) 0 5 (-9)) 8 (40 * y.toNatClampNeg + i)).toNatClampNeg).toInt64) (wd := fun _ => 1) bLY bMN bmq (by rw [hVb]; exact fun _ _ _ => ⟨rfl, rfl⟩) (by rw [hVb, y3v]; exact hP3) (fun j hj => by rw [congrFun p91 j, congrFun p92 j]; exact tkT j hj) (by rw [hVb, y4v, y5v, y00v]; exact hA3) (by rw [hVb, y4v, y5v]; exact hdis) (by rw [hVb, y4v, y00v]; exact hl4) (by rw [mb10, mb2]; exact hrl) (by rw [hVb]; exact DP_w hD x) zNI zcI (by rw [cl0]; decide) (by rw [cl2]; decide) (by omega) (by omega) ⟨by omega, by omega⟩ (fun h6 h7 => by rw [zcI, mb10]; omega)) gX10_count_X10_countBy rfl rfl rfl (by decide +kernel) ⟨Nat.le_of_ble_eq_true rfl, Nat.le_of_ble_eq_true rfl⟩ rfl (Nat.le_of_ble_eq_true rfl) ⟨Nat.zero_le _, Nat.zero_le _⟩ (by decide) (ce_house ad cs _ _) rfl rfl dX10_count_135 (fun r59 M60 L61 hr59 => ?_)
                  obtain ⟨hr59, hI, hFr59, hGr59⟩ := hr59
                  have hF : ∀ k i, ¬ (k = 0 ∧ i = 8) ∧ ¬ (k = 0 ∧ i = 9) ∧ ¬ (k = 0 ∧ i = 10) ∧ ¬ (k = 0 ∧ i = 11) ∧ k ≠ 83 ∧ k ≠ 87 ∧ k ≠ 257 ∧ ¬ (k = 88 ∧ i = 3) ∧ ¬ (k = 88 ∧ i = 4) ∧ k ≠ 89 ∧ k ≠ 90 ∧ k ≠ 94 ∧ k ≠ 95 ∧ k ≠ 97 ∧ ¬ (100 ≤ k ∧ k < 110) ∧ ¬ (110 ≤ k ∧ k < 120) ∧ k ≠ 123 ∧ ¬ (k = 125 ∧ i = 0) ∧ ¬ (k = 125 ∧ i = 2) ∧ ¬ (k = 191 ∧ i = 0) ∧ ¬ (k = 191 ∧ i = 2) ∧ k ≠ 126 ∧ k ≠ 127 ∧ k ≠ 128 ∧ k ≠ 192 ∧ k ≠ 193 ∧ k ≠ 194 → M60 k i = M k i := fun k i hk => by (rw [hFr59 k i (by omega)]; try exact hF k i hk)
                  have hG : ∀ k i, k ≠ 91 ∧ k ≠ 92 ∧ k ≠ 121 ∧ k ≠ 122 ∧ ¬ (k = 124 ∧ i = 0) ∧ ¬ (k = 124 ∧ i = 1) ∧ ¬ (131 ≤ k ∧ k < 191) ∧ ¬ (197 ≤ k ∧ k < 257) → L61 k i = L k i := fun k i hk => by (rw [hGr59 k i (by omega)]; try exact hG k i hk)
                  have hV : vC M60 = sI (sI (startV (vC M) x) 0 5 (-9)) 0 5 r29 := by rw [vC_fr (fun k hk => funext (fun i => hFr59 k i (by omega))), hV]
                  have k0_8 : M60 0 8 = M 0 8 := (hFr59 0 8 (by omega)).trans k0_8
                  have k0_9 : M60 0 9 = M 0 9 := (hFr59 0 9 (by omega)).trans k0_9
                  have k0_10 : M60 0 10 = r29 := (hFr59 0 10 (by omega)).trans k0_10
                  have k0_11 : M60 0 11 = vC M 0 4 := (hFr59 0 11 (by omega)).trans k0_11
                  have k88_3 : M60 88 3 = M54 88 3 := (hFr59 88 3 (by omega)).trans k88_3
                  have k88_4 : M60 88 4 = M54 88 4 := (hFr59 88 4 (by omega)).trans k88_4
                  have k191_0 : M60 191 0 = M 191 0 := (hFr59 191 0 (by omega)).trans k191_0
                  have k191_2 : M60 191 2 = M 191 2 := (hFr59 191 2 (by omega)).trans k191_2
                  have k125_0 : M60 125 0 = M60 125 0 := rfl
                  have k125_2 : M60 125 2 = M60 125 2 := rfl
                  have kt0_8 := congrArg Int32.toInt k0_8
                  have kt0_9 := congrArg Int32.toInt k0_9
                  have kt0_10 := congrArg Int32.toInt k0_10
                  have kt0_11 := congrArg Int32.toInt k0_11
                  have kt88_3 := congrArg Int32.toInt k88_3
                  have kt88_4 := congrArg Int32.toInt k88_4
                  have kt125_0 := congrArg Int32.toInt k125_0
                  have kt125_2 := congrArg Int32.toInt k125_2
                  have kt191_0 := congrArg Int32.toInt k191_0
                  have kt191_2 := congrArg Int32.toInt k191_2
                  have l124_0 : L61 124 0 = L61 124 0 := rfl
                  have l124_1 : L61 124 1 = L61 124 1 := rfl
                  have p91 : L61 91 = L61 91 := rfl
                  have p92 : L61 92 = L61 92 := rfl
                  have p121 : L61 121 = L61 121 := rfl
                  have p122 : L61 122 = L61 122 := rfl
                  have q100 : ∀ k, 100 ≤ k ∧ k < 110 → M60 k = M60 k := fun _ _ => rfl
                  have q110 : ∀ k, 110 ≤ k ∧ k < 120 → M60 k = M60 k := fun _ _ => rfl
                  have q83 : M60 83 = M22 83 := (funext (fun i => hFr59 83 i (by omega))).trans q83
                  have q87 : M60 87 = M22 87 := (funext (fun i => hFr59 87 i (by omega))).trans q87
                  have q89 : M60 89 = M54 89 := (funext (fun i => hFr59 89 i (by omega))).trans q89
                  have q90 : M60 90 = M60 90 := rfl
                  have q94 : M60 94 = M60 94 := rfl
                  have q95 : M60 95 = M60 95 := rfl
                  have q97 : M60 97 = M60 97 := rfl
                  have q123 : M60 123 = M60 123 := rfl
                  have q126 : M60 126 = M60 126 := rfl
                  have q127 : M60 127 = M60 127 := rfl
                  have q128 : M60 128 = M60 128 := rfl
                  have q192 : M60 192 = M 192 := (funext (fun i => hFr59 192 i (by omega))).trans q192
                  have q193 : M60 193 = M 193 := (funext (fun i => hFr59 193 i (by omega))).trans q193
                  have q194 : M60 194 = M 194 := (funext (fun i => hFr59 194 i (by omega))).trans q194
                  have q257 : M60 257 = M 257 := (funext (fun i => hFr59 257 i (by omega))).trans q257
                  obtain ⟨ok9, S9, R9, hcr, hz9, hrr⟩ := hr59
                  obtain ⟨bar59, bbr59⟩ := zo_b hz9
                  have hOUT : OUT (sI (startV (vC M) x) 0 5 (-9)) (vC M 9 x.toNatClampNeg) y z ok9 S9 R9 := by
                    refine ⟨M57 90, _, _, ?_, fun _ _ _ => ⟨rfl, rfl⟩, ?_⟩
                    · intro c hc
                      rw [congrFun q90k c]; exact tkI c hc
                    · have h9 := hcr
                      have eMN : (M57 88 3).toNatClampNeg = cnP (fun i => (sI (startV (vC M) x) 0 5 (-9)) 8 (40 * y.toNatClampNeg + i)) ((sI (startV (vC M) x) 0 5 (-9)) 7 y.toNatClampNeg).toNatClampNeg := by have := ixn (x := M57 88 3) (by omega); omega
                      rw [hVb, eMN, sumK_P _ bLY, k884k, tk4, show M57 2 = (sI (startV (vC M) x) 0 5 (-9)) 1 from (by rw [← hVb]; rfl), show M57 1 0 = (sI (startV (vC M) x) 0 5 (-9)) 0 0 from (by rw [← hVb]; rfl), hkg] at h9
                      exact h9
                  refine g_if_ne C 144 dX10_count_138 (by decide) (fun c62 => ?_) (fun c62 => ?_)
                  ·
                    have f63 := fne rfl (by decide : (0 : Int32).toInt = 0) c62
                    have hok := zo_t hz9 c62
                    refine g_aload_n C 1 dX10_count_144 rfl ?_
                    refine g_get C (.ref (ad ((M60 0 9).toNatClampNeg))) 9 in_X10_count_10 (List.mem_of_getElem? (i := 6) rfl) (by decide) (ce_house ad cs _ _) rfl (by decide) rfl rfl dX10_count_145 ?_
                    refine g_tr 125 (by rw [k0_9, hg9]; rfl) ?_
                    refine g_astore C [(5, .ref (ad 125)), (4, .int v26), (0, .ref (ad 0)), (1, .int x), (2, .int y), (3, .int z)] dX10_count_148 (by decide) rfl ?_
                    refine g_aload_n C 2 dX10_count_150 rfl ?_
                    refine g_aload_n C 2 dX10_count_151 rfl ?_
                    refine g_get C (.ref (ad ((M60 0 8).toNatClampNeg))) 8 in_X10_count_10 (List.mem_of_getElem? (i := 7) rfl) (by decide) (ce_house ad cs _ _) rfl (by decide) rfl rfl dX10_count_152 ?_
                    refine g_tr 191 (by rw [k0_8, hg8]; rfl) ?_
                    refine g_putR C (x9 := 191) 9 in_X10_count_10 (List.mem_of_getElem? (i := 6) rfl) (by decide) (ce_house ad cs _ _) rfl (by decide) rfl tyX10 tyX10_ok nmX10 rfl rfl rfl rfl (Nat.le_of_ble_eq_true rfl) (by rw [sI_k]; rfl) dX10_count_155 ?_
                    refine g_nm (fun M64 hM64 => ?_)
                    have zy65 : (191 : Int32).toInt = 191 := by decide
                    have hI : IC M64 := by rw [hM64]; exact hI.st (fun _ => Or.inr rfl)
                    have hF : ∀ k i, ¬ (k = 0 ∧ i = 8) ∧ ¬ (k = 0 ∧ i = 9) ∧ ¬ (k = 0 ∧ i = 10) ∧ ¬ (k = 0 ∧ i = 11) ∧ k ≠ 83 ∧ k ≠ 87 ∧ k ≠ 257 ∧ ¬ (k = 88 ∧ i = 3) ∧ ¬ (k = 88 ∧ i = 4) ∧ k ≠ 89 ∧ k ≠ 90 ∧ k ≠ 94 ∧ k ≠ 95 ∧ k ≠ 97 ∧ ¬ (100 ≤ k ∧ k < 110) ∧ ¬ (110 ≤ k ∧ k < 120) ∧ k ≠ 123 ∧ ¬ (k = 125 ∧ i = 0) ∧ ¬ (k = 125 ∧ i = 2) ∧ ¬ (k = 191 ∧ i = 0) ∧ ¬ (k = 191 ∧ i = 2) ∧ k ≠ 126 ∧ k ≠ 127 ∧ k ≠ 128 ∧ k ≠ 192 ∧ k ≠ 193 ∧ k ≠ 194 → M64 k i = M k i := fun k i hk => by (rw [hM64, sI_at, if_neg (by omega)]; try exact hF k i hk)
                    have k0_8 : M64 0 8 = M 0 8 := by rw [hM64, sI_at, if_neg (by decide)]; try exact k0_8
                    have k0_10 : M64 0 10 = r29 := by rw [hM64, sI_at, if_neg (by decide)]; try exact k0_10
                    have k0_11 : M64 0 11 = vC M 0 4 := by rw [hM64, sI_at, if_neg (by decide)]; try exact k0_11
                    have k88_3 : M64 88 3 = M54 88 3 := by rw [hM64, sI_at, if_neg (by decide)]; try exact k88_3
                    have k88_4 : M64 88 4 = M54 88 4 := by rw [hM64, sI_at, if_neg (by decide)]; try exact k88_4
                    have k125_0 : M64 125 0 = M60 125 0 := by rw [hM64, sI_at, if_neg (by decide)]; try exact k125_0
                    have k125_2 : M64 125 2 = M60 125 2 := by rw [hM64, sI_at, if_neg (by decide)]; try exact k125_2
                    have k191_0 : M64 191 0 = M 191 0 := by rw [hM64, sI_at, if_neg (by decide)]; try exact k191_0
                    have k191_2 : M64 191 2 = M 191 2 := by rw [hM64, sI_at, if_neg (by decide)]; try exact k191_2
                    have k0_9 : M64 0 9 = 191 := by rw [hM64, sI_at, if_pos (by decide)]
                    have q83 : M64 83 = M22 83 := by rw [hM64, sI_n _ _ _ (by decide)]; try exact q83
                    have q87 : M64 87 = M22 87 := by rw [hM64, sI_n _ _ _ (by decide)]; try exact q87
                    have q89 : M64 89 = M54 89 := by rw [hM64, sI_n _ _ _ (by decide)]; try exact q89
                    have q90 : M64 90 = M60 90 := by rw [hM64, sI_n _ _ _ (by decide)]; try exact q90
                    have q94 : M64 94 = M60 94 := by rw [hM64, sI_n _ _ _ (by decide)]; try exact q94
                    have q95 : M64 95 = M60 95 := by rw [hM64, sI_n _ _ _ (by decide)]; try exact q95
                    have q97 : M64 97 = M60 97 := by rw [hM64, sI_n _ _ _ (by decide)]; try exact q97
                    have q123 : M64 123 = M60 123 := by rw [hM64, sI_n _ _ _ (by decide)]; try exact q123
                    have q126 : M64 126 = M60 126 := by rw [hM64, sI_n _ _ _ (by decide)]; try exact q126
                    have q127 : M64 127 = M60 127 := by rw [hM64, sI_n _ _ _ (by decide)]; try exact q127
                    have q128 : M64 128 = M60 128 := by rw [hM64, sI_n _ _ _ (by decide)]; try exact q128
                    have q192 : M64 192 = M 192 := by rw [hM64, sI_n _ _ _ (by decide)]; try exact q192
                    have q193 : M64 193 = M 193 := by rw [hM64, sI_n _ _ _ (by decide)]; try exact q193
                    have q194 : M64 194 = M 194 := by rw [hM64, sI_n _ _ _ (by decide)]; try exact q194
                    have q257 : M64 257 = M 257 := by rw [hM64, sI_n _ _ _ (by decide)]; try exact q257
                    have q100 : ∀ k, 100 ≤ k ∧ k < 110 → M64 k = M60 k := fun k hk => by rw [hM64, sI_n _ _ _ (by omega)]; try exact q100 k hk
                    have q110 : ∀ k, 110 ≤ k ∧ k < 120 → M64 k = M60 k := fun k hk => by rw [hM64, sI_n _ _ _ (by omega)]; try exact q110 k hk
                    have hV : vC M64 = sI (sI (startV (vC M) x) 0 5 (-9)) 0 5 r29 := by rw [hM64, vC_h (by decide), hV]
                    refine g_aload_n C 2 dX10_count_158 rfl ?_
                    refine g_aload C 0 dX10_count_159 rfl ?_
                    refine g_putR C (x9 := 125) 8 in_X10_count_10 (List.mem_of_getElem? (i := 7) rfl) (by decide) (ce_house ad cs _ _) rfl (by decide) rfl tyX10 tyX10_ok nmX10 rfl rfl rfl rfl (Nat.le_of_ble_eq_true rfl) (by rw [sI_k]; rfl) dX10_count_161 ?_
                    refine g_nm (fun M66 hM66 => ?_)
                    have zy67 : (125 : Int32).toInt = 125 := by decide
                    have hI : IC M66 := by rw [hM66]; exact hI.st (fun _ => Or.inl rfl)
                    have hF : ∀ k i, ¬ (k = 0 ∧ i = 8) ∧ ¬ (k = 0 ∧ i = 9) ∧ ¬ (k = 0 ∧ i = 10) ∧ ¬ (k = 0 ∧ i = 11) ∧ k ≠ 83 ∧ k ≠ 87 ∧ k ≠ 257 ∧ ¬ (k = 88 ∧ i = 3) ∧ ¬ (k = 88 ∧ i = 4) ∧ k ≠ 89 ∧ k ≠ 90 ∧ k ≠ 94 ∧ k ≠ 95 ∧ k ≠ 97 ∧ ¬ (100 ≤ k ∧ k < 110) ∧ ¬ (110 ≤ k ∧ k < 120) ∧ k ≠ 123 ∧ ¬ (k = 125 ∧ i = 0) ∧ ¬ (k = 125 ∧ i = 2) ∧ ¬ (k = 191 ∧ i = 0) ∧ ¬ (k = 191 ∧ i = 2) ∧ k ≠ 126 ∧ k ≠ 127 ∧ k ≠ 128 ∧ k ≠ 192 ∧ k ≠ 193 ∧ k ≠ 194 → M66 k i = M k i := fun k i hk => by (rw [hM66, sI_at, if_neg (by omega)]; try exact hF k i hk)
                    have k0_9 : M66 0 9 = 191 := by rw [hM66, sI_at, if_neg (by decide)]; try exact k0_9
                    have k0_10 : M66 0 10 = r29 := by rw [hM66, sI_at, if_neg (by decide)]; try exact k0_10
                    have k0_11 : M66 0 11 = vC M 0 4 := by rw [hM66, sI_at, if_neg (by decide)]; try exact k0_11
                    have k88_3 : M66 88 3 = M54 88 3 := by rw [hM66, sI_at, if_neg (by decide)]; try exact k88_3
                    have k88_4 : M66 88 4 = M54 88 4 := by rw [hM66, sI_at, if_neg (by decide)]; try exact k88_4
                    have k125_0 : M66 125 0 = M60 125 0 := by rw [hM66, sI_at, if_neg (by decide)]; try exact k125_0
                    have k125_2 : M66 125 2 = M60 125 2 := by rw [hM66, sI_at, if_neg (by decide)]; try exact k125_2
                    have k191_0 : M66 191 0 = M 191 0 := by rw [hM66, sI_at, if_neg (by decide)]; try exact k191_0
                    have k191_2 : M66 191 2 = M 191 2 := by rw [hM66, sI_at, if_neg (by decide)]; try exact k191_2
                    have k0_8 : M66 0 8 = 125 := by rw [hM66, sI_at, if_pos (by decide)]
                    have q83 : M66 83 = M22 83 := by rw [hM66, sI_n _ _ _ (by decide)]; try exact q83
                    have q87 : M66 87 = M22 87 := by rw [hM66, sI_n _ _ _ (by decide)]; try exact q87
                    have q89 : M66 89 = M54 89 := by rw [hM66, sI_n _ _ _ (by decide)]; try exact q89
                    have q90 : M66 90 = M60 90 := by rw [hM66, sI_n _ _ _ (by decide)]; try exact q90
                    have q94 : M66 94 = M60 94 := by rw [hM66, sI_n _ _ _ (by decide)]; try exact q94
                    have q95 : M66 95 = M60 95 := by rw [hM66, sI_n _ _ _ (by decide)]; try exact q95
                    have q97 : M66 97 = M60 97 := by rw [hM66, sI_n _ _ _ (by decide)]; try exact q97
                    have q123 : M66 123 = M60 123 := by rw [hM66, sI_n _ _ _ (by decide)]; try exact q123
                    have q126 : M66 126 = M60 126 := by rw [hM66, sI_n _ _ _ (by decide)]; try exact q126
                    have q127 : M66 127 = M60 127 := by rw [hM66, sI_n _ _ _ (by decide)]; try exact q127
                    have q128 : M66 128 = M60 128 := by rw [hM66, sI_n _ _ _ (by decide)]; try exact q128
                    have q192 : M66 192 = M 192 := by rw [hM66, sI_n _ _ _ (by decide)]; try exact q192
                    have q193 : M66 193 = M 193 := by rw [hM66, sI_n _ _ _ (by decide)]; try exact q193
                    have q194 : M66 194 = M 194 := by rw [hM66, sI_n _ _ _ (by decide)]; try exact q194
                    have q257 : M66 257 = M 257 := by rw [hM66, sI_n _ _ _ (by decide)]; try exact q257
                    have q100 : ∀ k, 100 ≤ k ∧ k < 110 → M66 k = M60 k := fun k hk => by rw [hM66, sI_n _ _ _ (by omega)]; try exact q100 k hk
                    have q110 : ∀ k, 110 ≤ k ∧ k < 120 → M66 k = M60 k := fun k hk => by rw [hM66, sI_n _ _ _ (by omega)]; try exact q110 k hk
                    have hV : vC M66 = sI (sI (startV (vC M) x) 0 5 (-9)) 0 5 r29 := by rw [hM66, vC_h (by decide), hV]
                    refine g_aload_n C 2 dX10_count_164 rfl ?_
                    refine g_get C (.ref (ad ((M66 0 8).toNatClampNeg))) 8 in_X10_count_10 (List.mem_of_getElem? (i := 7) rfl) (by decide) (ce_house ad cs _ _) rfl (by decide) rfl rfl dX10_count_165 ?_
                    refine g_tr 125 (by rw [k0_8]; rfl) ?_
                    refine g_get C (.int (M66 125 0)) 0 in_X10_count_7 (List.mem_of_getElem? (i := 8) rfl) (by decide) (ce_ra ad cs _ _) rfl (by decide) rfl rfl dX10_count_168 ?_
                    refine g_ni (fun v68 ev68 => ?_)
                    have gv68 : v68 = M60 125 0 := ev68.trans k125_0
                    have tv68 := congrArg Int32.toInt gv68
                    obtain ⟨bv68, dv68⟩ := (show rg 0 30 v68 from (by rw [ev68]; exact hI 125 0 (Or.inl rfl)))
                    have hA : A_count (vC M) x y z = (0, sI (startV (vC M) x) 0 5 (-9)) := by dsimp only [A_count, hasM, hasX, seatsOk, bt]; (repeat (first | rw [if_pos (by omega)] | rw [if_neg (by omega)]))
                    have hrr9 := hrr hok
                    have hS9 := hrr9.1
                    have hrz : RP (M66 125 0) (M66 126) (M66 125 2) (M66 127) (M66 128) S9 R9 := by rw [k125_0, k125_2, q126, q127, q128]; exact hrr9
                    exact g_iret C hr ⟨⟨by rw [hA, hV, sI_sI, er9], fun h => absurd (by rw [hA]) h, fun _ => ⟨ok9, S9, R9, by rw [hA]; exact hOUT, fun _ => ⟨by rw [gv68]; exact hS9, Or.inl ⟨k0_8, hrz⟩, by unfold LSc; rw [k0_8, k0_9]; decide⟩, fun h9 => absurd (hok.symm.trans h9) (by decide)⟩⟩, hI, hF, hG⟩ dX10_count_171
                  ·
                    have f69 := feq rfl (by decide : (0 : Int32).toInt = 0) c62
                    have hnok := zo_f hz9 c62
                    refine g_bipush C (-6) dX10_count_141 (by decide) ?_
                    have hA : A_count (vC M) x y z = (0, sI (startV (vC M) x) 0 5 (-9)) := by dsimp only [A_count, hasM, hasX, seatsOk, bt]; (repeat (first | rw [if_pos (by omega)] | rw [if_neg (by omega)]))
                    have zr9 : ((-6) : Int32).toInt = (-6) := by decide
                    exact g_iret C hr ⟨⟨by rw [hA, hV, sI_sI, er9], fun h => absurd (by rw [hA]) h, fun _ => ⟨ok9, S9, R9, by rw [hA]; exact hOUT, fun h9 => absurd h9 hnok, fun _ => ⟨rfl, CDs_191 hg8 k0_8 k0_9 ⟨k191_0, q192, k191_2, q193, q194⟩⟩⟩⟩, hI, hF, hG⟩ dX10_count_143
                ·
                  exact absurd (hg8.trans hg9.symm) hLS
            ·
              have f70 := fne rfl (by decide : ((-9) : Int32).toInt = (-9)) c34
              refine g_aload_n C 1 dX10_count_102 rfl ?_
              refine g_iconst C 3 dX10_count_103 (by decide) ?_
              refine g_callVi C (n := 1) (As := [.int 3]) (st := []) (v_X10_found l D ad cs _ _ 3 hI ⟨by first | omega | decide, by first | omega | decide⟩) gX10_count_X10_found rfl rfl rfl (by decide +kernel) ⟨Nat.le_of_ble_eq_true rfl, Nat.le_of_ble_eq_true rfl⟩ rfl (Nat.le_of_ble_eq_true rfl) ⟨Nat.zero_le _, Nat.zero_le _⟩ (by decide) (ce_house ad cs _ _) rfl rfl dX10_count_104 (fun r71 M72 L73 hr71 => ?_)
              obtain ⟨hr71, hI, hFr71, hGr71⟩ := hr71
              have hF : ∀ k i, ¬ (k = 0 ∧ i = 8) ∧ ¬ (k = 0 ∧ i = 9) ∧ ¬ (k = 0 ∧ i = 10) ∧ ¬ (k = 0 ∧ i = 11) ∧ k ≠ 83 ∧ k ≠ 87 ∧ k ≠ 257 ∧ ¬ (k = 88 ∧ i = 3) ∧ ¬ (k = 88 ∧ i = 4) ∧ k ≠ 89 ∧ k ≠ 90 ∧ k ≠ 94 ∧ k ≠ 95 ∧ k ≠ 97 ∧ ¬ (100 ≤ k ∧ k < 110) ∧ ¬ (110 ≤ k ∧ k < 120) ∧ k ≠ 123 ∧ ¬ (k = 125 ∧ i = 0) ∧ ¬ (k = 125 ∧ i = 2) ∧ ¬ (k = 191 ∧ i = 0) ∧ ¬ (k = 191 ∧ i = 2) ∧ k ≠ 126 ∧ k ≠ 127 ∧ k ≠ 128 ∧ k ≠ 192 ∧ k ≠ 193 ∧ k ≠ 194 → M72 k i = M k i := fun k i hk => by (rw [hFr71 k i (by omega)]; try exact hF k i hk)
              have hG : ∀ k i, k ≠ 91 ∧ k ≠ 92 ∧ k ≠ 121 ∧ k ≠ 122 ∧ ¬ (k = 124 ∧ i = 0) ∧ ¬ (k = 124 ∧ i = 1) ∧ ¬ (131 ≤ k ∧ k < 191) ∧ ¬ (197 ≤ k ∧ k < 257) → L73 k i = L k i := fun k i hk => by (rw [hGr71 k i trivial]; try exact hG k i hk)
              have hV : vC M72 = meetsV (sI (sI (startV (vC M) x) 0 5 (-9)) 0 5 r29) 3 := by rw [hr71.2, hV]
              have k0_8 : M72 0 8 = M 0 8 := (hFr71 0 8 (by omega)).trans k0_8
              have k0_9 : M72 0 9 = M 0 9 := (hFr71 0 9 (by omega)).trans k0_9
              have k0_10 : M72 0 10 = r29 := (hFr71 0 10 (by omega)).trans k0_10
              have k88_3 : M72 88 3 = M 88 3 := (hFr71 88 3 (by omega)).trans k88_3
              have k88_4 : M72 88 4 = M 88 4 := (hFr71 88 4 (by omega)).trans k88_4
              have k125_0 : M72 125 0 = M 125 0 := (hFr71 125 0 (by omega)).trans k125_0
              have k125_2 : M72 125 2 = M 125 2 := (hFr71 125 2 (by omega)).trans k125_2
              have k191_0 : M72 191 0 = M 191 0 := (hFr71 191 0 (by omega)).trans k191_0
              have k191_2 : M72 191 2 = M 191 2 := (hFr71 191 2 (by omega)).trans k191_2
              have k0_11 : M72 0 11 = M72 0 11 := rfl
              have l124_0 : L73 124 0 = L 124 0 := (hGr71 124 0 trivial).trans l124_0
              have l124_1 : L73 124 1 = L 124 1 := (hGr71 124 1 trivial).trans l124_1
              have p91 : L73 91 = L 91 := (funext (fun i => hGr71 91 i trivial)).trans p91
              have p92 : L73 92 = L 92 := (funext (fun i => hGr71 92 i trivial)).trans p92
              have p121 : L73 121 = L 121 := (funext (fun i => hGr71 121 i trivial)).trans p121
              have p122 : L73 122 = L 122 := (funext (fun i => hGr71 122 i trivial)).trans p122
              have q100 : ∀ k, 100 ≤ k ∧ k < 110 → M72 k = M k := fun k hk => (funext (fun i => hFr71 k i (by omega))).trans (q100 k hk)
              have q110 : ∀ k, 110 ≤ k ∧ k < 120 → M72 k = M k := fun k hk => (funext (fun i => hFr71 k i (by omega))).trans (q110 k hk)
              have q83 : M72 83 = M22 83 := (funext (fun i => hFr71 83 i (by omega))).trans q83
              have q87 : M72 87 = M22 87 := (funext (fun i => hFr71 87 i (by omega))).trans q87
              have q89 : M72 89 = M 89 := (funext (fun i => hFr71 89 i (by omega))).trans q89
              have q90 : M72 90 = M 90 := (funext (fun i => hFr71 90 i (by omega))).trans q90
              have q94 : M72 94 = M 94 := (funext (fun i => hFr71 94 i (by omega))).trans q94
              have q95 : M72 95 = M 95 := (funext (fun i => hFr71 95 i (by omega))).trans q95
              have q97 : M72 97 = M 97 := (funext (fun i => hFr71 97 i (by omega))).trans q97
              have q123 : M72 123 = M 123 := (funext (fun i => hFr71 123 i (by omega))).trans q123
              have q126 : M72 126 = M 126 := (funext (fun i => hFr71 126 i (by omega))).trans q126
              have q127 : M72 127 = M 127 := (funext (fun i => hFr71 127 i (by omega))).trans q127
              have q128 : M72 128 = M 128 := (funext (fun i => hFr71 128 i (by omega))).trans q128
              have q192 : M72 192 = M 192 := (funext (fun i => hFr71 192 i (by omega))).trans q192
              have q193 : M72 193 = M 193 := (funext (fun i => hFr71 193 i (by omega))).trans q193
              have q194 : M72 194 = M 194 := (funext (fun i => hFr71 194 i (by omega))).trans q194
              have q257 : M72 257 = M72 257 := rfl
              have hA : A_count (vC M) x y z = (-3, meetsV (sI (startV (vC M) x) 0 5 (unV (vC M) y (vC M 9 x.toNatClampNeg))) 3) := by dsimp only [A_count, hasM, hasX, seatsOk, bt]; (repeat (first | rw [if_pos (by omega)] | rw [if_neg (by omega)]))
              exact g_iret C hr ⟨⟨by rw [hA, hV, sI_sI, hr29], fun _ => ⟨by rw [hA]; exact hr71.1, CDs_of (hI0 0 8 (Or.inl rfl)) k0_8 k0_9 ⟨k125_0, q126, k125_2, q127, q128⟩ ⟨k191_0, q192, k191_2, q193, q194⟩⟩, fun h => absurd h (by rw [hA]; show ¬ (-3 : Int32) = 0; decide)⟩, hI, hF, hG⟩ dX10_count_107
          ·
            have f74 := feq rfl (by decide : (1 : Int32).toInt = 1) c27
            refine g_iconst C 3 dX10_count_82 (by decide) ?_
            refine g_goto C 87 dX10_count_83 (by decide) ?_
            refine g_callVi C (n := 2) (As := [.int y, .int 3]) (st := [.ref (ad 0)]) (v_X10_firstUnlike l D ad cs _ _ y 3 hI ⟨by omega, by omega⟩ (by decide) (by rw [y8, y01]; exact h8) (by rw [y2]; exact hS)) gX10_count_X10_firstUnlike rfl rfl rfl (by decide +kernel) ⟨Nat.le_of_ble_eq_true rfl, Nat.le_of_ble_eq_true rfl⟩ rfl (Nat.le_of_ble_eq_true rfl) ⟨Nat.zero_le _, Nat.zero_le _⟩ (by decide) (ce_house ad cs _ _) rfl rfl dX10_count_87 (fun r75 M76 L77 hr75 => ?_)
            obtain ⟨hq1, hq2, hr75⟩ := hr75
            obtain rfl := hq1.symm
            obtain rfl := hq2.symm
            have hr75 : r75 = unV (vC M) y (vC M 9 x.toNatClampNeg) := by rw [hr75, y7, unF_ext y8 y2]; show _ = unF (vC M) y.toNatClampNeg (if (vC M 9 x.toNatClampNeg).toInt = 1 then 3 else 1) _ 0; first | rw [if_pos (by omega)] | rw [if_neg (by omega)]
            have tr75 := congrArg Int32.toInt hr75
            refine g_putI C 10 in_X10_count_10 (List.mem_of_getElem? (i := 1) rfl) (by decide) (ce_house ad cs _ _) rfl (by decide) rfl tyX10 tyX10_ok nmX10 rfl rfl rfl rfl (Nat.le_of_ble_eq_true rfl) (by rw [sI_k]; rfl) dX10_count_90 ?_
            refine g_nm (fun M78 hM78 => ?_)
            have hI : IC M78 := by rw [hM78]; exact hI.st (by intro h; rcases h with h | h <;> exact absurd h (by decide))
            have hF : ∀ k i, ¬ (k = 0 ∧ i = 8) ∧ ¬ (k = 0 ∧ i = 9) ∧ ¬ (k = 0 ∧ i = 10) ∧ ¬ (k = 0 ∧ i = 11) ∧ k ≠ 83 ∧ k ≠ 87 ∧ k ≠ 257 ∧ ¬ (k = 88 ∧ i = 3) ∧ ¬ (k = 88 ∧ i = 4) ∧ k ≠ 89 ∧ k ≠ 90 ∧ k ≠ 94 ∧ k ≠ 95 ∧ k ≠ 97 ∧ ¬ (100 ≤ k ∧ k < 110) ∧ ¬ (110 ≤ k ∧ k < 120) ∧ k ≠ 123 ∧ ¬ (k = 125 ∧ i = 0) ∧ ¬ (k = 125 ∧ i = 2) ∧ ¬ (k = 191 ∧ i = 0) ∧ ¬ (k = 191 ∧ i = 2) ∧ k ≠ 126 ∧ k ≠ 127 ∧ k ≠ 128 ∧ k ≠ 192 ∧ k ≠ 193 ∧ k ≠ 194 → M78 k i = M k i := fun k i hk => by (rw [hM78, sI_at, if_neg (by omega)]; try exact hF k i hk)
            have k0_8 : M78 0 8 = M 0 8 := by rw [hM78, sI_at, if_neg (by decide)]; try exact k0_8
            have k0_9 : M78 0 9 = M 0 9 := by rw [hM78, sI_at, if_neg (by decide)]; try exact k0_9
            have k0_11 : M78 0 11 = vC M 0 4 := by rw [hM78, sI_at, if_neg (by decide)]; try exact k0_11
            have k88_3 : M78 88 3 = M 88 3 := by rw [hM78, sI_at, if_neg (by decide)]; try exact k88_3
            have k88_4 : M78 88 4 = M 88 4 := by rw [hM78, sI_at, if_neg (by decide)]; try exact k88_4
            have k125_0 : M78 125 0 = M 125 0 := by rw [hM78, sI_at, if_neg (by decide)]; try exact k125_0
            have k125_2 : M78 125 2 = M 125 2 := by rw [hM78, sI_at, if_neg (by decide)]; try exact k125_2
            have k191_0 : M78 191 0 = M 191 0 := by rw [hM78, sI_at, if_neg (by decide)]; try exact k191_0
            have k191_2 : M78 191 2 = M 191 2 := by rw [hM78, sI_at, if_neg (by decide)]; try exact k191_2
            have k0_10 : M78 0 10 = r75 := by rw [hM78, sI_at, if_pos (by decide)]
            have q83 : M78 83 = M22 83 := by rw [hM78, sI_n _ _ _ (by decide)]; try exact q83
            have q87 : M78 87 = M22 87 := by rw [hM78, sI_n _ _ _ (by decide)]; try exact q87
            have q89 : M78 89 = M 89 := by rw [hM78, sI_n _ _ _ (by decide)]; try exact q89
            have q90 : M78 90 = M 90 := by rw [hM78, sI_n _ _ _ (by decide)]; try exact q90
            have q94 : M78 94 = M 94 := by rw [hM78, sI_n _ _ _ (by decide)]; try exact q94
            have q95 : M78 95 = M 95 := by rw [hM78, sI_n _ _ _ (by decide)]; try exact q95
            have q97 : M78 97 = M 97 := by rw [hM78, sI_n _ _ _ (by decide)]; try exact q97
            have q123 : M78 123 = M 123 := by rw [hM78, sI_n _ _ _ (by decide)]; try exact q123
            have q126 : M78 126 = M 126 := by rw [hM78, sI_n _ _ _ (by decide)]; try exact q126
            have q127 : M78 127 = M 127 := by rw [hM78, sI_n _ _ _ (by decide)]; try exact q127
            have q128 : M78 128 = M 128 := by rw [hM78, sI_n _ _ _ (by decide)]; try exact q128
            have q192 : M78 192 = M 192 := by rw [hM78, sI_n _ _ _ (by decide)]; try exact q192
            have q193 : M78 193 = M 193 := by rw [hM78, sI_n _ _ _ (by decide)]; try exact q193
            have q194 : M78 194 = M 194 := by rw [hM78, sI_n _ _ _ (by decide)]; try exact q194
            have q257 : M78 257 = M 257 := by rw [hM78, sI_n _ _ _ (by decide)]; try exact q257
            have q100 : ∀ k, 100 ≤ k ∧ k < 110 → M78 k = M k := fun k hk => by rw [hM78, sI_n _ _ _ (by omega)]; try exact q100 k hk
            have q110 : ∀ k, 110 ≤ k ∧ k < 120 → M78 k = M k := fun k hk => by rw [hM78, sI_n _ _ _ (by omega)]; try exact q110 k hk
            have hV : vC M78 = sI (sI (startV (vC M) x) 0 5 (-9)) 0 5 r75 := by rw [hM78, vC_s (c := 5) (by decide), hV]
            refine g_aload_n C 1 dX10_count_93 rfl ?_
            refine g_get C (.int (M78 0 10)) 10 in_X10_count_10 (List.mem_of_getElem? (i := 1) rfl) (by decide) (ce_house ad cs _ _) rfl (by decide) rfl rfl dX10_count_94 ?_
            refine g_ni (fun v79 ev79 => ?_)
            have gv79 : v79 = r75 := ev79.trans k0_10
            have tv79 := congrArg Int32.toInt gv79
            refine g_bipush C (-9) dX10_count_97 (by decide) ?_
            refine g_icmp_eq C 108 dX10_count_99 (by decide) (fun c80 => ?_) (fun c80 => ?_)
            ·
              have f81 := feq rfl (by decide : ((-9) : Int32).toInt = (-9)) c80
              rcases (hI0 0 8 (Or.inl rfl)) with hg8 | hg8
              ·
                rcases (hI0 0 9 (Or.inr rfl)) with hg9 | hg9
                ·
                  exact absurd (hg8.trans hg9.symm) hLS
                ·
                  refine g_aload_n C 1 dX10_count_108 rfl ?_
                  refine g_get C (.ref (ad 88)) 4 in_X10_count_10 (List.mem_of_getElem? (i := 5) rfl) (by decide) (ce_house ad cs _ _) rfl (by decide) rfl rfl dX10_count_109 ?_
                  refine g_aload_n C 1 dX10_count_112 rfl ?_
                  refine g_get C (.ref (ad 68)) 2 in_X10_count_10 (List.mem_of_getElem? (i := 3) rfl) (by decide) (ce_house ad cs _ _) rfl (by decide) rfl rfl dX10_count_113 ?_
                  refine g_iload_n C 3 dX10_count_116 rfl ?_
                  refine g_iload_n C 4 dX10_count_117 rfl ?_
                  have er9 : r75 = -9 := Int32.toInt_inj.mp (by rw [show (-9 : Int32).toInt = -9 by decide]; omega)
                  have hVt : vC M78 = (sI (startV (vC M) x) 0 5 (-9)) := by rw [hV, sI_sI, er9]
                  have y1v : (sI (startV (vC M) x) 0 5 (-9)) 1 = vC M 1 := by rw [sI_n _ _ _ (by decide)]; rfl
                  have y3v : (sI (startV (vC M) x) 0 5 (-9)) 3 = vC M 3 := by rw [sI_n _ _ _ (by decide)]; rfl
                  have y4v : (sI (startV (vC M) x) 0 5 (-9)) 4 = vC M 4 := by rw [sI_n _ _ _ (by decide)]; rfl
                  have y5v : (sI (startV (vC M) x) 0 5 (-9)) 5 = vC M 5 := by rw [sI_n _ _ _ (by decide)]; rfl
                  have y7v : (sI (startV (vC M) x) 0 5 (-9)) 7 = vC M 7 := by rw [sI_n _ _ _ (by decide)]; rfl
                  have y8v : (sI (startV (vC M) x) 0 5 (-9)) 8 = vC M 8 := by rw [sI_n _ _ _ (by decide)]; rfl
                  have y00v : (sI (startV (vC M) x) 0 5 (-9)) 0 0 = vC M 0 0 := by rw [sI_at, if_neg (by decide)]; rfl
                  have y01v : (sI (startV (vC M) x) 0 5 (-9)) 0 1 = vC M 0 1 := by rw [sI_at, if_neg (by decide)]; rfl
                  have y02v : (sI (startV (vC M) x) 0 5 (-9)) 0 2 = vC M 0 2 := by rw [sI_at, if_neg (by decide)]; rfl
                  have hk9 : (vC M 9 x.toNatClampNeg).toInt ≠ 8 := h8k ⟨by omega, by omega⟩ (by omega)
                  refine g_callVv C (n := 3) (As := [.ref (ad 68), .int y, .int z]) (st := []) (k_X6_take l D ad cs _ _ y z hI (by rw [hVt]; show 0 ≤ y.toInt ∧ y.toInt < ((sI (startV (vC M) x) 0 5 (-9)) 0 2).toInt; rw [y02v]; exact ⟨by omega, by omega⟩) ⟨by omega, by omega⟩ (by rw [hVt, y8v, y01v]; exact h8)) gX10_count_X6_take rfl rfl rfl (by decide +kernel) ⟨Nat.le_of_ble_eq_true rfl, Nat.le_of_ble_eq_true rfl⟩ rfl (Nat.le_of_ble_eq_true rfl) ⟨Nat.zero_le _, Nat.zero_le _⟩ (by decide) (ce_poll ad cs _ _) rfl rfl dX10_count_118 (fun M83 L84 hr82 => ?_)
                  obtain ⟨hr82, hI, hFr82, hGr82⟩ := hr82
                  have hF : ∀ k i, ¬ (k = 0 ∧ i = 8) ∧ ¬ (k = 0 ∧ i = 9) ∧ ¬ (k = 0 ∧ i = 10) ∧ ¬ (k = 0 ∧ i = 11) ∧ k ≠ 83 ∧ k ≠ 87 ∧ k ≠ 257 ∧ ¬ (k = 88 ∧ i = 3) ∧ ¬ (k = 88 ∧ i = 4) ∧ k ≠ 89 ∧ k ≠ 90 ∧ k ≠ 94 ∧ k ≠ 95 ∧ k ≠ 97 ∧ ¬ (100 ≤ k ∧ k < 110) ∧ ¬ (110 ≤ k ∧ k < 120) ∧ k ≠ 123 ∧ ¬ (k = 125 ∧ i = 0) ∧ ¬ (k = 125 ∧ i = 2) ∧ ¬ (k = 191 ∧ i = 0) ∧ ¬ (k = 191 ∧ i = 2) ∧ k ≠ 126 ∧ k ≠ 127 ∧ k ≠ 128 ∧ k ≠ 192 ∧ k ≠ 193 ∧ k ≠ 194 → M83 k i = M k i := fun k i hk => by (rw [hFr82 k i (by omega)]; try exact hF k i hk)
                  have hG : ∀ k i, k ≠ 91 ∧ k ≠ 92 ∧ k ≠ 121 ∧ k ≠ 122 ∧ ¬ (k = 124 ∧ i = 0) ∧ ¬ (k = 124 ∧ i = 1) ∧ ¬ (131 ≤ k ∧ k < 191) ∧ ¬ (197 ≤ k ∧ k < 257) → L84 k i = L k i := fun k i hk => by (rw [hGr82 k i (by omega)]; try exact hG k i hk)
                  have hV : vC M83 = sI (sI (startV (vC M) x) 0 5 (-9)) 0 5 r75 := by rw [vC_fr (fun k hk => funext (fun i => hFr82 k i (by omega))), hV]
                  have k0_8 : M83 0 8 = M 0 8 := (hFr82 0 8 (by omega)).trans k0_8
                  have k0_9 : M83 0 9 = M 0 9 := (hFr82 0 9 (by omega)).trans k0_9
                  have k0_10 : M83 0 10 = r75 := (hFr82 0 10 (by omega)).trans k0_10
                  have k0_11 : M83 0 11 = vC M 0 4 := (hFr82 0 11 (by omega)).trans k0_11
                  have k125_0 : M83 125 0 = M 125 0 := (hFr82 125 0 (by omega)).trans k125_0
                  have k125_2 : M83 125 2 = M 125 2 := (hFr82 125 2 (by omega)).trans k125_2
                  have k191_0 : M83 191 0 = M 191 0 := (hFr82 191 0 (by omega)).trans k191_0
                  have k191_2 : M83 191 2 = M 191 2 := (hFr82 191 2 (by omega)).trans k191_2
                  have k88_3 : M83 88 3 = M83 88 3 := rfl
                  have k88_4 : M83 88 4 = M83 88 4 := rfl
                  have kt0_8 := congrArg Int32.toInt k0_8
                  have kt0_9 := congrArg Int32.toInt k0_9
                  have kt0_10 := congrArg Int32.toInt k0_10
                  have kt0_11 := congrArg Int32.toInt k0_11
                  have kt88_3 := congrArg Int32.toInt k88_3
                  have kt88_4 := congrArg Int32.toInt k88_4
                  have kt125_0 := congrArg Int32.toInt k125_0
                  have kt125_2 := congrArg Int32.toInt k125_2
                  have kt191_0 := congrArg Int32.toInt k191_0
                  have kt191_2 := congrArg Int32.toInt k191_2
                  have l124_0 : L84 124 0 = L 124 0 := (hGr82 124 0 (by omega)).trans l124_0
                  have l124_1 : L84 124 1 = L 124 1 := (hGr82 124 1 (by omega)).trans l124_1
                  have p91 : L84 91 = L84 91 := rfl
                  have p92 : L84 92 = L84 92 := rfl
                  have p121 : L84 121 = L 121 := (funext (fun i => hGr82 121 i (by omega))).trans p121
                  have p122 : L84 122 = L 122 := (funext (fun i => hGr82 122 i (by omega))).trans p122
                  have q100 : ∀ k, 100 ≤ k ∧ k < 110 → M83 k = M k := fun k hk => (funext (fun i => hFr82 k i (by omega))).trans (q100 k hk)
                  have q110 : ∀ k, 110 ≤ k ∧ k < 120 → M83 k = M k := fun k hk => (funext (fun i => hFr82 k i (by omega))).trans (q110 k hk)
                  have q83 : M83 83 = M22 83 := (funext (fun i => hFr82 83 i (by omega))).trans q83
                  have q87 : M83 87 = M22 87 := (funext (fun i => hFr82 87 i (by omega))).trans q87
                  have q89 : M83 89 = M83 89 := rfl
                  have q90 : M83 90 = M83 90 := rfl
                  have q94 : M83 94 = M 94 := (funext (fun i => hFr82 94 i (by omega))).trans q94
                  have q95 : M83 95 = M 95 := (funext (fun i => hFr82 95 i (by omega))).trans q95
                  have q97 : M83 97 = M 97 := (funext (fun i => hFr82 97 i (by omega))).trans q97
                  have q123 : M83 123 = M 123 := (funext (fun i => hFr82 123 i (by omega))).trans q123
                  have q126 : M83 126 = M 126 := (funext (fun i => hFr82 126 i (by omega))).trans q126
                  have q127 : M83 127 = M 127 := (funext (fun i => hFr82 127 i (by omega))).trans q127
                  have q128 : M83 128 = M 128 := (funext (fun i => hFr82 128 i (by omega))).trans q128
                  have q192 : M83 192 = M 192 := (funext (fun i => hFr82 192 i (by omega))).trans q192
                  have q193 : M83 193 = M 193 := (funext (fun i => hFr82 193 i (by omega))).trans q193
                  have q194 : M83 194 = M 194 := (funext (fun i => hFr82 194 i (by omega))).trans q194
                  have q257 : M83 257 = M 257 := (funext (fun i => hFr82 257 i (by omega))).trans q257
                  obtain ⟨tk3, tk4, tkL, tkI, tkT⟩ := hr82
                  rw [hVt] at tk3 tkL tkI
                  refine g_aload_n C 1 dX10_count_121 rfl ?_
                  refine g_get C (.ref (ad ((M83 0 9).toNatClampNeg))) 9 in_X10_count_10 (List.mem_of_getElem? (i := 6) rfl) (by decide) (ce_house ad cs _ _) rfl (by decide) rfl rfl dX10_count_122 ?_
                  refine g_tr 191 (by rw [k0_9, hg9]; rfl) ?_
                  refine g_callVv C (n := 0) (As := []) (st := []) (k_X7_clear_b l D ad cs _ _  hI ) gX10_count_X7_clear rfl rfl rfl (by decide +kernel) ⟨Nat.le_of_ble_eq_true rfl, Nat.le_of_ble_eq_true rfl⟩ rfl (Nat.le_of_ble_eq_true rfl) ⟨Nat.zero_le _, Nat.zero_le _⟩ (by decide) (ce_rb ad cs _ _) rfl rfl dX10_count_125 (fun M86 L87 hr85 => ?_)
                  obtain ⟨hr85, hI, hFr85, hGr85⟩ := hr85
                  have hF : ∀ k i, ¬ (k = 0 ∧ i = 8) ∧ ¬ (k = 0 ∧ i = 9) ∧ ¬ (k = 0 ∧ i = 10) ∧ ¬ (k = 0 ∧ i = 11) ∧ k ≠ 83 ∧ k ≠ 87 ∧ k ≠ 257 ∧ ¬ (k = 88 ∧ i = 3) ∧ ¬ (k = 88 ∧ i = 4) ∧ k ≠ 89 ∧ k ≠ 90 ∧ k ≠ 94 ∧ k ≠ 95 ∧ k ≠ 97 ∧ ¬ (100 ≤ k ∧ k < 110) ∧ ¬ (110 ≤ k ∧ k < 120) ∧ k ≠ 123 ∧ ¬ (k = 125 ∧ i = 0) ∧ ¬ (k = 125 ∧ i = 2) ∧ ¬ (k = 191 ∧ i = 0) ∧ ¬ (k = 191 ∧ i = 2) ∧ k ≠ 126 ∧ k ≠ 127 ∧ k ≠ 128 ∧ k ≠ 192 ∧ k ≠ 193 ∧ k ≠ 194 → M86 k i = M k i := fun k i hk => by (rw [hFr85 k i (by omega)]; try exact hF k i hk)
                  have hG : ∀ k i, k ≠ 91 ∧ k ≠ 92 ∧ k ≠ 121 ∧ k ≠ 122 ∧ ¬ (k = 124 ∧ i = 0) ∧ ¬ (k = 124 ∧ i = 1) ∧ ¬ (131 ≤ k ∧ k < 191) ∧ ¬ (197 ≤ k ∧ k < 257) → L87 k i = L k i := fun k i hk => by (rw [hGr85 k i trivial]; try exact hG k i hk)
                  have hV : vC M86 = sI (sI (startV (vC M) x) 0 5 (-9)) 0 5 r75 := by rw [vC_fr (fun k hk => funext (fun i => hFr85 k i (by omega))), hV]
                  have k0_8 : M86 0 8 = M 0 8 := (hFr85 0 8 (by omega)).trans k0_8
                  have k0_9 : M86 0 9 = M 0 9 := (hFr85 0 9 (by omega)).trans k0_9
                  have k0_10 : M86 0 10 = r75 := (hFr85 0 10 (by omega)).trans k0_10
                  have k0_11 : M86 0 11 = vC M 0 4 := (hFr85 0 11 (by omega)).trans k0_11
                  have k88_3 : M86 88 3 = M83 88 3 := (hFr85 88 3 (by omega)).trans k88_3
                  have k88_4 : M86 88 4 = M83 88 4 := (hFr85 88 4 (by omega)).trans k88_4
                  have k125_0 : M86 125 0 = M 125 0 := (hFr85 125 0 (by omega)).trans k125_0
                  have k125_2 : M86 125 2 = M 125 2 := (hFr85 125 2 (by omega)).trans k125_2
                  have k191_0 : M86 191 0 = M86 191 0 := rfl
                  have k191_2 : M86 191 2 = M86 191 2 := rfl
                  have kt0_8 := congrArg Int32.toInt k0_8
                  have kt0_9 := congrArg Int32.toInt k0_9
                  have kt0_10 := congrArg Int32.toInt k0_10
                  have kt0_11 := congrArg Int32.toInt k0_11
                  have kt88_3 := congrArg Int32.toInt k88_3
                  have kt88_4 := congrArg Int32.toInt k88_4
                  have kt125_0 := congrArg Int32.toInt k125_0
                  have kt125_2 := congrArg Int32.toInt k125_2
                  have kt191_0 := congrArg Int32.toInt k191_0
                  have kt191_2 := congrArg Int32.toInt k191_2
                  have l124_0 : L87 124 0 = L 124 0 := (hGr85 124 0 trivial).trans l124_0
                  have l124_1 : L87 124 1 = L 124 1 := (hGr85 124 1 trivial).trans l124_1
                  have p91 : L87 91 = L84 91 := (funext (fun i => hGr85 91 i trivial)).trans p91
                  have p92 : L87 92 = L84 92 := (funext (fun i => hGr85 92 i trivial)).trans p92
                  have p121 : L87 121 = L 121 := (funext (fun i => hGr85 121 i trivial)).trans p121
                  have p122 : L87 122 = L 122 := (funext (fun i => hGr85 122 i trivial)).trans p122
                  have q100 : ∀ k, 100 ≤ k ∧ k < 110 → M86 k = M k := fun k hk => (funext (fun i => hFr85 k i (by omega))).trans (q100 k hk)
                  have q110 : ∀ k, 110 ≤ k ∧ k < 120 → M86 k = M k := fun k hk => (funext (fun i => hFr85 k i (by omega))).trans (q110 k hk)
                  have q83 : M86 83 = M22 83 := (funext (fun i => hFr85 83 i (by omega))).trans q83
                  have q87 : M86 87 = M22 87 := (funext (fun i => hFr85 87 i (by omega))).trans q87
                  have q89 : M86 89 = M83 89 := (funext (fun i => hFr85 89 i (by omega))).trans q89
                  have q90 : M86 90 = M83 90 := (funext (fun i => hFr85 90 i (by omega))).trans q90
                  have q94 : M86 94 = M 94 := (funext (fun i => hFr85 94 i (by omega))).trans q94
                  have q95 : M86 95 = M 95 := (funext (fun i => hFr85 95 i (by omega))).trans q95
                  have q97 : M86 97 = M 97 := (funext (fun i => hFr85 97 i (by omega))).trans q97
                  have q123 : M86 123 = M 123 := (funext (fun i => hFr85 123 i (by omega))).trans q123
                  have q126 : M86 126 = M 126 := (funext (fun i => hFr85 126 i (by omega))).trans q126
                  have q127 : M86 127 = M 127 := (funext (fun i => hFr85 127 i (by omega))).trans q127
                  have q128 : M86 128 = M 128 := (funext (fun i => hFr85 128 i (by omega))).trans q128
                  have q192 : M86 192 = M 192 := (funext (fun i => hFr85 192 i (by omega))).trans q192
                  have q193 : M86 193 = M 193 := (funext (fun i => hFr85 193 i (by omega))).trans q193
                  have q194 : M86 194 = M 194 := (funext (fun i => hFr85 194 i (by omega))).trans q194
                  have q257 : M86 257 = M 257 := (funext (fun i => hFr85 257 i (by omega))).trans q257
                  obtain ⟨cl0, cl2⟩ := hr85
                  refine g_aload_n C 1 dX10_count_128 rfl ?_
                  refine g_iload C 0 dX10_count_129 rfl ?_
                  refine g_aload_n C 1 dX10_count_131 rfl ?_
                  refine g_get C (.ref (ad ((M86 0 9).toNatClampNeg))) 9 in_X10_count_10 (List.mem_of_getElem? (i := 6) rfl) (by decide) (ce_house ad cs _ _) rfl (by decide) rfl rfl dX10_count_132 ?_
                  refine g_tr 191 (by rw [k0_9, hg9]; rfl) ?_
                  have hVb : vC M86 = (sI (startV (vC M) x) 0 5 (-9)) := by rw [hV, sI_sI, er9]
                  have bLY : LY (fun i => (sI (startV (vC M) x) 0 5 (-9)) 8 (40 * y.toNatClampNeg + i)) (M86 89) ((sI (startV (vC M) x) 0 5 (-9)) 7 y.toNatClampNeg).toNatClampNeg := by rw [q89]; exact tkL
                  have bMN : (M86 88 3).toInt = (cnP (fun i => (sI (startV (vC M) x) 0 5 (-9)) 8 (40 * y.toNatClampNeg + i)) ((sI (startV (vC M) x) 0 5 (-9)) 7 y.toNatClampNeg).toNatClampNeg : Int) := by rw [k88_3]; exact tk3
                  have bmq : ((sI (startV (vC M) x) 0 5 (-9)) 7 y.toNatClampNeg).toNatClampNeg ≤ 40 := by rw [y7v]; have h9 : rg 0 40 (vC M 7 y.toNatClampNeg) := hI0 70 _; have h8_ := ixn h9.1; have h7 := h9.2; omega
                  have mb10 : M86 1 0 = M 1 0 := hF 1 0 (by omega)
                  have mb10t := congrArg Int32.toInt mb10
                  have mb2 : M86 2 = M 2 := funext (fun i => hF 2 i (by omega))
                  have k884t := congrArg Int32.toInt k88_4
                  have tk4t := congrArg Int32.toInt tk4
                  have n10 := ixn y0a
                  have zNI : NIn (M86 90) (M86 1 0).toInt := by
                    intro c hc hi
                    rw [mb10]
                    have h9 := tkI c hc
                    rw [← q90, y00v] at h9
                    by_cases e9 : (c : Int) < (M 1 0).toInt
                    · exact e9
                    · rw [if_neg (show ¬ (c : Int) < (vC M 0 0).toInt by omega)] at h9; rw [h9] at hi; exact absurd (by decide) hi
                  have zcI : cI (M86 90) (M86 1 0).toNatClampNeg = (M86 1 0).toNatClampNeg := by
                    refine cI_all _ (fun c hc => ?_)
                    rw [mb10] at hc
                    rw [congrFun q90 c, tkI c (by omega), y00v, if_pos (by omega)]
                    decide
                  have hkg : v26 = vC M 9 x.toNatClampNeg := gv26
                  have q90k := q90
                  have k884k := k88_4
                  refine g_callVi C (n := 2) (As := [.int v26, .ref (ad 191)]) (st := []) (k_X10_countBy_b l D ad cs _ _ v26 hI (wu := fun i => ((sI (startV (vC M) x) 0 5 (-9)) 3 ((sI (startV (vC M) x) 0 5 (-9)) 8 (40 * y.toNatClampNeg + i)).toNatClampNeg).toInt64) (wd := fun _ => 1) bLY bMN bmq (by rw [hVb]; exact fun _ _ _ => ⟨rfl, rfl⟩) (by rw [hVb, y3v]; exact hP3) (fun j hj => by rw [congrFun p91 j, congrFun p92 j]; exact tkT j hj) (by rw [hVb, y4v, y5v, y00v]; exact hA3) (by rw [hVb, y4v, y5v]; exact hdis) (by rw [hVb, y4v, y00v]; exact hl4) (by rw [mb10, mb2]; exact hrl) (by rw [hVb]; exact DP_w hD x) zNI zcI (by rw [cl0]; decide) (by rw [cl2]; decide) (by omega) (by omega) ⟨by omega, by omega⟩ (fun h6 h7 => by rw [zcI, mb10]; omega)) gX10_count_X10_countBy rfl rfl rfl (by decide +kernel) ⟨Nat.le_of_ble_eq_true rfl, Nat.le_of_ble_eq_true rfl⟩ rfl (Nat.le_of_ble_eq_true rfl) ⟨Nat.zero_le _, Nat.zero_le _⟩ (by decide) (ce_house ad cs _ _) rfl rfl dX10_count_135 (fun r88 M89 L90 hr88 => ?_)
                  obtain ⟨hr88, hI, hFr88, hGr88⟩ := hr88
                  have hF : ∀ k i, ¬ (k = 0 ∧ i = 8) ∧ ¬ (k = 0 ∧ i = 9) ∧ ¬ (k = 0 ∧ i = 10) ∧ ¬ (k = 0 ∧ i = 11) ∧ k ≠ 83 ∧ k ≠ 87 ∧ k ≠ 257 ∧ ¬ (k = 88 ∧ i = 3) ∧ ¬ (k = 88 ∧ i = 4) ∧ k ≠ 89 ∧ k ≠ 90 ∧ k ≠ 94 ∧ k ≠ 95 ∧ k ≠ 97 ∧ ¬ (100 ≤ k ∧ k < 110) ∧ ¬ (110 ≤ k ∧ k < 120) ∧ k ≠ 123 ∧ ¬ (k = 125 ∧ i = 0) ∧ ¬ (k = 125 ∧ i = 2) ∧ ¬ (k = 191 ∧ i = 0) ∧ ¬ (k = 191 ∧ i = 2) ∧ k ≠ 126 ∧ k ≠ 127 ∧ k ≠ 128 ∧ k ≠ 192 ∧ k ≠ 193 ∧ k ≠ 194 → M89 k i = M k i := fun k i hk => by (rw [hFr88 k i (by omega)]; try exact hF k i hk)
                  have hG : ∀ k i, k ≠ 91 ∧ k ≠ 92 ∧ k ≠ 121 ∧ k ≠ 122 ∧ ¬ (k = 124 ∧ i = 0) ∧ ¬ (k = 124 ∧ i = 1) ∧ ¬ (131 ≤ k ∧ k < 191) ∧ ¬ (197 ≤ k ∧ k < 257) → L90 k i = L k i := fun k i hk => by (rw [hGr88 k i (by omega)]; try exact hG k i hk)
                  have hV : vC M89 = sI (sI (startV (vC M) x) 0 5 (-9)) 0 5 r75 := by rw [vC_fr (fun k hk => funext (fun i => hFr88 k i (by omega))), hV]
                  have k0_8 : M89 0 8 = M 0 8 := (hFr88 0 8 (by omega)).trans k0_8
                  have k0_9 : M89 0 9 = M 0 9 := (hFr88 0 9 (by omega)).trans k0_9
                  have k0_10 : M89 0 10 = r75 := (hFr88 0 10 (by omega)).trans k0_10
                  have k0_11 : M89 0 11 = vC M 0 4 := (hFr88 0 11 (by omega)).trans k0_11
                  have k88_3 : M89 88 3 = M83 88 3 := (hFr88 88 3 (by omega)).trans k88_3
                  have k88_4 : M89 88 4 = M83 88 4 := (hFr88 88 4 (by omega)).trans k88_4
                  have k125_0 : M89 125 0 = M 125 0 := (hFr88 125 0 (by omega)).trans k125_0
                  have k125_2 : M89 125 2 = M 125 2 := (hFr88 125 2 (by omega)).trans k125_2
                  have k191_0 : M89 191 0 = M89 191 0 := rfl
                  have k191_2 : M89 191 2 = M89 191 2 := rfl
                  have kt0_8 := congrArg Int32.toInt k0_8
                  have kt0_9 := congrArg Int32.toInt k0_9
                  have kt0_10 := congrArg Int32.toInt k0_10
                  have kt0_11 := congrArg Int32.toInt k0_11
                  have kt88_3 := congrArg Int32.toInt k88_3
                  have kt88_4 := congrArg Int32.toInt k88_4
                  have kt125_0 := congrArg Int32.toInt k125_0
                  have kt125_2 := congrArg Int32.toInt k125_2
                  have kt191_0 := congrArg Int32.toInt k191_0
                  have kt191_2 := congrArg Int32.toInt k191_2
                  have l124_0 : L90 124 0 = L90 124 0 := rfl
                  have l124_1 : L90 124 1 = L90 124 1 := rfl
                  have p91 : L90 91 = L90 91 := rfl
                  have p92 : L90 92 = L90 92 := rfl
                  have p121 : L90 121 = L90 121 := rfl
                  have p122 : L90 122 = L90 122 := rfl
                  have q100 : ∀ k, 100 ≤ k ∧ k < 110 → M89 k = M89 k := fun _ _ => rfl
                  have q110 : ∀ k, 110 ≤ k ∧ k < 120 → M89 k = M89 k := fun _ _ => rfl
                  have q83 : M89 83 = M22 83 := (funext (fun i => hFr88 83 i (by omega))).trans q83
                  have q87 : M89 87 = M22 87 := (funext (fun i => hFr88 87 i (by omega))).trans q87
                  have q89 : M89 89 = M83 89 := (funext (fun i => hFr88 89 i (by omega))).trans q89
                  have q90 : M89 90 = M89 90 := rfl
                  have q94 : M89 94 = M89 94 := rfl
                  have q95 : M89 95 = M89 95 := rfl
                  have q97 : M89 97 = M89 97 := rfl
                  have q123 : M89 123 = M89 123 := rfl
                  have q126 : M89 126 = M 126 := (funext (fun i => hFr88 126 i (by omega))).trans q126
                  have q127 : M89 127 = M 127 := (funext (fun i => hFr88 127 i (by omega))).trans q127
                  have q128 : M89 128 = M 128 := (funext (fun i => hFr88 128 i (by omega))).trans q128
                  have q192 : M89 192 = M89 192 := rfl
                  have q193 : M89 193 = M89 193 := rfl
                  have q194 : M89 194 = M89 194 := rfl
                  have q257 : M89 257 = M 257 := (funext (fun i => hFr88 257 i (by omega))).trans q257
                  obtain ⟨ok9, S9, R9, hcr, hz9, hrr⟩ := hr88
                  obtain ⟨bar88, bbr88⟩ := zo_b hz9
                  have hOUT : OUT (sI (startV (vC M) x) 0 5 (-9)) (vC M 9 x.toNatClampNeg) y z ok9 S9 R9 := by
                    refine ⟨M86 90, _, _, ?_, fun _ _ _ => ⟨rfl, rfl⟩, ?_⟩
                    · intro c hc
                      rw [congrFun q90k c]; exact tkI c hc
                    · have h9 := hcr
                      have eMN : (M86 88 3).toNatClampNeg = cnP (fun i => (sI (startV (vC M) x) 0 5 (-9)) 8 (40 * y.toNatClampNeg + i)) ((sI (startV (vC M) x) 0 5 (-9)) 7 y.toNatClampNeg).toNatClampNeg := by have := ixn (x := M86 88 3) (by omega); omega
                      rw [hVb, eMN, sumK_P _ bLY, k884k, tk4, show M86 2 = (sI (startV (vC M) x) 0 5 (-9)) 1 from (by rw [← hVb]; rfl), show M86 1 0 = (sI (startV (vC M) x) 0 5 (-9)) 0 0 from (by rw [← hVb]; rfl), hkg] at h9
                      exact h9
                  refine g_if_ne C 144 dX10_count_138 (by decide) (fun c91 => ?_) (fun c91 => ?_)
                  ·
                    have f92 := fne rfl (by decide : (0 : Int32).toInt = 0) c91
                    have hok := zo_t hz9 c91
                    refine g_aload_n C 1 dX10_count_144 rfl ?_
                    refine g_get C (.ref (ad ((M89 0 9).toNatClampNeg))) 9 in_X10_count_10 (List.mem_of_getElem? (i := 6) rfl) (by decide) (ce_house ad cs _ _) rfl (by decide) rfl rfl dX10_count_145 ?_
                    refine g_tr 191 (by rw [k0_9, hg9]; rfl) ?_
                    refine g_astore C [(5, .ref (ad 191)), (4, .int v26), (0, .ref (ad 0)), (1, .int x), (2, .int y), (3, .int z)] dX10_count_148 (by decide) rfl ?_
                    refine g_aload_n C 2 dX10_count_150 rfl ?_
                    refine g_aload_n C 2 dX10_count_151 rfl ?_
                    refine g_get C (.ref (ad ((M89 0 8).toNatClampNeg))) 8 in_X10_count_10 (List.mem_of_getElem? (i := 7) rfl) (by decide) (ce_house ad cs _ _) rfl (by decide) rfl rfl dX10_count_152 ?_
                    refine g_tr 125 (by rw [k0_8, hg8]; rfl) ?_
                    refine g_putR C (x9 := 125) 9 in_X10_count_10 (List.mem_of_getElem? (i := 6) rfl) (by decide) (ce_house ad cs _ _) rfl (by decide) rfl tyX10 tyX10_ok nmX10 rfl rfl rfl rfl (Nat.le_of_ble_eq_true rfl) (by rw [sI_k]; rfl) dX10_count_155 ?_
                    refine g_nm (fun M93 hM93 => ?_)
                    have zy94 : (125 : Int32).toInt = 125 := by decide
                    have hI : IC M93 := by rw [hM93]; exact hI.st (fun _ => Or.inl rfl)
                    have hF : ∀ k i, ¬ (k = 0 ∧ i = 8) ∧ ¬ (k = 0 ∧ i = 9) ∧ ¬ (k = 0 ∧ i = 10) ∧ ¬ (k = 0 ∧ i = 11) ∧ k ≠ 83 ∧ k ≠ 87 ∧ k ≠ 257 ∧ ¬ (k = 88 ∧ i = 3) ∧ ¬ (k = 88 ∧ i = 4) ∧ k ≠ 89 ∧ k ≠ 90 ∧ k ≠ 94 ∧ k ≠ 95 ∧ k ≠ 97 ∧ ¬ (100 ≤ k ∧ k < 110) ∧ ¬ (110 ≤ k ∧ k < 120) ∧ k ≠ 123 ∧ ¬ (k = 125 ∧ i = 0) ∧ ¬ (k = 125 ∧ i = 2) ∧ ¬ (k = 191 ∧ i = 0) ∧ ¬ (k = 191 ∧ i = 2) ∧ k ≠ 126 ∧ k ≠ 127 ∧ k ≠ 128 ∧ k ≠ 192 ∧ k ≠ 193 ∧ k ≠ 194 → M93 k i = M k i := fun k i hk => by (rw [hM93, sI_at, if_neg (by omega)]; try exact hF k i hk)
                    have k0_8 : M93 0 8 = M 0 8 := by rw [hM93, sI_at, if_neg (by decide)]; try exact k0_8
                    have k0_10 : M93 0 10 = r75 := by rw [hM93, sI_at, if_neg (by decide)]; try exact k0_10
                    have k0_11 : M93 0 11 = vC M 0 4 := by rw [hM93, sI_at, if_neg (by decide)]; try exact k0_11
                    have k88_3 : M93 88 3 = M83 88 3 := by rw [hM93, sI_at, if_neg (by decide)]; try exact k88_3
                    have k88_4 : M93 88 4 = M83 88 4 := by rw [hM93, sI_at, if_neg (by decide)]; try exact k88_4
                    have k125_0 : M93 125 0 = M 125 0 := by rw [hM93, sI_at, if_neg (by decide)]; try exact k125_0
                    have k125_2 : M93 125 2 = M 125 2 := by rw [hM93, sI_at, if_neg (by decide)]; try exact k125_2
                    have k191_0 : M93 191 0 = M89 191 0 := by rw [hM93, sI_at, if_neg (by decide)]; try exact k191_0
                    have k191_2 : M93 191 2 = M89 191 2 := by rw [hM93, sI_at, if_neg (by decide)]; try exact k191_2
                    have k0_9 : M93 0 9 = 125 := by rw [hM93, sI_at, if_pos (by decide)]
                    have q83 : M93 83 = M22 83 := by rw [hM93, sI_n _ _ _ (by decide)]; try exact q83
                    have q87 : M93 87 = M22 87 := by rw [hM93, sI_n _ _ _ (by decide)]; try exact q87
                    have q89 : M93 89 = M83 89 := by rw [hM93, sI_n _ _ _ (by decide)]; try exact q89
                    have q90 : M93 90 = M89 90 := by rw [hM93, sI_n _ _ _ (by decide)]; try exact q90
                    have q94 : M93 94 = M89 94 := by rw [hM93, sI_n _ _ _ (by decide)]; try exact q94
                    have q95 : M93 95 = M89 95 := by rw [hM93, sI_n _ _ _ (by decide)]; try exact q95
                    have q97 : M93 97 = M89 97 := by rw [hM93, sI_n _ _ _ (by decide)]; try exact q97
                    have q123 : M93 123 = M89 123 := by rw [hM93, sI_n _ _ _ (by decide)]; try exact q123
                    have q126 : M93 126 = M 126 := by rw [hM93, sI_n _ _ _ (by decide)]; try exact q126
                    have q127 : M93 127 = M 127 := by rw [hM93, sI_n _ _ _ (by decide)]; try exact q127
                    have q128 : M93 128 = M 128 := by rw [hM93, sI_n _ _ _ (by decide)]; try exact q128
                    have q192 : M93 192 = M89 192 := by rw [hM93, sI_n _ _ _ (by decide)]; try exact q192
                    have q193 : M93 193 = M89 193 := by rw [hM93, sI_n _ _ _ (by decide)]; try exact q193
                    have q194 : M93 194 = M89 194 := by rw [hM93, sI_n _ _ _ (by decide)]; try exact q194
                    have q257 : M93 257 = M 257 := by rw [hM93, sI_n _ _ _ (by decide)]; try exact q257
                    have q100 : ∀ k, 100 ≤ k ∧ k < 110 → M93 k = M89 k := fun k hk => by rw [hM93, sI_n _ _ _ (by omega)]; try exact q100 k hk
                    have q110 : ∀ k, 110 ≤ k ∧ k < 120 → M93 k = M89 k := fun k hk => by rw [hM93, sI_n _ _ _ (by omega)]; try exact q110 k hk
                    have hV : vC M93 = sI (sI (startV (vC M) x) 0 5 (-9)) 0 5 r75 := by rw [hM93, vC_h (by decide), hV]
                    refine g_aload_n C 2 dX10_count_158 rfl ?_
                    refine g_aload C 0 dX10_count_159 rfl ?_
                    refine g_putR C (x9 := 191) 8 in_X10_count_10 (List.mem_of_getElem? (i := 7) rfl) (by decide) (ce_house ad cs _ _) rfl (by decide) rfl tyX10 tyX10_ok nmX10 rfl rfl rfl rfl (Nat.le_of_ble_eq_true rfl) (by rw [sI_k]; rfl) dX10_count_161 ?_
                    refine g_nm (fun M95 hM95 => ?_)
                    have zy96 : (191 : Int32).toInt = 191 := by decide
                    have hI : IC M95 := by rw [hM95]; exact hI.st (fun _ => Or.inr rfl)
                    have hF : ∀ k i, ¬ (k = 0 ∧ i = 8) ∧ ¬ (k = 0 ∧ i = 9) ∧ ¬ (k = 0 ∧ i = 10) ∧ ¬ (k = 0 ∧ i = 11) ∧ k ≠ 83 ∧ k ≠ 87 ∧ k ≠ 257 ∧ ¬ (k = 88 ∧ i = 3) ∧ ¬ (k = 88 ∧ i = 4) ∧ k ≠ 89 ∧ k ≠ 90 ∧ k ≠ 94 ∧ k ≠ 95 ∧ k ≠ 97 ∧ ¬ (100 ≤ k ∧ k < 110) ∧ ¬ (110 ≤ k ∧ k < 120) ∧ k ≠ 123 ∧ ¬ (k = 125 ∧ i = 0) ∧ ¬ (k = 125 ∧ i = 2) ∧ ¬ (k = 191 ∧ i = 0) ∧ ¬ (k = 191 ∧ i = 2) ∧ k ≠ 126 ∧ k ≠ 127 ∧ k ≠ 128 ∧ k ≠ 192 ∧ k ≠ 193 ∧ k ≠ 194 → M95 k i = M k i := fun k i hk => by (rw [hM95, sI_at, if_neg (by omega)]; try exact hF k i hk)
                    have k0_9 : M95 0 9 = 125 := by rw [hM95, sI_at, if_neg (by decide)]; try exact k0_9
                    have k0_10 : M95 0 10 = r75 := by rw [hM95, sI_at, if_neg (by decide)]; try exact k0_10
                    have k0_11 : M95 0 11 = vC M 0 4 := by rw [hM95, sI_at, if_neg (by decide)]; try exact k0_11
                    have k88_3 : M95 88 3 = M83 88 3 := by rw [hM95, sI_at, if_neg (by decide)]; try exact k88_3
                    have k88_4 : M95 88 4 = M83 88 4 := by rw [hM95, sI_at, if_neg (by decide)]; try exact k88_4
                    have k125_0 : M95 125 0 = M 125 0 := by rw [hM95, sI_at, if_neg (by decide)]; try exact k125_0
                    have k125_2 : M95 125 2 = M 125 2 := by rw [hM95, sI_at, if_neg (by decide)]; try exact k125_2
                    have k191_0 : M95 191 0 = M89 191 0 := by rw [hM95, sI_at, if_neg (by decide)]; try exact k191_0
                    have k191_2 : M95 191 2 = M89 191 2 := by rw [hM95, sI_at, if_neg (by decide)]; try exact k191_2
                    have k0_8 : M95 0 8 = 191 := by rw [hM95, sI_at, if_pos (by decide)]
                    have q83 : M95 83 = M22 83 := by rw [hM95, sI_n _ _ _ (by decide)]; try exact q83
                    have q87 : M95 87 = M22 87 := by rw [hM95, sI_n _ _ _ (by decide)]; try exact q87
                    have q89 : M95 89 = M83 89 := by rw [hM95, sI_n _ _ _ (by decide)]; try exact q89
                    have q90 : M95 90 = M89 90 := by rw [hM95, sI_n _ _ _ (by decide)]; try exact q90
                    have q94 : M95 94 = M89 94 := by rw [hM95, sI_n _ _ _ (by decide)]; try exact q94
                    have q95 : M95 95 = M89 95 := by rw [hM95, sI_n _ _ _ (by decide)]; try exact q95
                    have q97 : M95 97 = M89 97 := by rw [hM95, sI_n _ _ _ (by decide)]; try exact q97
                    have q123 : M95 123 = M89 123 := by rw [hM95, sI_n _ _ _ (by decide)]; try exact q123
                    have q126 : M95 126 = M 126 := by rw [hM95, sI_n _ _ _ (by decide)]; try exact q126
                    have q127 : M95 127 = M 127 := by rw [hM95, sI_n _ _ _ (by decide)]; try exact q127
                    have q128 : M95 128 = M 128 := by rw [hM95, sI_n _ _ _ (by decide)]; try exact q128
                    have q192 : M95 192 = M89 192 := by rw [hM95, sI_n _ _ _ (by decide)]; try exact q192
                    have q193 : M95 193 = M89 193 := by rw [hM95, sI_n _ _ _ (by decide)]; try exact q193
                    have q194 : M95 194 = M89 194 := by rw [hM95, sI_n _ _ _ (by decide)]; try exact q194
                    have q257 : M95 257 = M 257 := by rw [hM95, sI_n _ _ _ (by decide)]; try exact q257
                    have q100 : ∀ k, 100 ≤ k ∧ k < 110 → M95 k = M89 k := fun k hk => by rw [hM95, sI_n _ _ _ (by omega)]; try exact q100 k hk
                    have q110 : ∀ k, 110 ≤ k ∧ k < 120 → M95 k = M89 k := fun k hk => by rw [hM95, sI_n _ _ _ (by omega)]; try exact q110 k hk
                    have hV : vC M95 = sI (sI (startV (vC M) x) 0 5 (-9)) 0 5 r75 := by rw [hM95, vC_h (by decide), hV]
                    refine g_aload_n C 2 dX10_count_164 rfl ?_
                    refine g_get C (.ref (ad ((M95 0 8).toNatClampNeg))) 8 in_X10_count_10 (List.mem_of_getElem? (i := 7) rfl) (by decide) (ce_house ad cs _ _) rfl (by decide) rfl rfl dX10_count_165 ?_
                    refine g_tr 191 (by rw [k0_8]; rfl) ?_
                    refine g_get C (.int (M95 191 0)) 0 in_X10_count_7 (List.mem_of_getElem? (i := 8) rfl) (by decide) (ce_rb ad cs _ _) rfl (by decide) rfl rfl dX10_count_168 ?_
                    refine g_ni (fun v97 ev97 => ?_)
                    have gv97 : v97 = M89 191 0 := ev97.trans k191_0
                    have tv97 := congrArg Int32.toInt gv97
                    obtain ⟨bv97, dv97⟩ := (show rg 0 30 v97 from (by rw [ev97]; exact hI 191 0 (Or.inl rfl)))
                    have hA : A_count (vC M) x y z = (0, sI (startV (vC M) x) 0 5 (-9)) := by dsimp only [A_count, hasM, hasX, seatsOk, bt]; (repeat (first | rw [if_pos (by omega)] | rw [if_neg (by omega)]))
                    have hrr9 := hrr hok
                    have hS9 := hrr9.1
                    have hrz : RP (M95 191 0) (M95 192) (M95 191 2) (M95 193) (M95 194) S9 R9 := by rw [k191_0, k191_2, q192, q193, q194]; exact hrr9
                    exact g_iret C hr ⟨⟨by rw [hA, hV, sI_sI, er9], fun h => absurd (by rw [hA]) h, fun _ => ⟨ok9, S9, R9, by rw [hA]; exact hOUT, fun _ => ⟨by rw [gv97]; exact hS9, Or.inr ⟨k0_8, hrz⟩, by unfold LSc; rw [k0_8, k0_9]; decide⟩, fun h9 => absurd (hok.symm.trans h9) (by decide)⟩⟩, hI, hF, hG⟩ dX10_count_171
                  ·
                    have f98 := feq rfl (by decide : (0 : Int32).toInt = 0) c91
                    have hnok := zo_f hz9 c91
                    refine g_bipush C (-6) dX10_count_141 (by decide) ?_
                    have hA : A_count (vC M) x y z = (0, sI (startV (vC M) x) 0 5 (-9)) := by dsimp only [A_count, hasM, hasX, seatsOk, bt]; (repeat (first | rw [if_pos (by omega)] | rw [if_neg (by omega)]))
                    have zr9 : ((-6) : Int32).toInt = (-6) := by decide
                    exact g_iret C hr ⟨⟨by rw [hA, hV, sI_sI, er9], fun h => absurd (by rw [hA]) h, fun _ => ⟨ok9, S9, R9, by rw [hA]; exact hOUT, fun h9 => absurd h9 hnok, fun _ => ⟨rfl, CDs_125 hg8 k0_8 k0_9 ⟨k125_0, q126, k125_2, q127, q128⟩⟩⟩⟩, hI, hF, hG⟩ dX10_count_143
              ·
                rcases (hI0 0 9 (Or.inr rfl)) with hg9 | hg9
                ·
                  refine g_aload_n C 1 dX10_count_108 rfl ?_
                  refine g_get C (.ref (ad 88)) 4 in_X10_count_10 (List.mem_of_getElem? (i := 5) rfl) (by decide) (ce_house ad cs _ _) rfl (by decide) rfl rfl dX10_count_109 ?_
                  refine g_aload_n C 1 dX10_count_112 rfl ?_
                  refine g_get C (.ref (ad 68)) 2 in_X10_count_10 (List.mem_of_getElem? (i := 3) rfl) (by decide) (ce_house ad cs _ _) rfl (by decide) rfl rfl dX10_count_113 ?_
                  refine g_iload_n C 3 dX10_count_116 rfl ?_
                  refine g_iload_n C 4 dX10_count_117 rfl ?_
                  have er9 : r75 = -9 := Int32.toInt_inj.mp (by rw [show (-9 : Int32).toInt = -9 by decide]; omega)
                  have hVt : vC M78 = (sI (startV (vC M) x) 0 5 (-9)) := by rw [hV, sI_sI, er9]
                  have y1v : (sI (startV (vC M) x) 0 5 (-9)) 1 = vC M 1 := by rw [sI_n _ _ _ (by decide)]; rfl
                  have y3v : (sI (startV (vC M) x) 0 5 (-9)) 3 = vC M 3 := by rw [sI_n _ _ _ (by decide)]; rfl
                  have y4v : (sI (startV (vC M) x) 0 5 (-9)) 4 = vC M 4 := by rw [sI_n _ _ _ (by decide)]; rfl
                  have y5v : (sI (startV (vC M) x) 0 5 (-9)) 5 = vC M 5 := by rw [sI_n _ _ _ (by decide)]; rfl
                  have y7v : (sI (startV (vC M) x) 0 5 (-9)) 7 = vC M 7 := by rw [sI_n _ _ _ (by decide)]; rfl
                  have y8v : (sI (startV (vC M) x) 0 5 (-9)) 8 = vC M 8 := by rw [sI_n _ _ _ (by decide)]; rfl
                  have y00v : (sI (startV (vC M) x) 0 5 (-9)) 0 0 = vC M 0 0 := by rw [sI_at, if_neg (by decide)]; rfl
                  have y01v : (sI (startV (vC M) x) 0 5 (-9)) 0 1 = vC M 0 1 := by rw [sI_at, if_neg (by decide)]; rfl
                  have y02v : (sI (startV (vC M) x) 0 5 (-9)) 0 2 = vC M 0 2 := by rw [sI_at, if_neg (by decide)]; rfl
                  have hk9 : (vC M 9 x.toNatClampNeg).toInt ≠ 8 := h8k ⟨by omega, by omega⟩ (by omega)
                  refine g_callVv C (n := 3) (As := [.ref (ad 68), .int y, .int z]) (st := []) (k_X6_take l D ad cs _ _ y z hI (by rw [hVt]; show 0 ≤ y.toInt ∧ y.toInt < ((sI (startV (vC M) x) 0 5 (-9)) 0 2).toInt; rw [y02v]; exact ⟨by omega, by omega⟩) ⟨by omega, by omega⟩ (by rw [hVt, y8v, y01v]; exact h8)) gX10_count_X6_take rfl rfl rfl (by decide +kernel) ⟨Nat.le_of_ble_eq_true rfl, Nat.le_of_ble_eq_true rfl⟩ rfl (Nat.le_of_ble_eq_true rfl) ⟨Nat.zero_le _, Nat.zero_le _⟩ (by decide) (ce_poll ad cs _ _) rfl rfl dX10_count_118 (fun M100 L101 hr99 => ?_)
                  obtain ⟨hr99, hI, hFr99, hGr99⟩ := hr99
                  have hF : ∀ k i, ¬ (k = 0 ∧ i = 8) ∧ ¬ (k = 0 ∧ i = 9) ∧ ¬ (k = 0 ∧ i = 10) ∧ ¬ (k = 0 ∧ i = 11) ∧ k ≠ 83 ∧ k ≠ 87 ∧ k ≠ 257 ∧ ¬ (k = 88 ∧ i = 3) ∧ ¬ (k = 88 ∧ i = 4) ∧ k ≠ 89 ∧ k ≠ 90 ∧ k ≠ 94 ∧ k ≠ 95 ∧ k ≠ 97 ∧ ¬ (100 ≤ k ∧ k < 110) ∧ ¬ (110 ≤ k ∧ k < 120) ∧ k ≠ 123 ∧ ¬ (k = 125 ∧ i = 0) ∧ ¬ (k = 125 ∧ i = 2) ∧ ¬ (k = 191 ∧ i = 0) ∧ ¬ (k = 191 ∧ i = 2) ∧ k ≠ 126 ∧ k ≠ 127 ∧ k ≠ 128 ∧ k ≠ 192 ∧ k ≠ 193 ∧ k ≠ 194 → M100 k i = M k i := fun k i hk => by (rw [hFr99 k i (by omega)]; try exact hF k i hk)
                  have hG : ∀ k i, k ≠ 91 ∧ k ≠ 92 ∧ k ≠ 121 ∧ k ≠ 122 ∧ ¬ (k = 124 ∧ i = 0) ∧ ¬ (k = 124 ∧ i = 1) ∧ ¬ (131 ≤ k ∧ k < 191) ∧ ¬ (197 ≤ k ∧ k < 257) → L101 k i = L k i := fun k i hk => by (rw [hGr99 k i (by omega)]; try exact hG k i hk)
                  have hV : vC M100 = sI (sI (startV (vC M) x) 0 5 (-9)) 0 5 r75 := by rw [vC_fr (fun k hk => funext (fun i => hFr99 k i (by omega))), hV]
                  have k0_8 : M100 0 8 = M 0 8 := (hFr99 0 8 (by omega)).trans k0_8
                  have k0_9 : M100 0 9 = M 0 9 := (hFr99 0 9 (by omega)).trans k0_9
                  have k0_10 : M100 0 10 = r75 := (hFr99 0 10 (by omega)).trans k0_10
                  have k0_11 : M100 0 11 = vC M 0 4 := (hFr99 0 11 (by omega)).trans k0_11
                  have k125_0 : M100 125 0 = M 125 0 := (hFr99 125 0 (by omega)).trans k125_0
                  have k125_2 : M100 125 2 = M 125 2 := (hFr99 125 2 (by omega)).trans k125_2
                  have k191_0 : M100 191 0 = M 191 0 := (hFr99 191 0 (by omega)).trans k191_0
                  have k191_2 : M100 191 2 = M 191 2 := (hFr99 191 2 (by omega)).trans k191_2
                  have k88_3 : M100 88 3 = M100 88 3 := rfl
                  have k88_4 : M100 88 4 = M100 88 4 := rfl
                  have kt0_8 := congrArg Int32.toInt k0_8
                  have kt0_9 := congrArg Int32.toInt k0_9
                  have kt0_10 := congrArg Int32.toInt k0_10
                  have kt0_11 := congrArg Int32.toInt k0_11
                  have kt88_3 := congrArg Int32.toInt k88_3
                  have kt88_4 := congrArg Int32.toInt k88_4
                  have kt125_0 := congrArg Int32.toInt k125_0
                  have kt125_2 := congrArg Int32.toInt k125_2
                  have kt191_0 := congrArg Int32.toInt k191_0
                  have kt191_2 := congrArg Int32.toInt k191_2
                  have l124_0 : L101 124 0 = L 124 0 := (hGr99 124 0 (by omega)).trans l124_0
                  have l124_1 : L101 124 1 = L 124 1 := (hGr99 124 1 (by omega)).trans l124_1
                  have p91 : L101 91 = L101 91 := rfl
                  have p92 : L101 92 = L101 92 := rfl
                  have p121 : L101 121 = L 121 := (funext (fun i => hGr99 121 i (by omega))).trans p121
                  have p122 : L101 122 = L 122 := (funext (fun i => hGr99 122 i (by omega))).trans p122
                  have q100 : ∀ k, 100 ≤ k ∧ k < 110 → M100 k = M k := fun k hk => (funext (fun i => hFr99 k i (by omega))).trans (q100 k hk)
                  have q110 : ∀ k, 110 ≤ k ∧ k < 120 → M100 k = M k := fun k hk => (funext (fun i => hFr99 k i (by omega))).trans (q110 k hk)
                  have q83 : M100 83 = M22 83 := (funext (fun i => hFr99 83 i (by omega))).trans q83
                  have q87 : M100 87 = M22 87 := (funext (fun i => hFr99 87 i (by omega))).trans q87
                  have q89 : M100 89 = M100 89 := rfl
                  have q90 : M100 90 = M100 90 := rfl
                  have q94 : M100 94 = M 94 := (funext (fun i => hFr99 94 i (by omega))).trans q94
                  have q95 : M100 95 = M 95 := (funext (fun i => hFr99 95 i (by omega))).trans q95
                  have q97 : M100 97 = M 97 := (funext (fun i => hFr99 97 i (by omega))).trans q97
                  have q123 : M100 123 = M 123 := (funext (fun i => hFr99 123 i (by omega))).trans q123
                  have q126 : M100 126 = M 126 := (funext (fun i => hFr99 126 i (by omega))).trans q126
                  have q127 : M100 127 = M 127 := (funext (fun i => hFr99 127 i (by omega))).trans q127
                  have q128 : M100 128 = M 128 := (funext (fun i => hFr99 128 i (by omega))).trans q128
                  have q192 : M100 192 = M 192 := (funext (fun i => hFr99 192 i (by omega))).trans q192
                  have q193 : M100 193 = M 193 := (funext (fun i => hFr99 193 i (by omega))).trans q193
                  have q194 : M100 194 = M 194 := (funext (fun i => hFr99 194 i (by omega))).trans q194
                  have q257 : M100 257 = M 257 := (funext (fun i => hFr99 257 i (by omega))).trans q257
                  obtain ⟨tk3, tk4, tkL, tkI, tkT⟩ := hr99
                  rw [hVt] at tk3 tkL tkI
                  refine g_aload_n C 1 dX10_count_121 rfl ?_
                  refine g_get C (.ref (ad ((M100 0 9).toNatClampNeg))) 9 in_X10_count_10 (List.mem_of_getElem? (i := 6) rfl) (by decide) (ce_house ad cs _ _) rfl (by decide) rfl rfl dX10_count_122 ?_
                  refine g_tr 125 (by rw [k0_9, hg9]; rfl) ?_
                  refine g_callVv C (n := 0) (As := []) (st := []) (k_X7_clear_a l D ad cs _ _  hI ) gX10_count_X7_clear rfl rfl rfl (by decide +kernel) ⟨Nat.le_of_ble_eq_true rfl, Nat.le_of_ble_eq_true rfl⟩ rfl (Nat.le_of_ble_eq_true rfl) ⟨Nat.zero_le _, Nat.zero_le _⟩ (by decide) (ce_ra ad cs _ _) rfl rfl dX10_count_125 (fun M103 L104 hr102 => ?_)
                  obtain ⟨hr102, hI, hFr102, hGr102⟩ := hr102
                  have hF : ∀ k i, ¬ (k = 0 ∧ i = 8) ∧ ¬ (k = 0 ∧ i = 9) ∧ ¬ (k = 0 ∧ i = 10) ∧ ¬ (k = 0 ∧ i = 11) ∧ k ≠ 83 ∧ k ≠ 87 ∧ k ≠ 257 ∧ ¬ (k = 88 ∧ i = 3) ∧ ¬ (k = 88 ∧ i = 4) ∧ k ≠ 89 ∧ k ≠ 90 ∧ k ≠ 94 ∧ k ≠ 95 ∧ k ≠ 97 ∧ ¬ (100 ≤ k ∧ k < 110) ∧ ¬ (110 ≤ k ∧ k < 120) ∧ k ≠ 123 ∧ ¬ (k = 125 ∧ i = 0) ∧ ¬ (k = 125 ∧ i = 2) ∧ ¬ (k = 191 ∧ i = 0) ∧ ¬ (k = 191 ∧ i = 2) ∧ k ≠ 126 ∧ k ≠ 127 ∧ k ≠ 128 ∧ k ≠ 192 ∧ k ≠ 193 ∧ k ≠ 194 → M103 k i = M k i := fun k i hk => by (rw [hFr102 k i (by omega)]; try exact hF k i hk)
                  have hG : ∀ k i, k ≠ 91 ∧ k ≠ 92 ∧ k ≠ 121 ∧ k ≠ 122 ∧ ¬ (k = 124 ∧ i = 0) ∧ ¬ (k = 124 ∧ i = 1) ∧ ¬ (131 ≤ k ∧ k < 191) ∧ ¬ (197 ≤ k ∧ k < 257) → L104 k i = L k i := fun k i hk => by (rw [hGr102 k i trivial]; try exact hG k i hk)
                  have hV : vC M103 = sI (sI (startV (vC M) x) 0 5 (-9)) 0 5 r75 := by rw [vC_fr (fun k hk => funext (fun i => hFr102 k i (by omega))), hV]
                  have k0_8 : M103 0 8 = M 0 8 := (hFr102 0 8 (by omega)).trans k0_8
                  have k0_9 : M103 0 9 = M 0 9 := (hFr102 0 9 (by omega)).trans k0_9
                  have k0_10 : M103 0 10 = r75 := (hFr102 0 10 (by omega)).trans k0_10
                  have k0_11 : M103 0 11 = vC M 0 4 := (hFr102 0 11 (by omega)).trans k0_11
                  have k88_3 : M103 88 3 = M100 88 3 := (hFr102 88 3 (by omega)).trans k88_3
                  have k88_4 : M103 88 4 = M100 88 4 := (hFr102 88 4 (by omega)).trans k88_4
                  have k191_0 : M103 191 0 = M 191 0 := (hFr102 191 0 (by omega)).trans k191_0
                  have k191_2 : M103 191 2 = M 191 2 := (hFr102 191 2 (by omega)).trans k191_2
                  have k125_0 : M103 125 0 = M103 125 0 := rfl
                  have k125_2 : M103 125 2 = M103 125 2 := rfl
                  have kt0_8 := congrArg Int32.toInt k0_8
                  have kt0_9 := congrArg Int32.toInt k0_9
                  have kt0_10 := congrArg Int32.toInt k0_10
                  have kt0_11 := congrArg Int32.toInt k0_11
                  have kt88_3 := congrArg Int32.toInt k88_3
                  have kt88_4 := congrArg Int32.toInt k88_4
                  have kt125_0 := congrArg Int32.toInt k125_0
                  have kt125_2 := congrArg Int32.toInt k125_2
                  have kt191_0 := congrArg Int32.toInt k191_0
                  have kt191_2 := congrArg Int32.toInt k191_2
                  have l124_0 : L104 124 0 = L 124 0 := (hGr102 124 0 trivial).trans l124_0
                  have l124_1 : L104 124 1 = L 124 1 := (hGr102 124 1 trivial).trans l124_1
                  have p91 : L104 91 = L101 91 := (funext (fun i => hGr102 91 i trivial)).trans p91
                  have p92 : L104 92 = L101 92 := (funext (fun i => hGr102 92 i trivial)).trans p92
                  have p121 : L104 121 = L 121 := (funext (fun i => hGr102 121 i trivial)).trans p121
                  have p122 : L104 122 = L 122 := (funext (fun i => hGr102 122 i trivial)).trans p122
                  have q100 : ∀ k, 100 ≤ k ∧ k < 110 → M103 k = M k := fun k hk => (funext (fun i => hFr102 k i (by omega))).trans (q100 k hk)
                  have q110 : ∀ k, 110 ≤ k ∧ k < 120 → M103 k = M k := fun k hk => (funext (fun i => hFr102 k i (by omega))).trans (q110 k hk)
                  have q83 : M103 83 = M22 83 := (funext (fun i => hFr102 83 i (by omega))).trans q83
                  have q87 : M103 87 = M22 87 := (funext (fun i => hFr102 87 i (by omega))).trans q87
                  have q89 : M103 89 = M100 89 := (funext (fun i => hFr102 89 i (by omega))).trans q89
                  have q90 : M103 90 = M100 90 := (funext (fun i => hFr102 90 i (by omega))).trans q90
                  have q94 : M103 94 = M 94 := (funext (fun i => hFr102 94 i (by omega))).trans q94
                  have q95 : M103 95 = M 95 := (funext (fun i => hFr102 95 i (by omega))).trans q95
                  have q97 : M103 97 = M 97 := (funext (fun i => hFr102 97 i (by omega))).trans q97
                  have q123 : M103 123 = M 123 := (funext (fun i => hFr102 123 i (by omega))).trans q123
                  have q126 : M103 126 = M 126 := (funext (fun i => hFr102 126 i (by omega))).trans q126
                  have q127 : M103 127 = M 127 := (funext (fun i => hFr102 127 i (by omega))).trans q127
                  have q128 : M103 128 = M 128 := (funext (fun i => hFr102 128 i (by omega))).trans q128
                  have q192 : M103 192 = M 192 := (funext (fun i => hFr102 192 i (by omega))).trans q192
                  have q193 : M103 193 = M 193 := (funext (fun i => hFr102 193 i (by omega))).trans q193
                  have q194 : M103 194 = M 194 := (funext (fun i => hFr102 194 i (by omega))).trans q194
                  have q257 : M103 257 = M 257 := (funext (fun i => hFr102 257 i (by omega))).trans q257
                  obtain ⟨cl0, cl2⟩ := hr102
                  refine g_aload_n C 1 dX10_count_128 rfl ?_
                  refine g_iload C 0 dX10_count_129 rfl ?_
                  refine g_aload_n C 1 dX10_count_131 rfl ?_
                  refine g_get C (.ref (ad ((M103 0 9).toNatClampNeg))) 9 in_X10_count_10 (List.mem_of_getElem? (i := 6) rfl) (by decide) (ce_house ad cs _ _) rfl (by decide) rfl rfl dX10_count_132 ?_
                  refine g_tr 125 (by rw [k0_9, hg9]; rfl) ?_
                  have hVb : vC M103 = (sI (startV (vC M) x) 0 5 (-9)) := by rw [hV, sI_sI, er9]
                  have bLY : LY (fun i => (sI (startV (vC M) x) 0 5 (-9)) 8 (40 * y.toNatClampNeg + i)) (M103 89) ((sI (startV (vC M) x) 0 5 (-9)) 7 y.toNatClampNeg).toNatClampNeg := by rw [q89]; exact tkL
                  have bMN : (M103 88 3).toInt = (cnP (fun i => (sI (startV (vC M) x) 0 5 (-9)) 8 (40 * y.toNatClampNeg + i)) ((sI (startV (vC M) x) 0 5 (-9)) 7 y.toNatClampNeg).toNatClampNeg : Int) := by rw [k88_3]; exact tk3
                  have bmq : ((sI (startV (vC M) x) 0 5 (-9)) 7 y.toNatClampNeg).toNatClampNeg ≤ 40 := by rw [y7v]; have h9 : rg 0 40 (vC M 7 y.toNatClampNeg) := hI0 70 _; have h8_ := ixn h9.1; have h7 := h9.2; omega
                  have mb10 : M103 1 0 = M 1 0 := hF 1 0 (by omega)
                  have mb10t := congrArg Int32.toInt mb10
                  have mb2 : M103 2 = M 2 := funext (fun i => hF 2 i (by omega))
                  have k884t := congrArg Int32.toInt k88_4
                  have tk4t := congrArg Int32.toInt tk4
                  have n10 := ixn y0a
                  have zNI : NIn (M103 90) (M103 1 0).toInt := by
                    intro c hc hi
                    rw [mb10]
                    have h9 := tkI c hc
                    rw [← q90, y00v] at h9
                    by_cases e9 : (c : Int) < (M 1 0).toInt
                    · exact e9
                    · rw [if_neg (show ¬ (c : Int) < (vC M 0 0).toInt by omega)] at h9; rw [h9] at hi; exact absurd (by decide) hi
                  have zcI : cI (M103 90) (M103 1 0).toNatClampNeg = (M103 1 0).toNatClampNeg := by
                    refine cI_all _ (fun c hc => ?_)
                    rw [mb10] at hc
                    rw [congrFun q90 c, tkI c (by omega), y00v, if_pos (by omega)]
                    decide
                  have hkg : v26 = vC M 9 x.toNatClampNeg := gv26
                  have q90k := q90
                  have k884k := k88_4
                  refine g_callVi C (n := 2) (As := [.int v26, .ref (ad 125)]) (st := []) (k_X10_countBy_a l D ad cs _ _ v26 hI (wu := fun i => ((sI (startV (vC M) x) 0 5 (-9)) 3 ((sI (startV (vC M) x) 0 5 (-9)) 8 (40 * y.toNatClampNeg + i)).toNatClampNeg).toInt64) (wd := fun _ => 1) bLY bMN bmq (by rw [hVb]; exact fun _ _ _ => ⟨rfl, rfl⟩) (by rw [hVb, y3v]; exact hP3) (fun j hj => by rw [congrFun p91 j, congrFun p92 j]; exact tkT j hj) (by rw [hVb, y4v, y5v, y00v]; exact hA3) (by rw [hVb, y4v, y5v]; exact hdis) (by rw [hVb, y4v, y00v]; exact hl4) (by rw [mb10, mb2]; exact hrl) (by rw [hVb]; exact DP_w hD x) zNI zcI (by rw [cl0]; decide) (by rw [cl2]; decide) (by omega) (by omega) ⟨by omega, by omega⟩ (fun h6 h7 => by rw [zcI, mb10]; omega)) gX10_count_X10_countBy rfl rfl rfl (by decide +kernel) ⟨Nat.le_of_ble_eq_true rfl, Nat.le_of_ble_eq_true rfl⟩ rfl (Nat.le_of_ble_eq_true rfl) ⟨Nat.zero_le _, Nat.zero_le _⟩ (by decide) (ce_house ad cs _ _) rfl rfl dX10_count_135 (fun r105 M106 L107 hr105 => ?_)
                  obtain ⟨hr105, hI, hFr105, hGr105⟩ := hr105
                  have hF : ∀ k i, ¬ (k = 0 ∧ i = 8) ∧ ¬ (k = 0 ∧ i = 9) ∧ ¬ (k = 0 ∧ i = 10) ∧ ¬ (k = 0 ∧ i = 11) ∧ k ≠ 83 ∧ k ≠ 87 ∧ k ≠ 257 ∧ ¬ (k = 88 ∧ i = 3) ∧ ¬ (k = 88 ∧ i = 4) ∧ k ≠ 89 ∧ k ≠ 90 ∧ k ≠ 94 ∧ k ≠ 95 ∧ k ≠ 97 ∧ ¬ (100 ≤ k ∧ k < 110) ∧ ¬ (110 ≤ k ∧ k < 120) ∧ k ≠ 123 ∧ ¬ (k = 125 ∧ i = 0) ∧ ¬ (k = 125 ∧ i = 2) ∧ ¬ (k = 191 ∧ i = 0) ∧ ¬ (k = 191 ∧ i = 2) ∧ k ≠ 126 ∧ k ≠ 127 ∧ k ≠ 128 ∧ k ≠ 192 ∧ k ≠ 193 ∧ k ≠ 194 → M106 k i = M k i := fun k i hk => by (rw [hFr105 k i (by omega)]; try exact hF k i hk)
                  have hG : ∀ k i, k ≠ 91 ∧ k ≠ 92 ∧ k ≠ 121 ∧ k ≠ 122 ∧ ¬ (k = 124 ∧ i = 0) ∧ ¬ (k = 124 ∧ i = 1) ∧ ¬ (131 ≤ k ∧ k < 191) ∧ ¬ (197 ≤ k ∧ k < 257) → L107 k i = L k i := fun k i hk => by (rw [hGr105 k i (by omega)]; try exact hG k i hk)
                  have hV : vC M106 = sI (sI (startV (vC M) x) 0 5 (-9)) 0 5 r75 := by rw [vC_fr (fun k hk => funext (fun i => hFr105 k i (by omega))), hV]
                  have k0_8 : M106 0 8 = M 0 8 := (hFr105 0 8 (by omega)).trans k0_8
                  have k0_9 : M106 0 9 = M 0 9 := (hFr105 0 9 (by omega)).trans k0_9
                  have k0_10 : M106 0 10 = r75 := (hFr105 0 10 (by omega)).trans k0_10
                  have k0_11 : M106 0 11 = vC M 0 4 := (hFr105 0 11 (by omega)).trans k0_11
                  have k88_3 : M106 88 3 = M100 88 3 := (hFr105 88 3 (by omega)).trans k88_3
                  have k88_4 : M106 88 4 = M100 88 4 := (hFr105 88 4 (by omega)).trans k88_4
                  have k191_0 : M106 191 0 = M 191 0 := (hFr105 191 0 (by omega)).trans k191_0
                  have k191_2 : M106 191 2 = M 191 2 := (hFr105 191 2 (by omega)).trans k191_2
                  have k125_0 : M106 125 0 = M106 125 0 := rfl
                  have k125_2 : M106 125 2 = M106 125 2 := rfl
                  have kt0_8 := congrArg Int32.toInt k0_8
                  have kt0_9 := congrArg Int32.toInt k0_9
                  have kt0_10 := congrArg Int32.toInt k0_10
                  have kt0_11 := congrArg Int32.toInt k0_11
                  have kt88_3 := congrArg Int32.toInt k88_3
                  have kt88_4 := congrArg Int32.toInt k88_4
                  have kt125_0 := congrArg Int32.toInt k125_0
                  have kt125_2 := congrArg Int32.toInt k125_2
                  have kt191_0 := congrArg Int32.toInt k191_0
                  have kt191_2 := congrArg Int32.toInt k191_2
                  have l124_0 : L107 124 0 = L107 124 0 := rfl
                  have l124_1 : L107 124 1 = L107 124 1 := rfl
                  have p91 : L107 91 = L107 91 := rfl
                  have p92 : L107 92 = L107 92 := rfl
                  have p121 : L107 121 = L107 121 := rfl
                  have p122 : L107 122 = L107 122 := rfl
                  have q100 : ∀ k, 100 ≤ k ∧ k < 110 → M106 k = M106 k := fun _ _ => rfl
                  have q110 : ∀ k, 110 ≤ k ∧ k < 120 → M106 k = M106 k := fun _ _ => rfl
                  have q83 : M106 83 = M22 83 := (funext (fun i => hFr105 83 i (by omega))).trans q83
                  have q87 : M106 87 = M22 87 := (funext (fun i => hFr105 87 i (by omega))).trans q87
                  have q89 : M106 89 = M100 89 := (funext (fun i => hFr105 89 i (by omega))).trans q89
                  have q90 : M106 90 = M106 90 := rfl
                  have q94 : M106 94 = M106 94 := rfl
                  have q95 : M106 95 = M106 95 := rfl
                  have q97 : M106 97 = M106 97 := rfl
                  have q123 : M106 123 = M106 123 := rfl
                  have q126 : M106 126 = M106 126 := rfl
                  have q127 : M106 127 = M106 127 := rfl
                  have q128 : M106 128 = M106 128 := rfl
                  have q192 : M106 192 = M 192 := (funext (fun i => hFr105 192 i (by omega))).trans q192
                  have q193 : M106 193 = M 193 := (funext (fun i => hFr105 193 i (by omega))).trans q193
                  have q194 : M106 194 = M 194 := (funext (fun i => hFr105 194 i (by omega))).trans q194
                  have q257 : M106 257 = M 257 := (funext (fun i => hFr105 257 i (by omega))).trans q257
                  obtain ⟨ok9, S9, R9, hcr, hz9, hrr⟩ := hr105
                  obtain ⟨bar105, bbr105⟩ := zo_b hz9
                  have hOUT : OUT (sI (startV (vC M) x) 0 5 (-9)) (vC M 9 x.toNatClampNeg) y z ok9 S9 R9 := by
                    refine ⟨M103 90, _, _, ?_, fun _ _ _ => ⟨rfl, rfl⟩, ?_⟩
                    · intro c hc
                      rw [congrFun q90k c]; exact tkI c hc
                    · have h9 := hcr
                      have eMN : (M103 88 3).toNatClampNeg = cnP (fun i => (sI (startV (vC M) x) 0 5 (-9)) 8 (40 * y.toNatClampNeg + i)) ((sI (startV (vC M) x) 0 5 (-9)) 7 y.toNatClampNeg).toNatClampNeg := by have := ixn (x := M103 88 3) (by omega); omega
                      rw [hVb, eMN, sumK_P _ bLY, k884k, tk4, show M103 2 = (sI (startV (vC M) x) 0 5 (-9)) 1 from (by rw [← hVb]; rfl), show M103 1 0 = (sI (startV (vC M) x) 0 5 (-9)) 0 0 from (by rw [← hVb]; rfl), hkg] at h9
                      exact h9
                  refine g_if_ne C 144 dX10_count_138 (by decide) (fun c108 => ?_) (fun c108 => ?_)
                  ·
                    have f109 := fne rfl (by decide : (0 : Int32).toInt = 0) c108
                    have hok := zo_t hz9 c108
                    refine g_aload_n C 1 dX10_count_144 rfl ?_
                    refine g_get C (.ref (ad ((M106 0 9).toNatClampNeg))) 9 in_X10_count_10 (List.mem_of_getElem? (i := 6) rfl) (by decide) (ce_house ad cs _ _) rfl (by decide) rfl rfl dX10_count_145 ?_
                    refine g_tr 125 (by rw [k0_9, hg9]; rfl) ?_
                    refine g_astore C [(5, .ref (ad 125)), (4, .int v26), (0, .ref (ad 0)), (1, .int x), (2, .int y), (3, .int z)] dX10_count_148 (by decide) rfl ?_
                    refine g_aload_n C 2 dX10_count_150 rfl ?_
                    refine g_aload_n C 2 dX10_count_151 rfl ?_
                    refine g_get C (.ref (ad ((M106 0 8).toNatClampNeg))) 8 in_X10_count_10 (List.mem_of_getElem? (i := 7) rfl) (by decide) (ce_house ad cs _ _) rfl (by decide) rfl rfl dX10_count_152 ?_
                    refine g_tr 191 (by rw [k0_8, hg8]; rfl) ?_
                    refine g_putR C (x9 := 191) 9 in_X10_count_10 (List.mem_of_getElem? (i := 6) rfl) (by decide) (ce_house ad cs _ _) rfl (by decide) rfl tyX10 tyX10_ok nmX10 rfl rfl rfl rfl (Nat.le_of_ble_eq_true rfl) (by rw [sI_k]; rfl) dX10_count_155 ?_
                    refine g_nm (fun M110 hM110 => ?_)
                    have zy111 : (191 : Int32).toInt = 191 := by decide
                    have hI : IC M110 := by rw [hM110]; exact hI.st (fun _ => Or.inr rfl)
                    have hF : ∀ k i, ¬ (k = 0 ∧ i = 8) ∧ ¬ (k = 0 ∧ i = 9) ∧ ¬ (k = 0 ∧ i = 10) ∧ ¬ (k = 0 ∧ i = 11) ∧ k ≠ 83 ∧ k ≠ 87 ∧ k ≠ 257 ∧ ¬ (k = 88 ∧ i = 3) ∧ ¬ (k = 88 ∧ i = 4) ∧ k ≠ 89 ∧ k ≠ 90 ∧ k ≠ 94 ∧ k ≠ 95 ∧ k ≠ 97 ∧ ¬ (100 ≤ k ∧ k < 110) ∧ ¬ (110 ≤ k ∧ k < 120) ∧ k ≠ 123 ∧ ¬ (k = 125 ∧ i = 0) ∧ ¬ (k = 125 ∧ i = 2) ∧ ¬ (k = 191 ∧ i = 0) ∧ ¬ (k = 191 ∧ i = 2) ∧ k ≠ 126 ∧ k ≠ 127 ∧ k ≠ 128 ∧ k ≠ 192 ∧ k ≠ 193 ∧ k ≠ 194 → M110 k i = M k i := fun k i hk => by (rw [hM110, sI_at, if_neg (by omega)]; try exact hF k i hk)
                    have k0_8 : M110 0 8 = M 0 8 := by rw [hM110, sI_at, if_neg (by decide)]; try exact k0_8
                    have k0_10 : M110 0 10 = r75 := by rw [hM110, sI_at, if_neg (by decide)]; try exact k0_10
                    have k0_11 : M110 0 11 = vC M 0 4 := by rw [hM110, sI_at, if_neg (by decide)]; try exact k0_11
                    have k88_3 : M110 88 3 = M100 88 3 := by rw [hM110, sI_at, if_neg (by decide)]; try exact k88_3
                    have k88_4 : M110 88 4 = M100 88 4 := by rw [hM110, sI_at, if_neg (by decide)]; try exact k88_4
                    have k125_0 : M110 125 0 = M106 125 0 := by rw [hM110, sI_at, if_neg (by decide)]; try exact k125_0
                    have k125_2 : M110 125 2 = M106 125 2 := by rw [hM110, sI_at, if_neg (by decide)]; try exact k125_2
                    have k191_0 : M110 191 0 = M 191 0 := by rw [hM110, sI_at, if_neg (by decide)]; try exact k191_0
                    have k191_2 : M110 191 2 = M 191 2 := by rw [hM110, sI_at, if_neg (by decide)]; try exact k191_2
                    have k0_9 : M110 0 9 = 191 := by rw [hM110, sI_at, if_pos (by decide)]
                    have q83 : M110 83 = M22 83 := by rw [hM110, sI_n _ _ _ (by decide)]; try exact q83
                    have q87 : M110 87 = M22 87 := by rw [hM110, sI_n _ _ _ (by decide)]; try exact q87
                    have q89 : M110 89 = M100 89 := by rw [hM110, sI_n _ _ _ (by decide)]; try exact q89
                    have q90 : M110 90 = M106 90 := by rw [hM110, sI_n _ _ _ (by decide)]; try exact q90
                    have q94 : M110 94 = M106 94 := by rw [hM110, sI_n _ _ _ (by decide)]; try exact q94
                    have q95 : M110 95 = M106 95 := by rw [hM110, sI_n _ _ _ (by decide)]; try exact q95
                    have q97 : M110 97 = M106 97 := by rw [hM110, sI_n _ _ _ (by decide)]; try exact q97
                    have q123 : M110 123 = M106 123 := by rw [hM110, sI_n _ _ _ (by decide)]; try exact q123
                    have q126 : M110 126 = M106 126 := by rw [hM110, sI_n _ _ _ (by decide)]; try exact q126
                    have q127 : M110 127 = M106 127 := by rw [hM110, sI_n _ _ _ (by decide)]; try exact q127
                    have q128 : M110 128 = M106 128 := by rw [hM110, sI_n _ _ _ (by decide)]; try exact q128
                    have q192 : M110 192 = M 192 := by rw [hM110, sI_n _ _ _ (by decide)]; try exact q192
                    have q193 : M110 193 = M 193 := by rw [hM110, sI_n _ _ _ (by decide)]; try exact q193
                    have q194 : M110 194 = M 194 := by rw [hM110, sI_n _ _ _ (by decide)]; try exact q194
                    have q257 : M110 257 = M 257 := by rw [hM110, sI_n _ _ _ (by decide)]; try exact q257
                    have q100 : ∀ k, 100 ≤ k ∧ k < 110 → M110 k = M106 k := fun k hk => by rw [hM110, sI_n _ _ _ (by omega)]; try exact q100 k hk
                    have q110 : ∀ k, 110 ≤ k ∧ k < 120 → M110 k = M106 k := fun k hk => by rw [hM110, sI_n _ _ _ (by omega)]; try exact q110 k hk
                    have hV : vC M110 = sI (sI (startV (vC M) x) 0 5 (-9)) 0 5 r75 := by rw [hM110, vC_h (by decide), hV]
                    refine g_aload_n C 2 dX10_count_158 rfl ?_
                    refine g_aload C 0 dX10_count_159 rfl ?_
                    refine g_putR C (x9 := 125) 8 in_X10_count_10 (List.mem_of_getElem? (i := 7) rfl) (by decide) (ce_house ad cs _ _) rfl (by decide) rfl tyX10 tyX10_ok nmX10 rfl rfl rfl rfl (Nat.le_of_ble_eq_true rfl) (by rw [sI_k]; rfl) dX10_count_161 ?_
                    refine g_nm (fun M112 hM112 => ?_)
                    have zy113 : (125 : Int32).toInt = 125 := by decide
                    have hI : IC M112 := by rw [hM112]; exact hI.st (fun _ => Or.inl rfl)
                    have hF : ∀ k i, ¬ (k = 0 ∧ i = 8) ∧ ¬ (k = 0 ∧ i = 9) ∧ ¬ (k = 0 ∧ i = 10) ∧ ¬ (k = 0 ∧ i = 11) ∧ k ≠ 83 ∧ k ≠ 87 ∧ k ≠ 257 ∧ ¬ (k = 88 ∧ i = 3) ∧ ¬ (k = 88 ∧ i = 4) ∧ k ≠ 89 ∧ k ≠ 90 ∧ k ≠ 94 ∧ k ≠ 95 ∧ k ≠ 97 ∧ ¬ (100 ≤ k ∧ k < 110) ∧ ¬ (110 ≤ k ∧ k < 120) ∧ k ≠ 123 ∧ ¬ (k = 125 ∧ i = 0) ∧ ¬ (k = 125 ∧ i = 2) ∧ ¬ (k = 191 ∧ i = 0) ∧ ¬ (k = 191 ∧ i = 2) ∧ k ≠ 126 ∧ k ≠ 127 ∧ k ≠ 128 ∧ k ≠ 192 ∧ k ≠ 193 ∧ k ≠ 194 → M112 k i = M k i := fun k i hk => by (rw [hM112, sI_at, if_neg (by omega)]; try exact hF k i hk)
                    have k0_9 : M112 0 9 = 191 := by rw [hM112, sI_at, if_neg (by decide)]; try exact k0_9
                    have k0_10 : M112 0 10 = r75 := by rw [hM112, sI_at, if_neg (by decide)]; try exact k0_10
                    have k0_11 : M112 0 11 = vC M 0 4 := by rw [hM112, sI_at, if_neg (by decide)]; try exact k0_11
                    have k88_3 : M112 88 3 = M100 88 3 := by rw [hM112, sI_at, if_neg (by decide)]; try exact k88_3
                    have k88_4 : M112 88 4 = M100 88 4 := by rw [hM112, sI_at, if_neg (by decide)]; try exact k88_4
                    have k125_0 : M112 125 0 = M106 125 0 := by rw [hM112, sI_at, if_neg (by decide)]; try exact k125_0
                    have k125_2 : M112 125 2 = M106 125 2 := by rw [hM112, sI_at, if_neg (by decide)]; try exact k125_2
                    have k191_0 : M112 191 0 = M 191 0 := by rw [hM112, sI_at, if_neg (by decide)]; try exact k191_0
                    have k191_2 : M112 191 2 = M 191 2 := by rw [hM112, sI_at, if_neg (by decide)]; try exact k191_2
                    have k0_8 : M112 0 8 = 125 := by rw [hM112, sI_at, if_pos (by decide)]
                    have q83 : M112 83 = M22 83 := by rw [hM112, sI_n _ _ _ (by decide)]; try exact q83
                    have q87 : M112 87 = M22 87 := by rw [hM112, sI_n _ _ _ (by decide)]; try exact q87
                    have q89 : M112 89 = M100 89 := by rw [hM112, sI_n _ _ _ (by decide)]; try exact q89
                    have q90 : M112 90 = M106 90 := by rw [hM112, sI_n _ _ _ (by decide)]; try exact q90
                    have q94 : M112 94 = M106 94 := by rw [hM112, sI_n _ _ _ (by decide)]; try exact q94
                    have q95 : M112 95 = M106 95 := by rw [hM112, sI_n _ _ _ (by decide)]; try exact q95
                    have q97 : M112 97 = M106 97 := by rw [hM112, sI_n _ _ _ (by decide)]; try exact q97
                    have q123 : M112 123 = M106 123 := by rw [hM112, sI_n _ _ _ (by decide)]; try exact q123
                    have q126 : M112 126 = M106 126 := by rw [hM112, sI_n _ _ _ (by decide)]; try exact q126
                    have q127 : M112 127 = M106 127 := by rw [hM112, sI_n _ _ _ (by decide)]; try exact q127
                    have q128 : M112 128 = M106 128 := by rw [hM112, sI_n _ _ _ (by decide)]; try exact q128
                    have q192 : M112 192 = M 192 := by rw [hM112, sI_n _ _ _ (by decide)]; try exact q192
                    have q193 : M112 193 = M 193 := by rw [hM112, sI_n _ _ _ (by decide)]; try exact q193
                    have q194 : M112 194 = M 194 := by rw [hM112, sI_n _ _ _ (by decide)]; try exact q194
                    have q257 : M112 257 = M 257 := by rw [hM112, sI_n _ _ _ (by decide)]; try exact q257
                    have q100 : ∀ k, 100 ≤ k ∧ k < 110 → M112 k = M106 k := fun k hk => by rw [hM112, sI_n _ _ _ (by omega)]; try exact q100 k hk
                    have q110 : ∀ k, 110 ≤ k ∧ k < 120 → M112 k = M106 k := fun k hk => by rw [hM112, sI_n _ _ _ (by omega)]; try exact q110 k hk
                    have hV : vC M112 = sI (sI (startV (vC M) x) 0 5 (-9)) 0 5 r75 := by rw [hM112, vC_h (by decide), hV]
                    refine g_aload_n C 2 dX10_count_164 rfl ?_
                    refine g_get C (.ref (ad ((M112 0 8).toNatClampNeg))) 8 in_X10_count_10 (List.mem_of_getElem? (i := 7) rfl) (by decide) (ce_house ad cs _ _) rfl (by decide) rfl rfl dX10_count_165 ?_
                    refine g_tr 125 (by rw [k0_8]; rfl) ?_
                    refine g_get C (.int (M112 125 0)) 0 in_X10_count_7 (List.mem_of_getElem? (i := 8) rfl) (by decide) (ce_ra ad cs _ _) rfl (by decide) rfl rfl dX10_count_168 ?_
                    refine g_ni (fun v114 ev114 => ?_)
                    have gv114 : v114 = M106 125 0 := ev114.trans k125_0
                    have tv114 := congrArg Int32.toInt gv114
                    obtain ⟨bv114, dv114⟩ := (show rg 0 30 v114 from (by rw [ev114]; exact hI 125 0 (Or.inl rfl)))
                    have hA : A_count (vC M) x y z = (0, sI (startV (vC M) x) 0 5 (-9)) := by dsimp only [A_count, hasM, hasX, seatsOk, bt]; (repeat (first | rw [if_pos (by omega)] | rw [if_neg (by omega)]))
                    have hrr9 := hrr hok
                    have hS9 := hrr9.1
                    have hrz : RP (M112 125 0) (M112 126) (M112 125 2) (M112 127) (M112 128) S9 R9 := by rw [k125_0, k125_2, q126, q127, q128]; exact hrr9
                    exact g_iret C hr ⟨⟨by rw [hA, hV, sI_sI, er9], fun h => absurd (by rw [hA]) h, fun _ => ⟨ok9, S9, R9, by rw [hA]; exact hOUT, fun _ => ⟨by rw [gv114]; exact hS9, Or.inl ⟨k0_8, hrz⟩, by unfold LSc; rw [k0_8, k0_9]; decide⟩, fun h9 => absurd (hok.symm.trans h9) (by decide)⟩⟩, hI, hF, hG⟩ dX10_count_171
                  ·
                    have f115 := feq rfl (by decide : (0 : Int32).toInt = 0) c108
                    have hnok := zo_f hz9 c108
                    refine g_bipush C (-6) dX10_count_141 (by decide) ?_
                    have hA : A_count (vC M) x y z = (0, sI (startV (vC M) x) 0 5 (-9)) := by dsimp only [A_count, hasM, hasX, seatsOk, bt]; (repeat (first | rw [if_pos (by omega)] | rw [if_neg (by omega)]))
                    have zr9 : ((-6) : Int32).toInt = (-6) := by decide
                    exact g_iret C hr ⟨⟨by rw [hA, hV, sI_sI, er9], fun h => absurd (by rw [hA]) h, fun _ => ⟨ok9, S9, R9, by rw [hA]; exact hOUT, fun h9 => absurd h9 hnok, fun _ => ⟨rfl, CDs_191 hg8 k0_8 k0_9 ⟨k191_0, q192, k191_2, q193, q194⟩⟩⟩⟩, hI, hF, hG⟩ dX10_count_143
                ·
                  exact absurd (hg8.trans hg9.symm) hLS
            ·
              have f116 := fne rfl (by decide : ((-9) : Int32).toInt = (-9)) c80
              refine g_aload_n C 1 dX10_count_102 rfl ?_
              refine g_iconst C 3 dX10_count_103 (by decide) ?_
              refine g_callVi C (n := 1) (As := [.int 3]) (st := []) (v_X10_found l D ad cs _ _ 3 hI ⟨by first | omega | decide, by first | omega | decide⟩) gX10_count_X10_found rfl rfl rfl (by decide +kernel) ⟨Nat.le_of_ble_eq_true rfl, Nat.le_of_ble_eq_true rfl⟩ rfl (Nat.le_of_ble_eq_true rfl) ⟨Nat.zero_le _, Nat.zero_le _⟩ (by decide) (ce_house ad cs _ _) rfl rfl dX10_count_104 (fun r117 M118 L119 hr117 => ?_)
              obtain ⟨hr117, hI, hFr117, hGr117⟩ := hr117
              have hF : ∀ k i, ¬ (k = 0 ∧ i = 8) ∧ ¬ (k = 0 ∧ i = 9) ∧ ¬ (k = 0 ∧ i = 10) ∧ ¬ (k = 0 ∧ i = 11) ∧ k ≠ 83 ∧ k ≠ 87 ∧ k ≠ 257 ∧ ¬ (k = 88 ∧ i = 3) ∧ ¬ (k = 88 ∧ i = 4) ∧ k ≠ 89 ∧ k ≠ 90 ∧ k ≠ 94 ∧ k ≠ 95 ∧ k ≠ 97 ∧ ¬ (100 ≤ k ∧ k < 110) ∧ ¬ (110 ≤ k ∧ k < 120) ∧ k ≠ 123 ∧ ¬ (k = 125 ∧ i = 0) ∧ ¬ (k = 125 ∧ i = 2) ∧ ¬ (k = 191 ∧ i = 0) ∧ ¬ (k = 191 ∧ i = 2) ∧ k ≠ 126 ∧ k ≠ 127 ∧ k ≠ 128 ∧ k ≠ 192 ∧ k ≠ 193 ∧ k ≠ 194 → M118 k i = M k i := fun k i hk => by (rw [hFr117 k i (by omega)]; try exact hF k i hk)
              have hG : ∀ k i, k ≠ 91 ∧ k ≠ 92 ∧ k ≠ 121 ∧ k ≠ 122 ∧ ¬ (k = 124 ∧ i = 0) ∧ ¬ (k = 124 ∧ i = 1) ∧ ¬ (131 ≤ k ∧ k < 191) ∧ ¬ (197 ≤ k ∧ k < 257) → L119 k i = L k i := fun k i hk => by (rw [hGr117 k i trivial]; try exact hG k i hk)
              have hV : vC M118 = meetsV (sI (sI (startV (vC M) x) 0 5 (-9)) 0 5 r75) 3 := by rw [hr117.2, hV]
              have k0_8 : M118 0 8 = M 0 8 := (hFr117 0 8 (by omega)).trans k0_8
              have k0_9 : M118 0 9 = M 0 9 := (hFr117 0 9 (by omega)).trans k0_9
              have k0_10 : M118 0 10 = r75 := (hFr117 0 10 (by omega)).trans k0_10
              have k88_3 : M118 88 3 = M 88 3 := (hFr117 88 3 (by omega)).trans k88_3
              have k88_4 : M118 88 4 = M 88 4 := (hFr117 88 4 (by omega)).trans k88_4
              have k125_0 : M118 125 0 = M 125 0 := (hFr117 125 0 (by omega)).trans k125_0
              have k125_2 : M118 125 2 = M 125 2 := (hFr117 125 2 (by omega)).trans k125_2
              have k191_0 : M118 191 0 = M 191 0 := (hFr117 191 0 (by omega)).trans k191_0
              have k191_2 : M118 191 2 = M 191 2 := (hFr117 191 2 (by omega)).trans k191_2
              have k0_11 : M118 0 11 = M118 0 11 := rfl
              have l124_0 : L119 124 0 = L 124 0 := (hGr117 124 0 trivial).trans l124_0
              have l124_1 : L119 124 1 = L 124 1 := (hGr117 124 1 trivial).trans l124_1
              have p91 : L119 91 = L 91 := (funext (fun i => hGr117 91 i trivial)).trans p91
              have p92 : L119 92 = L 92 := (funext (fun i => hGr117 92 i trivial)).trans p92
              have p121 : L119 121 = L 121 := (funext (fun i => hGr117 121 i trivial)).trans p121
              have p122 : L119 122 = L 122 := (funext (fun i => hGr117 122 i trivial)).trans p122
              have q100 : ∀ k, 100 ≤ k ∧ k < 110 → M118 k = M k := fun k hk => (funext (fun i => hFr117 k i (by omega))).trans (q100 k hk)
              have q110 : ∀ k, 110 ≤ k ∧ k < 120 → M118 k = M k := fun k hk => (funext (fun i => hFr117 k i (by omega))).trans (q110 k hk)
              have q83 : M118 83 = M22 83 := (funext (fun i => hFr117 83 i (by omega))).trans q83
              have q87 : M118 87 = M22 87 := (funext (fun i => hFr117 87 i (by omega))).trans q87
              have q89 : M118 89 = M 89 := (funext (fun i => hFr117 89 i (by omega))).trans q89
              have q90 : M118 90 = M 90 := (funext (fun i => hFr117 90 i (by omega))).trans q90
              have q94 : M118 94 = M 94 := (funext (fun i => hFr117 94 i (by omega))).trans q94
              have q95 : M118 95 = M 95 := (funext (fun i => hFr117 95 i (by omega))).trans q95
              have q97 : M118 97 = M 97 := (funext (fun i => hFr117 97 i (by omega))).trans q97
              have q123 : M118 123 = M 123 := (funext (fun i => hFr117 123 i (by omega))).trans q123
              have q126 : M118 126 = M 126 := (funext (fun i => hFr117 126 i (by omega))).trans q126
              have q127 : M118 127 = M 127 := (funext (fun i => hFr117 127 i (by omega))).trans q127
              have q128 : M118 128 = M 128 := (funext (fun i => hFr117 128 i (by omega))).trans q128
              have q192 : M118 192 = M 192 := (funext (fun i => hFr117 192 i (by omega))).trans q192
              have q193 : M118 193 = M 193 := (funext (fun i => hFr117 193 i (by omega))).trans q193
              have q194 : M118 194 = M 194 := (funext (fun i => hFr117 194 i (by omega))).trans q194
              have q257 : M118 257 = M118 257 := rfl
              have hA : A_count (vC M) x y z = (-3, meetsV (sI (startV (vC M) x) 0 5 (unV (vC M) y (vC M 9 x.toNatClampNeg))) 3) := by dsimp only [A_count, hasM, hasX, seatsOk, bt]; (repeat (first | rw [if_pos (by omega)] | rw [if_neg (by omega)]))
              exact g_iret C hr ⟨⟨by rw [hA, hV, sI_sI, hr75], fun _ => ⟨by rw [hA]; exact hr117.1, CDs_of (hI0 0 8 (Or.inl rfl)) k0_8 k0_9 ⟨k125_0, q126, k125_2, q127, q128⟩ ⟨k191_0, q192, k191_2, q193, q194⟩⟩, fun h => absurd h (by rw [hA]; show ¬ (-3 : Int32) = 0; decide)⟩, hI, hF, hG⟩ dX10_count_107
        ·
          have f120 := fne rfl (by decide : (1 : Int32).toInt = 1) c24
          refine g_bipush C (-4) dX10_count_59 (by decide) ?_
          have hA : A_count (vC M) x y z = (-4, sI (startV (vC M) x) 0 5 (-9)) := by dsimp only [A_count, hasM, hasX, seatsOk, bt]; (repeat (first | rw [if_pos (by omega)] | rw [if_neg (by omega)]))
          have zr9 : ((-4) : Int32).toInt = (-4) := by decide
          exact g_iret C hr ⟨⟨by rw [hA, hV], fun _ => ⟨by rw [hA], CDs_of (hI0 0 8 (Or.inl rfl)) k0_8 k0_9 ⟨k125_0, q126, k125_2, q127, q128⟩ ⟨k191_0, q192, k191_2, q193, q194⟩⟩, fun h => absurd h (by rw [hA]; show ¬ (-4 : Int32) = 0; decide)⟩, hI, hF, hG⟩ dX10_count_61
      ·
        have f121 := feq rfl (by decide : (0 : Int32).toInt = 0) c19
        have pr16 := zo_f hr16 c19
        try dsimp only [hasC, hasB, hasX, hasM, ofS, ofK, bt] at pr16
        refine g_iconst C (-1) dX10_count_45 (by decide) ?_
        have hA : A_count (vC M) x y z = (-1, sI (vC M) 0 5 (-9)) := by dsimp only [A_count, hasM, hasX, seatsOk, bt]; (repeat (first | rw [if_pos (by omega)] | rw [if_neg (by omega)]))
        have zr9 : ((-1) : Int32).toInt = (-1) := by decide
        exact g_iret C hr ⟨⟨by rw [hA, hV], fun _ => ⟨by rw [hA], CDs_of (hI0 0 8 (Or.inl rfl)) k0_8 k0_9 ⟨k125_0, q126, k125_2, q127, q128⟩ ⟨k191_0, q192, k191_2, q193, q194⟩⟩, fun h => absurd h (by rw [hA]; show ¬ (-1 : Int32) = 0; decide)⟩, hI, hF, hG⟩ dX10_count_46
