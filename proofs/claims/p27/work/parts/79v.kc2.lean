set_option maxHeartbeats 4000000 in
set_option maxRecDepth 100000 in
theorem k_X6_take (l : Launch) (D : va_G) (ad : Nat → Nat) (cs : Nat → ClassId) (M : MI) (L : ML) (x : Int32) (y : Int32) (hI : IC M) (hx : hasX (vC M) x) (hy : 0 ≤ y.toInt ∧ y.toInt ≤ 30) (h8 : ∀ i : Nat, (vC M 8 i).toInt = -9 ∨ (0 ≤ (vC M 8 i).toInt ∧ (vC M 8 i).toInt < (vC M 0 1).toInt)) : Cv l yX6_take wsX6_take ({ frames := 1, cells := 0, slots := 0, locals := 21 }) D ad cs [.ref (ad 88), .ref (ad 68), .int x, .int y] M L (fun M1 L1 => ((M1 88 3).toInt = (cnP (fun i => vC M 8 (40 * x.toNatClampNeg + i)) (vC M 7 x.toNatClampNeg).toNatClampNeg : Int) ∧ M1 88 4 = y ∧ LY (fun i => vC M 8 (40 * x.toNatClampNeg + i)) (M1 89) (vC M 7 x.toNatClampNeg).toNatClampNeg ∧ (∀ c : Nat, c < 10 → M1 90 c = if (c : Int) < (vC M 0 0).toInt then 1 else 0) ∧ (∀ j : Nat, j < 10 → L1 91 j = 0 ∧ L1 92 j = 1)) ∧ IC M1 ∧ (∀ k i, ¬ (k = 88 ∧ i = 3) ∧ ¬ (k = 88 ∧ i = 4) ∧ k ≠ 89 ∧ k ≠ 90 → M1 k i = M k i) ∧ ∀ k i, k ≠ 91 ∧ k ≠ 92 → L1 k i = L k i) := by
  refine enter_v RX6 rfl [(0, .ref (ad 88)), (1, .ref (ad 68)), (2, .int x), (3, .int y)] rfl (Nat.le_of_ble_eq_true rfl) (by decide +kernel) rfl ?_
  intro p e s m below meth c C hr
  have hF : ∀ k i, ¬ (k = 88 ∧ i = 3) ∧ ¬ (k = 88 ∧ i = 4) ∧ k ≠ 89 ∧ k ≠ 90 → M k i = M k i := fun _ _ _ => rfl
  have hG : ∀ k i, k ≠ 91 ∧ k ≠ 92 → L k i = L k i := fun _ _ _ => rfl
  have w0 : (vC M 0 0).toInt = (M 1 0).toInt := rfl
  have w1 : (vC M 0 1).toInt = (M 3 0).toInt := rfl
  have w2 : (vC M 0 2).toInt = (M 68 0).toInt := rfl
  have w3 : (vC M 0 3).toInt = (M 81 0).toInt := rfl
  obtain ⟨y0a, y0b⟩ := (show rg 0 10 (M 1 0) from hI 1 0 rfl)
  obtain ⟨y1a, y1b⟩ := (show rg 0 60 (M 3 0) from hI 3 0 rfl)
  obtain ⟨y2a, y2b⟩ := (show rg 0 8 (M 68 0) from hI 68 0 rfl)
  obtain ⟨y3a, y3b⟩ := (show rg 0 20 (M 81 0) from hI 81 0 rfl)
  obtain ⟨hx1, hx2⟩ := hx
  obtain ⟨hy1, hy2⟩ := hy
  obtain ⟨sza, szb⟩ := (show rg 0 40 (vC M 7 x.toNatClampNeg) from hI 70 _)
  have ns := ixn sza
  have nx := ixn hx1
  have k88_3 : M 88 3 = M 88 3 := rfl
  have k88_4 : M 88 4 = M 88 4 := rfl
  have p91 : L 91 = L 91 := rfl
  have p92 : L 92 = L 92 := rfl
  have q89 : M 89 = M 89 := rfl
  have q90 : M 90 = M 90 := rfl
  have hV : vC M = vC M := rfl
  refine g_aload_n C 0 dX6_take_0 rfl ?_
  refine g_iload_n C 3 dX6_take_1 rfl ?_
  refine g_putI C 4 in_X6_take_6 (List.mem_of_getElem? (i := 1) rfl) (by decide) (ce_poll ad cs _ _) rfl (by decide) rfl tyX6 tyX6_ok nmX6 rfl rfl rfl rfl (Nat.le_of_ble_eq_true rfl) (by rw [sI_k]; rfl) dX6_take_2 ?_
  refine g_nm (fun M1 hM1 => ?_)
  have hI : IC M1 := by rw [hM1]; exact hI.st ⟨fun h => absurd h (by decide), fun _ => ⟨by first | omega | decide, by first | omega | decide⟩⟩
  have hF : ∀ k i, ¬ (k = 88 ∧ i = 3) ∧ ¬ (k = 88 ∧ i = 4) ∧ k ≠ 89 ∧ k ≠ 90 → M1 k i = M k i := fun k i hk => by (rw [hM1, sI_at, if_neg (by omega)]; try exact hF k i hk)
  have k88_3 : M1 88 3 = M 88 3 := by rw [hM1, sI_at, if_neg (by decide)]; try exact k88_3
  have k88_4 : M1 88 4 = y := by rw [hM1, sI_at, if_pos (by decide)]
  have q89 : M1 89 = M 89 := by rw [hM1, sI_n _ _ _ (by decide)]; try exact q89
  have q90 : M1 90 = M 90 := by rw [hM1, sI_n _ _ _ (by decide)]; try exact q90
  have hV : vC M1 = vC M := by rw [hM1, vC_z (by decide), hV]
  refine g_aload_n C 0 dX6_take_5 rfl ?_
  refine g_iconst C 0 dX6_take_6 (by decide) ?_
  refine g_putI C 3 in_X6_take_6 (List.mem_of_getElem? (i := 2) rfl) (by decide) (ce_poll ad cs _ _) rfl (by decide) rfl tyX6 tyX6_ok nmX6 rfl rfl rfl rfl (Nat.le_of_ble_eq_true rfl) (by rw [sI_k]; rfl) dX6_take_7 ?_
  refine g_nm (fun M2 hM2 => ?_)
  have zy3 : (0 : Int32).toInt = 0 := by decide
  have hI : IC M2 := by rw [hM2]; exact hI.st ⟨fun _ => ⟨by first | omega | decide, by first | omega | decide⟩, fun h => absurd h (by decide)⟩
  have hF : ∀ k i, ¬ (k = 88 ∧ i = 3) ∧ ¬ (k = 88 ∧ i = 4) ∧ k ≠ 89 ∧ k ≠ 90 → M2 k i = M k i := fun k i hk => by (rw [hM2, sI_at, if_neg (by omega)]; try exact hF k i hk)
  have k88_4 : M2 88 4 = y := by rw [hM2, sI_at, if_neg (by decide)]; try exact k88_4
  have k88_3 : M2 88 3 = 0 := by rw [hM2, sI_at, if_pos (by decide)]
  have q89 : M2 89 = M 89 := by rw [hM2, sI_n _ _ _ (by decide)]; try exact q89
  have q90 : M2 90 = M 90 := by rw [hM2, sI_n _ _ _ (by decide)]; try exact q90
  have hV : vC M2 = vC M := by rw [hM2, vC_z (by decide), hV]
  refine g_iconst C 0 dX6_take_10 (by decide) ?_
  refine g_istore C [(4, .int 0), (0, .ref (ad 88)), (1, .ref (ad 68)), (2, .int x), (3, .int y)] dX6_take_11 (by decide) rfl ?_
  have zy4 : (0 : Int32).toInt = 0 := by decide
  refine g_loop (α := Int32 × MI × ML) (fun a => (41 - a.1.toInt).toNat) (fun a => (0 ≤ a.1.toInt) ∧ (a.1.toInt ≤ (vC M 7 x.toNatClampNeg).toInt) ∧ ((a.2.1 88 3).toInt = (cnP (fun i => vC M 8 (40 * x.toNatClampNeg + i)) a.1.toNatClampNeg : Int)) ∧ (a.2.1 88 4 = y) ∧ (LY (fun i => vC M 8 (40 * x.toNatClampNeg + i)) (a.2.1 89) a.1.toNatClampNeg) ∧ IC a.2.1 ∧ (∀ k i, ¬ (k = 88 ∧ i = 3) ∧ ¬ (k = 88 ∧ i = 4) ∧ k ≠ 89 ∧ k ≠ 90 → a.2.1 k i = M k i) ∧ (∀ k i, k ≠ 91 ∧ k ≠ 92 → a.2.2 k i = L k i)) (fun a => a.2.1) (fun a => a.2.2) (fun a => [(4, .int a.1), (0, .ref (ad 88)), (1, .ref (ad 68)), (2, .int x), (3, .int y)]) ((0 : Int32), M2, L) ⟨by show 0 ≤ (0 : Int32).toInt; omega, by show (0 : Int32).toInt ≤ (vC M 7 x.toNatClampNeg).toInt; omega, by show (M2 88 3).toInt = (cnP (fun i => vC M 8 (40 * x.toNatClampNeg + i)) (0 : Int32).toNatClampNeg : Int); rw [k88_3]; rfl, by show M2 88 4 = y; exact k88_4, by show LY (fun i => vC M 8 (40 * x.toNatClampNeg + i)) (M2 89) (0 : Int32).toNatClampNeg; intro i hi; exact absurd hi (by show ¬ i < 0; omega), hI, hF, hG⟩ rfl rfl rfl ?_
  rintro ⟨x4_13, M_13, L_13⟩ ⟨j13_0, j13_1, j13_2, j13_3, j13_4, hI, hF, hG⟩ ih_13
  dsimp only at j13_0 j13_1 j13_2 j13_3 j13_4 hI hF hG ih_13 ⊢
  have k88_3 : M_13 88 3 = M_13 88 3 := rfl
  have k88_4 : M_13 88 4 = M_13 88 4 := rfl
  have hV : vC M_13 = vC M_13 := rfl
  have p91 : L_13 91 = L_13 91 := rfl
  have p92 : L_13 92 = L_13 92 := rfl
  have q89 : M_13 89 = M_13 89 := rfl
  have q90 : M_13 90 = M_13 90 := rfl
  have n4 := ixn (x := x4_13) (by omega)
  have h89 := h8 (40 * x.toNatClampNeg + x4_13.toNatClampNeg)
  have hcl := cnP_le (fun i => vC M 8 (40 * x.toNatClampNeg + i)) x4_13.toNatClampNeg
  refine g_iload C 0 dX6_take_13 rfl ?_
  refine g_aload_n C 2 dX6_take_15 rfl ?_
  refine g_get C (.ref (ad 70)) 2 in_X6_take_1 (List.mem_of_getElem? (i := 3) rfl) (by decide) (ce_box ad cs _ _) rfl (by decide) rfl rfl dX6_take_16 ?_
  refine g_iload_n C 3 dX6_take_19 rfl ?_
  have nx := ixn (x := x) (by omega)
  refine g_iald C (by decide) (ce_xsize ad cs _ _) (fin' (n := 8) rfl (by omega) (by omega)) dX6_take_20 ?_
  refine g_ni (fun v5 ev5 => ?_)
  have gv5 : v5 = vC M 7 x.toNatClampNeg := ev5.trans (hF 70 x.toNatClampNeg (by omega))
  have tv5 := congrArg Int32.toInt gv5
  obtain ⟨bv5, dv5⟩ := (show rg 0 40 v5 from (by rw [ev5]; exact hI 70 x.toNatClampNeg))
  refine g_icmp_ge C 77 dX6_take_21 (by decide) (fun c6 => ?_) (fun c6 => ?_)
  ·
    have f7 := fle rfl rfl c6
    refine g_iconst C 0 dX6_take_77 (by decide) ?_
    refine g_istore C [(4, .int 0), (0, .ref (ad 88)), (1, .ref (ad 68)), (2, .int x), (3, .int y)] dX6_take_78 (by decide) rfl ?_
    have zy8 : (0 : Int32).toInt = 0 := by decide
    have e13 : x4_13.toNatClampNeg = (vC M 7 x.toNatClampNeg).toNatClampNeg := by omega
    rw [e13] at j13_2 j13_4
    refine g_loop (α := Int32 × MI × ML) (fun a => (11 - a.1.toInt).toNat) (fun a => (0 ≤ a.1.toInt) ∧ (a.1.toInt ≤ 10) ∧ (∀ c : Nat, c < a.1.toNatClampNeg → a.2.1 90 c = if (c : Int) < (vC M 0 0).toInt then 1 else 0) ∧ ((a.2.1 88 3).toInt = (cnP (fun i => vC M 8 (40 * x.toNatClampNeg + i)) (vC M 7 x.toNatClampNeg).toNatClampNeg : Int) ∧ a.2.1 88 4 = y ∧ LY (fun i => vC M 8 (40 * x.toNatClampNeg + i)) (a.2.1 89) (vC M 7 x.toNatClampNeg).toNatClampNeg) ∧ IC a.2.1 ∧ (∀ k i, ¬ (k = 88 ∧ i = 3) ∧ ¬ (k = 88 ∧ i = 4) ∧ k ≠ 89 ∧ k ≠ 90 → a.2.1 k i = M k i) ∧ (∀ k i, k ≠ 91 ∧ k ≠ 92 → a.2.2 k i = L k i)) (fun a => a.2.1) (fun a => a.2.2) (fun a => [(4, .int a.1), (0, .ref (ad 88)), (1, .ref (ad 68)), (2, .int x), (3, .int y)]) ((0 : Int32), M_13, L_13) ⟨by show 0 ≤ (0 : Int32).toInt; omega, by show (0 : Int32).toInt ≤ 10; omega, by show ∀ c : Nat, c < (0 : Int32).toNatClampNeg → M_13 90 c = if (c : Int) < (vC M 0 0).toInt then 1 else 0; intro c hc; exact absurd hc (by show ¬ c < 0; omega), by show (M_13 88 3).toInt = (cnP (fun i => vC M 8 (40 * x.toNatClampNeg + i)) (vC M 7 x.toNatClampNeg).toNatClampNeg : Int) ∧ M_13 88 4 = y ∧ LY (fun i => vC M 8 (40 * x.toNatClampNeg + i)) (M_13 89) (vC M 7 x.toNatClampNeg).toNatClampNeg; exact ⟨j13_2, j13_3, j13_4⟩, hI, hF, hG⟩ rfl rfl rfl ?_
    rintro ⟨x4_80, M_80, L_80⟩ ⟨j80_0, j80_1, j80_2, j80_3, hI, hF, hG⟩ ih_80
    dsimp only at j80_0 j80_1 j80_2 j80_3 hI hF hG ih_80 ⊢
    have k88_3 : M_80 88 3 = M_80 88 3 := rfl
    have k88_4 : M_80 88 4 = M_80 88 4 := rfl
    have hV : vC M_80 = vC M_80 := rfl
    have p91 : L_80 91 = L_80 91 := rfl
    have p92 : L_80 92 = L_80 92 := rfl
    have q89 : M_80 89 = M_80 89 := rfl
    have q90 : M_80 90 = M_80 90 := rfl
    have n4 := ixn (x := x4_80) (by omega)
    refine g_iload C 0 dX6_take_80 rfl ?_
    refine g_bipush C 10 dX6_take_82 (by decide) ?_
    refine g_icmp_ge C 109 dX6_take_84 (by decide) (fun c9 => ?_) (fun c9 => ?_)
    ·
      have f10 := fle (by decide : (10 : Int32).toInt = 10) rfl c9
      refine g_aload_n C 1 dX6_take_109 rfl ?_
      refine g_callVv C (n := 0) (As := []) (st := []) (k_X6_clearTallies l D ad cs _ _  hI ) gX6_take_X6_clearTallies rfl rfl rfl (by decide +kernel) ⟨Nat.le_of_ble_eq_true rfl, Nat.le_of_ble_eq_true rfl⟩ rfl (Nat.le_of_ble_eq_true rfl) ⟨Nat.zero_le _, Nat.zero_le _⟩ (by decide) (ce_poll ad cs _ _) rfl rfl dX6_take_110 (fun M12 L13 hr11 => ?_)
      obtain ⟨hr11, hI, hFr11, hGr11⟩ := hr11
      have hF : ∀ k i, ¬ (k = 88 ∧ i = 3) ∧ ¬ (k = 88 ∧ i = 4) ∧ k ≠ 89 ∧ k ≠ 90 → M12 k i = M k i := fun k i hk => by (rw [hFr11 k i trivial]; try exact hF k i hk)
      have hG : ∀ k i, k ≠ 91 ∧ k ≠ 92 → L13 k i = L k i := fun k i hk => by (rw [hGr11 k i (by omega)]; try exact hG k i hk)
      have hV : vC M12 = vC M_80 := by rw [vC_fr (fun k hk => funext (fun i => hFr11 k i trivial)), hV]
      have k88_3 : M12 88 3 = M_80 88 3 := (hFr11 88 3 trivial).trans k88_3
      have k88_4 : M12 88 4 = M_80 88 4 := (hFr11 88 4 trivial).trans k88_4
      have kt88_3 := congrArg Int32.toInt k88_3
      have kt88_4 := congrArg Int32.toInt k88_4
      have p91 : L13 91 = L13 91 := rfl
      have p92 : L13 92 = L13 92 := rfl
      have q89 : M12 89 = M_80 89 := (funext (fun i => hFr11 89 i trivial)).trans q89
      have q90 : M12 90 = M_80 90 := (funext (fun i => hFr11 90 i trivial)).trans q90
      have hct := hr11
      exact g_vret C hr ⟨⟨by rw [k88_3]; exact j80_3.1, k88_4.trans j80_3.2.1, by rw [q89]; exact j80_3.2.2, fun c hc => by rw [congrFun q90 c]; exact j80_2 c (by omega), hct⟩, hI, hF, hG⟩ dX6_take_113
    ·
      have f14 := fnle (by decide : (10 : Int32).toInt = 10) rfl c9
      refine g_aload_n C 1 dX6_take_87 rfl ?_
      refine g_get C (.ref (ad 90)) 5 in_X6_take_6 (List.mem_of_getElem? (i := 7) rfl) (by decide) (ce_poll ad cs _ _) rfl (by decide) rfl rfl dX6_take_88 ?_
      refine g_iload C 0 dX6_take_91 rfl ?_
      refine g_aload_n C 1 dX6_take_93 rfl ?_
      refine g_get C (.ref (ad 1)) 0 in_X6_take_6 (List.mem_of_getElem? (i := 8) rfl) (by decide) (ce_poll ad cs _ _) rfl (by decide) rfl rfl dX6_take_94 ?_
      refine g_iload C 0 dX6_take_97 rfl ?_
      refine g_callVi C (n := 1) (As := [.int x4_80]) (st := [.int x4_80, .ref (ad 90)]) (c_X2_has l D ad cs _ _ x4_80 ) gX6_take_X2_has rfl rfl rfl (by decide +kernel) ⟨Nat.le_of_ble_eq_true rfl, Nat.le_of_ble_eq_true rfl⟩ rfl (Nat.le_of_ble_eq_true rfl) ⟨Nat.zero_le _, Nat.zero_le _⟩ (by decide) (ce_cand ad cs _ _) rfl rfl dX6_take_99 (fun r15 M16 L17 hr15 => ?_)
      obtain ⟨hq1, hq2, hr15⟩ := hr15
      obtain rfl := hq1.symm
      obtain rfl := hq2.symm
      have hr15 := zo_has hr15
      rw [show M_80 1 0 = M 1 0 from hF 1 0 (by omega)] at hr15
      obtain ⟨bar15, bbr15⟩ := zo_b hr15
      have nx4_80 := ixn (x := x4_80) (by omega)
      refine g_zast C (by decide) (ce_pin ad cs _ _) (by rw [sI_k]; rfl) (fin' (n := 10) rfl (by omega) (by omega)) dX6_take_102 ?_
      refine g_nm (fun M18 hM18 => ?_)
      have hI : IC M18 := by rw [hM18]; exact hI.st (bC_free (by decide) (by decide) (by decide) (by decide) (by decide) (by decide) (by decide))
      have hF : ∀ k i, ¬ (k = 88 ∧ i = 3) ∧ ¬ (k = 88 ∧ i = 4) ∧ k ≠ 89 ∧ k ≠ 90 → M18 k i = M k i := fun k i hk => by (rw [hM18, sI_at, if_neg (by omega)]; try exact hF k i hk)
      have k88_3 : M18 88 3 = M_80 88 3 := by rw [hM18, sI_n _ _ _ (by decide)]; try exact k88_3
      have k88_4 : M18 88 4 = M_80 88 4 := by rw [hM18, sI_n _ _ _ (by decide)]; try exact k88_4
      have q89 : M18 89 = M_80 89 := by rw [hM18, sI_n _ _ _ (by decide)]; try exact q89
      have hV : vC M18 = vC M_80 := by rw [hM18, vC_z (by decide), hV]
      obtain ⟨v19, ev19⟩ : ∃ y : Int32, y = x4_80 + 1 := ⟨_, rfl⟩
      try have fv19 := fadd rfl (by decide : (1 : Int32).toInt = 1) ev19 (by omega) (by omega)
      refine g_iinc C 0 v19 [(4, .int v19), (0, .ref (ad 88)), (1, .ref (ad 68)), (2, .int x), (3, .int y)] dX6_take_103 rfl (by rw [ev19]; rfl) (by decide) rfl ?_
      refine g_goto C 80 dX6_take_106 (by decide) ?_
      have nv := ixn (x := v19) (by omega)
      have hall : ∀ c : Nat, c < v19.toNatClampNeg → M18 90 c = if (c : Int) < (vC M 0 0).toInt then 1 else 0 := by
        intro c hc
        rw [hM18, sI_at]
        by_cases e9 : c = x4_80.toNatClampNeg
        · rw [if_pos ⟨rfl, e9⟩]; rcases hr15 with h9 | h9
          · rw [h9.1, if_pos (by omega)]; rfl
          · rw [h9.1, if_neg (by omega)]; rfl
        · rw [if_neg (fun h => e9 h.2)]; exact j80_2 c (by omega)
      exact ih_80 (v19, M18, L_80) ⟨by show 0 ≤ v19.toInt; omega, by show v19.toInt ≤ 10; omega, by show ∀ c : Nat, c < v19.toNatClampNeg → M18 90 c = if (c : Int) < (vC M 0 0).toInt then 1 else 0; exact hall, by show (M18 88 3).toInt = (cnP (fun i => vC M 8 (40 * x.toNatClampNeg + i)) (vC M 7 x.toNatClampNeg).toNatClampNeg : Int) ∧ M18 88 4 = y ∧ LY (fun i => vC M 8 (40 * x.toNatClampNeg + i)) (M18 89) (vC M 7 x.toNatClampNeg).toNatClampNeg; exact ⟨by rw [k88_3]; exact j80_3.1, k88_4.trans j80_3.2.1, by rw [q89]; exact j80_3.2.2⟩, hI, hF, hG⟩ (by show (11 - v19.toInt).toNat < (11 - x4_80.toInt).toNat; omega)
  ·
    have f20 := fnle rfl rfl c6
    refine g_aload_n C 1 dX6_take_24 rfl ?_
    refine g_get C (.ref (ad 3)) 1 in_X6_take_6 (List.mem_of_getElem? (i := 4) rfl) (by decide) (ce_poll ad cs _ _) rfl (by decide) rfl rfl dX6_take_25 ?_
    refine g_aload_n C 2 dX6_take_28 rfl ?_
    refine g_get C (.ref (ad 71)) 3 in_X6_take_1 (List.mem_of_getElem? (i := 5) rfl) (by decide) (ce_box ad cs _ _) rfl (by decide) rfl rfl dX6_take_29 ?_
    refine g_iload_n C 3 dX6_take_32 rfl ?_
    have hi21 : vp_in x 8 := (fin' (n := 8) rfl (by omega) (by omega))
    have nhi21 := tn hi21
    have mhi21 := ixn (x := x) (by omega)
    refine g_aald C (by decide) (ce_xplacem ad cs _ _) rfl hi21 dX6_take_33 ?_
    refine g_iload C 0 dX6_take_34 rfl ?_
    have nx4_13 := ixn (x := x4_13) (by omega)
    refine g_iald C (by omega) (ce_xplace ad cs _ _ nhi21) (fin' (n := 40) rfl (by omega) (by omega)) dX6_take_36 ?_
    refine g_ni (fun v22 ev22 => ?_)
    have gv22 := ev22.trans (hF (73 + x.toNatClampNeg) x4_13.toNatClampNeg (by omega))
    have gv22 := gv22.trans (vC8 (M := M) (by omega) (by omega) (by omega)).symm
    have tv22 := congrArg Int32.toInt gv22
    refine g_callVi C (n := 1) (As := [.int v22]) (st := []) (c_X0_has l D ad cs _ _ v22 ) gX6_take_X0_has rfl rfl rfl (by decide +kernel) ⟨Nat.le_of_ble_eq_true rfl, Nat.le_of_ble_eq_true rfl⟩ rfl (Nat.le_of_ble_eq_true rfl) ⟨Nat.zero_le _, Nat.zero_le _⟩ (by decide) (ce_ball ad cs _ _) rfl rfl dX6_take_37 (fun r23 M24 L25 hr23 => ?_)
    obtain ⟨hq1, hq2, hr23⟩ := hr23
    obtain rfl := hq1.symm
    obtain rfl := hq2.symm
    have hr23 := zo_has hr23
    rw [show M_13 3 0 = M 3 0 from hF 3 0 (by omega)] at hr23
    obtain ⟨bar23, bbr23⟩ := zo_b hr23
    refine g_if_eq C 71 dX6_take_40 (by decide) (fun c26 => ?_) (fun c26 => ?_)
    ·
      have f27 := feq rfl (by decide : (0 : Int32).toInt = 0) c26
      have pr23 := zo_f hr23 c26
      try dsimp only [hasC, hasB, hasX, hasM, ofS, ofK, bt] at pr23
      obtain ⟨v28, ev28⟩ : ∃ y : Int32, y = x4_13 + 1 := ⟨_, rfl⟩
      try have fv28 := fadd rfl (by decide : (1 : Int32).toInt = 1) ev28 (by omega) (by omega)
      refine g_iinc C 0 v28 [(4, .int v28), (0, .ref (ad 88)), (1, .ref (ad 68)), (2, .int x), (3, .int y)] dX6_take_71 rfl (by rw [ev28]; rfl) (by decide) rfl ?_
      refine g_goto C 13 dX6_take_74 (by decide) ?_
      have nv := ixn (x := v28) (by omega)
      have iv : v28.toNatClampNeg = x4_13.toNatClampNeg + 1 := by omega
      have hz9 : (vC M 8 (40 * x.toNatClampNeg + x4_13.toNatClampNeg)).toInt = -9 := by omega
      have e1 : cnP (fun i => vC M 8 (40 * x.toNatClampNeg + i)) (x4_13.toNatClampNeg + 1) = cnP (fun i => vC M 8 (40 * x.toNatClampNeg + i)) x4_13.toNatClampNeg := cnP_e hz9
      have lyn : LY (fun i => vC M 8 (40 * x.toNatClampNeg + i)) (M_13 89) (x4_13.toNatClampNeg + 1) := LY_e j13_4 hz9
      have k3t : (M_13 88 3).toInt = (cnP (fun i => vC M 8 (40 * x.toNatClampNeg + i)) (x4_13.toNatClampNeg + 1) : Int) := by rw [e1]; exact j13_2
      have k4t : M_13 88 4 = y := j13_3
      exact ih_13 (v28, M_13, L_13) ⟨by show 0 ≤ v28.toInt; omega, by show v28.toInt ≤ (vC M 7 x.toNatClampNeg).toInt; omega, by show (M_13 88 3).toInt = (cnP (fun i => vC M 8 (40 * x.toNatClampNeg + i)) v28.toNatClampNeg : Int); rw [iv]; exact k3t, by show M_13 88 4 = y; exact k4t, by show LY (fun i => vC M 8 (40 * x.toNatClampNeg + i)) (M_13 89) v28.toNatClampNeg; rw [iv]; exact lyn, hI, hF, hG⟩ (by show (41 - v28.toInt).toNat < (41 - x4_13.toInt).toNat; omega)
    ·
      have f29 := fne rfl (by decide : (0 : Int32).toInt = 0) c26
      have pr23 := zo_t hr23 c26
      try dsimp only [hasC, hasB, hasX, hasM, ofS, ofK, bt] at pr23
      refine g_aload_n C 1 dX6_take_43 rfl ?_
      refine g_get C (.ref (ad 89)) 2 in_X6_take_6 (List.mem_of_getElem? (i := 6) rfl) (by decide) (ce_poll ad cs _ _) rfl (by decide) rfl rfl dX6_take_44 ?_
      refine g_aload_n C 1 dX6_take_47 rfl ?_
      refine g_get C (.int (M_13 88 3)) 3 in_X6_take_6 (List.mem_of_getElem? (i := 2) rfl) (by decide) (ce_poll ad cs _ _) rfl (by decide) rfl rfl dX6_take_48 ?_
      refine g_ni (fun v30 ev30 => ?_)
      have gv30 : v30 = M_13 88 3 := ev30.trans k88_3
      have tv30 := congrArg Int32.toInt gv30
      obtain ⟨bv30, dv30⟩ := (show rg 0 40 v30 from (by rw [ev30]; exact (hI 88 3).1 rfl))
      refine g_aload_n C 2 dX6_take_51 rfl ?_
      refine g_get C (.ref (ad 71)) 3 in_X6_take_1 (List.mem_of_getElem? (i := 5) rfl) (by decide) (ce_box ad cs _ _) rfl (by decide) rfl rfl dX6_take_52 ?_
      refine g_iload_n C 3 dX6_take_55 rfl ?_
      have hi31 : vp_in x 8 := (fin' (n := 8) rfl (by omega) (by omega))
      have nhi31 := tn hi31
      have mhi31 := ixn (x := x) (by omega)
      refine g_aald C (by decide) (ce_xplacem ad cs _ _) rfl hi31 dX6_take_56 ?_
      refine g_iload C 0 dX6_take_57 rfl ?_
      have nx4_13 := ixn (x := x4_13) (by omega)
      refine g_iald C (by omega) (ce_xplace ad cs _ _ nhi31) (fin' (n := 40) rfl (by omega) (by omega)) dX6_take_59 ?_
      refine g_ni (fun v32 ev32 => ?_)
      have gv32 := ev32.trans (hF (73 + x.toNatClampNeg) x4_13.toNatClampNeg (by omega))
      have gv32 := gv32.trans (vC8 (M := M) (by omega) (by omega) (by omega)).symm
      have tv32 := congrArg Int32.toInt gv32
      have nv30 := ixn (x := v30) (by omega)
      refine g_iast C (by decide) (ce_plying ad cs _ _) (by rw [sI_k]; rfl) (fin' (n := 40) rfl (by omega) (by omega)) dX6_take_60 ?_
      refine g_nm (fun M33 hM33 => ?_)
      have hI : IC M33 := by rw [hM33]; exact hI.st ⟨by first | omega | decide, by first | omega | decide⟩
      have hF : ∀ k i, ¬ (k = 88 ∧ i = 3) ∧ ¬ (k = 88 ∧ i = 4) ∧ k ≠ 89 ∧ k ≠ 90 → M33 k i = M k i := fun k i hk => by (rw [hM33, sI_at, if_neg (by omega)]; try exact hF k i hk)
      have k88_3 : M33 88 3 = M_13 88 3 := by rw [hM33, sI_n _ _ _ (by decide)]; try exact k88_3
      have k88_4 : M33 88 4 = M_13 88 4 := by rw [hM33, sI_n _ _ _ (by decide)]; try exact k88_4
      have q90 : M33 90 = M_13 90 := by rw [hM33, sI_n _ _ _ (by decide)]; try exact q90
      have hV : vC M33 = vC M_13 := by rw [hM33, vC_z (by decide), hV]
      refine g_aload_n C 1 dX6_take_61 rfl ?_
      refine g_dup C dX6_take_62 rfl ?_
      refine g_get C (.int (M33 88 3)) 3 in_X6_take_6 (List.mem_of_getElem? (i := 2) rfl) (by decide) (ce_poll ad cs _ _) rfl (by decide) rfl rfl dX6_take_63 ?_
      refine g_ni (fun v34 ev34 => ?_)
      have gv34 : v34 = M_13 88 3 := ev34.trans k88_3
      have tv34 := congrArg Int32.toInt gv34
      obtain ⟨bv34, dv34⟩ := (show rg 0 40 v34 from (by rw [ev34]; exact (hI 88 3).1 rfl))
      refine g_iconst C 1 dX6_take_66 (by decide) ?_
      refine g_iadd C dX6_take_67 ?_
      refine g_ni (fun v35 ev35 => ?_)
      try have fv35 := fadd rfl (by decide : (1 : Int32).toInt = 1) ev35 (by omega) (by omega)
      refine g_putI C 3 in_X6_take_6 (List.mem_of_getElem? (i := 2) rfl) (by decide) (ce_poll ad cs _ _) rfl (by decide) rfl tyX6 tyX6_ok nmX6 rfl rfl rfl rfl (Nat.le_of_ble_eq_true rfl) (by rw [sI_k]; rfl) dX6_take_68 ?_
      refine g_nm (fun M36 hM36 => ?_)
      have hI : IC M36 := by rw [hM36]; exact hI.st ⟨fun _ => ⟨by first | omega | decide, by first | omega | decide⟩, fun h => absurd h (by decide)⟩
      have hF : ∀ k i, ¬ (k = 88 ∧ i = 3) ∧ ¬ (k = 88 ∧ i = 4) ∧ k ≠ 89 ∧ k ≠ 90 → M36 k i = M k i := fun k i hk => by (rw [hM36, sI_at, if_neg (by omega)]; try exact hF k i hk)
      have k88_4 : M36 88 4 = M_13 88 4 := by rw [hM36, sI_at, if_neg (by decide)]; try exact k88_4
      have k88_3 : M36 88 3 = v35 := by rw [hM36, sI_at, if_pos (by decide)]
      have q90 : M36 90 = M_13 90 := by rw [hM36, sI_n _ _ _ (by decide)]; try exact q90
      have hV : vC M36 = vC M_13 := by rw [hM36, vC_z (by decide), hV]
      obtain ⟨v37, ev37⟩ : ∃ y : Int32, y = x4_13 + 1 := ⟨_, rfl⟩
      try have fv37 := fadd rfl (by decide : (1 : Int32).toInt = 1) ev37 (by omega) (by omega)
      refine g_iinc C 0 v37 [(4, .int v37), (0, .ref (ad 88)), (1, .ref (ad 68)), (2, .int x), (3, .int y)] dX6_take_71 rfl (by rw [ev37]; rfl) (by decide) rfl ?_
      refine g_goto C 13 dX6_take_74 (by decide) ?_
      have nv := ixn (x := v37) (by omega)
      have iv : v37.toNatClampNeg = x4_13.toNatClampNeg + 1 := by omega
      have hz9 : ¬ (vC M 8 (40 * x.toNatClampNeg + x4_13.toNatClampNeg)).toInt = -9 := by omega
      have e1 : cnP (fun i => vC M 8 (40 * x.toNatClampNeg + i)) (x4_13.toNatClampNeg + 1) = cnP (fun i => vC M 8 (40 * x.toNatClampNeg + i)) x4_13.toNatClampNeg + 1 := cnP_s hz9
      have e89 : M36 89 = upd (M_13 89) (cnP (fun i => vC M 8 (40 * x.toNatClampNeg + i)) x4_13.toNatClampNeg) (vC M 8 (40 * x.toNatClampNeg + x4_13.toNatClampNeg)) := by rw [hM36, sI_n _ _ _ (by decide), hM33, sI_k]; have en9 : (M_13 88 3).toNatClampNeg = cnP (fun i => vC M 8 (40 * x.toNatClampNeg + i)) x4_13.toNatClampNeg := (by have := ixn (x := M_13 88 3) (by omega); omega); rw [← en9]; simp only [ev35, gv34, gv32, gv30, gv22, gv5]
      have lyn : LY (fun i => vC M 8 (40 * x.toNatClampNeg + i)) (M36 89) (x4_13.toNatClampNeg + 1) := by rw [e89]; exact LY_s j13_4 hz9
      have k3t : (M36 88 3).toInt = (cnP (fun i => vC M 8 (40 * x.toNatClampNeg + i)) (x4_13.toNatClampNeg + 1) : Int) := by rw [k88_3, e1]; omega
      have k4t : M36 88 4 = y := k88_4.trans j13_3
      exact ih_13 (v37, M36, L_13) ⟨by show 0 ≤ v37.toInt; omega, by show v37.toInt ≤ (vC M 7 x.toNatClampNeg).toInt; omega, by show (M36 88 3).toInt = (cnP (fun i => vC M 8 (40 * x.toNatClampNeg + i)) v37.toNatClampNeg : Int); rw [iv]; exact k3t, by show M36 88 4 = y; exact k4t, by show LY (fun i => vC M 8 (40 * x.toNatClampNeg + i)) (M36 89) v37.toNatClampNeg; rw [iv]; exact lyn, hI, hF, hG⟩ (by show (41 - v37.toInt).toNat < (41 - x4_13.toInt).toNat; omega)
set_option maxHeartbeats 4000000 in
set_option maxRecDepth 100000 in
theorem k_compare (l : Launch) (D : va_G) (ad : Nat → Nat) (cs : Nat → ClassId) (M : MI) (L : ML) (x : Int64) (y : Int64) (hI : IC M) : Ci l yJ13_compare_74951 wsJ13_compare_74951 ({ frames := 0, cells := 0, slots := 0, locals := 0 }) D ad cs [.long x, .long y] M L (fun r M1 L1 => M1 = M ∧ L1 = L ∧ ((0 < r.toInt ↔ y.toInt < x.toInt))) := by
  refine enter_i RJ13 rfl [(0, .long x), (2, .long y)] rfl (Nat.le_of_ble_eq_true rfl) (by decide +kernel) rfl ?_
  intro p e s m below meth c C hr
  have hF : ∀ k i, True → M k i = M k i := fun _ _ _ => rfl
  have hG : ∀ k i, True → L k i = L k i := fun _ _ _ => rfl
  refine g_lload_n C 0 dJ13_compare_74951_0 rfl ?_
  refine g_lload_n C 1 dJ13_compare_74951_1 rfl ?_
  refine g_lcmp C dJ13_compare_74951_2 ?_
  refine g_ni (fun v1 ev1 => ?_)
  refine g_if_ge C 10 dJ13_compare_74951_3 (by decide) (fun c2 => ?_) (fun c2 => ?_)
  ·
    have f3 := cge rfl rfl ev1 c2
    refine g_lload_n C 0 dJ13_compare_74951_10 rfl ?_
    refine g_lload_n C 1 dJ13_compare_74951_11 rfl ?_
    refine g_lcmp C dJ13_compare_74951_12 ?_
    refine g_ni (fun v4 ev4 => ?_)
    refine g_if_ne C 20 dJ13_compare_74951_13 (by decide) (fun c5 => ?_) (fun c5 => ?_)
    ·
      have f6 := cne rfl rfl ev4 c5
      refine g_iconst C 1 dJ13_compare_74951_20 (by decide) ?_
      have zr9 : (1 : Int32).toInt = 1 := by decide
      exact g_iret C hr ⟨rfl, rfl, (by omega)⟩ dJ13_compare_74951_21
    ·
      have f7 := ceq rfl rfl ev4 c5
      refine g_iconst C 0 dJ13_compare_74951_16 (by decide) ?_
      refine g_goto C 21 dJ13_compare_74951_17 (by decide) ?_
      have zr9 : (0 : Int32).toInt = 0 := by decide
      exact g_iret C hr ⟨rfl, rfl, (by omega)⟩ dJ13_compare_74951_21
  ·
    have f8 := cnge rfl rfl ev1 c2
    refine g_iconst C (-1) dJ13_compare_74951_6 (by decide) ?_
    refine g_goto C 21 dJ13_compare_74951_7 (by decide) ?_
    have zr9 : ((-1) : Int32).toInt = (-1) := by decide
    exact g_iret C hr ⟨rfl, rfl, (by omega)⟩ dJ13_compare_74951_21
set_option maxHeartbeats 4000000 in
set_option maxRecDepth 100000 in
theorem k_X6_compareTallies (l : Launch) (D : va_G) (ad : Nat → Nat) (cs : Nat → ClassId) (M : MI) (L : ML) (x : Int32) (y : Int32) (hI : IC M) (hx : 0 ≤ x.toInt ∧ x.toInt < 10) (hy : 0 ≤ y.toInt ∧ y.toInt < 10) : Ci l yX6_compareTallies wsX6_compareTallies ({ frames := 1, cells := 0, slots := 0, locals := 23 }) D ad cs [.ref (ad 88), .int x, .int y] M L (fun r M1 L1 => M1 = M ∧ L1 = L ∧ ((0 < r.toInt ↔ (L 91 (y.toNatClampNeg) * L 92 (x.toNatClampNeg)).toInt < (L 91 (x.toNatClampNeg) * L 92 (y.toNatClampNeg)).toInt))) := by
  refine enter_i RX6 rfl [(0, .ref (ad 88)), (1, .int x), (2, .int y)] rfl (Nat.le_of_ble_eq_true rfl) (by decide +kernel) rfl ?_
  intro p e s m below meth c C hr
  have hF : ∀ k i, True → M k i = M k i := fun _ _ _ => rfl
  have hG : ∀ k i, True → L k i = L k i := fun _ _ _ => rfl
  have w0 : (vC M 0 0).toInt = (M 1 0).toInt := rfl
  have w1 : (vC M 0 1).toInt = (M 3 0).toInt := rfl
  have w2 : (vC M 0 2).toInt = (M 68 0).toInt := rfl
  have w3 : (vC M 0 3).toInt = (M 81 0).toInt := rfl
  obtain ⟨y0a, y0b⟩ := (show rg 0 10 (M 1 0) from hI 1 0 rfl)
  obtain ⟨y1a, y1b⟩ := (show rg 0 60 (M 3 0) from hI 3 0 rfl)
  obtain ⟨y2a, y2b⟩ := (show rg 0 8 (M 68 0) from hI 68 0 rfl)
  obtain ⟨y3a, y3b⟩ := (show rg 0 20 (M 81 0) from hI 81 0 rfl)
  obtain ⟨hx1, hx2⟩ := hx
  obtain ⟨hy1, hy2⟩ := hy
  refine g_aload_n C 0 dX6_compareTallies_0 rfl ?_
  refine g_get C (.ref (ad 91)) 6 in_X6_compareTallies_6 (List.mem_of_getElem? (i := 1) rfl) (by decide) (ce_poll ad cs _ _) rfl (by decide) rfl rfl dX6_compareTallies_1 ?_
  refine g_iload_n C 1 dX6_compareTallies_4 rfl ?_
  have nx := ixn (x := x) (by omega)
  refine g_lald C (by decide) (ce_pupper ad cs _ _) (fin' (n := 10) rfl (by omega) (by omega)) dX6_compareTallies_5 ?_
  refine g_nl (fun v1 ev1 => ?_)
  have gv1 : v1 = L 91 x.toNatClampNeg := ev1
  have tv1 := congrArg Int64.toInt gv1
  refine g_aload_n C 0 dX6_compareTallies_6 rfl ?_
  refine g_get C (.ref (ad 92)) 7 in_X6_compareTallies_6 (List.mem_of_getElem? (i := 2) rfl) (by decide) (ce_poll ad cs _ _) rfl (by decide) rfl rfl dX6_compareTallies_7 ?_
  refine g_iload_n C 2 dX6_compareTallies_10 rfl ?_
  have ny := ixn (x := y) (by omega)
  refine g_lald C (by decide) (ce_plower ad cs _ _) (fin' (n := 10) rfl (by omega) (by omega)) dX6_compareTallies_11 ?_
  refine g_nl (fun v2 ev2 => ?_)
  have gv2 : v2 = L 92 y.toNatClampNeg := ev2
  have tv2 := congrArg Int64.toInt gv2
  refine g_lmul C dX6_compareTallies_12 ?_
  refine g_nl (fun v3 ev3 => ?_)
  try have fv3 := prodI ev3
  refine g_aload_n C 0 dX6_compareTallies_13 rfl ?_
  refine g_get C (.ref (ad 91)) 6 in_X6_compareTallies_6 (List.mem_of_getElem? (i := 1) rfl) (by decide) (ce_poll ad cs _ _) rfl (by decide) rfl rfl dX6_compareTallies_14 ?_
  refine g_iload_n C 2 dX6_compareTallies_17 rfl ?_
  have ny := ixn (x := y) (by omega)
  refine g_lald C (by decide) (ce_pupper ad cs _ _) (fin' (n := 10) rfl (by omega) (by omega)) dX6_compareTallies_18 ?_
  refine g_nl (fun v4 ev4 => ?_)
  have gv4 : v4 = L 91 y.toNatClampNeg := ev4
  have tv4 := congrArg Int64.toInt gv4
  refine g_aload_n C 0 dX6_compareTallies_19 rfl ?_
  refine g_get C (.ref (ad 92)) 7 in_X6_compareTallies_6 (List.mem_of_getElem? (i := 2) rfl) (by decide) (ce_poll ad cs _ _) rfl (by decide) rfl rfl dX6_compareTallies_20 ?_
  refine g_iload_n C 1 dX6_compareTallies_23 rfl ?_
  have nx := ixn (x := x) (by omega)
  refine g_lald C (by decide) (ce_plower ad cs _ _) (fin' (n := 10) rfl (by omega) (by omega)) dX6_compareTallies_24 ?_
  refine g_nl (fun v5 ev5 => ?_)
  have gv5 : v5 = L 92 x.toNatClampNeg := ev5
  have tv5 := congrArg Int64.toInt gv5
  refine g_lmul C dX6_compareTallies_25 ?_
  refine g_nl (fun v6 ev6 => ?_)
  try have fv6 := prodI ev6
  refine g_callSi C (n := 2) (As := [.long v3, .long v6]) (st := []) (k_compare l D ad cs _ _ v3 v6 hI ) gX6_compareTallies_J13_compare_74951 rfl rfl rfl (by decide +kernel) ⟨Nat.le_of_ble_eq_true rfl, Nat.le_of_ble_eq_true rfl⟩ rfl (Nat.le_of_ble_eq_true rfl) ⟨Nat.zero_le _, Nat.zero_le _⟩ rfl dX6_compareTallies_26 (fun r7 M8 L9 hr7 => ?_)
  obtain ⟨hq1, hq2, hr7⟩ := hr7
  obtain rfl := hq1.symm
  obtain rfl := hq2.symm
  exact g_iret C hr ⟨rfl, rfl, (by have h9 := hr7; simp only [ev6, gv5, gv4, ev3, gv2, gv1] at h9; exact h9)⟩ dX6_compareTallies_29
set_option maxHeartbeats 4000000 in
set_option maxRecDepth 100000 in
theorem k_X6_greatestIn (l : Launch) (D : va_G) (ad : Nat → Nat) (cs : Nat → ClassId) (M : MI) (L : ML)  (hI : IC M) (hD : DP (vC M)) : Ci l yX6_greatestIn wsX6_greatestIn ({ frames := 2, cells := 0, slots := 0, locals := 45 }) D ad cs [.ref (ad 88)] M L (fun r M1 L1 => M1 = M ∧ L1 = L ∧ ((r.toInt = -9 ∨ (0 ≤ r.toInt ∧ r.toInt < 10)) ∧ (0 ≤ r.toInt → ¬ (M 90 r.toNatClampNeg).toInt = 0) ∧ ((∃ c : Nat, (c : Int) < (vC M 0 0).toInt ∧ ¬ (M 90 c).toInt = 0) → r.toInt ≠ -9) ∧ r = grF (M 2) (M 90) (L 91) (L 92) (M 1 0).toNatClampNeg)) := by
  refine enter_i RX6 rfl [(0, .ref (ad 88))] rfl (Nat.le_of_ble_eq_true rfl) (by decide +kernel) rfl ?_
  intro p e s m below meth c C hr
  have hF : ∀ k i, True → M k i = M k i := fun _ _ _ => rfl
  have hG : ∀ k i, True → L k i = L k i := fun _ _ _ => rfl
  have w0 : (vC M 0 0).toInt = (M 1 0).toInt := rfl
  have w1 : (vC M 0 1).toInt = (M 3 0).toInt := rfl
  have w2 : (vC M 0 2).toInt = (M 68 0).toInt := rfl
  have w3 : (vC M 0 3).toInt = (M 81 0).toInt := rfl
  obtain ⟨y0a, y0b⟩ := (show rg 0 10 (M 1 0) from hI 1 0 rfl)
  obtain ⟨y1a, y1b⟩ := (show rg 0 60 (M 3 0) from hI 3 0 rfl)
  obtain ⟨y2a, y2b⟩ := (show rg 0 8 (M 68 0) from hI 68 0 rfl)
  obtain ⟨y3a, y3b⟩ := (show rg 0 20 (M 81 0) from hI 81 0 rfl)
  have hI0 := hI
  have n02 := ixn y0a
  refine g_bipush C (-9) dX6_greatestIn_0 (by decide) ?_
  refine g_istore_n C [(1, .int ((-9))), (0, .ref (ad 88))] dX6_greatestIn_2 (by decide) rfl ?_
  refine g_iconst C 0 dX6_greatestIn_3 (by decide) ?_
  refine g_istore_n C [(2, .int 0), (1, .int ((-9))), (0, .ref (ad 88))] dX6_greatestIn_4 (by decide) rfl ?_
  have zy1 : (0 : Int32).toInt = 0 := by decide
  have zy2 : ((-9) : Int32).toInt = (-9) := by decide
  refine g_loop (α := Int32 × Int32 × MI × ML) (fun a => (11 - a.1.toInt).toNat) (fun a => (0 ≤ a.1.toInt) ∧ (a.1.toInt ≤ (M 1 0).toInt) ∧ (a.2.1.toInt = -9 ∨ (0 ≤ a.2.1.toInt ∧ a.2.1.toInt < 10)) ∧ (0 ≤ a.2.1.toInt → ¬ (M 90 a.2.1.toNatClampNeg).toInt = 0) ∧ (∀ j : Nat, (j : Int) < a.1.toInt → ¬ (M 90 (M 2 j).toNatClampNeg).toInt = 0 → a.2.1.toInt ≠ -9) ∧ (a.2.1 = grF (M 2) (M 90) (L 91) (L 92) a.1.toNatClampNeg) ∧ IC a.2.2.1 ∧ (∀ k i, True → a.2.2.1 k i = M k i) ∧ (∀ k i, True → a.2.2.2 k i = L k i)) (fun a => a.2.2.1) (fun a => a.2.2.2) (fun a => [(2, .int a.1), (1, .int a.2.1), (0, .ref (ad 88))]) ((0 : Int32), (-9 : Int32), M, L) ⟨by show 0 ≤ (0 : Int32).toInt; omega, by show (0 : Int32).toInt ≤ (M 1 0).toInt; omega, by show (-9 : Int32).toInt = -9 ∨ (0 ≤ (-9 : Int32).toInt ∧ (-9 : Int32).toInt < 10); omega, by show 0 ≤ (-9 : Int32).toInt → ¬ (M 90 (-9 : Int32).toNatClampNeg).toInt = 0; exact fun h => absurd h (by decide), by show ∀ j : Nat, (j : Int) < (0 : Int32).toInt → ¬ (M 90 (M 2 j).toNatClampNeg).toInt = 0 → (-9 : Int32).toInt ≠ -9; intro j hj; exact absurd hj (by show ¬ (j : Int) < 0; omega), by show (-9 : Int32) = grF (M 2) (M 90) (L 91) (L 92) (0 : Int32).toNatClampNeg; rfl, hI, hF, hG⟩ rfl rfl rfl ?_
  rintro ⟨x2_5, x1_5, M_5, L_5⟩ ⟨j5_0, j5_1, j5_2, j5_3, j5_4, j5_5, hI, hF, hG⟩ ih_5
  dsimp only at j5_0 j5_1 j5_2 j5_3 j5_4 j5_5 hI hF hG ih_5 ⊢
  have n2 := ixn (x := x2_5) (by omega)
  have bE : rg 0 9 (M 2 x2_5.toNatClampNeg) := hI0 2 _
  obtain ⟨bE1, bE2⟩ := bE
  have nE := ixn bE1
  have eL : L_5 = L := funext (fun k => funext (fun i => hG k i trivial))
  refine g_iload_n C 0 dX6_greatestIn_5 rfl ?_
  refine g_aload_n C 2 dX6_greatestIn_6 rfl ?_
  refine g_get C (.ref (ad 1)) 0 in_X6_greatestIn_6 (List.mem_of_getElem? (i := 1) rfl) (by decide) (ce_poll ad cs _ _) rfl (by decide) rfl rfl dX6_greatestIn_7 ?_
  refine g_get C (.int (M_5 1 0)) 0 in_X6_greatestIn_2 (List.mem_of_getElem? (i := 2) rfl) (by decide) (ce_cand ad cs _ _) rfl (by decide) rfl rfl dX6_greatestIn_10 ?_
  refine g_ni (fun v3 ev3 => ?_)
  have gv3 : v3 = vC M 0 0 := ev3.trans (hF 1 0 trivial)
  have tv3 := congrArg Int32.toInt gv3
  obtain ⟨bv3, dv3⟩ := (show rg 0 10 v3 from (by rw [ev3]; exact hI 1 0 rfl))
  refine g_icmp_ge C 58 dX6_greatestIn_13 (by decide) (fun c4 => ?_) (fun c4 => ?_)
  ·
    have f5 := fle rfl rfl c4
    refine g_iload_n C 1 dX6_greatestIn_58 rfl ?_
    exact g_iret C hr ⟨funext (fun k => funext (fun i => hF k i trivial)), funext (fun k => funext (fun i => hG k i trivial)), ⟨j5_2, j5_3, fun ⟨c, hc1, hc2⟩ => (by
      obtain ⟨i, hi1, hi2⟩ := hD c hc1
      exact j5_4 i (by omega) (by
        have e9 : (M 2 i).toNatClampNeg = c := by (have h9 : (M 2 i).toInt = (c : Int) := hi2; have := ixn (x := M 2 i) (by omega); omega)
        rw [e9]; exact hc2)), by rw [j5_5, show x2_5.toNatClampNeg = (M 1 0).toNatClampNeg by omega]⟩⟩ dX6_greatestIn_59
  ·
    have f6 := fnle rfl rfl c4
    refine g_aload_n C 2 dX6_greatestIn_16 rfl ?_
    refine g_get C (.ref (ad 1)) 0 in_X6_greatestIn_6 (List.mem_of_getElem? (i := 1) rfl) (by decide) (ce_poll ad cs _ _) rfl (by decide) rfl rfl dX6_greatestIn_17 ?_
    refine g_get C (.ref (ad 2)) 1 in_X6_greatestIn_2 (List.mem_of_getElem? (i := 3) rfl) (by decide) (ce_cand ad cs _ _) rfl (by decide) rfl rfl dX6_greatestIn_20 ?_
    refine g_iload_n C 0 dX6_greatestIn_23 rfl ?_
    have nx2_5 := ixn (x := x2_5) (by omega)
    refine g_iald C (by decide) (ce_crow ad cs _ _) (fin' (n := 10) rfl (by omega) (by omega)) dX6_greatestIn_24 ?_
    refine g_ni (fun v7 ev7 => ?_)
    have gv7 : v7 = vC M 1 x2_5.toNatClampNeg := ev7.trans (hF 2 x2_5.toNatClampNeg trivial)
    have tv7 := congrArg Int32.toInt gv7
    obtain ⟨bv7, dv7⟩ := (show rg 0 9 v7 from (by rw [ev7]; exact hI 2 x2_5.toNatClampNeg))
    have gv7 : v7 = M 2 x2_5.toNatClampNeg := gv7
    subst gv7
    refine g_istore_n C [(3, .int ((M 2 x2_5.toNatClampNeg))), (2, .int x2_5), (1, .int x1_5), (0, .ref (ad 88))] dX6_greatestIn_25 (by decide) rfl ?_
    refine g_aload_n C 3 dX6_greatestIn_26 rfl ?_
    refine g_get C (.ref (ad 90)) 5 in_X6_greatestIn_6 (List.mem_of_getElem? (i := 4) rfl) (by decide) (ce_poll ad cs _ _) rfl (by decide) rfl rfl dX6_greatestIn_27 ?_
    refine g_iload_n C 0 dX6_greatestIn_30 rfl ?_
    have n_M_2_x2_5_toNatClampNeg_ := ixn (x := (M 2 x2_5.toNatClampNeg)) (by omega)
    refine g_zald C (by decide) (ce_pin ad cs _ _) (fin' (n := 10) rfl (by omega) (by omega)) dX6_greatestIn_31 ?_
    refine g_ni (fun v8 ev8 => ?_)
    have gv8 : v8 = M 90 (((M 2 x2_5.toNatClampNeg)).toNatClampNeg) := ev8.trans (hF 90 (((M 2 x2_5.toNatClampNeg)).toNatClampNeg) trivial)
    have tv8 := congrArg Int32.toInt gv8
    refine g_if_eq C 52 dX6_greatestIn_32 (by decide) (fun c9 => ?_) (fun c9 => ?_)
    ·
      have f10 := feq rfl (by decide : (0 : Int32).toInt = 0) c9
      obtain ⟨v11, ev11⟩ : ∃ y : Int32, y = x2_5 + 1 := ⟨_, rfl⟩
      try have fv11 := fadd rfl (by decide : (1 : Int32).toInt = 1) ev11 (by omega) (by omega)
      refine g_iinc C 1 v11 [(2, .int v11), (3, .int ((M 2 x2_5.toNatClampNeg))), (1, .int x1_5), (0, .ref (ad 88))] dX6_greatestIn_52 rfl (by rw [ev11]; rfl) (by decide) rfl ?_
      refine g_goto C 5 dX6_greatestIn_55 (by decide) ?_
      refine g_lv [0, 2, 3] [(2, .int v11), (1, .int x1_5), (0, .ref (ad 88))] rfl ?_
      have nv := ixn (x := v11) (by omega)
      have iv : v11.toNatClampNeg = x2_5.toNatClampNeg + 1 := by omega
      have hst : ∀ j : Nat, (j : Int) < v11.toInt → ¬ (M 90 (M 2 j).toNatClampNeg).toInt = 0 → x1_5.toInt ≠ -9 := by
        intro j hj hin
        by_cases e9 : j = x2_5.toNatClampNeg
        · rw [e9] at hin; omega
        · have h9 := j5_4 j (by omega) hin; omega
      exact ih_5 (v11, x1_5, M_5, L_5) ⟨by show 0 ≤ v11.toInt; omega, by show v11.toInt ≤ (M 1 0).toInt; omega, by show x1_5.toInt = -9 ∨ (0 ≤ x1_5.toInt ∧ x1_5.toInt < 10); omega, by show 0 ≤ x1_5.toInt → ¬ (M 90 x1_5.toNatClampNeg).toInt = 0; first | exact j5_3 | exact fun _ => (by omega), by show ∀ j : Nat, (j : Int) < v11.toInt → ¬ (M 90 (M 2 j).toNatClampNeg).toInt = 0 → x1_5.toInt ≠ -9; exact hst, by show x1_5 = grF (M 2) (M 90) (L 91) (L 92) v11.toNatClampNeg; rw [iv]; show _ = (if (M 90 (M 2 x2_5.toNatClampNeg).toNatClampNeg).toInt ≠ 0 ∧ ((grF (M 2) (M 90) (L 91) (L 92) x2_5.toNatClampNeg).toInt = -9 ∨ (L 91 (grF (M 2) (M 90) (L 91) (L 92) x2_5.toNatClampNeg).toNatClampNeg * L 92 (M 2 x2_5.toNatClampNeg).toNatClampNeg).toInt < (L 91 (M 2 x2_5.toNatClampNeg).toNatClampNeg * L 92 (grF (M 2) (M 90) (L 91) (L 92) x2_5.toNatClampNeg).toNatClampNeg).toInt) then (M 2 x2_5.toNatClampNeg) else grF (M 2) (M 90) (L 91) (L 92) x2_5.toNatClampNeg); rw [← j5_5]; first | rw [if_pos (by omega)] | rw [if_neg (by omega)], hI, hF, hG⟩ (by show (11 - v11.toInt).toNat < (11 - x2_5.toInt).toNat; omega)
    ·
      have f12 := fne rfl (by decide : (0 : Int32).toInt = 0) c9
      refine g_iload_n C 2 dX6_greatestIn_35 rfl ?_
      refine g_bipush C (-9) dX6_greatestIn_36 (by decide) ?_
      refine g_icmp_eq C 50 dX6_greatestIn_38 (by decide) (fun c13 => ?_) (fun c13 => ?_)
      ·
        have f14 := feq rfl (by decide : ((-9) : Int32).toInt = (-9)) c13
        refine g_iload_n C 0 dX6_greatestIn_50 rfl ?_
        refine g_istore_n C [(1, .int ((M 2 x2_5.toNatClampNeg))), (3, .int ((M 2 x2_5.toNatClampNeg))), (2, .int x2_5), (0, .ref (ad 88))] dX6_greatestIn_51 (by decide) rfl ?_
        obtain ⟨v15, ev15⟩ : ∃ y : Int32, y = x2_5 + 1 := ⟨_, rfl⟩
        try have fv15 := fadd rfl (by decide : (1 : Int32).toInt = 1) ev15 (by omega) (by omega)
        refine g_iinc C 2 v15 [(2, .int v15), (1, .int ((M 2 x2_5.toNatClampNeg))), (3, .int ((M 2 x2_5.toNatClampNeg))), (0, .ref (ad 88))] dX6_greatestIn_52 rfl (by rw [ev15]; rfl) (by decide) rfl ?_
        refine g_goto C 5 dX6_greatestIn_55 (by decide) ?_
        refine g_lv [0, 1, 3] [(2, .int v15), (1, .int ((M 2 x2_5.toNatClampNeg))), (0, .ref (ad 88))] rfl ?_
        have nv := ixn (x := v15) (by omega)
        have iv : v15.toNatClampNeg = x2_5.toNatClampNeg + 1 := by omega
        have hst : ∀ j : Nat, (j : Int) < v15.toInt → ¬ (M 90 (M 2 j).toNatClampNeg).toInt = 0 → ((M 2 x2_5.toNatClampNeg)).toInt ≠ -9 := by
          intro j hj hin
          by_cases e9 : j = x2_5.toNatClampNeg
          · rw [e9] at hin; omega
          · have h9 := j5_4 j (by omega) hin; omega
        exact ih_5 (v15, ((M 2 x2_5.toNatClampNeg)), M_5, L_5) ⟨by show 0 ≤ v15.toInt; omega, by show v15.toInt ≤ (M 1 0).toInt; omega, by show ((M 2 x2_5.toNatClampNeg)).toInt = -9 ∨ (0 ≤ ((M 2 x2_5.toNatClampNeg)).toInt ∧ ((M 2 x2_5.toNatClampNeg)).toInt < 10); omega, by show 0 ≤ ((M 2 x2_5.toNatClampNeg)).toInt → ¬ (M 90 ((M 2 x2_5.toNatClampNeg)).toNatClampNeg).toInt = 0; first | exact j5_3 | exact fun _ => (by omega), by show ∀ j : Nat, (j : Int) < v15.toInt → ¬ (M 90 (M 2 j).toNatClampNeg).toInt = 0 → ((M 2 x2_5.toNatClampNeg)).toInt ≠ -9; exact hst, by show ((M 2 x2_5.toNatClampNeg)) = grF (M 2) (M 90) (L 91) (L 92) v15.toNatClampNeg; rw [iv]; show _ = (if (M 90 (M 2 x2_5.toNatClampNeg).toNatClampNeg).toInt ≠ 0 ∧ ((grF (M 2) (M 90) (L 91) (L 92) x2_5.toNatClampNeg).toInt = -9 ∨ (L 91 (grF (M 2) (M 90) (L 91) (L 92) x2_5.toNatClampNeg).toNatClampNeg * L 92 (M 2 x2_5.toNatClampNeg).toNatClampNeg).toInt < (L 91 (M 2 x2_5.toNatClampNeg).toNatClampNeg * L 92 (grF (M 2) (M 90) (L 91) (L 92) x2_5.toNatClampNeg).toNatClampNeg).toInt) then (M 2 x2_5.toNatClampNeg) else grF (M 2) (M 90) (L 91) (L 92) x2_5.toNatClampNeg); rw [← j5_5]; first | rw [if_pos (by omega)] | rw [if_neg (by omega)], hI, hF, hG⟩ (by show (11 - v15.toInt).toNat < (11 - x2_5.toInt).toNat; omega)
      ·
        have f16 := fne rfl (by decide : ((-9) : Int32).toInt = (-9)) c13
        refine g_aload_n C 3 dX6_greatestIn_41 rfl ?_
        refine g_iload_n C 0 dX6_greatestIn_42 rfl ?_
        refine g_iload_n C 2 dX6_greatestIn_43 rfl ?_
        refine g_callVi C (n := 2) (As := [.int ((M 2 x2_5.toNatClampNeg)), .int x1_5]) (st := []) (k_X6_compareTallies l D ad cs _ _ ((M 2 x2_5.toNatClampNeg)) x1_5 hI ⟨by omega, by omega⟩ ⟨by omega, by omega⟩) gX6_greatestIn_X6_compareTallies rfl rfl rfl (by decide +kernel) ⟨Nat.le_of_ble_eq_true rfl, Nat.le_of_ble_eq_true rfl⟩ rfl (Nat.le_of_ble_eq_true rfl) ⟨Nat.zero_le _, Nat.zero_le _⟩ (by decide) (ce_poll ad cs _ _) rfl rfl dX6_greatestIn_44 (fun r17 M18 L19 hr17 => ?_)
        obtain ⟨hq1, hq2, hr17⟩ := hr17
        obtain rfl := hq1.symm
        obtain rfl := hq2.symm
        rw [eL] at hr17
        refine g_if_le C 52 dX6_greatestIn_47 (by decide) (fun c20 => ?_) (fun c20 => ?_)
        ·
          have f21 := fle rfl (by decide : (0 : Int32).toInt = 0) c20
          obtain ⟨v22, ev22⟩ : ∃ y : Int32, y = x2_5 + 1 := ⟨_, rfl⟩
          try have fv22 := fadd rfl (by decide : (1 : Int32).toInt = 1) ev22 (by omega) (by omega)
          refine g_iinc C 1 v22 [(2, .int v22), (3, .int ((M 2 x2_5.toNatClampNeg))), (1, .int x1_5), (0, .ref (ad 88))] dX6_greatestIn_52 rfl (by rw [ev22]; rfl) (by decide) rfl ?_
          refine g_goto C 5 dX6_greatestIn_55 (by decide) ?_
          refine g_lv [0, 2, 3] [(2, .int v22), (1, .int x1_5), (0, .ref (ad 88))] rfl ?_
          have nv := ixn (x := v22) (by omega)
          have iv : v22.toNatClampNeg = x2_5.toNatClampNeg + 1 := by omega
          have hst : ∀ j : Nat, (j : Int) < v22.toInt → ¬ (M 90 (M 2 j).toNatClampNeg).toInt = 0 → x1_5.toInt ≠ -9 := by
            intro j hj hin
            by_cases e9 : j = x2_5.toNatClampNeg
            · rw [e9] at hin; omega
            · have h9 := j5_4 j (by omega) hin; omega
          exact ih_5 (v22, x1_5, M_5, L_5) ⟨by show 0 ≤ v22.toInt; omega, by show v22.toInt ≤ (M 1 0).toInt; omega, by show x1_5.toInt = -9 ∨ (0 ≤ x1_5.toInt ∧ x1_5.toInt < 10); omega, by show 0 ≤ x1_5.toInt → ¬ (M 90 x1_5.toNatClampNeg).toInt = 0; first | exact j5_3 | exact fun _ => (by omega), by show ∀ j : Nat, (j : Int) < v22.toInt → ¬ (M 90 (M 2 j).toNatClampNeg).toInt = 0 → x1_5.toInt ≠ -9; exact hst, by show x1_5 = grF (M 2) (M 90) (L 91) (L 92) v22.toNatClampNeg; rw [iv]; show _ = (if (M 90 (M 2 x2_5.toNatClampNeg).toNatClampNeg).toInt ≠ 0 ∧ ((grF (M 2) (M 90) (L 91) (L 92) x2_5.toNatClampNeg).toInt = -9 ∨ (L 91 (grF (M 2) (M 90) (L 91) (L 92) x2_5.toNatClampNeg).toNatClampNeg * L 92 (M 2 x2_5.toNatClampNeg).toNatClampNeg).toInt < (L 91 (M 2 x2_5.toNatClampNeg).toNatClampNeg * L 92 (grF (M 2) (M 90) (L 91) (L 92) x2_5.toNatClampNeg).toNatClampNeg).toInt) then (M 2 x2_5.toNatClampNeg) else grF (M 2) (M 90) (L 91) (L 92) x2_5.toNatClampNeg); rw [← j5_5]; first | rw [if_pos (by omega)] | rw [if_neg (by omega)], hI, hF, hG⟩ (by show (11 - v22.toInt).toNat < (11 - x2_5.toInt).toNat; omega)
        ·
          have f23 := fnle rfl (by decide : (0 : Int32).toInt = 0) c20
          refine g_iload_n C 0 dX6_greatestIn_50 rfl ?_
          refine g_istore_n C [(1, .int ((M 2 x2_5.toNatClampNeg))), (3, .int ((M 2 x2_5.toNatClampNeg))), (2, .int x2_5), (0, .ref (ad 88))] dX6_greatestIn_51 (by decide) rfl ?_
          obtain ⟨v24, ev24⟩ : ∃ y : Int32, y = x2_5 + 1 := ⟨_, rfl⟩
          try have fv24 := fadd rfl (by decide : (1 : Int32).toInt = 1) ev24 (by omega) (by omega)
          refine g_iinc C 2 v24 [(2, .int v24), (1, .int ((M 2 x2_5.toNatClampNeg))), (3, .int ((M 2 x2_5.toNatClampNeg))), (0, .ref (ad 88))] dX6_greatestIn_52 rfl (by rw [ev24]; rfl) (by decide) rfl ?_
          refine g_goto C 5 dX6_greatestIn_55 (by decide) ?_
          refine g_lv [0, 1, 3] [(2, .int v24), (1, .int ((M 2 x2_5.toNatClampNeg))), (0, .ref (ad 88))] rfl ?_
          have nv := ixn (x := v24) (by omega)
          have iv : v24.toNatClampNeg = x2_5.toNatClampNeg + 1 := by omega
          have hst : ∀ j : Nat, (j : Int) < v24.toInt → ¬ (M 90 (M 2 j).toNatClampNeg).toInt = 0 → ((M 2 x2_5.toNatClampNeg)).toInt ≠ -9 := by
            intro j hj hin
            by_cases e9 : j = x2_5.toNatClampNeg
            · rw [e9] at hin; omega
            · have h9 := j5_4 j (by omega) hin; omega
          exact ih_5 (v24, ((M 2 x2_5.toNatClampNeg)), M_5, L_5) ⟨by show 0 ≤ v24.toInt; omega, by show v24.toInt ≤ (M 1 0).toInt; omega, by show ((M 2 x2_5.toNatClampNeg)).toInt = -9 ∨ (0 ≤ ((M 2 x2_5.toNatClampNeg)).toInt ∧ ((M 2 x2_5.toNatClampNeg)).toInt < 10); omega, by show 0 ≤ ((M 2 x2_5.toNatClampNeg)).toInt → ¬ (M 90 ((M 2 x2_5.toNatClampNeg)).toNatClampNeg).toInt = 0; first | exact j5_3 | exact fun _ => (by omega), by show ∀ j : Nat, (j : Int) < v24.toInt → ¬ (M 90 (M 2 j).toNatClampNeg).toInt = 0 → ((M 2 x2_5.toNatClampNeg)).toInt ≠ -9; exact hst, by show ((M 2 x2_5.toNatClampNeg)) = grF (M 2) (M 90) (L 91) (L 92) v24.toNatClampNeg; rw [iv]; show _ = (if (M 90 (M 2 x2_5.toNatClampNeg).toNatClampNeg).toInt ≠ 0 ∧ ((grF (M 2) (M 90) (L 91) (L 92) x2_5.toNatClampNeg).toInt = -9 ∨ (L 91 (grF (M 2) (M 90) (L 91) (L 92) x2_5.toNatClampNeg).toNatClampNeg * L 92 (M 2 x2_5.toNatClampNeg).toNatClampNeg).toInt < (L 91 (M 2 x2_5.toNatClampNeg).toNatClampNeg * L 92 (grF (M 2) (M 90) (L 91) (L 92) x2_5.toNatClampNeg).toNatClampNeg).toInt) then (M 2 x2_5.toNatClampNeg) else grF (M 2) (M 90) (L 91) (L 92) x2_5.toNatClampNeg); rw [← j5_5]; first | rw [if_pos (by omega)] | rw [if_neg (by omega)], hI, hF, hG⟩ (by show (11 - v24.toInt).toNat < (11 - x2_5.toInt).toNat; omega)
set_option maxHeartbeats 4000000 in
set_option maxRecDepth 100000 in
theorem k_X6_leastIn (l : Launch) (D : va_G) (ad : Nat → Nat) (cs : Nat → ClassId) (M : MI) (L : ML)  (hI : IC M) (hD : DP (vC M)) : Ci l yX6_leastIn wsX6_leastIn ({ frames := 2, cells := 0, slots := 0, locals := 45 }) D ad cs [.ref (ad 88)] M L (fun r M1 L1 => M1 = M ∧ L1 = L ∧ ((r.toInt = -9 ∨ (0 ≤ r.toInt ∧ r.toInt < 10)) ∧ (0 ≤ r.toInt → ¬ (M 90 r.toNatClampNeg).toInt = 0) ∧ ((∃ c : Nat, (c : Int) < (vC M 0 0).toInt ∧ ¬ (M 90 c).toInt = 0) → r.toInt ≠ -9) ∧ r = leF (M 2) (M 90) (L 91) (L 92) (M 1 0).toNatClampNeg)) := by
  refine enter_i RX6 rfl [(0, .ref (ad 88))] rfl (Nat.le_of_ble_eq_true rfl) (by decide +kernel) rfl ?_
  intro p e s m below meth c C hr
  have hF : ∀ k i, True → M k i = M k i := fun _ _ _ => rfl
  have hG : ∀ k i, True → L k i = L k i := fun _ _ _ => rfl
  have w0 : (vC M 0 0).toInt = (M 1 0).toInt := rfl
  have w1 : (vC M 0 1).toInt = (M 3 0).toInt := rfl
  have w2 : (vC M 0 2).toInt = (M 68 0).toInt := rfl
  have w3 : (vC M 0 3).toInt = (M 81 0).toInt := rfl
  obtain ⟨y0a, y0b⟩ := (show rg 0 10 (M 1 0) from hI 1 0 rfl)
  obtain ⟨y1a, y1b⟩ := (show rg 0 60 (M 3 0) from hI 3 0 rfl)
  obtain ⟨y2a, y2b⟩ := (show rg 0 8 (M 68 0) from hI 68 0 rfl)
  obtain ⟨y3a, y3b⟩ := (show rg 0 20 (M 81 0) from hI 81 0 rfl)
  have hI0 := hI
  have n02 := ixn y0a
  refine g_bipush C (-9) dX6_leastIn_0 (by decide) ?_
  refine g_istore_n C [(1, .int ((-9))), (0, .ref (ad 88))] dX6_leastIn_2 (by decide) rfl ?_
  refine g_iconst C 0 dX6_leastIn_3 (by decide) ?_
  refine g_istore_n C [(2, .int 0), (1, .int ((-9))), (0, .ref (ad 88))] dX6_leastIn_4 (by decide) rfl ?_
  have zy1 : (0 : Int32).toInt = 0 := by decide
  have zy2 : ((-9) : Int32).toInt = (-9) := by decide
  refine g_loop (α := Int32 × Int32 × MI × ML) (fun a => (11 - a.1.toInt).toNat) (fun a => (0 ≤ a.1.toInt) ∧ (a.1.toInt ≤ (M 1 0).toInt) ∧ (a.2.1.toInt = -9 ∨ (0 ≤ a.2.1.toInt ∧ a.2.1.toInt < 10)) ∧ (0 ≤ a.2.1.toInt → ¬ (M 90 a.2.1.toNatClampNeg).toInt = 0) ∧ (∀ j : Nat, (j : Int) < a.1.toInt → ¬ (M 90 (M 2 j).toNatClampNeg).toInt = 0 → a.2.1.toInt ≠ -9) ∧ (a.2.1 = leF (M 2) (M 90) (L 91) (L 92) a.1.toNatClampNeg) ∧ IC a.2.2.1 ∧ (∀ k i, True → a.2.2.1 k i = M k i) ∧ (∀ k i, True → a.2.2.2 k i = L k i)) (fun a => a.2.2.1) (fun a => a.2.2.2) (fun a => [(2, .int a.1), (1, .int a.2.1), (0, .ref (ad 88))]) ((0 : Int32), (-9 : Int32), M, L) ⟨by show 0 ≤ (0 : Int32).toInt; omega, by show (0 : Int32).toInt ≤ (M 1 0).toInt; omega, by show (-9 : Int32).toInt = -9 ∨ (0 ≤ (-9 : Int32).toInt ∧ (-9 : Int32).toInt < 10); omega, by show 0 ≤ (-9 : Int32).toInt → ¬ (M 90 (-9 : Int32).toNatClampNeg).toInt = 0; exact fun h => absurd h (by decide), by show ∀ j : Nat, (j : Int) < (0 : Int32).toInt → ¬ (M 90 (M 2 j).toNatClampNeg).toInt = 0 → (-9 : Int32).toInt ≠ -9; intro j hj; exact absurd hj (by show ¬ (j : Int) < 0; omega), by show (-9 : Int32) = leF (M 2) (M 90) (L 91) (L 92) (0 : Int32).toNatClampNeg; rfl, hI, hF, hG⟩ rfl rfl rfl ?_
  rintro ⟨x2_5, x1_5, M_5, L_5⟩ ⟨j5_0, j5_1, j5_2, j5_3, j5_4, j5_5, hI, hF, hG⟩ ih_5
  dsimp only at j5_0 j5_1 j5_2 j5_3 j5_4 j5_5 hI hF hG ih_5 ⊢
  have n2 := ixn (x := x2_5) (by omega)
  have bE : rg 0 9 (M 2 x2_5.toNatClampNeg) := hI0 2 _
  obtain ⟨bE1, bE2⟩ := bE
  have nE := ixn bE1
  have eL : L_5 = L := funext (fun k => funext (fun i => hG k i trivial))
  refine g_iload_n C 0 dX6_leastIn_5 rfl ?_
  refine g_aload_n C 2 dX6_leastIn_6 rfl ?_
  refine g_get C (.ref (ad 1)) 0 in_X6_leastIn_6 (List.mem_of_getElem? (i := 1) rfl) (by decide) (ce_poll ad cs _ _) rfl (by decide) rfl rfl dX6_leastIn_7 ?_
  refine g_get C (.int (M_5 1 0)) 0 in_X6_leastIn_2 (List.mem_of_getElem? (i := 2) rfl) (by decide) (ce_cand ad cs _ _) rfl (by decide) rfl rfl dX6_leastIn_10 ?_
  refine g_ni (fun v3 ev3 => ?_)
  have gv3 : v3 = vC M 0 0 := ev3.trans (hF 1 0 trivial)
  have tv3 := congrArg Int32.toInt gv3
  obtain ⟨bv3, dv3⟩ := (show rg 0 10 v3 from (by rw [ev3]; exact hI 1 0 rfl))
  refine g_icmp_ge C 58 dX6_leastIn_13 (by decide) (fun c4 => ?_) (fun c4 => ?_)
  ·
    have f5 := fle rfl rfl c4
    refine g_iload_n C 1 dX6_leastIn_58 rfl ?_
    exact g_iret C hr ⟨funext (fun k => funext (fun i => hF k i trivial)), funext (fun k => funext (fun i => hG k i trivial)), ⟨j5_2, j5_3, fun ⟨c, hc1, hc2⟩ => (by
      obtain ⟨i, hi1, hi2⟩ := hD c hc1
      exact j5_4 i (by omega) (by
        have e9 : (M 2 i).toNatClampNeg = c := by (have h9 : (M 2 i).toInt = (c : Int) := hi2; have := ixn (x := M 2 i) (by omega); omega)
        rw [e9]; exact hc2)), by rw [j5_5, show x2_5.toNatClampNeg = (M 1 0).toNatClampNeg by omega]⟩⟩ dX6_leastIn_59
  ·
    have f6 := fnle rfl rfl c4
    refine g_aload_n C 2 dX6_leastIn_16 rfl ?_
    refine g_get C (.ref (ad 1)) 0 in_X6_leastIn_6 (List.mem_of_getElem? (i := 1) rfl) (by decide) (ce_poll ad cs _ _) rfl (by decide) rfl rfl dX6_leastIn_17 ?_
    refine g_get C (.ref (ad 2)) 1 in_X6_leastIn_2 (List.mem_of_getElem? (i := 3) rfl) (by decide) (ce_cand ad cs _ _) rfl (by decide) rfl rfl dX6_leastIn_20 ?_
    refine g_iload_n C 0 dX6_leastIn_23 rfl ?_
    have nx2_5 := ixn (x := x2_5) (by omega)
    refine g_iald C (by decide) (ce_crow ad cs _ _) (fin' (n := 10) rfl (by omega) (by omega)) dX6_leastIn_24 ?_
    refine g_ni (fun v7 ev7 => ?_)
    have gv7 : v7 = vC M 1 x2_5.toNatClampNeg := ev7.trans (hF 2 x2_5.toNatClampNeg trivial)
    have tv7 := congrArg Int32.toInt gv7
    obtain ⟨bv7, dv7⟩ := (show rg 0 9 v7 from (by rw [ev7]; exact hI 2 x2_5.toNatClampNeg))
    have gv7 : v7 = M 2 x2_5.toNatClampNeg := gv7
    subst gv7
    refine g_istore_n C [(3, .int ((M 2 x2_5.toNatClampNeg))), (2, .int x2_5), (1, .int x1_5), (0, .ref (ad 88))] dX6_leastIn_25 (by decide) rfl ?_
    refine g_aload_n C 3 dX6_leastIn_26 rfl ?_
    refine g_get C (.ref (ad 90)) 5 in_X6_leastIn_6 (List.mem_of_getElem? (i := 4) rfl) (by decide) (ce_poll ad cs _ _) rfl (by decide) rfl rfl dX6_leastIn_27 ?_
    refine g_iload_n C 0 dX6_leastIn_30 rfl ?_
    have n_M_2_x2_5_toNatClampNeg_ := ixn (x := (M 2 x2_5.toNatClampNeg)) (by omega)
    refine g_zald C (by decide) (ce_pin ad cs _ _) (fin' (n := 10) rfl (by omega) (by omega)) dX6_leastIn_31 ?_
    refine g_ni (fun v8 ev8 => ?_)
    have gv8 : v8 = M 90 (((M 2 x2_5.toNatClampNeg)).toNatClampNeg) := ev8.trans (hF 90 (((M 2 x2_5.toNatClampNeg)).toNatClampNeg) trivial)
    have tv8 := congrArg Int32.toInt gv8
    refine g_if_eq C 52 dX6_leastIn_32 (by decide) (fun c9 => ?_) (fun c9 => ?_)
    ·
      have f10 := feq rfl (by decide : (0 : Int32).toInt = 0) c9
      obtain ⟨v11, ev11⟩ : ∃ y : Int32, y = x2_5 + 1 := ⟨_, rfl⟩
      try have fv11 := fadd rfl (by decide : (1 : Int32).toInt = 1) ev11 (by omega) (by omega)
      refine g_iinc C 1 v11 [(2, .int v11), (3, .int ((M 2 x2_5.toNatClampNeg))), (1, .int x1_5), (0, .ref (ad 88))] dX6_leastIn_52 rfl (by rw [ev11]; rfl) (by decide) rfl ?_
      refine g_goto C 5 dX6_leastIn_55 (by decide) ?_
      refine g_lv [0, 2, 3] [(2, .int v11), (1, .int x1_5), (0, .ref (ad 88))] rfl ?_
      have nv := ixn (x := v11) (by omega)
      have iv : v11.toNatClampNeg = x2_5.toNatClampNeg + 1 := by omega
      have hst : ∀ j : Nat, (j : Int) < v11.toInt → ¬ (M 90 (M 2 j).toNatClampNeg).toInt = 0 → x1_5.toInt ≠ -9 := by
        intro j hj hin
        by_cases e9 : j = x2_5.toNatClampNeg
        · rw [e9] at hin; omega
        · have h9 := j5_4 j (by omega) hin; omega
      exact ih_5 (v11, x1_5, M_5, L_5) ⟨by show 0 ≤ v11.toInt; omega, by show v11.toInt ≤ (M 1 0).toInt; omega, by show x1_5.toInt = -9 ∨ (0 ≤ x1_5.toInt ∧ x1_5.toInt < 10); omega, by show 0 ≤ x1_5.toInt → ¬ (M 90 x1_5.toNatClampNeg).toInt = 0; first | exact j5_3 | exact fun _ => (by omega), by show ∀ j : Nat, (j : Int) < v11.toInt → ¬ (M 90 (M 2 j).toNatClampNeg).toInt = 0 → x1_5.toInt ≠ -9; exact hst, by show x1_5 = leF (M 2) (M 90) (L 91) (L 92) v11.toNatClampNeg; rw [iv]; show _ = (if (M 90 (M 2 x2_5.toNatClampNeg).toNatClampNeg).toInt ≠ 0 ∧ ((leF (M 2) (M 90) (L 91) (L 92) x2_5.toNatClampNeg).toInt = -9 ∨ ¬ (L 91 (leF (M 2) (M 90) (L 91) (L 92) x2_5.toNatClampNeg).toNatClampNeg * L 92 (M 2 x2_5.toNatClampNeg).toNatClampNeg).toInt < (L 91 (M 2 x2_5.toNatClampNeg).toNatClampNeg * L 92 (leF (M 2) (M 90) (L 91) (L 92) x2_5.toNatClampNeg).toNatClampNeg).toInt) then (M 2 x2_5.toNatClampNeg) else leF (M 2) (M 90) (L 91) (L 92) x2_5.toNatClampNeg); rw [← j5_5]; first | rw [if_pos (by omega)] | rw [if_neg (by omega)], hI, hF, hG⟩ (by show (11 - v11.toInt).toNat < (11 - x2_5.toInt).toNat; omega)
    ·
      have f12 := fne rfl (by decide : (0 : Int32).toInt = 0) c9
      refine g_iload_n C 2 dX6_leastIn_35 rfl ?_
      refine g_bipush C (-9) dX6_leastIn_36 (by decide) ?_
      refine g_icmp_eq C 50 dX6_leastIn_38 (by decide) (fun c13 => ?_) (fun c13 => ?_)
      ·
        have f14 := feq rfl (by decide : ((-9) : Int32).toInt = (-9)) c13
        refine g_iload_n C 0 dX6_leastIn_50 rfl ?_
        refine g_istore_n C [(1, .int ((M 2 x2_5.toNatClampNeg))), (3, .int ((M 2 x2_5.toNatClampNeg))), (2, .int x2_5), (0, .ref (ad 88))] dX6_leastIn_51 (by decide) rfl ?_
        obtain ⟨v15, ev15⟩ : ∃ y : Int32, y = x2_5 + 1 := ⟨_, rfl⟩
        try have fv15 := fadd rfl (by decide : (1 : Int32).toInt = 1) ev15 (by omega) (by omega)
        refine g_iinc C 2 v15 [(2, .int v15), (1, .int ((M 2 x2_5.toNatClampNeg))), (3, .int ((M 2 x2_5.toNatClampNeg))), (0, .ref (ad 88))] dX6_leastIn_52 rfl (by rw [ev15]; rfl) (by decide) rfl ?_
        refine g_goto C 5 dX6_leastIn_55 (by decide) ?_
        refine g_lv [0, 1, 3] [(2, .int v15), (1, .int ((M 2 x2_5.toNatClampNeg))), (0, .ref (ad 88))] rfl ?_
        have nv := ixn (x := v15) (by omega)
        have iv : v15.toNatClampNeg = x2_5.toNatClampNeg + 1 := by omega
        have hst : ∀ j : Nat, (j : Int) < v15.toInt → ¬ (M 90 (M 2 j).toNatClampNeg).toInt = 0 → ((M 2 x2_5.toNatClampNeg)).toInt ≠ -9 := by
          intro j hj hin
          by_cases e9 : j = x2_5.toNatClampNeg
          · rw [e9] at hin; omega
          · have h9 := j5_4 j (by omega) hin; omega
        exact ih_5 (v15, ((M 2 x2_5.toNatClampNeg)), M_5, L_5) ⟨by show 0 ≤ v15.toInt; omega, by show v15.toInt ≤ (M 1 0).toInt; omega, by show ((M 2 x2_5.toNatClampNeg)).toInt = -9 ∨ (0 ≤ ((M 2 x2_5.toNatClampNeg)).toInt ∧ ((M 2 x2_5.toNatClampNeg)).toInt < 10); omega, by show 0 ≤ ((M 2 x2_5.toNatClampNeg)).toInt → ¬ (M 90 ((M 2 x2_5.toNatClampNeg)).toNatClampNeg).toInt = 0; first | exact j5_3 | exact fun _ => (by omega), by show ∀ j : Nat, (j : Int) < v15.toInt → ¬ (M 90 (M 2 j).toNatClampNeg).toInt = 0 → ((M 2 x2_5.toNatClampNeg)).toInt ≠ -9; exact hst, by show ((M 2 x2_5.toNatClampNeg)) = leF (M 2) (M 90) (L 91) (L 92) v15.toNatClampNeg; rw [iv]; show _ = (if (M 90 (M 2 x2_5.toNatClampNeg).toNatClampNeg).toInt ≠ 0 ∧ ((leF (M 2) (M 90) (L 91) (L 92) x2_5.toNatClampNeg).toInt = -9 ∨ ¬ (L 91 (leF (M 2) (M 90) (L 91) (L 92) x2_5.toNatClampNeg).toNatClampNeg * L 92 (M 2 x2_5.toNatClampNeg).toNatClampNeg).toInt < (L 91 (M 2 x2_5.toNatClampNeg).toNatClampNeg * L 92 (leF (M 2) (M 90) (L 91) (L 92) x2_5.toNatClampNeg).toNatClampNeg).toInt) then (M 2 x2_5.toNatClampNeg) else leF (M 2) (M 90) (L 91) (L 92) x2_5.toNatClampNeg); rw [← j5_5]; first | rw [if_pos (by omega)] | rw [if_neg (by omega)], hI, hF, hG⟩ (by show (11 - v15.toInt).toNat < (11 - x2_5.toInt).toNat; omega)
      ·
        have f16 := fne rfl (by decide : ((-9) : Int32).toInt = (-9)) c13
        refine g_aload_n C 3 dX6_leastIn_41 rfl ?_
        refine g_iload_n C 0 dX6_leastIn_42 rfl ?_
        refine g_iload_n C 2 dX6_leastIn_43 rfl ?_
        refine g_callVi C (n := 2) (As := [.int ((M 2 x2_5.toNatClampNeg)), .int x1_5]) (st := []) (k_X6_compareTallies l D ad cs _ _ ((M 2 x2_5.toNatClampNeg)) x1_5 hI ⟨by omega, by omega⟩ ⟨by omega, by omega⟩) gX6_leastIn_X6_compareTallies rfl rfl rfl (by decide +kernel) ⟨Nat.le_of_ble_eq_true rfl, Nat.le_of_ble_eq_true rfl⟩ rfl (Nat.le_of_ble_eq_true rfl) ⟨Nat.zero_le _, Nat.zero_le _⟩ (by decide) (ce_poll ad cs _ _) rfl rfl dX6_leastIn_44 (fun r17 M18 L19 hr17 => ?_)
        obtain ⟨hq1, hq2, hr17⟩ := hr17
        obtain rfl := hq1.symm
        obtain rfl := hq2.symm
        rw [eL] at hr17
        refine g_if_gt C 52 dX6_leastIn_47 (by decide) (fun c20 => ?_) (fun c20 => ?_)
        ·
          have f21 := fl (by decide : (0 : Int32).toInt = 0) rfl c20
          obtain ⟨v22, ev22⟩ : ∃ y : Int32, y = x2_5 + 1 := ⟨_, rfl⟩
          try have fv22 := fadd rfl (by decide : (1 : Int32).toInt = 1) ev22 (by omega) (by omega)
          refine g_iinc C 1 v22 [(2, .int v22), (3, .int ((M 2 x2_5.toNatClampNeg))), (1, .int x1_5), (0, .ref (ad 88))] dX6_leastIn_52 rfl (by rw [ev22]; rfl) (by decide) rfl ?_
          refine g_goto C 5 dX6_leastIn_55 (by decide) ?_
          refine g_lv [0, 2, 3] [(2, .int v22), (1, .int x1_5), (0, .ref (ad 88))] rfl ?_
          have nv := ixn (x := v22) (by omega)
          have iv : v22.toNatClampNeg = x2_5.toNatClampNeg + 1 := by omega
          have hst : ∀ j : Nat, (j : Int) < v22.toInt → ¬ (M 90 (M 2 j).toNatClampNeg).toInt = 0 → x1_5.toInt ≠ -9 := by
            intro j hj hin
            by_cases e9 : j = x2_5.toNatClampNeg
            · rw [e9] at hin; omega
            · have h9 := j5_4 j (by omega) hin; omega
          exact ih_5 (v22, x1_5, M_5, L_5) ⟨by show 0 ≤ v22.toInt; omega, by show v22.toInt ≤ (M 1 0).toInt; omega, by show x1_5.toInt = -9 ∨ (0 ≤ x1_5.toInt ∧ x1_5.toInt < 10); omega, by show 0 ≤ x1_5.toInt → ¬ (M 90 x1_5.toNatClampNeg).toInt = 0; first | exact j5_3 | exact fun _ => (by omega), by show ∀ j : Nat, (j : Int) < v22.toInt → ¬ (M 90 (M 2 j).toNatClampNeg).toInt = 0 → x1_5.toInt ≠ -9; exact hst, by show x1_5 = leF (M 2) (M 90) (L 91) (L 92) v22.toNatClampNeg; rw [iv]; show _ = (if (M 90 (M 2 x2_5.toNatClampNeg).toNatClampNeg).toInt ≠ 0 ∧ ((leF (M 2) (M 90) (L 91) (L 92) x2_5.toNatClampNeg).toInt = -9 ∨ ¬ (L 91 (leF (M 2) (M 90) (L 91) (L 92) x2_5.toNatClampNeg).toNatClampNeg * L 92 (M 2 x2_5.toNatClampNeg).toNatClampNeg).toInt < (L 91 (M 2 x2_5.toNatClampNeg).toNatClampNeg * L 92 (leF (M 2) (M 90) (L 91) (L 92) x2_5.toNatClampNeg).toNatClampNeg).toInt) then (M 2 x2_5.toNatClampNeg) else leF (M 2) (M 90) (L 91) (L 92) x2_5.toNatClampNeg); rw [← j5_5]; first | rw [if_pos (by omega)] | rw [if_neg (by omega)], hI, hF, hG⟩ (by show (11 - v22.toInt).toNat < (11 - x2_5.toInt).toNat; omega)
        ·
          have f23 := fnl (by decide : (0 : Int32).toInt = 0) rfl c20
          refine g_iload_n C 0 dX6_leastIn_50 rfl ?_
          refine g_istore_n C [(1, .int ((M 2 x2_5.toNatClampNeg))), (3, .int ((M 2 x2_5.toNatClampNeg))), (2, .int x2_5), (0, .ref (ad 88))] dX6_leastIn_51 (by decide) rfl ?_
          obtain ⟨v24, ev24⟩ : ∃ y : Int32, y = x2_5 + 1 := ⟨_, rfl⟩
          try have fv24 := fadd rfl (by decide : (1 : Int32).toInt = 1) ev24 (by omega) (by omega)
          refine g_iinc C 2 v24 [(2, .int v24), (1, .int ((M 2 x2_5.toNatClampNeg))), (3, .int ((M 2 x2_5.toNatClampNeg))), (0, .ref (ad 88))] dX6_leastIn_52 rfl (by rw [ev24]; rfl) (by decide) rfl ?_
          refine g_goto C 5 dX6_leastIn_55 (by decide) ?_
          refine g_lv [0, 1, 3] [(2, .int v24), (1, .int ((M 2 x2_5.toNatClampNeg))), (0, .ref (ad 88))] rfl ?_
          have nv := ixn (x := v24) (by omega)
          have iv : v24.toNatClampNeg = x2_5.toNatClampNeg + 1 := by omega
          have hst : ∀ j : Nat, (j : Int) < v24.toInt → ¬ (M 90 (M 2 j).toNatClampNeg).toInt = 0 → ((M 2 x2_5.toNatClampNeg)).toInt ≠ -9 := by
            intro j hj hin
            by_cases e9 : j = x2_5.toNatClampNeg
            · rw [e9] at hin; omega
            · have h9 := j5_4 j (by omega) hin; omega
          exact ih_5 (v24, ((M 2 x2_5.toNatClampNeg)), M_5, L_5) ⟨by show 0 ≤ v24.toInt; omega, by show v24.toInt ≤ (M 1 0).toInt; omega, by show ((M 2 x2_5.toNatClampNeg)).toInt = -9 ∨ (0 ≤ ((M 2 x2_5.toNatClampNeg)).toInt ∧ ((M 2 x2_5.toNatClampNeg)).toInt < 10); omega, by show 0 ≤ ((M 2 x2_5.toNatClampNeg)).toInt → ¬ (M 90 ((M 2 x2_5.toNatClampNeg)).toNatClampNeg).toInt = 0; first | exact j5_3 | exact fun _ => (by omega), by show ∀ j : Nat, (j : Int) < v24.toInt → ¬ (M 90 (M 2 j).toNatClampNeg).toInt = 0 → ((M 2 x2_5.toNatClampNeg)).toInt ≠ -9; exact hst, by show ((M 2 x2_5.toNatClampNeg)) = leF (M 2) (M 90) (L 91) (L 92) v24.toNatClampNeg; rw [iv]; show _ = (if (M 90 (M 2 x2_5.toNatClampNeg).toNatClampNeg).toInt ≠ 0 ∧ ((leF (M 2) (M 90) (L 91) (L 92) x2_5.toNatClampNeg).toInt = -9 ∨ ¬ (L 91 (leF (M 2) (M 90) (L 91) (L 92) x2_5.toNatClampNeg).toNatClampNeg * L 92 (M 2 x2_5.toNatClampNeg).toNatClampNeg).toInt < (L 91 (M 2 x2_5.toNatClampNeg).toNatClampNeg * L 92 (leF (M 2) (M 90) (L 91) (L 92) x2_5.toNatClampNeg).toNatClampNeg).toInt) then (M 2 x2_5.toNatClampNeg) else leF (M 2) (M 90) (L 91) (L 92) x2_5.toNatClampNeg); rw [← j5_5]; first | rw [if_pos (by omega)] | rw [if_neg (by omega)], hI, hF, hG⟩ (by show (11 - v24.toInt).toNat < (11 - x2_5.toInt).toNat; omega)
