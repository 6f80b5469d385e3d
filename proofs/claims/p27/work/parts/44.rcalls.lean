theorem dX11_at_0 : decode cX11_at 0 = .ok (.aload_n 0, 1) := dw42 (n := 0) (i := 0) kc_cX11_at_0 (by decide +kernel)
theorem dX11_at_1 : decode cX11_at 1 = .ok (.iload_n 1, 1) := dw27 (n := 0) (i := 1) kc_cX11_at_0 (by decide +kernel)
theorem dX11_at_2 : decode cX11_at 2 = .ok (.invokevirtual 166, 3) := dw182 (n := 0) (i := 2) (a := 0) (b := 166) kc_cX11_at_0 (by decide +kernel) (by decide)
set_option maxRecDepth 20000 in
theorem ggX11_at_X11_isBox : GoodIn wsX11_at wsX11_isBox := (gk_code 6 rfl (gk_fieldLink 7 rfl (gk_methodLink 8 rfl (gk_static 9 rfl (gk_initialized 5 rfl (gk_code 10 rfl (gk_lays 22 rfl (gk_laysFinal 23 rfl (gk_lays 24 rfl (gk_laysFinal 25 rfl (gk_lays 26 rfl (gk_laysFinal 27 rfl (gk_laysFinal 28 rfl (gk_laysFinal 29 rfl (gk_laysFinal 30 rfl (gk_lays 31 rfl (gk_laysFinal 32 rfl (gk_laysFinal 33 rfl (gk_laysFinal 34 rfl (gk_laysFinal 35 rfl (gk_lays 36 rfl (gk_laysFinal 37 rfl (gk_laysFinal 38 rfl (gk_laysFinal 39 rfl (gk_laysFinal 40 rfl (gk_laysFinal 41 rfl (gk_laysFinal 42 rfl (gk_laysFinal 43 rfl (gk_laysFinal 44 rfl (gk_lays 45 rfl (gk_lays 46 rfl (gk_lays 47 rfl (gk_lays 48 rfl (gk_lays 49 rfl (gk_lays 50 rfl (gk_lays 51 rfl (gk_laysFinal 52 rfl (gk_lays 53 rfl (gk_laysFinal 54 rfl (gk_laysFinal 55 rfl (gk_laysFinal 56 rfl (gk_laysFinal 57 rfl (gk_laysFinal 58 rfl (gk_laysFinal 59 rfl (gk_laysFinal 60 rfl (gk_laysFinal 61 rfl (gk_laysFinal 62 rfl (gk_laysFinal 63 rfl (gk_lays 64 rfl (gk_laysFinal 65 rfl (gk_lays 66 rfl (gk_laysFinal 67 rfl (gk_laysFinal 68 rfl (gk_laysFinal 69 rfl (gk_laysFinal 70 rfl (gk_laysFinal 71 rfl (gk_laysFinal 72 rfl (gk_laysFinal 73 rfl (gk_laysFinal 74 rfl (gn))))))))))))))))))))))))))))))))))))))))))))))))))))))))))))
set_option maxRecDepth 20000 in
theorem gX11_at_X11_isBox : GoodIn wsX11_at (wsV RX11 166 RX11 yX11_isBox wsX11_isBox) := goodIn_app (gk_methodLink 2 rfl (gk_instanceMethod 3 rfl (gk_selects 4 rfl (gk_initialized 5 rfl (gn))))) ggX11_at_X11_isBox
theorem dX11_at_5 : decode cX11_at 5 = .ok (.ifCond .ne 5, 3) := dw154 (n := 0) (i := 5) (a := 0) (b := 5) kc_cX11_at_0 (by decide +kernel) (by decide)
theorem dX11_at_10 : decode cX11_at 10 = .ok (.aload_n 0, 1) := dw42 (n := 0) (i := 10) kc_cX11_at_0 (by decide +kernel)
theorem dX11_at_11 : decode cX11_at 11 = .ok (.iload_n 1, 1) := dw27 (n := 0) (i := 11) kc_cX11_at_0 (by decide +kernel)
theorem dX11_at_12 : decode cX11_at 12 = .ok (.iload_n 2, 1) := dw28 (n := 0) (i := 12) kc_cX11_at_0 (by decide +kernel)
theorem dX11_at_13 : decode cX11_at 13 = .ok (.invokevirtual 169, 3) := dw182 (n := 0) (i := 13) (a := 0) (b := 169) kc_cX11_at_0 (by decide +kernel) (by decide)
set_option maxRecDepth 20000 in
theorem ggX11_at_X11_lacks : GoodIn wsX11_at wsX11_lacks := (gk_code 14 rfl (gk_fieldLink 15 rfl (gk_fieldLink 1 rfl (gk_methodLink 8 rfl (gk_static 9 rfl (gk_initialized 5 rfl (gk_code 10 rfl (gk_lays 22 rfl (gk_laysFinal 23 rfl (gk_lays 24 rfl (gk_laysFinal 25 rfl (gk_lays 26 rfl (gk_laysFinal 27 rfl (gk_laysFinal 28 rfl (gk_laysFinal 29 rfl (gk_laysFinal 30 rfl (gk_lays 31 rfl (gk_laysFinal 32 rfl (gk_laysFinal 33 rfl (gk_laysFinal 34 rfl (gk_laysFinal 35 rfl (gk_lays 36 rfl (gk_laysFinal 37 rfl (gk_laysFinal 38 rfl (gk_laysFinal 39 rfl (gk_laysFinal 40 rfl (gk_laysFinal 41 rfl (gk_laysFinal 42 rfl (gk_laysFinal 43 rfl (gk_laysFinal 44 rfl (gk_lays 45 rfl (gk_lays 46 rfl (gk_lays 47 rfl (gk_lays 48 rfl (gk_lays 49 rfl (gk_lays 50 rfl (gk_lays 51 rfl (gk_laysFinal 52 rfl (gk_lays 53 rfl (gk_laysFinal 54 rfl (gk_laysFinal 55 rfl (gk_laysFinal 56 rfl (gk_laysFinal 57 rfl (gk_laysFinal 58 rfl (gk_laysFinal 59 rfl (gk_laysFinal 60 rfl (gk_laysFinal 61 rfl (gk_laysFinal 62 rfl (gk_laysFinal 63 rfl (gk_lays 64 rfl (gk_laysFinal 65 rfl (gk_lays 66 rfl (gk_laysFinal 67 rfl (gk_laysFinal 68 rfl (gk_laysFinal 69 rfl (gk_laysFinal 70 rfl (gk_laysFinal 71 rfl (gk_laysFinal 72 rfl (gk_laysFinal 73 rfl (gk_laysFinal 74 rfl (gn)))))))))))))))))))))))))))))))))))))))))))))))))))))))))))))
set_option maxRecDepth 20000 in
theorem gX11_at_X11_lacks : GoodIn wsX11_at (wsV RX11 169 RX11 yX11_lacks wsX11_lacks) := goodIn_app (gk_methodLink 11 rfl (gk_instanceMethod 12 rfl (gk_selects 13 rfl (gk_initialized 5 rfl (gn))))) ggX11_at_X11_lacks
theorem dX11_at_16 : decode cX11_at 16 = .ok (.istore_n 3, 1) := dw62 (n := 0) (i := 16) kc_cX11_at_0 (by decide +kernel)
theorem dX11_at_17 : decode cX11_at 17 = .ok (.iload_n 3, 1) := dw29 (n := 0) (i := 17) kc_cX11_at_0 (by decide +kernel)
theorem dX11_at_18 : decode cX11_at 18 = .ok (.ifCond .le 11, 3) := dw158 (n := 0) (i := 18) (a := 0) (b := 11) kc_cX11_at_0 (by decide +kernel) (by decide)
theorem dX11_at_29 : decode cX11_at 29 = .ok (.aload_n 0, 1) := dw42 (n := 0) (i := 29) kc_cX11_at_0 (by decide +kernel)
theorem dX11_at_30 : decode cX11_at 30 = .ok (.getfield 34, 3) := dw180 (n := 0) (i := 30) (a := 0) (b := 34) kc_cX11_at_0 (by decide +kernel) (by decide)
theorem in_X11_at_11 : ∀ w ∈ u_ws RX11 TX11 53, w ∈ wsX11_at := fun _ h => List.mem_cons_of_mem _ (List.mem_append_right _ h)
theorem dX11_at_33 : decode cX11_at 33 = .ok (.bipush 40, 2) := dw16 (n := 32) (i := 1) (a := 40) kc_cX11_at_1 (by decide +kernel) (by decide)
theorem dX11_at_35 : decode cX11_at 35 = .ok (.iload_n 1, 1) := dw27 (n := 32) (i := 3) kc_cX11_at_1 (by decide +kernel)
theorem dX11_at_36 : decode cX11_at 36 = .ok (.imul, 1) := dw104 (n := 32) (i := 4) kc_cX11_at_1 (by decide +kernel)
theorem dX11_at_37 : decode cX11_at 37 = .ok (.iload_n 2, 1) := dw28 (n := 32) (i := 5) kc_cX11_at_1 (by decide +kernel)
theorem dX11_at_38 : decode cX11_at 38 = .ok (.iadd, 1) := dw96 (n := 32) (i := 6) kc_cX11_at_1 (by decide +kernel)
theorem dX11_at_39 : decode cX11_at 39 = .ok (.iaload, 1) := dw46 (n := 32) (i := 7) kc_cX11_at_1 (by decide +kernel)
theorem dX11_at_40 : decode cX11_at 40 = .ok (.ireturn, 1) := dw172 (n := 32) (i := 8) kc_cX11_at_1 (by decide +kernel)
theorem dX11_at_21 : decode cX11_at 21 = .ok (.aload_n 0, 1) := dw42 (n := 0) (i := 21) kc_cX11_at_0 (by decide +kernel)
theorem dX11_at_22 : decode cX11_at 22 = .ok (.iload_n 3, 1) := dw29 (n := 0) (i := 22) kc_cX11_at_0 (by decide +kernel)
theorem dX11_at_23 : decode cX11_at 23 = .ok (.invokevirtual 155, 3) := dw182 (n := 0) (i := 23) (a := 0) (b := 155) kc_cX11_at_0 (by decide +kernel) (by decide)
set_option maxRecDepth 20000 in
theorem ggX11_at_X11_meets : GoodIn wsX11_at wsX11_meets := (gk_code 19 rfl (gk_fieldLink 20 rfl (gk_fieldLink 21 rfl (gk_lays 22 rfl (gk_laysFinal 23 rfl (gk_lays 24 rfl (gk_laysFinal 25 rfl (gk_lays 26 rfl (gk_laysFinal 27 rfl (gk_laysFinal 28 rfl (gk_laysFinal 29 rfl (gk_laysFinal 30 rfl (gk_lays 31 rfl (gk_laysFinal 32 rfl (gk_laysFinal 33 rfl (gk_laysFinal 34 rfl (gk_laysFinal 35 rfl (gk_lays 36 rfl (gk_laysFinal 37 rfl (gk_laysFinal 38 rfl (gk_laysFinal 39 rfl (gk_laysFinal 40 rfl (gk_laysFinal 41 rfl (gk_laysFinal 42 rfl (gk_laysFinal 43 rfl (gk_laysFinal 44 rfl (gk_lays 45 rfl (gk_lays 46 rfl (gk_lays 47 rfl (gk_lays 48 rfl (gk_lays 49 rfl (gk_lays 50 rfl (gk_lays 51 rfl (gk_laysFinal 52 rfl (gk_lays 53 rfl (gk_laysFinal 54 rfl (gk_laysFinal 55 rfl (gk_laysFinal 56 rfl (gk_laysFinal 57 rfl (gk_laysFinal 58 rfl (gk_laysFinal 59 rfl (gk_laysFinal 60 rfl (gk_laysFinal 61 rfl (gk_laysFinal 62 rfl (gk_laysFinal 63 rfl (gk_lays 64 rfl (gk_laysFinal 65 rfl (gk_lays 66 rfl (gk_laysFinal 67 rfl (gk_laysFinal 68 rfl (gk_laysFinal 69 rfl (gk_laysFinal 70 rfl (gk_laysFinal 71 rfl (gk_laysFinal 72 rfl (gk_laysFinal 73 rfl (gk_laysFinal 74 rfl (gn)))))))))))))))))))))))))))))))))))))))))))))))))))))))))
set_option maxRecDepth 20000 in
theorem gX11_at_X11_meets : GoodIn wsX11_at (wsV RX11 155 RX11 yX11_meets wsX11_meets) := goodIn_app (gk_methodLink 16 rfl (gk_instanceMethod 17 rfl (gk_selects 18 rfl (gk_initialized 5 rfl (gn))))) ggX11_at_X11_meets
theorem dX11_at_26 : decode cX11_at 26 = .ok (.goto 14, 3) := dw167 (n := 0) (i := 26) (a := 0) (b := 14) kc_cX11_at_0 (by decide +kernel) (by decide)
theorem dX11_at_8 : decode cX11_at 8 = .ok (.iconst (-1), 1) := dw2 (n := 0) (i := 8) kc_cX11_at_0 (by decide +kernel)
theorem dX11_at_9 : decode cX11_at 9 = .ok (.ireturn, 1) := dw172 (n := 0) (i := 9) kc_cX11_at_0 (by decide +kernel)
set_option maxHeartbeats 4000000 in
set_option maxRecDepth 100000 in
theorem s_X11_at (l : Launch) (D : va_G) (ad : Nat → Nat) (cs : Nat → ClassId) (M : MI) (L : ML) (x : Int32) (y : Int32) (hI : IR M) : Ci l yX11_at wsX11_at ({ frames := 2, cells := 0, slots := 0, locals := 44 }) D ad cs [.ref (ad 258), .int x, .int y] M L (fun r M1 L1 => (A_at (vR M) x y = (r, vR M1)) ∧ IR M1 ∧ (∀ k i, ¬ (k = 258 ∧ i = 0) ∧ k ≠ 259 → M1 k i = M k i) ∧ ∀ k i, True → L1 k i = L k i) := by
  refine enter_i RX11 rfl [(0, .ref (ad 258)), (1, .int x), (2, .int y)] rfl (Nat.le_of_ble_eq_true rfl) (by decide +kernel) rfl ?_
  intro p e s m below meth c C hr
  have hF : ∀ k i, ¬ (k = 258 ∧ i = 0) ∧ k ≠ 259 → M k i = M k i := fun _ _ _ => rfl
  have hG : ∀ k i, True → L k i = L k i := fun _ _ _ => rfl
  have w0 : (vR M 0 0).toInt = (M 258 2).toInt := rfl
  have w1 : (vR M 0 1).toInt = (M 258 4).toInt := rfl
  have w2 : (vR M 0 2).toInt = (M 258 9).toInt := rfl
  have w3 : (vR M 0 3).toInt = (M 258 14).toInt := rfl
  obtain ⟨y0a, y0b⟩ := (show rg 0 10 (M 258 2) from hI 258 2)
  obtain ⟨y1a, y1b⟩ := (show rg 0 60 (M 258 4) from hI 258 4)
  obtain ⟨y2a, y2b⟩ := (show rg 0 8 (M 258 9) from hI 258 9)
  obtain ⟨y3a, y3b⟩ := (show rg 0 20 (M 258 14) from hI 258 14)
  have sz : rg 0 40 (vR M 7 x.toNatClampNeg) := hI 266 _
  obtain ⟨sa, sb⟩ := sz
  have k0 : M 258 0 = vR M 0 4 := rfl
  have q259 : M 259 = M 259 := rfl
  have hV : vR M = vR M := rfl
  refine g_aload_n C 0 dX11_at_0 rfl ?_
  refine g_iload_n C 1 dX11_at_1 rfl ?_
  refine g_callVi C (n := 1) (As := [.int x]) (st := []) (s_X11_isBox l D ad cs _ _ x hI ) gX11_at_X11_isBox rfl rfl rfl (by decide +kernel) ⟨Nat.le_of_ble_eq_true rfl, Nat.le_of_ble_eq_true rfl⟩ rfl (Nat.le_of_ble_eq_true rfl) ⟨Nat.zero_le _, Nat.zero_le _⟩ (by decide) (ce_model ad cs _ _) rfl rfl dX11_at_2 (fun r1 M2 L3 hr1 => ?_)
  obtain ⟨hq1, hq2, hr1⟩ := hr1
  obtain rfl := hq1.symm
  obtain rfl := hq2.symm
  obtain ⟨bar1, bbr1⟩ := zo_b hr1
  refine g_if_ne C 10 dX11_at_5 (by decide) (fun c4 => ?_) (fun c4 => ?_)
  ·
    have f5 := fne rfl (by decide : (0 : Int32).toInt = 0) c4
    have pr1 := zo_t hr1 c4
    try dsimp only [hasC, hasB, hasX, hasM, ofS, ofK, bt] at pr1
    refine g_aload_n C 0 dX11_at_10 rfl ?_
    refine g_iload_n C 1 dX11_at_11 rfl ?_
    refine g_iload_n C 2 dX11_at_12 rfl ?_
    refine g_callVi C (n := 2) (As := [.int x, .int y]) (st := []) (s_X11_lacks l D ad cs _ _ x y hI ⟨by omega, by omega⟩) gX11_at_X11_lacks rfl rfl rfl (by decide +kernel) ⟨Nat.le_of_ble_eq_true rfl, Nat.le_of_ble_eq_true rfl⟩ rfl (Nat.le_of_ble_eq_true rfl) ⟨Nat.zero_le _, Nat.zero_le _⟩ (by decide) (ce_model ad cs _ _) rfl rfl dX11_at_13 (fun r6 M7 L8 hr6 => ?_)
    obtain ⟨hq1, hq2, hr6⟩ := hr6
    obtain rfl := hq1.symm
    obtain rfl := hq2.symm
    obtain ⟨hr6, bar6, bbr6⟩ := hr6
    have tr6 := congrArg Int32.toInt hr6
    refine g_istore_n C [(3, .int r6), (0, .ref (ad 258)), (1, .int x), (2, .int y)] dX11_at_16 (by decide) rfl ?_
    refine g_iload_n C 0 dX11_at_17 rfl ?_
    refine g_if_le C 29 dX11_at_18 (by decide) (fun c9 => ?_) (fun c9 => ?_)
    ·
      have f10 := fle rfl (by decide : (0 : Int32).toInt = 0) c9
      have hl : 0 ≤ y.toInt ∧ y.toInt < (vR M 7 x.toNatClampNeg).toInt ∧ ¬ (vR M 8 (40 * x.toNatClampNeg + y.toNatClampNeg)).toInt = -9 := lk0 (show (lacksV (vR M) x y).toInt = 0 by omega)
      refine g_aload_n C 1 dX11_at_29 rfl ?_
      refine g_get C (.ref (ad 267)) 12 in_X11_at_11 (List.mem_of_getElem? (i := 1) rfl) (by decide) (ce_model ad cs _ _) rfl (by decide) rfl rfl dX11_at_30 ?_
      refine g_bipush C 40 dX11_at_33 (by decide) ?_
      refine g_iload_n C 2 dX11_at_35 rfl ?_
      refine g_imul C dX11_at_36 ?_
      refine g_ni (fun v11 ev11 => ?_)
      try have fv11 := fmul (by decide : (40 : Int32).toInt = 40) rfl ev11 (by omega) (by omega)
      refine g_iload_n C 3 dX11_at_37 rfl ?_
      refine g_iadd C dX11_at_38 ?_
      refine g_ni (fun v12 ev12 => ?_)
      try have fv12 := fadd rfl rfl ev12 (by omega) (by omega)
      refine g_iald C (by decide) (ce_m_boxed ad cs _ _) (fin' (n := 320) rfl (by omega) (by omega)) dX11_at_39 ?_
      have nx := ixn (x := x) (by omega)
      have ny := ixn (x := y) (by omega)
      have nv12 := ixn (x := v12) (by omega)
      have iv12 : v12.toNatClampNeg = 40 * x.toNatClampNeg + y.toNatClampNeg := by omega
      refine g_ni (fun v13 ev13 => ?_)
      have gv13 : v13 = M 267 v12.toNatClampNeg := ev13
      have gv13 := cg1 (f := M 267) gv13 iv12
      have gv13 := gv13.trans (vR8 (M := M) (by omega)).symm
      have tv13 := congrArg Int32.toInt gv13
      have bv13 : bxd v13 := (by rw [ev13]; exact hI 267 v12.toNatClampNeg)
      unfold bxd at bv13
      exact g_iret C hr ⟨(by dsimp only [A_at, hasC, hasB, hasX, hasM, ofS, ofK, bt, ix]; (repeat (first | rw [if_pos (by omega)] | rw [if_neg (by omega)])); first | done | rfl | (simp only [gv13, ev12, ev11, hr6]; done) | (simp only [gv13, ev12, ev11, hr6]; rfl) | (subst_vars; first | rfl | grind)), hI, hF, hG⟩ dX11_at_40
    ·
      have f14 := fnle rfl (by decide : (0 : Int32).toInt = 0) c9
      refine g_aload_n C 1 dX11_at_21 rfl ?_
      refine g_iload_n C 0 dX11_at_22 rfl ?_
      refine g_callVi C (n := 1) (As := [.int r6]) (st := []) (s_X11_meets l D ad cs _ _ r6 hI ⟨by first | omega | decide, by first | omega | decide⟩) gX11_at_X11_meets rfl rfl rfl (by decide +kernel) ⟨Nat.le_of_ble_eq_true rfl, Nat.le_of_ble_eq_true rfl⟩ rfl (Nat.le_of_ble_eq_true rfl) ⟨Nat.zero_le _, Nat.zero_le _⟩ (by decide) (ce_model ad cs _ _) rfl rfl dX11_at_23 (fun r15 M16 L17 hr15 => ?_)
      obtain ⟨hr15, hI, hFr15, hGr15⟩ := hr15
      have hF : ∀ k i, ¬ (k = 258 ∧ i = 0) ∧ k ≠ 259 → M16 k i = M k i := fun k i hk => by (rw [hFr15 k i (by omega)]; try exact hF k i hk)
      have hG : ∀ k i, True → L17 k i = L k i := fun k i hk => by (rw [hGr15 k i trivial]; try exact hG k i hk)
      have hV : vR M16 = meetsV (vR M) r6 := by rw [hr15.2, hV]
      have k0 : M16 258 0 = M16 258 0 := rfl
      have q259 : M16 259 = M16 259 := rfl
      refine g_goto C 40 dX11_at_26 (by decide) ?_
      exact g_iret C hr ⟨(by dsimp only [A_at, hasC, hasB, hasX, hasM, ofS, ofK, bt, ix]; (repeat (first | rw [if_pos (by omega)] | rw [if_neg (by omega)])); rw [hV]; first | done | rfl | (simp only [hr6]; done) | (simp only [hr6]; rfl) | (subst_vars; first | rfl | grind)), hI, hF, hG⟩ dX11_at_40
  ·
    have f18 := feq rfl (by decide : (0 : Int32).toInt = 0) c4
    have pr1 := zo_f hr1 c4
    try dsimp only [hasC, hasB, hasX, hasM, ofS, ofK, bt] at pr1
    refine g_iconst C (-1) dX11_at_8 (by decide) ?_
    have zr9 : ((-1) : Int32).toInt = (-1) := by decide
    exact g_iret C hr ⟨(by dsimp only [A_at, hasC, hasB, hasX, hasM, ofS, ofK, bt, ix]; (repeat (first | rw [if_pos (by omega)] | rw [if_neg (by omega)])); first | done | rfl | (simp only [ix]; done) | (simp only [ix]; rfl) | (subst_vars; first | rfl | grind)), hI, hF, hG⟩ dX11_at_9
theorem dX11_papersIn_0 : decode cX11_papersIn 0 = .ok (.iconst 0, 1) := dw3 (n := 0) (i := 0) kc_cX11_papersIn_0 (by decide +kernel)
theorem dX11_papersIn_1 : decode cX11_papersIn 1 = .ok (.istore_n 2, 1) := dw61 (n := 0) (i := 1) kc_cX11_papersIn_0 (by decide +kernel)
theorem dX11_papersIn_2 : decode cX11_papersIn 2 = .ok (.iconst 0, 1) := dw3 (n := 0) (i := 2) kc_cX11_papersIn_0 (by decide +kernel)
theorem dX11_papersIn_3 : decode cX11_papersIn 3 = .ok (.istore_n 3, 1) := dw62 (n := 0) (i := 3) kc_cX11_papersIn_0 (by decide +kernel)
theorem dX11_papersIn_4 : decode cX11_papersIn 4 = .ok (.iload_n 3, 1) := dw29 (n := 0) (i := 4) kc_cX11_papersIn_0 (by decide +kernel)
theorem dX11_papersIn_5 : decode cX11_papersIn 5 = .ok (.aload_n 0, 1) := dw42 (n := 0) (i := 5) kc_cX11_papersIn_0 (by decide +kernel)
theorem dX11_papersIn_6 : decode cX11_papersIn 6 = .ok (.getfield 31, 3) := dw180 (n := 0) (i := 6) (a := 0) (b := 31) kc_cX11_papersIn_0 (by decide +kernel) (by decide)
theorem in_X11_papersIn_11 : ∀ w ∈ u_ws RX11 TX11 53, w ∈ wsX11_papersIn := fun _ h => List.mem_cons_of_mem _ (List.mem_append_right _ h)
theorem dX11_papersIn_9 : decode cX11_papersIn 9 = .ok (.iload_n 1, 1) := dw27 (n := 0) (i := 9) kc_cX11_papersIn_0 (by decide +kernel)
theorem dX11_papersIn_10 : decode cX11_papersIn 10 = .ok (.iaload, 1) := dw46 (n := 0) (i := 10) kc_cX11_papersIn_0 (by decide +kernel)
theorem dX11_papersIn_11 : decode cX11_papersIn 11 = .ok (.if_icmp .ge 48, 3) := dw162 (n := 0) (i := 11) (a := 0) (b := 48) kc_cX11_papersIn_0 (by decide +kernel) (by decide)
theorem dX11_papersIn_59 : decode cX11_papersIn 59 = .ok (.iload_n 2, 1) := dw28 (n := 32) (i := 27) kc_cX11_papersIn_1 (by decide +kernel)
theorem dX11_papersIn_60 : decode cX11_papersIn 60 = .ok (.ireturn, 1) := dw172 (n := 32) (i := 28) kc_cX11_papersIn_1 (by decide +kernel)
theorem dX11_papersIn_14 : decode cX11_papersIn 14 = .ok (.iload_n 2, 1) := dw28 (n := 0) (i := 14) kc_cX11_papersIn_0 (by decide +kernel)
theorem dX11_papersIn_15 : decode cX11_papersIn 15 = .ok (.aload_n 0, 1) := dw42 (n := 0) (i := 15) kc_cX11_papersIn_0 (by decide +kernel)
theorem dX11_papersIn_16 : decode cX11_papersIn 16 = .ok (.getfield 34, 3) := dw180 (n := 0) (i := 16) (a := 0) (b := 34) kc_cX11_papersIn_0 (by decide +kernel) (by decide)
theorem dX11_papersIn_19 : decode cX11_papersIn 19 = .ok (.bipush 40, 2) := dw16 (n := 0) (i := 19) (a := 40) kc_cX11_papersIn_0 (by decide +kernel) (by decide)
theorem dX11_papersIn_21 : decode cX11_papersIn 21 = .ok (.iload_n 1, 1) := dw27 (n := 0) (i := 21) kc_cX11_papersIn_0 (by decide +kernel)
theorem dX11_papersIn_22 : decode cX11_papersIn 22 = .ok (.imul, 1) := dw104 (n := 0) (i := 22) kc_cX11_papersIn_0 (by decide +kernel)
theorem dX11_papersIn_23 : decode cX11_papersIn 23 = .ok (.iload_n 3, 1) := dw29 (n := 0) (i := 23) kc_cX11_papersIn_0 (by decide +kernel)
theorem dX11_papersIn_24 : decode cX11_papersIn 24 = .ok (.iadd, 1) := dw96 (n := 0) (i := 24) kc_cX11_papersIn_0 (by decide +kernel)
theorem dX11_papersIn_25 : decode cX11_papersIn 25 = .ok (.iaload, 1) := dw46 (n := 0) (i := 25) kc_cX11_papersIn_0 (by decide +kernel)
theorem dX11_papersIn_26 : decode cX11_papersIn 26 = .ok (.bipush (-9), 2) := dw16 (n := 0) (i := 26) (a := 247) kc_cX11_papersIn_0 (by decide +kernel) (by decide)
theorem dX11_papersIn_28 : decode cX11_papersIn 28 = .ok (.if_icmp .ne 7, 3) := dw160 (n := 0) (i := 28) (a := 0) (b := 7) kc_cX11_papersIn_0 (by decide +kernel) (by decide)
theorem dX11_papersIn_35 : decode cX11_papersIn 35 = .ok (.aload_n 0, 1) := dw42 (n := 32) (i := 3) kc_cX11_papersIn_1 (by decide +kernel)
theorem dX11_papersIn_36 : decode cX11_papersIn 36 = .ok (.getfield 19, 3) := dw180 (n := 32) (i := 4) (a := 0) (b := 19) kc_cX11_papersIn_1 (by decide +kernel) (by decide)
theorem dX11_papersIn_39 : decode cX11_papersIn 39 = .ok (.aload_n 0, 1) := dw42 (n := 32) (i := 7) kc_cX11_papersIn_1 (by decide +kernel)
theorem dX11_papersIn_40 : decode cX11_papersIn 40 = .ok (.getfield 34, 3) := dw180 (n := 32) (i := 8) (a := 0) (b := 34) kc_cX11_papersIn_1 (by decide +kernel) (by decide)
theorem dX11_papersIn_43 : decode cX11_papersIn 43 = .ok (.bipush 40, 2) := dw16 (n := 32) (i := 11) (a := 40) kc_cX11_papersIn_1 (by decide +kernel) (by decide)
theorem dX11_papersIn_45 : decode cX11_papersIn 45 = .ok (.iload_n 1, 1) := dw27 (n := 32) (i := 13) kc_cX11_papersIn_1 (by decide +kernel)
theorem dX11_papersIn_46 : decode cX11_papersIn 46 = .ok (.imul, 1) := dw104 (n := 32) (i := 14) kc_cX11_papersIn_1 (by decide +kernel)
theorem dX11_papersIn_47 : decode cX11_papersIn 47 = .ok (.iload_n 3, 1) := dw29 (n := 32) (i := 15) kc_cX11_papersIn_1 (by decide +kernel)
theorem dX11_papersIn_48 : decode cX11_papersIn 48 = .ok (.iadd, 1) := dw96 (n := 32) (i := 16) kc_cX11_papersIn_1 (by decide +kernel)
theorem dX11_papersIn_49 : decode cX11_papersIn 49 = .ok (.iaload, 1) := dw46 (n := 32) (i := 17) kc_cX11_papersIn_1 (by decide +kernel)
theorem dX11_papersIn_50 : decode cX11_papersIn 50 = .ok (.iaload, 1) := dw46 (n := 32) (i := 18) kc_cX11_papersIn_1 (by decide +kernel)
theorem dX11_papersIn_51 : decode cX11_papersIn 51 = .ok (.iadd, 1) := dw96 (n := 32) (i := 19) kc_cX11_papersIn_1 (by decide +kernel)
theorem dX11_papersIn_52 : decode cX11_papersIn 52 = .ok (.istore_n 2, 1) := dw61 (n := 32) (i := 20) kc_cX11_papersIn_1 (by decide +kernel)
theorem dX11_papersIn_53 : decode cX11_papersIn 53 = .ok (.iinc 3 1, 3) := by decide +kernel
theorem dX11_papersIn_56 : decode cX11_papersIn 56 = .ok (.goto (-52), 3) := dw167 (n := 32) (i := 24) (a := 255) (b := 204) kc_cX11_papersIn_1 (by decide +kernel) (by decide)
theorem dX11_papersIn_31 : decode cX11_papersIn 31 = .ok (.iconst 0, 1) := dw3 (n := 0) (i := 31) kc_cX11_papersIn_0 (by decide +kernel)
theorem dX11_papersIn_32 : decode cX11_papersIn 32 = .ok (.goto 19, 3) := dw167 (n := 32) (i := 0) (a := 0) (b := 19) kc_cX11_papersIn_1 (by decide +kernel) (by decide)
set_option maxHeartbeats 4000000 in
set_option maxRecDepth 100000 in
theorem s_X11_papersIn (l : Launch) (D : va_G) (ad : Nat → Nat) (cs : Nat → ClassId) (M : MI) (L : ML) (x : Int32) (hI : IR M) (hx : hasX (vR M) x) : Ci l yX11_papersIn wsX11_papersIn ({ frames := 0, cells := 0, slots := 0, locals := 0 }) D ad cs [.ref (ad 258), .int x] M L (fun r M1 L1 => M1 = M ∧ L1 = L ∧ (r = sumP (vR M) (x.toNatClampNeg) ((vR M 7 (x.toNatClampNeg)).toNatClampNeg) ∧ (0 ≤ r.toInt ∧ r.toInt ≤ 4000000))) := by
  refine enter_i RX11 rfl [(0, .ref (ad 258)), (1, .int x)] rfl (Nat.le_of_ble_eq_true rfl) (by decide +kernel) rfl ?_
  intro p e s m below meth c C hr
  have hF : ∀ k i, True → M k i = M k i := fun _ _ _ => rfl
  have hG : ∀ k i, True → L k i = L k i := fun _ _ _ => rfl
  have w0 : (vR M 0 0).toInt = (M 258 2).toInt := rfl
  have w1 : (vR M 0 1).toInt = (M 258 4).toInt := rfl
  have w2 : (vR M 0 2).toInt = (M 258 9).toInt := rfl
  have w3 : (vR M 0 3).toInt = (M 258 14).toInt := rfl
  obtain ⟨y0a, y0b⟩ := (show rg 0 10 (M 258 2) from hI 258 2)
  obtain ⟨y1a, y1b⟩ := (show rg 0 60 (M 258 4) from hI 258 4)
  obtain ⟨y2a, y2b⟩ := (show rg 0 8 (M 258 9) from hI 258 9)
  obtain ⟨y3a, y3b⟩ := (show rg 0 20 (M 258 14) from hI 258 14)
  obtain ⟨hx1, hx2⟩ := hx
  obtain ⟨sa, sb⟩ := (show rg 0 40 (vR M 7 x.toNatClampNeg) from hI 266 _)
  have ns := ixn (x := vR M 7 x.toNatClampNeg) sa
  have nx := ixn (x := x) (by omega)
  refine g_iconst C 0 dX11_papersIn_0 (by decide) ?_
  refine g_istore_n C [(2, .int 0), (0, .ref (ad 258)), (1, .int x)] dX11_papersIn_1 (by decide) rfl ?_
  refine g_iconst C 0 dX11_papersIn_2 (by decide) ?_
  refine g_istore_n C [(3, .int 0), (2, .int 0), (0, .ref (ad 258)), (1, .int x)] dX11_papersIn_3 (by decide) rfl ?_
  have zy1 : (0 : Int32).toInt = 0 := by decide
  have zy2 : (0 : Int32).toInt = 0 := by decide
  refine g_loop (α := Int32 × Int32 × MI × ML) (fun a => (41 - a.1.toInt).toNat) (fun a => (0 ≤ a.1.toInt) ∧ (a.1.toInt ≤ (vR M 7 (x.toNatClampNeg)).toInt) ∧ (a.2.1 = sumP (vR M) (x.toNatClampNeg) (a.1.toNatClampNeg)) ∧ (0 ≤ a.2.1.toInt) ∧ (a.2.1.toInt ≤ 100000 * a.1.toInt) ∧ IR a.2.2.1 ∧ (∀ k i, True → a.2.2.1 k i = M k i) ∧ (∀ k i, True → a.2.2.2 k i = L k i)) (fun a => a.2.2.1) (fun a => a.2.2.2) (fun a => [(3, .int a.1), (2, .int a.2.1), (0, .ref (ad 258)), (1, .int x)]) ((0 : Int32), (0 : Int32), M, L) ⟨by show 0 ≤ (0 : Int32).toInt; omega, by show (0 : Int32).toInt ≤ (vR M 7 (x.toNatClampNeg)).toInt; omega, by show (0 : Int32) = sumP (vR M) (x.toNatClampNeg) ((0 : Int32).toNatClampNeg); rfl, by show 0 ≤ (0 : Int32).toInt; omega, by show (0 : Int32).toInt ≤ 100000 * (0 : Int32).toInt; omega, hI, hF, hG⟩ rfl rfl rfl ?_
  rintro ⟨x3_4, x2_4, M_4, L_4⟩ ⟨j4_0, j4_1, j4_2, j4_3, j4_4, hI, hF, hG⟩ ih_4
  dsimp only at j4_0 j4_1 j4_2 j4_3 j4_4 hI hF hG ih_4 ⊢
  have n3 := ixn (x := x3_4) (by omega)
  refine g_iload_n C 0 dX11_papersIn_4 rfl ?_
  refine g_aload_n C 2 dX11_papersIn_5 rfl ?_
  refine g_get C (.ref (ad 266)) 11 in_X11_papersIn_11 (List.mem_of_getElem? (i := 1) rfl) (by decide) (ce_model ad cs _ _) rfl (by decide) rfl rfl dX11_papersIn_6 ?_
  refine g_iload_n C 3 dX11_papersIn_9 rfl ?_
  refine g_iald C (by decide) (ce_m_boxSize ad cs _ _) (fin' (n := 8) rfl (by omega) (by omega)) dX11_papersIn_10 ?_
  refine g_ni (fun v3 ev3 => ?_)
  have gv3 : v3 = vR M 7 x.toNatClampNeg := ev3.trans (hF 266 x.toNatClampNeg trivial)
  have tv3 := congrArg Int32.toInt gv3
  obtain ⟨bv3, dv3⟩ := (show rg 0 40 v3 from (by rw [ev3]; exact hI 266 x.toNatClampNeg))
  refine g_icmp_ge C 59 dX11_papersIn_11 (by decide) (fun c4 => ?_) (fun c4 => ?_)
  ·
    have f5 := fle rfl rfl c4
    refine g_iload_n C 1 dX11_papersIn_59 rfl ?_
    exact g_iret C hr ⟨funext (fun k => funext (fun i => hF k i trivial)), funext (fun k => funext (fun i => hG k i trivial)), ⟨by rw [j4_2, show x3_4.toNatClampNeg = (vR M 7 x.toNatClampNeg).toNatClampNeg by omega], by omega, by omega⟩⟩ dX11_papersIn_60
  ·
    have f6 := fnle rfl rfl c4
    refine g_iload_n C 1 dX11_papersIn_14 rfl ?_
    refine g_aload_n C 2 dX11_papersIn_15 rfl ?_
    refine g_get C (.ref (ad 267)) 12 in_X11_papersIn_11 (List.mem_of_getElem? (i := 2) rfl) (by decide) (ce_model ad cs _ _) rfl (by decide) rfl rfl dX11_papersIn_16 ?_
    refine g_bipush C 40 dX11_papersIn_19 (by decide) ?_
    refine g_iload_n C 3 dX11_papersIn_21 rfl ?_
    refine g_imul C dX11_papersIn_22 ?_
    refine g_ni (fun v7 ev7 => ?_)
    try have fv7 := fmul (by decide : (40 : Int32).toInt = 40) rfl ev7 (by omega) (by omega)
    refine g_iload_n C 0 dX11_papersIn_23 rfl ?_
    refine g_iadd C dX11_papersIn_24 ?_
    refine g_ni (fun v8 ev8 => ?_)
    try have fv8 := fadd rfl rfl ev8 (by omega) (by omega)
    refine g_iald C (by decide) (ce_m_boxed ad cs _ _) (fin' (n := 320) rfl (by omega) (by omega)) dX11_papersIn_25 ?_
    have nx := ixn (x := x) (by omega)
    have nx3_4 := ixn (x := x3_4) (by omega)
    have nv8 := ixn (x := v8) (by omega)
    have iv8 : v8.toNatClampNeg = 40 * x.toNatClampNeg + x3_4.toNatClampNeg := by omega
    refine g_ni (fun v9 ev9 => ?_)
    have gv9 : v9 = M 267 v8.toNatClampNeg := ev9.trans (hF 267 v8.toNatClampNeg trivial)
    have gv9 := cg1 (f := M 267) gv9 iv8
    have gv9 := gv9.trans (vR8 (M := M) (by omega)).symm
    have tv9 := congrArg Int32.toInt gv9
    have bv9 : bxd v9 := (by rw [ev9]; exact hI 267 v8.toNatClampNeg)
    unfold bxd at bv9
    refine g_bipush C (-9) dX11_papersIn_26 (by decide) ?_
    refine g_icmp_ne C 35 dX11_papersIn_28 (by decide) (fun c10 => ?_) (fun c10 => ?_)
    ·
      have f11 := fne rfl (by decide : ((-9) : Int32).toInt = (-9)) c10
      refine g_aload_n C 2 dX11_papersIn_35 rfl ?_
      refine g_get C (.ref (ad 262)) 6 in_X11_papersIn_11 (List.mem_of_getElem? (i := 3) rfl) (by decide) (ce_model ad cs _ _) rfl (by decide) rfl rfl dX11_papersIn_36 ?_
      refine g_aload_n C 2 dX11_papersIn_39 rfl ?_
      refine g_get C (.ref (ad 267)) 12 in_X11_papersIn_11 (List.mem_of_getElem? (i := 2) rfl) (by decide) (ce_model ad cs _ _) rfl (by decide) rfl rfl dX11_papersIn_40 ?_
      refine g_bipush C 40 dX11_papersIn_43 (by decide) ?_
      refine g_iload_n C 3 dX11_papersIn_45 rfl ?_
      refine g_imul C dX11_papersIn_46 ?_
      refine g_ni (fun v12 ev12 => ?_)
      try have fv12 := fmul (by decide : (40 : Int32).toInt = 40) rfl ev12 (by omega) (by omega)
      refine g_iload_n C 0 dX11_papersIn_47 rfl ?_
      refine g_iadd C dX11_papersIn_48 ?_
      refine g_ni (fun v13 ev13 => ?_)
      try have fv13 := fadd rfl rfl ev13 (by omega) (by omega)
      refine g_iald C (by decide) (ce_m_boxed ad cs _ _) (fin' (n := 320) rfl (by omega) (by omega)) dX11_papersIn_49 ?_
      have nx := ixn (x := x) (by omega)
      have nx3_4 := ixn (x := x3_4) (by omega)
      have nv13 := ixn (x := v13) (by omega)
      have iv13 : v13.toNatClampNeg = 40 * x.toNatClampNeg + x3_4.toNatClampNeg := by omega
      refine g_ni (fun v14 ev14 => ?_)
      have gv14 : v14 = M 267 v13.toNatClampNeg := ev14.trans (hF 267 v13.toNatClampNeg trivial)
      have gv14 := cg1 (f := M 267) gv14 iv13
      have gv14 := gv14.trans (vR8 (M := M) (by omega)).symm
      have tv14 := congrArg Int32.toInt gv14
      have bv14 : bxd v14 := (by rw [ev14]; exact hI 267 v13.toNatClampNeg)
      unfold bxd at bv14
      refine g_iald C (by decide) (ce_m_papersOf ad cs _ _) (fin' (n := 60) rfl (by omega) (by omega)) dX11_papersIn_50 ?_
      refine g_ni (fun v15 ev15 => ?_)
      have gv15 : v15 = vR M 3 v14.toNatClampNeg := ev15.trans (hF 262 v14.toNatClampNeg trivial)
      have tv15 := congrArg Int32.toInt gv15
      obtain ⟨bv15, dv15⟩ := (show rg 0 100000 v15 from (by rw [ev15]; exact hI 262 v14.toNatClampNeg))
      refine g_iadd C dX11_papersIn_51 ?_
      refine g_ni (fun v16 ev16 => ?_)
      try have fv16 := fadd rfl rfl ev16 (by omega) (by omega)
      refine g_istore_n C [(2, .int v16), (3, .int x3_4), (0, .ref (ad 258)), (1, .int x)] dX11_papersIn_52 (by decide) rfl ?_
      obtain ⟨v17, ev17⟩ : ∃ y : Int32, y = x3_4 + 1 := ⟨_, rfl⟩
      try have fv17 := fadd rfl (by decide : (1 : Int32).toInt = 1) ev17 (by omega) (by omega)
      refine g_iinc C 1 v17 [(3, .int v17), (2, .int v16), (0, .ref (ad 258)), (1, .int x)] dX11_papersIn_53 rfl (by rw [ev17]; rfl) (by decide) rfl ?_
      refine g_goto C 4 dX11_papersIn_56 (by decide) ?_
      have nv := ixn (x := v17) (by omega)
      have iv : v17.toNatClampNeg = x3_4.toNatClampNeg + 1 := by omega
      exact ih_4 (v17, v16, M_4, L_4) ⟨by show 0 ≤ v17.toInt; omega, by show v17.toInt ≤ (vR M 7 (x.toNatClampNeg)).toInt; omega, by show v16 = sumP (vR M) (x.toNatClampNeg) (v17.toNatClampNeg); rw [iv]; show _ = sumP (vR M) x.toNatClampNeg x3_4.toNatClampNeg + (if (vR M 8 (40 * x.toNatClampNeg + x3_4.toNatClampNeg)).toInt = -9 then 0 else vR M 3 (vR M 8 (40 * x.toNatClampNeg + x3_4.toNatClampNeg)).toNatClampNeg); rw [← j4_2]; first | (rw [if_pos (by omega)]; first | done | (simp only [ev16, gv15, gv14, ev13, ev12, gv9, ev8, ev7, gv3]; done) | (simp only [ev16, gv15, gv14, ev13, ev12, gv9, ev8, ev7, gv3]; rfl)) | (rw [if_neg (by omega)]; first | done | (simp only [ev16, gv15, gv14, ev13, ev12, gv9, ev8, ev7, gv3]; done) | (simp only [ev16, gv15, gv14, ev13, ev12, gv9, ev8, ev7, gv3]; rfl)), by show 0 ≤ v16.toInt; omega, by show v16.toInt ≤ 100000 * v17.toInt; omega, hI, hF, hG⟩ (by show (41 - v17.toInt).toNat < (41 - x3_4.toInt).toNat; omega)
    ·
      have f18 := feq rfl (by decide : ((-9) : Int32).toInt = (-9)) c10
      refine g_iconst C 0 dX11_papersIn_31 (by decide) ?_
      refine g_goto C 51 dX11_papersIn_32 (by decide) ?_
      refine g_iadd C dX11_papersIn_51 ?_
      refine g_ni (fun v19 ev19 => ?_)
      try have fv19 := fadd rfl (by decide : (0 : Int32).toInt = 0) ev19 (by omega) (by omega)
      refine g_istore_n C [(2, .int v19), (3, .int x3_4), (0, .ref (ad 258)), (1, .int x)] dX11_papersIn_52 (by decide) rfl ?_
      obtain ⟨v20, ev20⟩ : ∃ y : Int32, y = x3_4 + 1 := ⟨_, rfl⟩
      try have fv20 := fadd rfl (by decide : (1 : Int32).toInt = 1) ev20 (by omega) (by omega)
      refine g_iinc C 1 v20 [(3, .int v20), (2, .int v19), (0, .ref (ad 258)), (1, .int x)] dX11_papersIn_53 rfl (by rw [ev20]; rfl) (by decide) rfl ?_
      refine g_goto C 4 dX11_papersIn_56 (by decide) ?_
      have nv := ixn (x := v20) (by omega)
      have iv : v20.toNatClampNeg = x3_4.toNatClampNeg + 1 := by omega
      exact ih_4 (v20, v19, M_4, L_4) ⟨by show 0 ≤ v20.toInt; omega, by show v20.toInt ≤ (vR M 7 (x.toNatClampNeg)).toInt; omega, by show v19 = sumP (vR M) (x.toNatClampNeg) (v20.toNatClampNeg); rw [iv]; show _ = sumP (vR M) x.toNatClampNeg x3_4.toNatClampNeg + (if (vR M 8 (40 * x.toNatClampNeg + x3_4.toNatClampNeg)).toInt = -9 then 0 else vR M 3 (vR M 8 (40 * x.toNatClampNeg + x3_4.toNatClampNeg)).toNatClampNeg); rw [← j4_2]; first | (rw [if_pos (by omega)]; first | done | (simp only [ev19, gv9, ev8, ev7, gv3]; done) | (simp only [ev19, gv9, ev8, ev7, gv3]; rfl)) | (rw [if_neg (by omega)]; first | done | (simp only [ev19, gv9, ev8, ev7, gv3]; done) | (simp only [ev19, gv9, ev8, ev7, gv3]; rfl)), by show 0 ≤ v19.toInt; omega, by show v19.toInt ≤ 100000 * v20.toInt; omega, hI, hF, hG⟩ (by show (41 - v20.toInt).toNat < (41 - x3_4.toInt).toNat; omega)
theorem dX11_share_0 : decode cX11_share 0 = .ok (.aload_n 0, 1) := dw42 (n := 0) (i := 0) kc_cX11_share_0 (by decide +kernel)
theorem dX11_share_1 : decode cX11_share 1 = .ok (.iload_n 1, 1) := dw27 (n := 0) (i := 1) kc_cX11_share_0 (by decide +kernel)
theorem dX11_share_2 : decode cX11_share 2 = .ok (.invokevirtual 166, 3) := dw182 (n := 0) (i := 2) (a := 0) (b := 166) kc_cX11_share_0 (by decide +kernel) (by decide)
set_option maxRecDepth 20000 in
theorem ggX11_share_X11_isBox : GoodIn wsX11_share wsX11_isBox := (gk_code 7 rfl (gk_fieldLink 8 rfl (gk_methodLink 9 rfl (gk_static 10 rfl (gk_initialized 6 rfl (gk_code 11 rfl (gk_lays 27 rfl (gk_laysFinal 28 rfl (gk_lays 29 rfl (gk_laysFinal 30 rfl (gk_lays 31 rfl (gk_laysFinal 32 rfl (gk_laysFinal 33 rfl (gk_laysFinal 34 rfl (gk_laysFinal 35 rfl (gk_lays 36 rfl (gk_laysFinal 37 rfl (gk_laysFinal 38 rfl (gk_laysFinal 39 rfl (gk_laysFinal 40 rfl (gk_lays 41 rfl (gk_laysFinal 42 rfl (gk_laysFinal 43 rfl (gk_laysFinal 44 rfl (gk_laysFinal 45 rfl (gk_laysFinal 46 rfl (gk_laysFinal 47 rfl (gk_laysFinal 48 rfl (gk_laysFinal 49 rfl (gk_lays 50 rfl (gk_lays 51 rfl (gk_lays 52 rfl (gk_lays 53 rfl (gk_lays 54 rfl (gk_lays 55 rfl (gk_lays 56 rfl (gk_laysFinal 57 rfl (gk_lays 58 rfl (gk_laysFinal 59 rfl (gk_laysFinal 60 rfl (gk_laysFinal 61 rfl (gk_laysFinal 62 rfl (gk_laysFinal 63 rfl (gk_laysFinal 64 rfl (gk_laysFinal 65 rfl (gk_laysFinal 66 rfl (gk_laysFinal 67 rfl (gk_laysFinal 68 rfl (gk_lays 69 rfl (gk_laysFinal 70 rfl (gk_lays 71 rfl (gk_laysFinal 72 rfl (gk_laysFinal 73 rfl (gk_laysFinal 74 rfl (gk_laysFinal 75 rfl (gk_laysFinal 76 rfl (gk_laysFinal 77 rfl (gk_laysFinal 78 rfl (gk_laysFinal 79 rfl (gn))))))))))))))))))))))))))))))))))))))))))))))))))))))))))))
set_option maxRecDepth 20000 in
theorem gX11_share_X11_isBox : GoodIn wsX11_share (wsV RX11 166 RX11 yX11_isBox wsX11_isBox) := goodIn_app (gk_methodLink 3 rfl (gk_instanceMethod 4 rfl (gk_selects 5 rfl (gk_initialized 6 rfl (gn))))) ggX11_share_X11_isBox
theorem dX11_share_5 : decode cX11_share 5 = .ok (.ifCond .ne 5, 3) := dw154 (n := 0) (i := 5) (a := 0) (b := 5) kc_cX11_share_0 (by decide +kernel) (by decide)
theorem dX11_share_10 : decode cX11_share 10 = .ok (.aload_n 0, 1) := dw42 (n := 0) (i := 10) kc_cX11_share_0 (by decide +kernel)
theorem dX11_share_11 : decode cX11_share 11 = .ok (.iload_n 1, 1) := dw27 (n := 0) (i := 11) kc_cX11_share_0 (by decide +kernel)
theorem dX11_share_12 : decode cX11_share 12 = .ok (.iload_n 2, 1) := dw28 (n := 0) (i := 12) kc_cX11_share_0 (by decide +kernel)
theorem dX11_share_13 : decode cX11_share 13 = .ok (.invokevirtual 169, 3) := dw182 (n := 0) (i := 13) (a := 0) (b := 169) kc_cX11_share_0 (by decide +kernel) (by decide)
set_option maxRecDepth 20000 in
theorem ggX11_share_X11_lacks : GoodIn wsX11_share wsX11_lacks := (gk_code 15 rfl (gk_fieldLink 16 rfl (gk_fieldLink 2 rfl (gk_methodLink 9 rfl (gk_static 10 rfl (gk_initialized 6 rfl (gk_code 11 rfl (gk_lays 27 rfl (gk_laysFinal 28 rfl (gk_lays 29 rfl (gk_laysFinal 30 rfl (gk_lays 31 rfl (gk_laysFinal 32 rfl (gk_laysFinal 33 rfl (gk_laysFinal 34 rfl (gk_laysFinal 35 rfl (gk_lays 36 rfl (gk_laysFinal 37 rfl (gk_laysFinal 38 rfl (gk_laysFinal 39 rfl (gk_laysFinal 40 rfl (gk_lays 41 rfl (gk_laysFinal 42 rfl (gk_laysFinal 43 rfl (gk_laysFinal 44 rfl (gk_laysFinal 45 rfl (gk_laysFinal 46 rfl (gk_laysFinal 47 rfl (gk_laysFinal 48 rfl (gk_laysFinal 49 rfl (gk_lays 50 rfl (gk_lays 51 rfl (gk_lays 52 rfl (gk_lays 53 rfl (gk_lays 54 rfl (gk_lays 55 rfl (gk_lays 56 rfl (gk_laysFinal 57 rfl (gk_lays 58 rfl (gk_laysFinal 59 rfl (gk_laysFinal 60 rfl (gk_laysFinal 61 rfl (gk_laysFinal 62 rfl (gk_laysFinal 63 rfl (gk_laysFinal 64 rfl (gk_laysFinal 65 rfl (gk_laysFinal 66 rfl (gk_laysFinal 67 rfl (gk_laysFinal 68 rfl (gk_lays 69 rfl (gk_laysFinal 70 rfl (gk_lays 71 rfl (gk_laysFinal 72 rfl (gk_laysFinal 73 rfl (gk_laysFinal 74 rfl (gk_laysFinal 75 rfl (gk_laysFinal 76 rfl (gk_laysFinal 77 rfl (gk_laysFinal 78 rfl (gk_laysFinal 79 rfl (gn)))))))))))))))))))))))))))))))))))))))))))))))))))))))))))))
set_option maxRecDepth 20000 in
theorem gX11_share_X11_lacks : GoodIn wsX11_share (wsV RX11 169 RX11 yX11_lacks wsX11_lacks) := goodIn_app (gk_methodLink 12 rfl (gk_instanceMethod 13 rfl (gk_selects 14 rfl (gk_initialized 6 rfl (gn))))) ggX11_share_X11_lacks
theorem dX11_share_16 : decode cX11_share 16 = .ok (.istore_n 3, 1) := dw62 (n := 0) (i := 16) kc_cX11_share_0 (by decide +kernel)
theorem dX11_share_17 : decode cX11_share 17 = .ok (.iload_n 3, 1) := dw29 (n := 0) (i := 17) kc_cX11_share_0 (by decide +kernel)
theorem dX11_share_18 : decode cX11_share 18 = .ok (.ifCond .le 11, 3) := dw158 (n := 0) (i := 18) (a := 0) (b := 11) kc_cX11_share_0 (by decide +kernel) (by decide)
theorem dX11_share_29 : decode cX11_share 29 = .ok (.sipush 1000, 3) := dw17 (n := 0) (i := 29) (a := 3) (b := 232) kc_cX11_share_0 (by decide +kernel) (by decide)
theorem dX11_share_32 : decode cX11_share 32 = .ok (.aload_n 0, 1) := dw42 (n := 32) (i := 0) kc_cX11_share_1 (by decide +kernel)
theorem dX11_share_33 : decode cX11_share 33 = .ok (.getfield 19, 3) := dw180 (n := 32) (i := 1) (a := 0) (b := 19) kc_cX11_share_1 (by decide +kernel) (by decide)
theorem in_X11_share_11 : ∀ w ∈ u_ws RX11 TX11 53, w ∈ wsX11_share := fun _ h => List.mem_cons_of_mem _ (List.mem_append_right _ h)
theorem dX11_share_36 : decode cX11_share 36 = .ok (.aload_n 0, 1) := dw42 (n := 32) (i := 4) kc_cX11_share_1 (by decide +kernel)
theorem dX11_share_37 : decode cX11_share 37 = .ok (.getfield 34, 3) := dw180 (n := 32) (i := 5) (a := 0) (b := 34) kc_cX11_share_1 (by decide +kernel) (by decide)
theorem dX11_share_40 : decode cX11_share 40 = .ok (.bipush 40, 2) := dw16 (n := 32) (i := 8) (a := 40) kc_cX11_share_1 (by decide +kernel) (by decide)
theorem dX11_share_42 : decode cX11_share 42 = .ok (.iload_n 1, 1) := dw27 (n := 32) (i := 10) kc_cX11_share_1 (by decide +kernel)
theorem dX11_share_43 : decode cX11_share 43 = .ok (.imul, 1) := dw104 (n := 32) (i := 11) kc_cX11_share_1 (by decide +kernel)
theorem dX11_share_44 : decode cX11_share 44 = .ok (.iload_n 2, 1) := dw28 (n := 32) (i := 12) kc_cX11_share_1 (by decide +kernel)
theorem dX11_share_45 : decode cX11_share 45 = .ok (.iadd, 1) := dw96 (n := 32) (i := 13) kc_cX11_share_1 (by decide +kernel)
theorem dX11_share_46 : decode cX11_share 46 = .ok (.iaload, 1) := dw46 (n := 32) (i := 14) kc_cX11_share_1 (by decide +kernel)
theorem dX11_share_47 : decode cX11_share 47 = .ok (.iaload, 1) := dw46 (n := 32) (i := 15) kc_cX11_share_1 (by decide +kernel)
theorem dX11_share_48 : decode cX11_share 48 = .ok (.imul, 1) := dw104 (n := 32) (i := 16) kc_cX11_share_1 (by decide +kernel)
theorem dX11_share_49 : decode cX11_share 49 = .ok (.aload_n 0, 1) := dw42 (n := 32) (i := 17) kc_cX11_share_1 (by decide +kernel)
theorem dX11_share_50 : decode cX11_share 50 = .ok (.iload_n 1, 1) := dw27 (n := 32) (i := 18) kc_cX11_share_1 (by decide +kernel)
theorem dX11_share_51 : decode cX11_share 51 = .ok (.invokevirtual 172, 3) := dw182 (n := 32) (i := 19) (a := 0) (b := 172) kc_cX11_share_1 (by decide +kernel) (by decide)
set_option maxRecDepth 20000 in
theorem ggX11_share_X11_papersIn : GoodIn wsX11_share wsX11_papersIn := (gk_code 26 rfl (gk_fieldLink 16 rfl (gk_fieldLink 2 rfl (gk_fieldLink 1 rfl (gk_lays 27 rfl (gk_laysFinal 28 rfl (gk_lays 29 rfl (gk_laysFinal 30 rfl (gk_lays 31 rfl (gk_laysFinal 32 rfl (gk_laysFinal 33 rfl (gk_laysFinal 34 rfl (gk_laysFinal 35 rfl (gk_lays 36 rfl (gk_laysFinal 37 rfl (gk_laysFinal 38 rfl (gk_laysFinal 39 rfl (gk_laysFinal 40 rfl (gk_lays 41 rfl (gk_laysFinal 42 rfl (gk_laysFinal 43 rfl (gk_laysFinal 44 rfl (gk_laysFinal 45 rfl (gk_laysFinal 46 rfl (gk_laysFinal 47 rfl (gk_laysFinal 48 rfl (gk_laysFinal 49 rfl (gk_lays 50 rfl (gk_lays 51 rfl (gk_lays 52 rfl (gk_lays 53 rfl (gk_lays 54 rfl (gk_lays 55 rfl (gk_lays 56 rfl (gk_laysFinal 57 rfl (gk_lays 58 rfl (gk_laysFinal 59 rfl (gk_laysFinal 60 rfl (gk_laysFinal 61 rfl (gk_laysFinal 62 rfl (gk_laysFinal 63 rfl (gk_laysFinal 64 rfl (gk_laysFinal 65 rfl (gk_laysFinal 66 rfl (gk_laysFinal 67 rfl (gk_laysFinal 68 rfl (gk_lays 69 rfl (gk_laysFinal 70 rfl (gk_lays 71 rfl (gk_laysFinal 72 rfl (gk_laysFinal 73 rfl (gk_laysFinal 74 rfl (gk_laysFinal 75 rfl (gk_laysFinal 76 rfl (gk_laysFinal 77 rfl (gk_laysFinal 78 rfl (gk_laysFinal 79 rfl (gn))))))))))))))))))))))))))))))))))))))))))))))))))))))))))
set_option maxRecDepth 20000 in
theorem gX11_share_X11_papersIn : GoodIn wsX11_share (wsV RX11 172 RX11 yX11_papersIn wsX11_papersIn) := goodIn_app (gk_methodLink 23 rfl (gk_instanceMethod 24 rfl (gk_selects 25 rfl (gk_initialized 6 rfl (gn))))) ggX11_share_X11_papersIn
theorem dX11_share_54 : decode cX11_share 54 = .ok (.idiv, 1) := dw108 (n := 32) (i := 22) kc_cX11_share_1 (by decide +kernel)
theorem dX11_share_55 : decode cX11_share 55 = .ok (.ireturn, 1) := dw172 (n := 32) (i := 23) kc_cX11_share_1 (by decide +kernel)
theorem dX11_share_21 : decode cX11_share 21 = .ok (.aload_n 0, 1) := dw42 (n := 0) (i := 21) kc_cX11_share_0 (by decide +kernel)
theorem dX11_share_22 : decode cX11_share 22 = .ok (.iload_n 3, 1) := dw29 (n := 0) (i := 22) kc_cX11_share_0 (by decide +kernel)
theorem dX11_share_23 : decode cX11_share 23 = .ok (.invokevirtual 155, 3) := dw182 (n := 0) (i := 23) (a := 0) (b := 155) kc_cX11_share_0 (by decide +kernel) (by decide)
set_option maxRecDepth 20000 in
theorem ggX11_share_X11_meets : GoodIn wsX11_share wsX11_meets := (gk_code 20 rfl (gk_fieldLink 21 rfl (gk_fieldLink 22 rfl (gk_lays 27 rfl (gk_laysFinal 28 rfl (gk_lays 29 rfl (gk_laysFinal 30 rfl (gk_lays 31 rfl (gk_laysFinal 32 rfl (gk_laysFinal 33 rfl (gk_laysFinal 34 rfl (gk_laysFinal 35 rfl (gk_lays 36 rfl (gk_laysFinal 37 rfl (gk_laysFinal 38 rfl (gk_laysFinal 39 rfl (gk_laysFinal 40 rfl (gk_lays 41 rfl (gk_laysFinal 42 rfl (gk_laysFinal 43 rfl (gk_laysFinal 44 rfl (gk_laysFinal 45 rfl (gk_laysFinal 46 rfl (gk_laysFinal 47 rfl (gk_laysFinal 48 rfl (gk_laysFinal 49 rfl (gk_lays 50 rfl (gk_lays 51 rfl (gk_lays 52 rfl (gk_lays 53 rfl (gk_lays 54 rfl (gk_lays 55 rfl (gk_lays 56 rfl (gk_laysFinal 57 rfl (gk_lays 58 rfl (gk_laysFinal 59 rfl (gk_laysFinal 60 rfl (gk_laysFinal 61 rfl (gk_laysFinal 62 rfl (gk_laysFinal 63 rfl (gk_laysFinal 64 rfl (gk_laysFinal 65 rfl (gk_laysFinal 66 rfl (gk_laysFinal 67 rfl (gk_laysFinal 68 rfl (gk_lays 69 rfl (gk_laysFinal 70 rfl (gk_lays 71 rfl (gk_laysFinal 72 rfl (gk_laysFinal 73 rfl (gk_laysFinal 74 rfl (gk_laysFinal 75 rfl (gk_laysFinal 76 rfl (gk_laysFinal 77 rfl (gk_laysFinal 78 rfl (gk_laysFinal 79 rfl (gn)))))))))))))))))))))))))))))))))))))))))))))))))))))))))
set_option maxRecDepth 20000 in
theorem gX11_share_X11_meets : GoodIn wsX11_share (wsV RX11 155 RX11 yX11_meets wsX11_meets) := goodIn_app (gk_methodLink 17 rfl (gk_instanceMethod 18 rfl (gk_selects 19 rfl (gk_initialized 6 rfl (gn))))) ggX11_share_X11_meets
theorem dX11_share_26 : decode cX11_share 26 = .ok (.goto 29, 3) := dw167 (n := 0) (i := 26) (a := 0) (b := 29) kc_cX11_share_0 (by decide +kernel) (by decide)
theorem dX11_share_8 : decode cX11_share 8 = .ok (.iconst (-1), 1) := dw2 (n := 0) (i := 8) kc_cX11_share_0 (by decide +kernel)
theorem dX11_share_9 : decode cX11_share 9 = .ok (.ireturn, 1) := dw172 (n := 0) (i := 9) kc_cX11_share_0 (by decide +kernel)
set_option maxHeartbeats 4000000 in
set_option maxRecDepth 100000 in
theorem s_X11_share (l : Launch) (D : va_G) (ad : Nat → Nat) (cs : Nat → ClassId) (M : MI) (L : ML) (x : Int32) (y : Int32) (hI : IR M) (hS : hasX (vR M) x → (lacksV (vR M) x y).toInt = 0 → (sumP (vR M) (x.toNatClampNeg) ((vR M 7 (x.toNatClampNeg)).toNatClampNeg)).toInt ≠ 0) : Ci l yX11_share wsX11_share ({ frames := 2, cells := 0, slots := 0, locals := 44 }) D ad cs [.ref (ad 258), .int x, .int y] M L (fun r M1 L1 => (A_share (vR M) x y = (r, vR M1)) ∧ IR M1 ∧ (∀ k i, ¬ (k = 258 ∧ i = 0) ∧ k ≠ 259 → M1 k i = M k i) ∧ ∀ k i, True → L1 k i = L k i) := by
  refine enter_i RX11 rfl [(0, .ref (ad 258)), (1, .int x), (2, .int y)] rfl (Nat.le_of_ble_eq_true rfl) (by decide +kernel) rfl ?_
  intro p e s m below meth c C hr
  have hF : ∀ k i, ¬ (k = 258 ∧ i = 0) ∧ k ≠ 259 → M k i = M k i := fun _ _ _ => rfl
  have hG : ∀ k i, True → L k i = L k i := fun _ _ _ => rfl
  have w0 : (vR M 0 0).toInt = (M 258 2).toInt := rfl
  have w1 : (vR M 0 1).toInt = (M 258 4).toInt := rfl
  have w2 : (vR M 0 2).toInt = (M 258 9).toInt := rfl
  have w3 : (vR M 0 3).toInt = (M 258 14).toInt := rfl
  obtain ⟨y0a, y0b⟩ := (show rg 0 10 (M 258 2) from hI 258 2)
  obtain ⟨y1a, y1b⟩ := (show rg 0 60 (M 258 4) from hI 258 4)
  obtain ⟨y2a, y2b⟩ := (show rg 0 8 (M 258 9) from hI 258 9)
  obtain ⟨y3a, y3b⟩ := (show rg 0 20 (M 258 14) from hI 258 14)
  have sz : rg 0 40 (vR M 7 x.toNatClampNeg) := hI 266 _
  obtain ⟨sa, sb⟩ := sz
  have k0 : M 258 0 = vR M 0 4 := rfl
  have q259 : M 259 = M 259 := rfl
  have hV : vR M = vR M := rfl
  refine g_aload_n C 0 dX11_share_0 rfl ?_
  refine g_iload_n C 1 dX11_share_1 rfl ?_
  refine g_callVi C (n := 1) (As := [.int x]) (st := []) (s_X11_isBox l D ad cs _ _ x hI ) gX11_share_X11_isBox rfl rfl rfl (by decide +kernel) ⟨Nat.le_of_ble_eq_true rfl, Nat.le_of_ble_eq_true rfl⟩ rfl (Nat.le_of_ble_eq_true rfl) ⟨Nat.zero_le _, Nat.zero_le _⟩ (by decide) (ce_model ad cs _ _) rfl rfl dX11_share_2 (fun r1 M2 L3 hr1 => ?_)
  obtain ⟨hq1, hq2, hr1⟩ := hr1
  obtain rfl := hq1.symm
  obtain rfl := hq2.symm
  obtain ⟨bar1, bbr1⟩ := zo_b hr1
  refine g_if_ne C 10 dX11_share_5 (by decide) (fun c4 => ?_) (fun c4 => ?_)
  ·
    have f5 := fne rfl (by decide : (0 : Int32).toInt = 0) c4
    have pr1 := zo_t hr1 c4
    try dsimp only [hasC, hasB, hasX, hasM, ofS, ofK, bt] at pr1
    refine g_aload_n C 0 dX11_share_10 rfl ?_
    refine g_iload_n C 1 dX11_share_11 rfl ?_
    refine g_iload_n C 2 dX11_share_12 rfl ?_
    refine g_callVi C (n := 2) (As := [.int x, .int y]) (st := []) (s_X11_lacks l D ad cs _ _ x y hI ⟨by omega, by omega⟩) gX11_share_X11_lacks rfl rfl rfl (by decide +kernel) ⟨Nat.le_of_ble_eq_true rfl, Nat.le_of_ble_eq_true rfl⟩ rfl (Nat.le_of_ble_eq_true rfl) ⟨Nat.zero_le _, Nat.zero_le _⟩ (by decide) (ce_model ad cs _ _) rfl rfl dX11_share_13 (fun r6 M7 L8 hr6 => ?_)
    obtain ⟨hq1, hq2, hr6⟩ := hr6
    obtain rfl := hq1.symm
    obtain rfl := hq2.symm
    obtain ⟨hr6, bar6, bbr6⟩ := hr6
    have tr6 := congrArg Int32.toInt hr6
    refine g_istore_n C [(3, .int r6), (0, .ref (ad 258)), (1, .int x), (2, .int y)] dX11_share_16 (by decide) rfl ?_
    refine g_iload_n C 0 dX11_share_17 rfl ?_
    refine g_if_le C 29 dX11_share_18 (by decide) (fun c9 => ?_) (fun c9 => ?_)
    ·
      have f10 := fle rfl (by decide : (0 : Int32).toInt = 0) c9
      have hs := hS ⟨by omega, by omega⟩ (by omega)
      have hl : 0 ≤ y.toInt ∧ y.toInt < (vR M 7 x.toNatClampNeg).toInt ∧ ¬ (vR M 8 (40 * x.toNatClampNeg + y.toNatClampNeg)).toInt = -9 := lk0 (show (lacksV (vR M) x y).toInt = 0 by omega)
      refine g_sipush C 1000 dX11_share_29 (by decide) ?_
      refine g_aload_n C 1 dX11_share_32 rfl ?_
      refine g_get C (.ref (ad 262)) 6 in_X11_share_11 (List.mem_of_getElem? (i := 1) rfl) (by decide) (ce_model ad cs _ _) rfl (by decide) rfl rfl dX11_share_33 ?_
      refine g_aload_n C 1 dX11_share_36 rfl ?_
      refine g_get C (.ref (ad 267)) 12 in_X11_share_11 (List.mem_of_getElem? (i := 2) rfl) (by decide) (ce_model ad cs _ _) rfl (by decide) rfl rfl dX11_share_37 ?_
      refine g_bipush C 40 dX11_share_40 (by decide) ?_
      refine g_iload_n C 2 dX11_share_42 rfl ?_
      refine g_imul C dX11_share_43 ?_
      refine g_ni (fun v11 ev11 => ?_)
      try have fv11 := fmul (by decide : (40 : Int32).toInt = 40) rfl ev11 (by omega) (by omega)
      refine g_iload_n C 3 dX11_share_44 rfl ?_
      refine g_iadd C dX11_share_45 ?_
      refine g_ni (fun v12 ev12 => ?_)
      try have fv12 := fadd rfl rfl ev12 (by omega) (by omega)
      refine g_iald C (by decide) (ce_m_boxed ad cs _ _) (fin' (n := 320) rfl (by omega) (by omega)) dX11_share_46 ?_
      have nx := ixn (x := x) (by omega)
      have ny := ixn (x := y) (by omega)
      have nv12 := ixn (x := v12) (by omega)
      have iv12 : v12.toNatClampNeg = 40 * x.toNatClampNeg + y.toNatClampNeg := by omega
      refine g_ni (fun v13 ev13 => ?_)
      have gv13 : v13 = M 267 v12.toNatClampNeg := ev13
      have gv13 := cg1 (f := M 267) gv13 iv12
      have gv13 := gv13.trans (vR8 (M := M) (by omega)).symm
      have tv13 := congrArg Int32.toInt gv13
      have bv13 : bxd v13 := (by rw [ev13]; exact hI 267 v12.toNatClampNeg)
      unfold bxd at bv13
      refine g_iald C (by decide) (ce_m_papersOf ad cs _ _) (fin' (n := 60) rfl (by omega) (by omega)) dX11_share_47 ?_
      refine g_ni (fun v14 ev14 => ?_)
      have gv14 : v14 = vR M 3 v13.toNatClampNeg := ev14
      have tv14 := congrArg Int32.toInt gv14
      obtain ⟨bv14, dv14⟩ := (show rg 0 100000 v14 from (by rw [ev14]; exact hI 262 v13.toNatClampNeg))
      refine g_imul C dX11_share_48 ?_
      refine g_ni (fun v15 ev15 => ?_)
      try have fv15 := fmul (by decide : (1000 : Int32).toInt = 1000) rfl ev15 (by omega) (by omega)
      refine g_aload_n C 1 dX11_share_49 rfl ?_
      refine g_iload_n C 2 dX11_share_50 rfl ?_
      refine g_callVi C (n := 1) (As := [.int x]) (st := [.int v15]) (s_X11_papersIn l D ad cs _ _ x hI ⟨by omega, by omega⟩) gX11_share_X11_papersIn rfl rfl rfl (by decide +kernel) ⟨Nat.le_of_ble_eq_true rfl, Nat.le_of_ble_eq_true rfl⟩ rfl (Nat.le_of_ble_eq_true rfl) ⟨Nat.zero_le _, Nat.zero_le _⟩ (by decide) (ce_model ad cs _ _) rfl rfl dX11_share_51 (fun r16 M17 L18 hr16 => ?_)
      obtain ⟨hq1, hq2, hr16⟩ := hr16
      obtain rfl := hq1.symm
      obtain rfl := hq2.symm
      obtain ⟨hr16, bar16, bbr16⟩ := hr16
      have tr16 := congrArg Int32.toInt hr16
      refine g_idiv C dX11_share_54 (by intro h9; have h8 := congrArg Int32.toInt h9; have h7 : (0 : Int32).toInt = 0 := (by decide); omega) ?_
      refine g_ni (fun v19 ev19 => ?_)
      try have fv19 := idivI ev19 (by omega) (by omega)
      exact g_iret C hr ⟨(by dsimp only [A_share, hasC, hasB, hasX, hasM, ofS, ofK, bt, ix]; (repeat (first | rw [if_pos (by omega)] | rw [if_neg (by omega)])); first | done | rfl | (simp only [ev19, hr16, ev15, gv14, gv13, ev12, ev11, hr6]; done) | (simp only [ev19, hr16, ev15, gv14, gv13, ev12, ev11, hr6]; rfl) | (subst_vars; first | rfl | grind)), hI, hF, hG⟩ dX11_share_55
    ·
      have f20 := fnle rfl (by decide : (0 : Int32).toInt = 0) c9
      refine g_aload_n C 1 dX11_share_21 rfl ?_
      refine g_iload_n C 0 dX11_share_22 rfl ?_
      refine g_callVi C (n := 1) (As := [.int r6]) (st := []) (s_X11_meets l D ad cs _ _ r6 hI ⟨by first | omega | decide, by first | omega | decide⟩) gX11_share_X11_meets rfl rfl rfl (by decide +kernel) ⟨Nat.le_of_ble_eq_true rfl, Nat.le_of_ble_eq_true rfl⟩ rfl (Nat.le_of_ble_eq_true rfl) ⟨Nat.zero_le _, Nat.zero_le _⟩ (by decide) (ce_model ad cs _ _) rfl rfl dX11_share_23 (fun r21 M22 L23 hr21 => ?_)
      obtain ⟨hr21, hI, hFr21, hGr21⟩ := hr21
      have hF : ∀ k i, ¬ (k = 258 ∧ i = 0) ∧ k ≠ 259 → M22 k i = M k i := fun k i hk => by (rw [hFr21 k i (by omega)]; try exact hF k i hk)
      have hG : ∀ k i, True → L23 k i = L k i := fun k i hk => by (rw [hGr21 k i trivial]; try exact hG k i hk)
      have hV : vR M22 = meetsV (vR M) r6 := by rw [hr21.2, hV]
      have k0 : M22 258 0 = M22 258 0 := rfl
      have q259 : M22 259 = M22 259 := rfl
      refine g_goto C 55 dX11_share_26 (by decide) ?_
      exact g_iret C hr ⟨(by dsimp only [A_share, hasC, hasB, hasX, hasM, ofS, ofK, bt, ix]; (repeat (first | rw [if_pos (by omega)] | rw [if_neg (by omega)])); rw [hV]; first | done | rfl | (simp only [hr6]; done) | (simp only [hr6]; rfl) | (subst_vars; first | rfl | grind)), hI, hF, hG⟩ dX11_share_55
  ·
    have f24 := feq rfl (by decide : (0 : Int32).toInt = 0) c4
    have pr1 := zo_f hr1 c4
    try dsimp only [hasC, hasB, hasX, hasM, ofS, ofK, bt] at pr1
    refine g_iconst C (-1) dX11_share_8 (by decide) ?_
    have zr9 : ((-1) : Int32).toInt = (-1) := by decide
    exact g_iret C hr ⟨(by dsimp only [A_share, hasC, hasB, hasX, hasM, ofS, ofK, bt, ix]; (repeat (first | rw [if_pos (by omega)] | rw [if_neg (by omega)])); first | done | rfl | (simp only [ix]; done) | (simp only [ix]; rfl) | (subst_vars; first | rfl | grind)), hI, hF, hG⟩ dX11_share_9
theorem dX11_weight_0 : decode cX11_weight 0 = .ok (.aload_n 0, 1) := dw42 (n := 0) (i := 0) kc_cX11_weight_0 (by decide +kernel)
theorem dX11_weight_1 : decode cX11_weight 1 = .ok (.iload_n 1, 1) := dw27 (n := 0) (i := 1) kc_cX11_weight_0 (by decide +kernel)
theorem dX11_weight_2 : decode cX11_weight 2 = .ok (.invokevirtual 148, 3) := dw182 (n := 0) (i := 2) (a := 0) (b := 148) kc_cX11_weight_0 (by decide +kernel) (by decide)
set_option maxRecDepth 20000 in
theorem ggX11_weight_X11_isBallot : GoodIn wsX11_weight wsX11_isBallot := (gk_code 8 rfl (gk_fieldLink 9 rfl (gk_methodLink 10 rfl (gk_static 11 rfl (gk_initialized 7 rfl (gk_code 12 rfl (gk_lays 23 rfl (gk_laysFinal 24 rfl (gk_lays 25 rfl (gk_laysFinal 26 rfl (gk_lays 27 rfl (gk_laysFinal 28 rfl (gk_laysFinal 29 rfl (gk_laysFinal 30 rfl (gk_laysFinal 31 rfl (gk_lays 32 rfl (gk_laysFinal 33 rfl (gk_laysFinal 34 rfl (gk_laysFinal 35 rfl (gk_laysFinal 36 rfl (gk_lays 37 rfl (gk_laysFinal 38 rfl (gk_laysFinal 39 rfl (gk_laysFinal 40 rfl (gk_laysFinal 41 rfl (gk_laysFinal 42 rfl (gk_laysFinal 43 rfl (gk_laysFinal 44 rfl (gk_laysFinal 45 rfl (gk_lays 46 rfl (gk_lays 47 rfl (gk_lays 48 rfl (gk_lays 49 rfl (gk_lays 50 rfl (gk_lays 51 rfl (gk_lays 52 rfl (gk_laysFinal 53 rfl (gk_lays 54 rfl (gk_laysFinal 55 rfl (gk_laysFinal 56 rfl (gk_laysFinal 57 rfl (gk_laysFinal 58 rfl (gk_laysFinal 59 rfl (gk_laysFinal 60 rfl (gk_laysFinal 61 rfl (gk_laysFinal 62 rfl (gk_laysFinal 63 rfl (gk_laysFinal 64 rfl (gk_lays 65 rfl (gk_laysFinal 66 rfl (gk_lays 67 rfl (gk_laysFinal 68 rfl (gk_laysFinal 69 rfl (gk_laysFinal 70 rfl (gk_laysFinal 71 rfl (gk_laysFinal 72 rfl (gk_laysFinal 73 rfl (gk_laysFinal 74 rfl (gk_laysFinal 75 rfl (gn))))))))))))))))))))))))))))))))))))))))))))))))))))))))))))
set_option maxRecDepth 20000 in
theorem gX11_weight_X11_isBallot : GoodIn wsX11_weight (wsV RX11 148 RX11 yX11_isBallot wsX11_isBallot) := goodIn_app (gk_methodLink 4 rfl (gk_instanceMethod 5 rfl (gk_selects 6 rfl (gk_initialized 7 rfl (gn))))) ggX11_weight_X11_isBallot
theorem dX11_weight_5 : decode cX11_weight 5 = .ok (.ifCond .eq 11, 3) := dw153 (n := 0) (i := 5) (a := 0) (b := 11) kc_cX11_weight_0 (by decide +kernel) (by decide)
theorem dX11_weight_16 : decode cX11_weight 16 = .ok (.iconst (-1), 1) := dw2 (n := 0) (i := 16) kc_cX11_weight_0 (by decide +kernel)
theorem dX11_weight_17 : decode cX11_weight 17 = .ok (.ireturn, 1) := dw172 (n := 0) (i := 17) kc_cX11_weight_0 (by decide +kernel)
theorem dX11_weight_8 : decode cX11_weight 8 = .ok (.aload_n 0, 1) := dw42 (n := 0) (i := 8) kc_cX11_weight_0 (by decide +kernel)
theorem dX11_weight_9 : decode cX11_weight 9 = .ok (.iload_n 2, 1) := dw28 (n := 0) (i := 9) kc_cX11_weight_0 (by decide +kernel)
theorem dX11_weight_10 : decode cX11_weight 10 = .ok (.invokevirtual 140, 3) := dw182 (n := 0) (i := 10) (a := 0) (b := 140) kc_cX11_weight_0 (by decide +kernel) (by decide)
set_option maxRecDepth 20000 in
theorem ggX11_weight_X11_isCandidate : GoodIn wsX11_weight wsX11_isCandidate := (gk_code 16 rfl (gk_fieldLink 2 rfl (gk_methodLink 10 rfl (gk_static 11 rfl (gk_initialized 7 rfl (gk_code 12 rfl (gk_lays 23 rfl (gk_laysFinal 24 rfl (gk_lays 25 rfl (gk_laysFinal 26 rfl (gk_lays 27 rfl (gk_laysFinal 28 rfl (gk_laysFinal 29 rfl (gk_laysFinal 30 rfl (gk_laysFinal 31 rfl (gk_lays 32 rfl (gk_laysFinal 33 rfl (gk_laysFinal 34 rfl (gk_laysFinal 35 rfl (gk_laysFinal 36 rfl (gk_lays 37 rfl (gk_laysFinal 38 rfl (gk_laysFinal 39 rfl (gk_laysFinal 40 rfl (gk_laysFinal 41 rfl (gk_laysFinal 42 rfl (gk_laysFinal 43 rfl (gk_laysFinal 44 rfl (gk_laysFinal 45 rfl (gk_lays 46 rfl (gk_lays 47 rfl (gk_lays 48 rfl (gk_lays 49 rfl (gk_lays 50 rfl (gk_lays 51 rfl (gk_lays 52 rfl (gk_laysFinal 53 rfl (gk_lays 54 rfl (gk_laysFinal 55 rfl (gk_laysFinal 56 rfl (gk_laysFinal 57 rfl (gk_laysFinal 58 rfl (gk_laysFinal 59 rfl (gk_laysFinal 60 rfl (gk_laysFinal 61 rfl (gk_laysFinal 62 rfl (gk_laysFinal 63 rfl (gk_laysFinal 64 rfl (gk_lays 65 rfl (gk_laysFinal 66 rfl (gk_lays 67 rfl (gk_laysFinal 68 rfl (gk_laysFinal 69 rfl (gk_laysFinal 70 rfl (gk_laysFinal 71 rfl (gk_laysFinal 72 rfl (gk_laysFinal 73 rfl (gk_laysFinal 74 rfl (gk_laysFinal 75 rfl (gn))))))))))))))))))))))))))))))))))))))))))))))))))))))))))))
set_option maxRecDepth 20000 in
theorem gX11_weight_X11_isCandidate : GoodIn wsX11_weight (wsV RX11 140 RX11 yX11_isCandidate wsX11_isCandidate) := goodIn_app (gk_methodLink 13 rfl (gk_instanceMethod 14 rfl (gk_selects 15 rfl (gk_initialized 7 rfl (gn))))) ggX11_weight_X11_isCandidate
theorem dX11_weight_13 : decode cX11_weight 13 = .ok (.ifCond .ne 5, 3) := dw154 (n := 0) (i := 13) (a := 0) (b := 5) kc_cX11_weight_0 (by decide +kernel) (by decide)
theorem dX11_weight_18 : decode cX11_weight 18 = .ok (.aload_n 0, 1) := dw42 (n := 0) (i := 18) kc_cX11_weight_0 (by decide +kernel)
theorem dX11_weight_19 : decode cX11_weight 19 = .ok (.getfield 16, 3) := dw180 (n := 0) (i := 19) (a := 0) (b := 16) kc_cX11_weight_0 (by decide +kernel) (by decide)
theorem in_X11_weight_11 : ∀ w ∈ u_ws RX11 TX11 53, w ∈ wsX11_weight := fun _ h => List.mem_cons_of_mem _ (List.mem_append_right _ h)
theorem dX11_weight_22 : decode cX11_weight 22 = .ok (.iload_n 1, 1) := dw27 (n := 0) (i := 22) kc_cX11_weight_0 (by decide +kernel)
theorem dX11_weight_23 : decode cX11_weight 23 = .ok (.iaload, 1) := dw46 (n := 0) (i := 23) kc_cX11_weight_0 (by decide +kernel)
theorem dX11_weight_24 : decode cX11_weight 24 = .ok (.iconst 3, 1) := dw6 (n := 0) (i := 24) kc_cX11_weight_0 (by decide +kernel)
theorem dX11_weight_25 : decode cX11_weight 25 = .ok (.if_icmp .eq 9, 3) := dw159 (n := 0) (i := 25) (a := 0) (b := 9) kc_cX11_weight_0 (by decide +kernel) (by decide)
theorem dX11_weight_34 : decode cX11_weight 34 = .ok (.iconst 0, 1) := dw3 (n := 32) (i := 2) kc_cX11_weight_1 (by decide +kernel)
theorem dX11_weight_35 : decode cX11_weight 35 = .ok (.istore_n 3, 1) := dw62 (n := 32) (i := 3) kc_cX11_weight_1 (by decide +kernel)
theorem dX11_weight_36 : decode cX11_weight 36 = .ok (.iconst 0, 1) := dw3 (n := 32) (i := 4) kc_cX11_weight_1 (by decide +kernel)
theorem dX11_weight_37 : decode cX11_weight 37 = .ok (.istore 4, 2) := dw54 (n := 32) (i := 5) (a := 4) kc_cX11_weight_1 (by decide +kernel) (by decide)
theorem dX11_weight_39 : decode cX11_weight 39 = .ok (.iload 4, 2) := dw21 (n := 32) (i := 7) (a := 4) kc_cX11_weight_1 (by decide +kernel) (by decide)
theorem dX11_weight_41 : decode cX11_weight 41 = .ok (.aload_n 0, 1) := dw42 (n := 32) (i := 9) kc_cX11_weight_1 (by decide +kernel)
theorem dX11_weight_42 : decode cX11_weight 42 = .ok (.getfield 137, 3) := dw180 (n := 32) (i := 10) (a := 0) (b := 137) kc_cX11_weight_1 (by decide +kernel) (by decide)
theorem dX11_weight_45 : decode cX11_weight 45 = .ok (.if_icmp .ge 24, 3) := dw162 (n := 32) (i := 13) (a := 0) (b := 24) kc_cX11_weight_1 (by decide +kernel) (by decide)
theorem dX11_weight_69 : decode cX11_weight 69 = .ok (.iload_n 3, 1) := dw29 (n := 64) (i := 5) kc_cX11_weight_2 (by decide +kernel)
theorem dX11_weight_70 : decode cX11_weight 70 = .ok (.ifCond .ne 11, 3) := dw154 (n := 64) (i := 6) (a := 0) (b := 11) kc_cX11_weight_2 (by decide +kernel) (by decide)
theorem dX11_weight_81 : decode cX11_weight 81 = .ok (.sipush 1000, 3) := dw17 (n := 64) (i := 17) (a := 3) (b := 232) kc_cX11_weight_2 (by decide +kernel) (by decide)
theorem dX11_weight_84 : decode cX11_weight 84 = .ok (.aload_n 0, 1) := dw42 (n := 64) (i := 20) kc_cX11_weight_2 (by decide +kernel)
theorem dX11_weight_85 : decode cX11_weight 85 = .ok (.getfield 25, 3) := dw180 (n := 64) (i := 21) (a := 0) (b := 25) kc_cX11_weight_2 (by decide +kernel) (by decide)
theorem dX11_weight_88 : decode cX11_weight 88 = .ok (.bipush 10, 2) := dw16 (n := 64) (i := 24) (a := 10) kc_cX11_weight_2 (by decide +kernel) (by decide)
theorem dX11_weight_90 : decode cX11_weight 90 = .ok (.iload_n 1, 1) := dw27 (n := 64) (i := 26) kc_cX11_weight_2 (by decide +kernel)
theorem dX11_weight_91 : decode cX11_weight 91 = .ok (.imul, 1) := dw104 (n := 64) (i := 27) kc_cX11_weight_2 (by decide +kernel)
theorem dX11_weight_92 : decode cX11_weight 92 = .ok (.iload_n 2, 1) := dw28 (n := 64) (i := 28) kc_cX11_weight_2 (by decide +kernel)
theorem dX11_weight_93 : decode cX11_weight 93 = .ok (.iadd, 1) := dw96 (n := 64) (i := 29) kc_cX11_weight_2 (by decide +kernel)
theorem dX11_weight_94 : decode cX11_weight 94 = .ok (.iaload, 1) := dw46 (n := 64) (i := 30) kc_cX11_weight_2 (by decide +kernel)
theorem dX11_weight_95 : decode cX11_weight 95 = .ok (.imul, 1) := dw104 (n := 64) (i := 31) kc_cX11_weight_2 (by decide +kernel)
theorem dX11_weight_96 : decode cX11_weight 96 = .ok (.iload_n 3, 1) := dw29 (n := 96) (i := 0) kc_cX11_weight_3 (by decide +kernel)
theorem dX11_weight_97 : decode cX11_weight 97 = .ok (.idiv, 1) := dw108 (n := 96) (i := 1) kc_cX11_weight_3 (by decide +kernel)
theorem dX11_weight_98 : decode cX11_weight 98 = .ok (.ireturn, 1) := dw172 (n := 96) (i := 2) kc_cX11_weight_3 (by decide +kernel)
theorem dX11_weight_73 : decode cX11_weight 73 = .ok (.aload_n 0, 1) := dw42 (n := 64) (i := 9) kc_cX11_weight_2 (by decide +kernel)
theorem dX11_weight_74 : decode cX11_weight 74 = .ok (.iconst 4, 1) := dw7 (n := 64) (i := 10) kc_cX11_weight_2 (by decide +kernel)
theorem dX11_weight_75 : decode cX11_weight 75 = .ok (.invokevirtual 155, 3) := dw182 (n := 64) (i := 11) (a := 0) (b := 155) kc_cX11_weight_2 (by decide +kernel) (by decide)
set_option maxRecDepth 20000 in
theorem ggX11_weight_X11_meets : GoodIn wsX11_weight wsX11_meets := (gk_code 20 rfl (gk_fieldLink 21 rfl (gk_fieldLink 22 rfl (gk_lays 23 rfl (gk_laysFinal 24 rfl (gk_lays 25 rfl (gk_laysFinal 26 rfl (gk_lays 27 rfl (gk_laysFinal 28 rfl (gk_laysFinal 29 rfl (gk_laysFinal 30 rfl (gk_laysFinal 31 rfl (gk_lays 32 rfl (gk_laysFinal 33 rfl (gk_laysFinal 34 rfl (gk_laysFinal 35 rfl (gk_laysFinal 36 rfl (gk_lays 37 rfl (gk_laysFinal 38 rfl (gk_laysFinal 39 rfl (gk_laysFinal 40 rfl (gk_laysFinal 41 rfl (gk_laysFinal 42 rfl (gk_laysFinal 43 rfl (gk_laysFinal 44 rfl (gk_laysFinal 45 rfl (gk_lays 46 rfl (gk_lays 47 rfl (gk_lays 48 rfl (gk_lays 49 rfl (gk_lays 50 rfl (gk_lays 51 rfl (gk_lays 52 rfl (gk_laysFinal 53 rfl (gk_lays 54 rfl (gk_laysFinal 55 rfl (gk_laysFinal 56 rfl (gk_laysFinal 57 rfl (gk_laysFinal 58 rfl (gk_laysFinal 59 rfl (gk_laysFinal 60 rfl (gk_laysFinal 61 rfl (gk_laysFinal 62 rfl (gk_laysFinal 63 rfl (gk_laysFinal 64 rfl (gk_lays 65 rfl (gk_laysFinal 66 rfl (gk_lays 67 rfl (gk_laysFinal 68 rfl (gk_laysFinal 69 rfl (gk_laysFinal 70 rfl (gk_laysFinal 71 rfl (gk_laysFinal 72 rfl (gk_laysFinal 73 rfl (gk_laysFinal 74 rfl (gk_laysFinal 75 rfl (gn)))))))))))))))))))))))))))))))))))))))))))))))))))))))))
set_option maxRecDepth 20000 in
theorem gX11_weight_X11_meets : GoodIn wsX11_weight (wsV RX11 155 RX11 yX11_meets wsX11_meets) := goodIn_app (gk_methodLink 17 rfl (gk_instanceMethod 18 rfl (gk_selects 19 rfl (gk_initialized 7 rfl (gn))))) ggX11_weight_X11_meets
theorem dX11_weight_78 : decode cX11_weight 78 = .ok (.goto 20, 3) := dw167 (n := 64) (i := 14) (a := 0) (b := 20) kc_cX11_weight_2 (by decide +kernel) (by decide)
theorem dX11_weight_48 : decode cX11_weight 48 = .ok (.iload_n 3, 1) := dw29 (n := 32) (i := 16) kc_cX11_weight_1 (by decide +kernel)
theorem dX11_weight_49 : decode cX11_weight 49 = .ok (.aload_n 0, 1) := dw42 (n := 32) (i := 17) kc_cX11_weight_1 (by decide +kernel)
theorem dX11_weight_50 : decode cX11_weight 50 = .ok (.getfield 25, 3) := dw180 (n := 32) (i := 18) (a := 0) (b := 25) kc_cX11_weight_1 (by decide +kernel) (by decide)
theorem dX11_weight_53 : decode cX11_weight 53 = .ok (.bipush 10, 2) := dw16 (n := 32) (i := 21) (a := 10) kc_cX11_weight_1 (by decide +kernel) (by decide)
theorem dX11_weight_55 : decode cX11_weight 55 = .ok (.iload_n 1, 1) := dw27 (n := 32) (i := 23) kc_cX11_weight_1 (by decide +kernel)
theorem dX11_weight_56 : decode cX11_weight 56 = .ok (.imul, 1) := dw104 (n := 32) (i := 24) kc_cX11_weight_1 (by decide +kernel)
theorem dX11_weight_57 : decode cX11_weight 57 = .ok (.iload 4, 2) := dw21 (n := 32) (i := 25) (a := 4) kc_cX11_weight_1 (by decide +kernel) (by decide)
theorem dX11_weight_59 : decode cX11_weight 59 = .ok (.iadd, 1) := dw96 (n := 32) (i := 27) kc_cX11_weight_1 (by decide +kernel)
theorem dX11_weight_60 : decode cX11_weight 60 = .ok (.iaload, 1) := dw46 (n := 32) (i := 28) kc_cX11_weight_1 (by decide +kernel)
theorem dX11_weight_61 : decode cX11_weight 61 = .ok (.iadd, 1) := dw96 (n := 32) (i := 29) kc_cX11_weight_1 (by decide +kernel)
theorem dX11_weight_62 : decode cX11_weight 62 = .ok (.istore_n 3, 1) := dw62 (n := 32) (i := 30) kc_cX11_weight_1 (by decide +kernel)
theorem dX11_weight_63 : decode cX11_weight 63 = .ok (.iinc 4 1, 3) := by decide +kernel
theorem dX11_weight_66 : decode cX11_weight 66 = .ok (.goto (-27), 3) := dw167 (n := 64) (i := 2) (a := 255) (b := 229) kc_cX11_weight_2 (by decide +kernel) (by decide)
theorem dX11_weight_28 : decode cX11_weight 28 = .ok (.aload_n 0, 1) := dw42 (n := 0) (i := 28) kc_cX11_weight_0 (by decide +kernel)
theorem dX11_weight_29 : decode cX11_weight 29 = .ok (.iconst 3, 1) := dw6 (n := 0) (i := 29) kc_cX11_weight_0 (by decide +kernel)
theorem dX11_weight_30 : decode cX11_weight 30 = .ok (.invokevirtual 155, 3) := dw182 (n := 0) (i := 30) (a := 0) (b := 155) kc_cX11_weight_0 (by decide +kernel) (by decide)
theorem dX11_weight_33 : decode cX11_weight 33 = .ok (.ireturn, 1) := dw172 (n := 32) (i := 1) kc_cX11_weight_1 (by decide +kernel)
set_option maxHeartbeats 4000000 in
set_option maxRecDepth 100000 in
theorem s_X11_weight (l : Launch) (D : va_G) (ad : Nat → Nat) (cs : Nat → ClassId) (M : MI) (L : ML) (b : Int32) (x : Int32) (hI : IR M) : Ci l yX11_weight wsX11_weight ({ frames := 2, cells := 0, slots := 0, locals := 43 }) D ad cs [.ref (ad 258), .int b, .int x] M L (fun r M1 L1 => (A_weight (vR M) b x = (r, vR M1)) ∧ IR M1 ∧ (∀ k i, ¬ (k = 258 ∧ i = 0) ∧ k ≠ 259 → M1 k i = M k i) ∧ ∀ k i, True → L1 k i = L k i) := by
  refine enter_i RX11 rfl [(0, .ref (ad 258)), (1, .int b), (2, .int x)] rfl (Nat.le_of_ble_eq_true rfl) (by decide +kernel) rfl ?_
  intro p e s m below meth c C hr
  have hF : ∀ k i, ¬ (k = 258 ∧ i = 0) ∧ k ≠ 259 → M k i = M k i := fun _ _ _ => rfl
  have hG : ∀ k i, True → L k i = L k i := fun _ _ _ => rfl
  have w0 : (vR M 0 0).toInt = (M 258 2).toInt := rfl
  have w1 : (vR M 0 1).toInt = (M 258 4).toInt := rfl
  have w2 : (vR M 0 2).toInt = (M 258 9).toInt := rfl
  have w3 : (vR M 0 3).toInt = (M 258 14).toInt := rfl
  obtain ⟨y0a, y0b⟩ := (show rg 0 10 (M 258 2) from hI 258 2)
  obtain ⟨y1a, y1b⟩ := (show rg 0 60 (M 258 4) from hI 258 4)
  obtain ⟨y2a, y2b⟩ := (show rg 0 8 (M 258 9) from hI 258 9)
  obtain ⟨y3a, y3b⟩ := (show rg 0 20 (M 258 14) from hI 258 14)
  have k0 : M 258 0 = vR M 0 4 := rfl
  have q259 : M 259 = M 259 := rfl
  have hV : vR M = vR M := rfl
  refine g_aload_n C 0 dX11_weight_0 rfl ?_
  refine g_iload_n C 1 dX11_weight_1 rfl ?_
  refine g_callVi C (n := 1) (As := [.int b]) (st := []) (s_X11_isBallot l D ad cs _ _ b hI ) gX11_weight_X11_isBallot rfl rfl rfl (by decide +kernel) ⟨Nat.le_of_ble_eq_true rfl, Nat.le_of_ble_eq_true rfl⟩ rfl (Nat.le_of_ble_eq_true rfl) ⟨Nat.zero_le _, Nat.zero_le _⟩ (by decide) (ce_model ad cs _ _) rfl rfl dX11_weight_2 (fun r1 M2 L3 hr1 => ?_)
  obtain ⟨hq1, hq2, hr1⟩ := hr1
  obtain rfl := hq1.symm
  obtain rfl := hq2.symm
  obtain ⟨bar1, bbr1⟩ := zo_b hr1
  refine g_if_eq C 16 dX11_weight_5 (by decide) (fun c4 => ?_) (fun c4 => ?_)
  ·
    have f5 := feq rfl (by decide : (0 : Int32).toInt = 0) c4
    have pr1 := zo_f hr1 c4
    try dsimp only [hasC, hasB, hasX, hasM, ofS, ofK, bt] at pr1
    refine g_iconst C (-1) dX11_weight_16 (by decide) ?_
    have zr9 : ((-1) : Int32).toInt = (-1) := by decide
    exact g_iret C hr ⟨(by dsimp only [A_weight, hasC, hasB, hasX, hasM, ofS, ofK, bt, ix]; (repeat (first | rw [if_pos (by omega)] | rw [if_neg (by omega)])); first | done | rfl | (simp only [ix]; done) | (simp only [ix]; rfl) | (subst_vars; first | rfl | grind)), hI, hF, hG⟩ dX11_weight_17
  ·
    have f6 := fne rfl (by decide : (0 : Int32).toInt = 0) c4
    have pr1 := zo_t hr1 c4
    try dsimp only [hasC, hasB, hasX, hasM, ofS, ofK, bt] at pr1
    refine g_aload_n C 0 dX11_weight_8 rfl ?_
    refine g_iload_n C 2 dX11_weight_9 rfl ?_
    refine g_callVi C (n := 1) (As := [.int x]) (st := []) (s_X11_isCandidate l D ad cs _ _ x hI ) gX11_weight_X11_isCandidate rfl rfl rfl (by decide +kernel) ⟨Nat.le_of_ble_eq_true rfl, Nat.le_of_ble_eq_true rfl⟩ rfl (Nat.le_of_ble_eq_true rfl) ⟨Nat.zero_le _, Nat.zero_le _⟩ (by decide) (ce_model ad cs _ _) rfl rfl dX11_weight_10 (fun r7 M8 L9 hr7 => ?_)
    obtain ⟨hq1, hq2, hr7⟩ := hr7
    obtain rfl := hq1.symm
    obtain rfl := hq2.symm
    obtain ⟨bar7, bbr7⟩ := zo_b hr7
    refine g_if_ne C 18 dX11_weight_13 (by decide) (fun c10 => ?_) (fun c10 => ?_)
    ·
      have f11 := fne rfl (by decide : (0 : Int32).toInt = 0) c10
      have pr7 := zo_t hr7 c10
      try dsimp only [hasC, hasB, hasX, hasM, ofS, ofK, bt] at pr7
      refine g_aload_n C 0 dX11_weight_18 rfl ?_
      refine g_get C (.ref (ad 261)) 5 in_X11_weight_11 (List.mem_of_getElem? (i := 1) rfl) (by decide) (ce_model ad cs _ _) rfl (by decide) rfl rfl dX11_weight_19 ?_
      refine g_iload_n C 1 dX11_weight_22 rfl ?_
      refine g_iald C (by decide) (ce_m_sortOf ad cs _ _) (fin' (n := 60) rfl (by omega) (by omega)) dX11_weight_23 ?_
      refine g_ni (fun v12 ev12 => ?_)
      have gv12 : v12 = vR M 2 b.toNatClampNeg := ev12
      have tv12 := congrArg Int32.toInt gv12
      refine g_iconst C 3 dX11_weight_24 (by decide) ?_
      refine g_icmp_eq C 34 dX11_weight_25 (by decide) (fun c13 => ?_) (fun c13 => ?_)
      ·
        have f14 := feq rfl (by decide : (3 : Int32).toInt = 3) c13
        refine g_iconst C 0 dX11_weight_34 (by decide) ?_
        refine g_istore_n C [(3, .int 0), (0, .ref (ad 258)), (1, .int b), (2, .int x)] dX11_weight_35 (by decide) rfl ?_
        refine g_iconst C 0 dX11_weight_36 (by decide) ?_
        refine g_istore C [(4, .int 0), (3, .int 0), (0, .ref (ad 258)), (1, .int b), (2, .int x)] dX11_weight_37 (by decide) rfl ?_
        have zy15 : (0 : Int32).toInt = 0 := by decide
        have zy16 : (0 : Int32).toInt = 0 := by decide
        refine g_loop (α := Int32 × Int32 × MI × ML) (fun a => (11 - a.1.toInt).toNat) (fun a => (0 ≤ a.1.toInt) ∧ (a.1.toInt ≤ (vR M 0 0).toInt) ∧ (a.2.1 = sumM (vR M) (b.toNatClampNeg) (a.1.toNatClampNeg)) ∧ (vR a.2.2.1 = vR M) ∧ IR a.2.2.1 ∧ (∀ k i, ¬ (k = 258 ∧ i = 0) ∧ k ≠ 259 → a.2.2.1 k i = M k i) ∧ (∀ k i, True → a.2.2.2 k i = L k i)) (fun a => a.2.2.1) (fun a => a.2.2.2) (fun a => [(4, .int a.1), (3, .int a.2.1), (0, .ref (ad 258)), (1, .int b), (2, .int x)]) ((0 : Int32), (0 : Int32), M, L) ⟨by show 0 ≤ (0 : Int32).toInt; omega, by show (0 : Int32).toInt ≤ (vR M 0 0).toInt; omega, by show (0 : Int32) = sumM (vR M) (b.toNatClampNeg) ((0 : Int32).toNatClampNeg); rfl, by show vR M = vR M; exact hV, hI, hF, hG⟩ rfl rfl rfl ?_
        rintro ⟨x4_39, x3_39, M_39, L_39⟩ ⟨j39_0, j39_1, j39_2, j39_3, hI, hF, hG⟩ ih_39
        dsimp only at j39_0 j39_1 j39_2 j39_3 hI hF hG ih_39 ⊢
        have k0 : M_39 258 0 = M_39 258 0 := rfl
        have hV := j39_3
        have q259 : M_39 259 = M_39 259 := rfl
        have n4 := ixn (x := x4_39) (by omega)
        have n00 := ixn (x := vR M 0 0) (by omega)
        refine g_iload C 0 dX11_weight_39 rfl ?_
        refine g_aload_n C 2 dX11_weight_41 rfl ?_
        refine g_get C (.int (M_39 258 2)) 2 in_X11_weight_11 (List.mem_of_getElem? (i := 2) rfl) (by decide) (ce_model ad cs _ _) rfl (by decide) rfl rfl dX11_weight_42 ?_
        refine g_ni (fun v17 ev17 => ?_)
        have gv17 : v17 = vR M 0 0 := ev17.trans (hF 258 2 (by omega))
        have tv17 := congrArg Int32.toInt gv17
        obtain ⟨bv17, dv17⟩ := (show rg 0 10 v17 from (by rw [ev17]; exact hI 258 2))
        refine g_icmp_ge C 69 dX11_weight_45 (by decide) (fun c18 => ?_) (fun c18 => ?_)
        ·
          have f19 := fle rfl rfl c18
          have i9 : x4_39.toNatClampNeg = (vR M 0 0).toNatClampNeg := by omega
          rw [i9] at j39_2
          have t39 := congrArg Int32.toInt j39_2
          refine g_iload_n C 1 dX11_weight_69 rfl ?_
          refine g_if_ne C 81 dX11_weight_70 (by decide) (fun c20 => ?_) (fun c20 => ?_)
          ·
            have f21 := fne rfl (by decide : (0 : Int32).toInt = 0) c20
            refine g_sipush C 1000 dX11_weight_81 (by decide) ?_
            refine g_aload_n C 2 dX11_weight_84 rfl ?_
            refine g_get C (.ref (ad 264)) 8 in_X11_weight_11 (List.mem_of_getElem? (i := 3) rfl) (by decide) (ce_model ad cs _ _) rfl (by decide) rfl rfl dX11_weight_85 ?_
            refine g_bipush C 10 dX11_weight_88 (by decide) ?_
            refine g_iload_n C 3 dX11_weight_90 rfl ?_
            refine g_imul C dX11_weight_91 ?_
            refine g_ni (fun v22 ev22 => ?_)
            try have fv22 := fmul (by decide : (10 : Int32).toInt = 10) rfl ev22 (by omega) (by omega)
            refine g_iload_n C 4 dX11_weight_92 rfl ?_
            refine g_iadd C dX11_weight_93 ?_
            refine g_ni (fun v23 ev23 => ?_)
            try have fv23 := fadd rfl rfl ev23 (by omega) (by omega)
            refine g_iald C (by decide) (ce_m_marks ad cs _ _) (fin' (n := 600) rfl (by omega) (by omega)) dX11_weight_94 ?_
            have nb := ixn (x := b) (by omega)
            have nx := ixn (x := x) (by omega)
            have nv23 := ixn (x := v23) (by omega)
            have iv23 : v23.toNatClampNeg = 10 * b.toNatClampNeg + x.toNatClampNeg := by omega
            refine g_ni (fun v24 ev24 => ?_)
            have gv24 : v24 = vR M 5 v23.toNatClampNeg := ev24.trans (hF 264 v23.toNatClampNeg (by omega))
            have gv24 := cg1 (f := vR M 5) gv24 iv23
            have tv24 := congrArg Int32.toInt gv24
            obtain ⟨bv24, dv24⟩ := (show rg 0 9 v24 from (by rw [ev24]; exact hI 264 v23.toNatClampNeg))
            refine g_imul C dX11_weight_95 ?_
            refine g_ni (fun v25 ev25 => ?_)
            try have fv25 := fmul (by decide : (1000 : Int32).toInt = 1000) rfl ev25 (by omega) (by omega)
            refine g_iload_n C 1 dX11_weight_96 rfl ?_
            refine g_idiv C dX11_weight_97 (by intro h9; have h8 := congrArg Int32.toInt h9; have h7 : (0 : Int32).toInt = 0 := (by decide); omega) ?_
            refine g_ni (fun v26 ev26 => ?_)
            try have fv26 := idivI ev26 (by omega) (by omega)
            exact g_iret C hr ⟨(by dsimp only [A_weight, hasC, hasB, hasX, hasM, ofS, ofK, bt, ix]; (repeat (first | rw [if_pos (by omega)] | rw [if_neg (by omega)])); first | done | rfl | (simp only [ev26, ev25, gv24, ev23, ev22, j39_2, gv17, gv12]; done) | (simp only [ev26, ev25, gv24, ev23, ev22, j39_2, gv17, gv12]; rfl) | (subst_vars; first | rfl | grind)), hI, hF, hG⟩ dX11_weight_98
          ·
            have f27 := feq rfl (by decide : (0 : Int32).toInt = 0) c20
            refine g_aload_n C 2 dX11_weight_73 rfl ?_
            refine g_iconst C 4 dX11_weight_74 (by decide) ?_
            refine g_callVi C (n := 1) (As := [.int 4]) (st := []) (s_X11_meets l D ad cs _ _ 4 hI ⟨by first | omega | decide, by first | omega | decide⟩) gX11_weight_X11_meets rfl rfl rfl (by decide +kernel) ⟨Nat.le_of_ble_eq_true rfl, Nat.le_of_ble_eq_true rfl⟩ rfl (Nat.le_of_ble_eq_true rfl) ⟨Nat.zero_le _, Nat.zero_le _⟩ (by decide) (ce_model ad cs _ _) rfl rfl dX11_weight_75 (fun r28 M29 L30 hr28 => ?_)
            obtain ⟨hr28, hI, hFr28, hGr28⟩ := hr28
            have hF : ∀ k i, ¬ (k = 258 ∧ i = 0) ∧ k ≠ 259 → M29 k i = M k i := fun k i hk => by (rw [hFr28 k i (by omega)]; try exact hF k i hk)
            have hG : ∀ k i, True → L30 k i = L k i := fun k i hk => by (rw [hGr28 k i trivial]; try exact hG k i hk)
            have hV : vR M29 = meetsV (vR M) 4 := by rw [hr28.2, hV]
            have k0 : M29 258 0 = M29 258 0 := rfl
            have q259 : M29 259 = M29 259 := rfl
            refine g_goto C 98 dX11_weight_78 (by decide) ?_
            exact g_iret C hr ⟨(by dsimp only [A_weight, hasC, hasB, hasX, hasM, ofS, ofK, bt, ix]; (repeat (first | rw [if_pos (by omega)] | rw [if_neg (by omega)])); rw [hV]; first | done | rfl | (simp only [j39_2, gv17, gv12]; done) | (simp only [j39_2, gv17, gv12]; rfl) | (subst_vars; first | rfl | grind)), hI, hF, hG⟩ dX11_weight_98
        ·
          have f31 := fnle rfl rfl c18
          refine g_iload_n C 1 dX11_weight_48 rfl ?_
          refine g_aload_n C 2 dX11_weight_49 rfl ?_
          refine g_get C (.ref (ad 264)) 8 in_X11_weight_11 (List.mem_of_getElem? (i := 3) rfl) (by decide) (ce_model ad cs _ _) rfl (by decide) rfl rfl dX11_weight_50 ?_
          refine g_bipush C 10 dX11_weight_53 (by decide) ?_
          refine g_iload_n C 3 dX11_weight_55 rfl ?_
          refine g_imul C dX11_weight_56 ?_
          refine g_ni (fun v32 ev32 => ?_)
          try have fv32 := fmul (by decide : (10 : Int32).toInt = 10) rfl ev32 (by omega) (by omega)
          refine g_iload C 0 dX11_weight_57 rfl ?_
          refine g_iadd C dX11_weight_59 ?_
          refine g_ni (fun v33 ev33 => ?_)
          try have fv33 := fadd rfl rfl ev33 (by omega) (by omega)
          refine g_iald C (by decide) (ce_m_marks ad cs _ _) (fin' (n := 600) rfl (by omega) (by omega)) dX11_weight_60 ?_
          have nb := ixn (x := b) (by omega)
          have nx4_39 := ixn (x := x4_39) (by omega)
          have nv33 := ixn (x := v33) (by omega)
          have iv33 : v33.toNatClampNeg = 10 * b.toNatClampNeg + x4_39.toNatClampNeg := by omega
          refine g_ni (fun v34 ev34 => ?_)
          have gv34 : v34 = vR M 5 v33.toNatClampNeg := ev34.trans (hF 264 v33.toNatClampNeg (by omega))
          have gv34 := cg1 (f := vR M 5) gv34 iv33
          have tv34 := congrArg Int32.toInt gv34
          obtain ⟨bv34, dv34⟩ := (show rg 0 9 v34 from (by rw [ev34]; exact hI 264 v33.toNatClampNeg))
          refine g_iadd C dX11_weight_61 ?_
          refine g_ni (fun v35 ev35 => ?_)
          try have fv35 := fadd rfl rfl ev35 (by omega) (by omega)
          refine g_istore_n C [(3, .int v35), (4, .int x4_39), (0, .ref (ad 258)), (1, .int b), (2, .int x)] dX11_weight_62 (by decide) rfl ?_
          obtain ⟨v36, ev36⟩ : ∃ y : Int32, y = x4_39 + 1 := ⟨_, rfl⟩
          try have fv36 := fadd rfl (by decide : (1 : Int32).toInt = 1) ev36 (by omega) (by omega)
          refine g_iinc C 1 v36 [(4, .int v36), (3, .int v35), (0, .ref (ad 258)), (1, .int b), (2, .int x)] dX11_weight_63 rfl (by rw [ev36]; rfl) (by decide) rfl ?_
          refine g_goto C 39 dX11_weight_66 (by decide) ?_
          have nv := ixn (x := v36) (by omega)
          have iv : v36.toNatClampNeg = x4_39.toNatClampNeg + 1 := by omega
          exact ih_39 (v36, v35, M_39, L_39) ⟨by show 0 ≤ v36.toInt; omega, by show v36.toInt ≤ (vR M 0 0).toInt; omega, by show v35 = sumM (vR M) (b.toNatClampNeg) (v36.toNatClampNeg); rw [iv]; show _ = sumM (vR M) b.toNatClampNeg x4_39.toNatClampNeg + vR M 5 (10 * b.toNatClampNeg + x4_39.toNatClampNeg); rw [← j39_2]; first | done | (simp only [ev35, gv34, ev33, ev32, gv17, gv12]; done) | (simp only [ev35, gv34, ev33, ev32, gv17, gv12]; rfl), by show vR M_39 = vR M; exact hV, hI, hF, hG⟩ (by show (11 - v36.toInt).toNat < (11 - x4_39.toInt).toNat; omega)
      ·
        have f37 := fne rfl (by decide : (3 : Int32).toInt = 3) c13
        refine g_aload_n C 0 dX11_weight_28 rfl ?_
        refine g_iconst C 3 dX11_weight_29 (by decide) ?_
        refine g_callVi C (n := 1) (As := [.int 3]) (st := []) (s_X11_meets l D ad cs _ _ 3 hI ⟨by first | omega | decide, by first | omega | decide⟩) gX11_weight_X11_meets rfl rfl rfl (by decide +kernel) ⟨Nat.le_of_ble_eq_true rfl, Nat.le_of_ble_eq_true rfl⟩ rfl (Nat.le_of_ble_eq_true rfl) ⟨Nat.zero_le _, Nat.zero_le _⟩ (by decide) (ce_model ad cs _ _) rfl rfl dX11_weight_30 (fun r38 M39 L40 hr38 => ?_)
        obtain ⟨hr38, hI, hFr38, hGr38⟩ := hr38
        have hF : ∀ k i, ¬ (k = 258 ∧ i = 0) ∧ k ≠ 259 → M39 k i = M k i := fun k i hk => by (rw [hFr38 k i (by omega)]; try exact hF k i hk)
        have hG : ∀ k i, True → L40 k i = L k i := fun k i hk => by (rw [hGr38 k i trivial]; try exact hG k i hk)
        have hV : vR M39 = meetsV (vR M) 3 := by rw [hr38.2, hV]
        have k0 : M39 258 0 = M39 258 0 := rfl
        have q259 : M39 259 = M39 259 := rfl
        exact g_iret C hr ⟨(by dsimp only [A_weight, hasC, hasB, hasX, hasM, ofS, ofK, bt, ix]; (repeat (first | rw [if_pos (by omega)] | rw [if_neg (by omega)])); rw [hV]; first | done | rfl | (simp only [gv12]; done) | (simp only [gv12]; rfl) | (subst_vars; first | rfl | grind)), hI, hF, hG⟩ dX11_weight_33
    ·
      have f41 := feq rfl (by decide : (0 : Int32).toInt = 0) c10
      have pr7 := zo_f hr7 c10
      try dsimp only [hasC, hasB, hasX, hasM, ofS, ofK, bt] at pr7
      refine g_iconst C (-1) dX11_weight_16 (by decide) ?_
      have zr9 : ((-1) : Int32).toInt = (-1) := by decide
      exact g_iret C hr ⟨(by dsimp only [A_weight, hasC, hasB, hasX, hasM, ofS, ofK, bt, ix]; (repeat (first | rw [if_pos (by omega)] | rw [if_neg (by omega)])); first | done | rfl | (simp only [ix]; done) | (simp only [ix]; rfl) | (subst_vars; first | rfl | grind)), hI, hF, hG⟩ dX11_weight_17
theorem dX11_put_0 : decode cX11_put 0 = .ok (.aload_n 0, 1) := dw42 (n := 0) (i := 0) kc_cX11_put_0 (by decide +kernel)
theorem dX11_put_1 : decode cX11_put 1 = .ok (.iload_n 1, 1) := dw27 (n := 0) (i := 1) kc_cX11_put_0 (by decide +kernel)
theorem dX11_put_2 : decode cX11_put 2 = .ok (.invokevirtual 166, 3) := dw182 (n := 0) (i := 2) (a := 0) (b := 166) kc_cX11_put_0 (by decide +kernel) (by decide)
set_option maxRecDepth 20000 in
theorem ggX11_put_X11_isBox : GoodIn wsX11_put wsX11_isBox := (gk_code 9 rfl (gk_fieldLink 10 rfl (gk_methodLink 11 rfl (gk_static 12 rfl (gk_initialized 8 rfl (gk_code 13 rfl (gk_lays 28 rfl (gk_laysFinal 29 rfl (gk_lays 30 rfl (gk_laysFinal 31 rfl (gk_lays 32 rfl (gk_laysFinal 33 rfl (gk_laysFinal 34 rfl (gk_laysFinal 35 rfl (gk_laysFinal 36 rfl (gk_lays 37 rfl (gk_laysFinal 38 rfl (gk_laysFinal 39 rfl (gk_laysFinal 40 rfl (gk_laysFinal 41 rfl (gk_lays 42 rfl (gk_laysFinal 43 rfl (gk_laysFinal 44 rfl (gk_laysFinal 45 rfl (gk_laysFinal 46 rfl (gk_laysFinal 47 rfl (gk_laysFinal 48 rfl (gk_laysFinal 49 rfl (gk_laysFinal 50 rfl (gk_lays 51 rfl (gk_lays 52 rfl (gk_lays 53 rfl (gk_lays 54 rfl (gk_lays 55 rfl (gk_lays 56 rfl (gk_lays 57 rfl (gk_laysFinal 58 rfl (gk_lays 59 rfl (gk_laysFinal 60 rfl (gk_laysFinal 61 rfl (gk_laysFinal 62 rfl (gk_laysFinal 63 rfl (gk_laysFinal 64 rfl (gk_laysFinal 65 rfl (gk_laysFinal 66 rfl (gk_laysFinal 67 rfl (gk_laysFinal 68 rfl (gk_laysFinal 69 rfl (gk_lays 70 rfl (gk_laysFinal 71 rfl (gk_lays 72 rfl (gk_laysFinal 73 rfl (gk_laysFinal 74 rfl (gk_laysFinal 75 rfl (gk_laysFinal 76 rfl (gk_laysFinal 77 rfl (gk_laysFinal 78 rfl (gk_laysFinal 79 rfl (gk_laysFinal 80 rfl (gn))))))))))))))))))))))))))))))))))))))))))))))))))))))))))))
set_option maxRecDepth 20000 in
theorem gX11_put_X11_isBox : GoodIn wsX11_put (wsV RX11 166 RX11 yX11_isBox wsX11_isBox) := goodIn_app (gk_methodLink 5 rfl (gk_instanceMethod 6 rfl (gk_selects 7 rfl (gk_initialized 8 rfl (gn))))) ggX11_put_X11_isBox
theorem dX11_put_5 : decode cX11_put 5 = .ok (.ifCond .eq 17, 3) := dw153 (n := 0) (i := 5) (a := 0) (b := 17) kc_cX11_put_0 (by decide +kernel) (by decide)
theorem dX11_put_22 : decode cX11_put 22 = .ok (.iconst (-1), 1) := dw2 (n := 0) (i := 22) kc_cX11_put_0 (by decide +kernel)
theorem dX11_put_23 : decode cX11_put 23 = .ok (.ireturn, 1) := dw172 (n := 0) (i := 23) kc_cX11_put_0 (by decide +kernel)
theorem dX11_put_8 : decode cX11_put 8 = .ok (.iload_n 3, 1) := dw29 (n := 0) (i := 8) kc_cX11_put_0 (by decide +kernel)
theorem dX11_put_9 : decode cX11_put 9 = .ok (.bipush (-9), 2) := dw16 (n := 0) (i := 9) (a := 247) kc_cX11_put_0 (by decide +kernel) (by decide)
theorem dX11_put_11 : decode cX11_put 11 = .ok (.if_icmp .eq 13, 3) := dw159 (n := 0) (i := 11) (a := 0) (b := 13) kc_cX11_put_0 (by decide +kernel) (by decide)
theorem dX11_put_24 : decode cX11_put 24 = .ok (.iload_n 2, 1) := dw28 (n := 0) (i := 24) kc_cX11_put_0 (by decide +kernel)
theorem dX11_put_25 : decode cX11_put 25 = .ok (.iconst 0, 1) := dw3 (n := 0) (i := 25) kc_cX11_put_0 (by decide +kernel)
theorem dX11_put_26 : decode cX11_put 26 = .ok (.aload_n 0, 1) := dw42 (n := 0) (i := 26) kc_cX11_put_0 (by decide +kernel)
theorem dX11_put_27 : decode cX11_put 27 = .ok (.getfield 31, 3) := dw180 (n := 0) (i := 27) (a := 0) (b := 31) kc_cX11_put_0 (by decide +kernel) (by decide)
theorem in_X11_put_11 : ∀ w ∈ u_ws RX11 TX11 53, w ∈ wsX11_put := fun _ h => List.mem_cons_of_mem _ (List.mem_append_right _ h)
theorem dX11_put_30 : decode cX11_put 30 = .ok (.iload_n 1, 1) := dw27 (n := 0) (i := 30) kc_cX11_put_0 (by decide +kernel)
theorem dX11_put_31 : decode cX11_put 31 = .ok (.iaload, 1) := dw46 (n := 0) (i := 31) kc_cX11_put_0 (by decide +kernel)
theorem dX11_put_32 : decode cX11_put 32 = .ok (.iconst 1, 1) := dw4 (n := 32) (i := 0) kc_cX11_put_1 (by decide +kernel)
theorem dX11_put_33 : decode cX11_put 33 = .ok (.isub, 1) := dw100 (n := 32) (i := 1) kc_cX11_put_1 (by decide +kernel)
theorem dX11_put_34 : decode cX11_put 34 = .ok (.invokestatic 133, 3) := dw184 (n := 32) (i := 2) (a := 0) (b := 133) kc_cX11_put_1 (by decide +kernel) (by decide)
set_option maxRecDepth 20000 in
theorem ggX11_put_X11_in : GoodIn wsX11_put wsX11_in := (gk_code 13 rfl (gn))
set_option maxRecDepth 20000 in
theorem gX11_put_X11_in : GoodIn wsX11_put (va_wsS RX11 133 yX11_in wsX11_in) := goodIn_app (gk_methodLink 11 rfl (gk_static 12 rfl (gk_initialized 8 rfl (gn)))) ggX11_put_X11_in
theorem dX11_put_37 : decode cX11_put 37 = .ok (.ifCond .ne 9, 3) := dw154 (n := 32) (i := 5) (a := 0) (b := 9) kc_cX11_put_1 (by decide +kernel) (by decide)
theorem dX11_put_46 : decode cX11_put 46 = .ok (.iload_n 3, 1) := dw29 (n := 32) (i := 14) kc_cX11_put_1 (by decide +kernel)
theorem dX11_put_47 : decode cX11_put 47 = .ok (.bipush (-9), 2) := dw16 (n := 32) (i := 15) (a := 247) kc_cX11_put_1 (by decide +kernel) (by decide)
theorem dX11_put_49 : decode cX11_put 49 = .ok (.if_icmp .eq 28, 3) := dw159 (n := 32) (i := 17) (a := 0) (b := 28) kc_cX11_put_1 (by decide +kernel) (by decide)
theorem dX11_put_77 : decode cX11_put 77 = .ok (.aload_n 0, 1) := dw42 (n := 64) (i := 13) kc_cX11_put_2 (by decide +kernel)
theorem dX11_put_78 : decode cX11_put 78 = .ok (.getfield 34, 3) := dw180 (n := 64) (i := 14) (a := 0) (b := 34) kc_cX11_put_2 (by decide +kernel) (by decide)
theorem dX11_put_81 : decode cX11_put 81 = .ok (.bipush 40, 2) := dw16 (n := 64) (i := 17) (a := 40) kc_cX11_put_2 (by decide +kernel) (by decide)
theorem dX11_put_83 : decode cX11_put 83 = .ok (.iload_n 1, 1) := dw27 (n := 64) (i := 19) kc_cX11_put_2 (by decide +kernel)
theorem dX11_put_84 : decode cX11_put 84 = .ok (.imul, 1) := dw104 (n := 64) (i := 20) kc_cX11_put_2 (by decide +kernel)
theorem dX11_put_85 : decode cX11_put 85 = .ok (.iload_n 2, 1) := dw28 (n := 64) (i := 21) kc_cX11_put_2 (by decide +kernel)
theorem dX11_put_86 : decode cX11_put 86 = .ok (.iadd, 1) := dw96 (n := 64) (i := 22) kc_cX11_put_2 (by decide +kernel)
theorem dX11_put_87 : decode cX11_put 87 = .ok (.iload_n 3, 1) := dw29 (n := 64) (i := 23) kc_cX11_put_2 (by decide +kernel)
theorem dX11_put_88 : decode cX11_put 88 = .ok (.iastore, 1) := dw79 (n := 64) (i := 24) kc_cX11_put_2 (by decide +kernel)
theorem dX11_put_89 : decode cX11_put 89 = .ok (.iconst 1, 1) := dw4 (n := 64) (i := 25) kc_cX11_put_2 (by decide +kernel)
theorem dX11_put_90 : decode cX11_put 90 = .ok (.ireturn, 1) := dw172 (n := 64) (i := 26) kc_cX11_put_2 (by decide +kernel)
theorem dX11_put_52 : decode cX11_put 52 = .ok (.aload_n 0, 1) := dw42 (n := 32) (i := 20) kc_cX11_put_1 (by decide +kernel)
theorem dX11_put_53 : decode cX11_put 53 = .ok (.getfield 16, 3) := dw180 (n := 32) (i := 21) (a := 0) (b := 16) kc_cX11_put_1 (by decide +kernel) (by decide)
theorem dX11_put_56 : decode cX11_put 56 = .ok (.iload_n 3, 1) := dw29 (n := 32) (i := 24) kc_cX11_put_1 (by decide +kernel)
theorem dX11_put_57 : decode cX11_put 57 = .ok (.iaload, 1) := dw46 (n := 32) (i := 25) kc_cX11_put_1 (by decide +kernel)
theorem dX11_put_58 : decode cX11_put 58 = .ok (.aload_n 0, 1) := dw42 (n := 32) (i := 26) kc_cX11_put_1 (by decide +kernel)
theorem dX11_put_59 : decode cX11_put 59 = .ok (.getfield 28, 3) := dw180 (n := 32) (i := 27) (a := 0) (b := 28) kc_cX11_put_1 (by decide +kernel) (by decide)
theorem dX11_put_62 : decode cX11_put 62 = .ok (.iload_n 1, 1) := dw27 (n := 32) (i := 30) kc_cX11_put_1 (by decide +kernel)
theorem dX11_put_63 : decode cX11_put 63 = .ok (.iaload, 1) := dw46 (n := 32) (i := 31) kc_cX11_put_1 (by decide +kernel)
theorem dX11_put_64 : decode cX11_put 64 = .ok (.invokestatic 151, 3) := dw184 (n := 64) (i := 0) (a := 0) (b := 151) kc_cX11_put_2 (by decide +kernel) (by decide)
set_option maxRecDepth 20000 in
theorem ggX11_put_X11_isOf : GoodIn wsX11_put wsX11_isOf := (gk_code 27 rfl (gn))
set_option maxRecDepth 20000 in
theorem gX11_put_X11_isOf : GoodIn wsX11_put (va_wsS RX11 151 yX11_isOf wsX11_isOf) := goodIn_app (gk_methodLink 25 rfl (gk_static 26 rfl (gk_initialized 8 rfl (gn)))) ggX11_put_X11_isOf
theorem dX11_put_67 : decode cX11_put 67 = .ok (.ifCond .ne 10, 3) := dw154 (n := 64) (i := 3) (a := 0) (b := 10) kc_cX11_put_2 (by decide +kernel) (by decide)
theorem dX11_put_70 : decode cX11_put 70 = .ok (.aload_n 0, 1) := dw42 (n := 64) (i := 6) kc_cX11_put_2 (by decide +kernel)
theorem dX11_put_71 : decode cX11_put 71 = .ok (.bipush 6, 2) := dw16 (n := 64) (i := 7) (a := 6) kc_cX11_put_2 (by decide +kernel) (by decide)
theorem dX11_put_73 : decode cX11_put 73 = .ok (.invokevirtual 155, 3) := dw182 (n := 64) (i := 9) (a := 0) (b := 155) kc_cX11_put_2 (by decide +kernel) (by decide)
set_option maxRecDepth 20000 in
theorem ggX11_put_X11_meets : GoodIn wsX11_put wsX11_meets := (gk_code 22 rfl (gk_fieldLink 23 rfl (gk_fieldLink 24 rfl (gk_lays 28 rfl (gk_laysFinal 29 rfl (gk_lays 30 rfl (gk_laysFinal 31 rfl (gk_lays 32 rfl (gk_laysFinal 33 rfl (gk_laysFinal 34 rfl (gk_laysFinal 35 rfl (gk_laysFinal 36 rfl (gk_lays 37 rfl (gk_laysFinal 38 rfl (gk_laysFinal 39 rfl (gk_laysFinal 40 rfl (gk_laysFinal 41 rfl (gk_lays 42 rfl (gk_laysFinal 43 rfl (gk_laysFinal 44 rfl (gk_laysFinal 45 rfl (gk_laysFinal 46 rfl (gk_laysFinal 47 rfl (gk_laysFinal 48 rfl (gk_laysFinal 49 rfl (gk_laysFinal 50 rfl (gk_lays 51 rfl (gk_lays 52 rfl (gk_lays 53 rfl (gk_lays 54 rfl (gk_lays 55 rfl (gk_lays 56 rfl (gk_lays 57 rfl (gk_laysFinal 58 rfl (gk_lays 59 rfl (gk_laysFinal 60 rfl (gk_laysFinal 61 rfl (gk_laysFinal 62 rfl (gk_laysFinal 63 rfl (gk_laysFinal 64 rfl (gk_laysFinal 65 rfl (gk_laysFinal 66 rfl (gk_laysFinal 67 rfl (gk_laysFinal 68 rfl (gk_laysFinal 69 rfl (gk_lays 70 rfl (gk_laysFinal 71 rfl (gk_lays 72 rfl (gk_laysFinal 73 rfl (gk_laysFinal 74 rfl (gk_laysFinal 75 rfl (gk_laysFinal 76 rfl (gk_laysFinal 77 rfl (gk_laysFinal 78 rfl (gk_laysFinal 79 rfl (gk_laysFinal 80 rfl (gn)))))))))))))))))))))))))))))))))))))))))))))))))))))))))
set_option maxRecDepth 20000 in
theorem gX11_put_X11_meets : GoodIn wsX11_put (wsV RX11 155 RX11 yX11_meets wsX11_meets) := goodIn_app (gk_methodLink 19 rfl (gk_instanceMethod 20 rfl (gk_selects 21 rfl (gk_initialized 8 rfl (gn))))) ggX11_put_X11_meets
theorem dX11_put_76 : decode cX11_put 76 = .ok (.ireturn, 1) := dw172 (n := 64) (i := 12) kc_cX11_put_2 (by decide +kernel)
theorem dX11_put_40 : decode cX11_put 40 = .ok (.aload_n 0, 1) := dw42 (n := 32) (i := 8) kc_cX11_put_1 (by decide +kernel)
theorem dX11_put_41 : decode cX11_put 41 = .ok (.iconst 2, 1) := dw5 (n := 32) (i := 9) kc_cX11_put_1 (by decide +kernel)
theorem dX11_put_42 : decode cX11_put 42 = .ok (.invokevirtual 155, 3) := dw182 (n := 32) (i := 10) (a := 0) (b := 155) kc_cX11_put_1 (by decide +kernel) (by decide)
theorem dX11_put_45 : decode cX11_put 45 = .ok (.ireturn, 1) := dw172 (n := 32) (i := 13) kc_cX11_put_1 (by decide +kernel)
theorem dX11_put_14 : decode cX11_put 14 = .ok (.aload_n 0, 1) := dw42 (n := 0) (i := 14) kc_cX11_put_0 (by decide +kernel)
theorem dX11_put_15 : decode cX11_put 15 = .ok (.iload_n 3, 1) := dw29 (n := 0) (i := 15) kc_cX11_put_0 (by decide +kernel)
theorem dX11_put_16 : decode cX11_put 16 = .ok (.invokevirtual 148, 3) := dw182 (n := 0) (i := 16) (a := 0) (b := 148) kc_cX11_put_0 (by decide +kernel) (by decide)
set_option maxRecDepth 20000 in
theorem ggX11_put_X11_isBallot : GoodIn wsX11_put wsX11_isBallot := (gk_code 17 rfl (gk_fieldLink 18 rfl (gk_methodLink 11 rfl (gk_static 12 rfl (gk_initialized 8 rfl (gk_code 13 rfl (gk_lays 28 rfl (gk_laysFinal 29 rfl (gk_lays 30 rfl (gk_laysFinal 31 rfl (gk_lays 32 rfl (gk_laysFinal 33 rfl (gk_laysFinal 34 rfl (gk_laysFinal 35 rfl (gk_laysFinal 36 rfl (gk_lays 37 rfl (gk_laysFinal 38 rfl (gk_laysFinal 39 rfl (gk_laysFinal 40 rfl (gk_laysFinal 41 rfl (gk_lays 42 rfl (gk_laysFinal 43 rfl (gk_laysFinal 44 rfl (gk_laysFinal 45 rfl (gk_laysFinal 46 rfl (gk_laysFinal 47 rfl (gk_laysFinal 48 rfl (gk_laysFinal 49 rfl (gk_laysFinal 50 rfl (gk_lays 51 rfl (gk_lays 52 rfl (gk_lays 53 rfl (gk_lays 54 rfl (gk_lays 55 rfl (gk_lays 56 rfl (gk_lays 57 rfl (gk_laysFinal 58 rfl (gk_lays 59 rfl (gk_laysFinal 60 rfl (gk_laysFinal 61 rfl (gk_laysFinal 62 rfl (gk_laysFinal 63 rfl (gk_laysFinal 64 rfl (gk_laysFinal 65 rfl (gk_laysFinal 66 rfl (gk_laysFinal 67 rfl (gk_laysFinal 68 rfl (gk_laysFinal 69 rfl (gk_lays 70 rfl (gk_laysFinal 71 rfl (gk_lays 72 rfl (gk_laysFinal 73 rfl (gk_laysFinal 74 rfl (gk_laysFinal 75 rfl (gk_laysFinal 76 rfl (gk_laysFinal 77 rfl (gk_laysFinal 78 rfl (gk_laysFinal 79 rfl (gk_laysFinal 80 rfl (gn))))))))))))))))))))))))))))))))))))))))))))))))))))))))))))
set_option maxRecDepth 20000 in
theorem gX11_put_X11_isBallot : GoodIn wsX11_put (wsV RX11 148 RX11 yX11_isBallot wsX11_isBallot) := goodIn_app (gk_methodLink 14 rfl (gk_instanceMethod 15 rfl (gk_selects 16 rfl (gk_initialized 8 rfl (gn))))) ggX11_put_X11_isBallot
theorem dX11_put_19 : decode cX11_put 19 = .ok (.ifCond .ne 5, 3) := dw154 (n := 0) (i := 19) (a := 0) (b := 5) kc_cX11_put_0 (by decide +kernel) (by decide)
set_option maxHeartbeats 4000000 in
set_option maxRecDepth 100000 in
theorem s_X11_put (l : Launch) (D : va_G) (ad : Nat → Nat) (cs : Nat → ClassId) (M : MI) (L : ML) (x : Int32) (y : Int32) (b : Int32) (hI : IR M) : Ci l yX11_put wsX11_put ({ frames := 2, cells := 0, slots := 0, locals := 43 }) D ad cs [.ref (ad 258), .int x, .int y, .int b] M L (fun r M1 L1 => (A_put (vR M) x y b = (r, vR M1)) ∧ IR M1 ∧ (∀ k i, ¬ (k = 258 ∧ i = 0) ∧ k ≠ 259 ∧ k ≠ 267 → M1 k i = M k i) ∧ ∀ k i, True → L1 k i = L k i) := by
  refine enter_i RX11 rfl [(0, .ref (ad 258)), (1, .int x), (2, .int y), (3, .int b)] rfl (Nat.le_of_ble_eq_true rfl) (by decide +kernel) rfl ?_
  intro p e s m below meth c C hr
  have hF : ∀ k i, ¬ (k = 258 ∧ i = 0) ∧ k ≠ 259 ∧ k ≠ 267 → M k i = M k i := fun _ _ _ => rfl
  have hG : ∀ k i, True → L k i = L k i := fun _ _ _ => rfl
  have w0 : (vR M 0 0).toInt = (M 258 2).toInt := rfl
  have w1 : (vR M 0 1).toInt = (M 258 4).toInt := rfl
  have w2 : (vR M 0 2).toInt = (M 258 9).toInt := rfl
  have w3 : (vR M 0 3).toInt = (M 258 14).toInt := rfl
  obtain ⟨y0a, y0b⟩ := (show rg 0 10 (M 258 2) from hI 258 2)
  obtain ⟨y1a, y1b⟩ := (show rg 0 60 (M 258 4) from hI 258 4)
  obtain ⟨y2a, y2b⟩ := (show rg 0 8 (M 258 9) from hI 258 9)
  obtain ⟨y3a, y3b⟩ := (show rg 0 20 (M 258 14) from hI 258 14)
  have k0 : M 258 0 = vR M 0 4 := rfl
  have q259 : M 259 = M 259 := rfl
  have q267 : M 267 = M 267 := rfl
  have hV : vR M = vR M := rfl
  refine g_aload_n C 0 dX11_put_0 rfl ?_
  refine g_iload_n C 1 dX11_put_1 rfl ?_
  refine g_callVi C (n := 1) (As := [.int x]) (st := []) (s_X11_isBox l D ad cs _ _ x hI ) gX11_put_X11_isBox rfl rfl rfl (by decide +kernel) ⟨Nat.le_of_ble_eq_true rfl, Nat.le_of_ble_eq_true rfl⟩ rfl (Nat.le_of_ble_eq_true rfl) ⟨Nat.zero_le _, Nat.zero_le _⟩ (by decide) (ce_model ad cs _ _) rfl rfl dX11_put_2 (fun r1 M2 L3 hr1 => ?_)
  obtain ⟨hq1, hq2, hr1⟩ := hr1
  obtain rfl := hq1.symm
  obtain rfl := hq2.symm
  obtain ⟨bar1, bbr1⟩ := zo_b hr1
  refine g_if_eq C 22 dX11_put_5 (by decide) (fun c4 => ?_) (fun c4 => ?_)
  ·
    have f5 := feq rfl (by decide : (0 : Int32).toInt = 0) c4
    have pr1 := zo_f hr1 c4
    try dsimp only [hasC, hasB, hasX, hasM, ofS, ofK, bt] at pr1
    refine g_iconst C (-1) dX11_put_22 (by decide) ?_
    have zr9 : ((-1) : Int32).toInt = (-1) := by decide
    exact g_iret C hr ⟨(by dsimp only [A_put, hasC, hasB, hasX, hasM, ofS, ofK, bt, ix]; (repeat (first | rw [if_pos (by omega)] | rw [if_neg (by omega)])); first | done | rfl | (simp only [ix]; done) | (simp only [ix]; rfl) | (subst_vars; first | rfl | grind)), hI, hF, hG⟩ dX11_put_23
  ·
    have f6 := fne rfl (by decide : (0 : Int32).toInt = 0) c4
    have pr1 := zo_t hr1 c4
    try dsimp only [hasC, hasB, hasX, hasM, ofS, ofK, bt] at pr1
    refine g_iload_n C 3 dX11_put_8 rfl ?_
    refine g_bipush C (-9) dX11_put_9 (by decide) ?_
    refine g_icmp_eq C 24 dX11_put_11 (by decide) (fun c7 => ?_) (fun c7 => ?_)
    ·
      have f8 := feq rfl (by decide : ((-9) : Int32).toInt = (-9)) c7
      refine g_iload_n C 2 dX11_put_24 rfl ?_
      refine g_iconst C 0 dX11_put_25 (by decide) ?_
      refine g_aload_n C 0 dX11_put_26 rfl ?_
      refine g_get C (.ref (ad 266)) 11 in_X11_put_11 (List.mem_of_getElem? (i := 1) rfl) (by decide) (ce_model ad cs _ _) rfl (by decide) rfl rfl dX11_put_27 ?_
      refine g_iload_n C 1 dX11_put_30 rfl ?_
      refine g_iald C (by decide) (ce_m_boxSize ad cs _ _) (fin' (n := 8) rfl (by omega) (by omega)) dX11_put_31 ?_
      refine g_ni (fun v9 ev9 => ?_)
      have gv9 : v9 = vR M 7 x.toNatClampNeg := ev9
      have tv9 := congrArg Int32.toInt gv9
      obtain ⟨bv9, dv9⟩ := (show rg 0 40 v9 from (by rw [ev9]; exact hI 266 x.toNatClampNeg))
      refine g_iconst C 1 dX11_put_32 (by decide) ?_
      refine g_isub C dX11_put_33 ?_
      refine g_ni (fun v10 ev10 => ?_)
      try have fv10 := fsub rfl (by decide : (1 : Int32).toInt = 1) ev10 (by omega) (by omega)
      refine g_callSi C (n := 3) (As := [.int y, .int 0, .int v10]) (st := []) (c_X11_in l D ad cs _ _ y 0 v10 ) gX11_put_X11_in rfl rfl rfl (by decide +kernel) ⟨Nat.le_of_ble_eq_true rfl, Nat.le_of_ble_eq_true rfl⟩ rfl (Nat.le_of_ble_eq_true rfl) ⟨Nat.zero_le _, Nat.zero_le _⟩ rfl dX11_put_34 (fun r11 M12 L13 hr11 => ?_)
      obtain ⟨hq1, hq2, hr11⟩ := hr11
      obtain rfl := hq1.symm
      obtain rfl := hq2.symm
      have hr11 := zo_in hr11 (by decide : (0 : Int32).toInt = 0) rfl
      obtain ⟨bar11, bbr11⟩ := zo_b hr11
      refine g_if_ne C 46 dX11_put_37 (by decide) (fun c14 => ?_) (fun c14 => ?_)
      ·
        have f15 := fne rfl (by decide : (0 : Int32).toInt = 0) c14
        have pr11 := zo_t hr11 c14
        try dsimp only [hasC, hasB, hasX, hasM, ofS, ofK, bt] at pr11
        refine g_iload_n C 3 dX11_put_46 rfl ?_
        refine g_bipush C (-9) dX11_put_47 (by decide) ?_
        refine g_icmp_eq C 77 dX11_put_49 (by decide) (fun c16 => ?_) (fun c16 => ?_)
        ·
          have f17 := feq rfl (by decide : ((-9) : Int32).toInt = (-9)) c16
          refine g_aload_n C 0 dX11_put_77 rfl ?_
          refine g_get C (.ref (ad 267)) 12 in_X11_put_11 (List.mem_of_getElem? (i := 4) rfl) (by decide) (ce_model ad cs _ _) rfl (by decide) rfl rfl dX11_put_78 ?_
          refine g_bipush C 40 dX11_put_81 (by decide) ?_
          refine g_iload_n C 1 dX11_put_83 rfl ?_
          refine g_imul C dX11_put_84 ?_
          refine g_ni (fun v18 ev18 => ?_)
          try have fv18 := fmul (by decide : (40 : Int32).toInt = 40) rfl ev18 (by omega) (by omega)
          refine g_iload_n C 2 dX11_put_85 rfl ?_
          refine g_iadd C dX11_put_86 ?_
          refine g_ni (fun v19 ev19 => ?_)
          try have fv19 := fadd rfl rfl ev19 (by omega) (by omega)
          refine g_iload_n C 3 dX11_put_87 rfl ?_
          refine g_iast C (by decide) (ce_m_boxed ad cs _ _) (by rw [sI_k]; rfl) (fin' (n := 320) rfl (by omega) (by omega)) dX11_put_88 ?_
          have nx := ixn (x := x) (by omega)
          have ny := ixn (x := y) (by omega)
          have nv19 := ixn (x := v19) (by omega)
          have iv19 : v19.toNatClampNeg = 40 * x.toNatClampNeg + y.toNatClampNeg := by omega
          refine g_nm (fun M20 hM20 => ?_)
          have hI : IR M20 := by rw [hM20]; exact hI.st (show bR 267 _ _ from (by show bxd _; unfold bxd; omega))
          have hF : ∀ k i, ¬ (k = 258 ∧ i = 0) ∧ k ≠ 259 ∧ k ≠ 267 → M20 k i = M k i := fun k i hk => by (rw [hM20, sI_at, if_neg (by omega)]; try exact hF k i hk)
          have k0 : M20 258 0 = vR M 0 4 := by rw [hM20, sI_n _ _ _ (by decide)]; try exact k0
          have q259 : M20 259 = M 259 := by rw [hM20, sI_n _ _ _ (by decide)]; try exact q259
          have hcM20 : M20 = sI M 267 (40 * x.toNatClampNeg + y.toNatClampNeg) b := by rw [hM20, iv19]
          have o9 : M 258 9 = M 258 9 := by have h9 := hF 258 9 (by omega); rw [hM20, sI_n _ _ _ (by decide)] at h9; first | done | exact h9 | rfl
          have o9t := congrArg Int32.toInt o9
          have hV : vR M20 = sI (vR M) 8 (40 * x.toNatClampNeg + y.toNatClampNeg) b := by rw [hcM20, vR_b (by omega), hV]
          refine g_iconst C 1 dX11_put_89 (by decide) ?_
          have zr9 : (1 : Int32).toInt = 1 := by decide
          exact g_iret C hr ⟨(by dsimp only [A_put, hasC, hasB, hasX, hasM, ofS, ofK, bt, ix]; (repeat (first | rw [if_pos (by omega)] | rw [if_neg (by omega)])); rw [hV]; first | done | rfl | (simp only [ev19, ev18, ev10, gv9]; done) | (simp only [ev19, ev18, ev10, gv9]; rfl) | (subst_vars; first | rfl | grind)), hI, hF, hG⟩ dX11_put_90
        ·
          have f21 := fne rfl (by decide : ((-9) : Int32).toInt = (-9)) c16
          refine g_aload_n C 0 dX11_put_52 rfl ?_
          refine g_get C (.ref (ad 261)) 5 in_X11_put_11 (List.mem_of_getElem? (i := 2) rfl) (by decide) (ce_model ad cs _ _) rfl (by decide) rfl rfl dX11_put_53 ?_
          refine g_iload_n C 3 dX11_put_56 rfl ?_
          refine g_iald C (by decide) (ce_m_sortOf ad cs _ _) (fin' (n := 60) rfl (by omega) (by omega)) dX11_put_57 ?_
          refine g_ni (fun v22 ev22 => ?_)
          have gv22 : v22 = vR M 2 b.toNatClampNeg := ev22
          have tv22 := congrArg Int32.toInt gv22
          refine g_aload_n C 0 dX11_put_58 rfl ?_
          refine g_get C (.ref (ad 265)) 10 in_X11_put_11 (List.mem_of_getElem? (i := 3) rfl) (by decide) (ce_model ad cs _ _) rfl (by decide) rfl rfl dX11_put_59 ?_
          refine g_iload_n C 1 dX11_put_62 rfl ?_
          refine g_iald C (by decide) (ce_m_boxSort ad cs _ _) (fin' (n := 8) rfl (by omega) (by omega)) dX11_put_63 ?_
          refine g_ni (fun v23 ev23 => ?_)
          have gv23 : v23 = vR M 6 x.toNatClampNeg := ev23
          have tv23 := congrArg Int32.toInt gv23
          refine g_callSi C (n := 2) (As := [.int v22, .int v23]) (st := []) (s_X11_isOf l D ad cs _ _ v22 v23 hI ) gX11_put_X11_isOf rfl rfl rfl (by decide +kernel) ⟨Nat.le_of_ble_eq_true rfl, Nat.le_of_ble_eq_true rfl⟩ rfl (Nat.le_of_ble_eq_true rfl) ⟨Nat.zero_le _, Nat.zero_le _⟩ rfl dX11_put_64 (fun r24 M25 L26 hr24 => ?_)
          obtain ⟨hq1, hq2, hr24⟩ := hr24
          obtain rfl := hq1.symm
          obtain rfl := hq2.symm
          obtain ⟨bar24, bbr24⟩ := zo_b hr24
          refine g_if_ne C 77 dX11_put_67 (by decide) (fun c27 => ?_) (fun c27 => ?_)
          ·
            have f28 := fne rfl (by decide : (0 : Int32).toInt = 0) c27
            have pr24 := zo_t hr24 c27
            try dsimp only [hasC, hasB, hasX, hasM, ofS, ofK, bt] at pr24
            refine g_aload_n C 0 dX11_put_77 rfl ?_
            refine g_get C (.ref (ad 267)) 12 in_X11_put_11 (List.mem_of_getElem? (i := 4) rfl) (by decide) (ce_model ad cs _ _) rfl (by decide) rfl rfl dX11_put_78 ?_
            refine g_bipush C 40 dX11_put_81 (by decide) ?_
            refine g_iload_n C 1 dX11_put_83 rfl ?_
            refine g_imul C dX11_put_84 ?_
            refine g_ni (fun v29 ev29 => ?_)
            try have fv29 := fmul (by decide : (40 : Int32).toInt = 40) rfl ev29 (by omega) (by omega)
            refine g_iload_n C 2 dX11_put_85 rfl ?_
            refine g_iadd C dX11_put_86 ?_
            refine g_ni (fun v30 ev30 => ?_)
            try have fv30 := fadd rfl rfl ev30 (by omega) (by omega)
            refine g_iload_n C 3 dX11_put_87 rfl ?_
            refine g_iast C (by decide) (ce_m_boxed ad cs _ _) (by rw [sI_k]; rfl) (fin' (n := 320) rfl (by omega) (by omega)) dX11_put_88 ?_
            have nx := ixn (x := x) (by omega)
            have ny := ixn (x := y) (by omega)
            have nv30 := ixn (x := v30) (by omega)
            have iv30 : v30.toNatClampNeg = 40 * x.toNatClampNeg + y.toNatClampNeg := by omega
            refine g_nm (fun M31 hM31 => ?_)
            have hI : IR M31 := by rw [hM31]; exact hI.st (show bR 267 _ _ from (by show bxd _; unfold bxd; omega))
            have hF : ∀ k i, ¬ (k = 258 ∧ i = 0) ∧ k ≠ 259 ∧ k ≠ 267 → M31 k i = M k i := fun k i hk => by (rw [hM31, sI_at, if_neg (by omega)]; try exact hF k i hk)
            have k0 : M31 258 0 = vR M 0 4 := by rw [hM31, sI_n _ _ _ (by decide)]; try exact k0
            have q259 : M31 259 = M 259 := by rw [hM31, sI_n _ _ _ (by decide)]; try exact q259
            have hcM31 : M31 = sI M 267 (40 * x.toNatClampNeg + y.toNatClampNeg) b := by rw [hM31, iv30]
            have o9 : M 258 9 = M 258 9 := by have h9 := hF 258 9 (by omega); rw [hM31, sI_n _ _ _ (by decide)] at h9; first | done | exact h9 | rfl
            have o9t := congrArg Int32.toInt o9
            have hV : vR M31 = sI (vR M) 8 (40 * x.toNatClampNeg + y.toNatClampNeg) b := by rw [hcM31, vR_b (by omega), hV]
            refine g_iconst C 1 dX11_put_89 (by decide) ?_
            have zr9 : (1 : Int32).toInt = 1 := by decide
            exact g_iret C hr ⟨(by dsimp only [A_put, hasC, hasB, hasX, hasM, ofS, ofK, bt, ix]; (repeat (first | rw [if_pos (by omega)] | rw [if_neg (by omega)])); rw [hV]; first | done | rfl | (simp only [ev30, ev29, gv23, gv22, ev10, gv9]; done) | (simp only [ev30, ev29, gv23, gv22, ev10, gv9]; rfl) | (subst_vars; first | rfl | grind)), hI, hF, hG⟩ dX11_put_90
          ·
            have f32 := feq rfl (by decide : (0 : Int32).toInt = 0) c27
            have pr24 := zo_f hr24 c27
            try dsimp only [hasC, hasB, hasX, hasM, ofS, ofK, bt] at pr24
            refine g_aload_n C 0 dX11_put_70 rfl ?_
            refine g_bipush C 6 dX11_put_71 (by decide) ?_
            refine g_callVi C (n := 1) (As := [.int 6]) (st := []) (s_X11_meets l D ad cs _ _ 6 hI ⟨by first | omega | decide, by first | omega | decide⟩) gX11_put_X11_meets rfl rfl rfl (by decide +kernel) ⟨Nat.le_of_ble_eq_true rfl, Nat.le_of_ble_eq_true rfl⟩ rfl (Nat.le_of_ble_eq_true rfl) ⟨Nat.zero_le _, Nat.zero_le _⟩ (by decide) (ce_model ad cs _ _) rfl rfl dX11_put_73 (fun r33 M34 L35 hr33 => ?_)
            obtain ⟨hr33, hI, hFr33, hGr33⟩ := hr33
            have hF : ∀ k i, ¬ (k = 258 ∧ i = 0) ∧ k ≠ 259 ∧ k ≠ 267 → M34 k i = M k i := fun k i hk => by (rw [hFr33 k i (by omega)]; try exact hF k i hk)
            have hG : ∀ k i, True → L35 k i = L k i := fun k i hk => by (rw [hGr33 k i trivial]; try exact hG k i hk)
            have hV : vR M34 = meetsV (vR M) 6 := by rw [hr33.2, hV]
            have k0 : M34 258 0 = M34 258 0 := rfl
            have q259 : M34 259 = M34 259 := rfl
            have q267 : M34 267 = M 267 := (funext (fun i => hFr33 267 i (by omega))).trans q267
            exact g_iret C hr ⟨(by dsimp only [A_put, hasC, hasB, hasX, hasM, ofS, ofK, bt, ix]; (repeat (first | rw [if_pos (by omega)] | rw [if_neg (by omega)])); rw [hV]; first | done | rfl | (simp only [gv23, gv22, ev10, gv9]; done) | (simp only [gv23, gv22, ev10, gv9]; rfl) | (subst_vars; first | rfl | grind)), hI, hF, hG⟩ dX11_put_76
      ·
        have f36 := feq rfl (by decide : (0 : Int32).toInt = 0) c14
        have pr11 := zo_f hr11 c14
        try dsimp only [hasC, hasB, hasX, hasM, ofS, ofK, bt] at pr11
        refine g_aload_n C 0 dX11_put_40 rfl ?_
        refine g_iconst C 2 dX11_put_41 (by decide) ?_
        refine g_callVi C (n := 1) (As := [.int 2]) (st := []) (s_X11_meets l D ad cs _ _ 2 hI ⟨by first | omega | decide, by first | omega | decide⟩) gX11_put_X11_meets rfl rfl rfl (by decide +kernel) ⟨Nat.le_of_ble_eq_true rfl, Nat.le_of_ble_eq_true rfl⟩ rfl (Nat.le_of_ble_eq_true rfl) ⟨Nat.zero_le _, Nat.zero_le _⟩ (by decide) (ce_model ad cs _ _) rfl rfl dX11_put_42 (fun r37 M38 L39 hr37 => ?_)
        obtain ⟨hr37, hI, hFr37, hGr37⟩ := hr37
        have hF : ∀ k i, ¬ (k = 258 ∧ i = 0) ∧ k ≠ 259 ∧ k ≠ 267 → M38 k i = M k i := fun k i hk => by (rw [hFr37 k i (by omega)]; try exact hF k i hk)
        have hG : ∀ k i, True → L39 k i = L k i := fun k i hk => by (rw [hGr37 k i trivial]; try exact hG k i hk)
        have hV : vR M38 = meetsV (vR M) 2 := by rw [hr37.2, hV]
        have k0 : M38 258 0 = M38 258 0 := rfl
        have q259 : M38 259 = M38 259 := rfl
        have q267 : M38 267 = M 267 := (funext (fun i => hFr37 267 i (by omega))).trans q267
        exact g_iret C hr ⟨(by dsimp only [A_put, hasC, hasB, hasX, hasM, ofS, ofK, bt, ix]; (repeat (first | rw [if_pos (by omega)] | rw [if_neg (by omega)])); rw [hV]; first | done | rfl | (simp only [ev10, gv9]; done) | (simp only [ev10, gv9]; rfl) | (subst_vars; first | rfl | grind)), hI, hF, hG⟩ dX11_put_45
    ·
      have f40 := fne rfl (by decide : ((-9) : Int32).toInt = (-9)) c7
      refine g_aload_n C 0 dX11_put_14 rfl ?_
      refine g_iload_n C 3 dX11_put_15 rfl ?_
      refine g_callVi C (n := 1) (As := [.int b]) (st := []) (s_X11_isBallot l D ad cs _ _ b hI ) gX11_put_X11_isBallot rfl rfl rfl (by decide +kernel) ⟨Nat.le_of_ble_eq_true rfl, Nat.le_of_ble_eq_true rfl⟩ rfl (Nat.le_of_ble_eq_true rfl) ⟨Nat.zero_le _, Nat.zero_le _⟩ (by decide) (ce_model ad cs _ _) rfl rfl dX11_put_16 (fun r41 M42 L43 hr41 => ?_)
      obtain ⟨hq1, hq2, hr41⟩ := hr41
      obtain rfl := hq1.symm
      obtain rfl := hq2.symm
      obtain ⟨bar41, bbr41⟩ := zo_b hr41
      refine g_if_ne C 24 dX11_put_19 (by decide) (fun c44 => ?_) (fun c44 => ?_)
      ·
        have f45 := fne rfl (by decide : (0 : Int32).toInt = 0) c44
        have pr41 := zo_t hr41 c44
        try dsimp only [hasC, hasB, hasX, hasM, ofS, ofK, bt] at pr41
        refine g_iload_n C 2 dX11_put_24 rfl ?_
        refine g_iconst C 0 dX11_put_25 (by decide) ?_
        refine g_aload_n C 0 dX11_put_26 rfl ?_
        refine g_get C (.ref (ad 266)) 11 in_X11_put_11 (List.mem_of_getElem? (i := 1) rfl) (by decide) (ce_model ad cs _ _) rfl (by decide) rfl rfl dX11_put_27 ?_
        refine g_iload_n C 1 dX11_put_30 rfl ?_
        refine g_iald C (by decide) (ce_m_boxSize ad cs _ _) (fin' (n := 8) rfl (by omega) (by omega)) dX11_put_31 ?_
        refine g_ni (fun v46 ev46 => ?_)
        have gv46 : v46 = vR M 7 x.toNatClampNeg := ev46
        have tv46 := congrArg Int32.toInt gv46
        obtain ⟨bv46, dv46⟩ := (show rg 0 40 v46 from (by rw [ev46]; exact hI 266 x.toNatClampNeg))
        refine g_iconst C 1 dX11_put_32 (by decide) ?_
        refine g_isub C dX11_put_33 ?_
        refine g_ni (fun v47 ev47 => ?_)
        try have fv47 := fsub rfl (by decide : (1 : Int32).toInt = 1) ev47 (by omega) (by omega)
        refine g_callSi C (n := 3) (As := [.int y, .int 0, .int v47]) (st := []) (c_X11_in l D ad cs _ _ y 0 v47 ) gX11_put_X11_in rfl rfl rfl (by decide +kernel) ⟨Nat.le_of_ble_eq_true rfl, Nat.le_of_ble_eq_true rfl⟩ rfl (Nat.le_of_ble_eq_true rfl) ⟨Nat.zero_le _, Nat.zero_le _⟩ rfl dX11_put_34 (fun r48 M49 L50 hr48 => ?_)
        obtain ⟨hq1, hq2, hr48⟩ := hr48
        obtain rfl := hq1.symm
        obtain rfl := hq2.symm
        have hr48 := zo_in hr48 (by decide : (0 : Int32).toInt = 0) rfl
        obtain ⟨bar48, bbr48⟩ := zo_b hr48
        refine g_if_ne C 46 dX11_put_37 (by decide) (fun c51 => ?_) (fun c51 => ?_)
        ·
          have f52 := fne rfl (by decide : (0 : Int32).toInt = 0) c51
          have pr48 := zo_t hr48 c51
          try dsimp only [hasC, hasB, hasX, hasM, ofS, ofK, bt] at pr48
          refine g_iload_n C 3 dX11_put_46 rfl ?_
          refine g_bipush C (-9) dX11_put_47 (by decide) ?_
          refine g_icmp_eq C 77 dX11_put_49 (by decide) (fun c53 => ?_) (fun c53 => ?_)
          ·
            have f54 := feq rfl (by decide : ((-9) : Int32).toInt = (-9)) c53
            refine g_aload_n C 0 dX11_put_77 rfl ?_
            refine g_get C (.ref (ad 267)) 12 in_X11_put_11 (List.mem_of_getElem? (i := 4) rfl) (by decide) (ce_model ad cs _ _) rfl (by decide) rfl rfl dX11_put_78 ?_
            refine g_bipush C 40 dX11_put_81 (by decide) ?_
            refine g_iload_n C 1 dX11_put_83 rfl ?_
            refine g_imul C dX11_put_84 ?_
            refine g_ni (fun v55 ev55 => ?_)
            try have fv55 := fmul (by decide : (40 : Int32).toInt = 40) rfl ev55 (by omega) (by omega)
            refine g_iload_n C 2 dX11_put_85 rfl ?_
            refine g_iadd C dX11_put_86 ?_
            refine g_ni (fun v56 ev56 => ?_)
            try have fv56 := fadd rfl rfl ev56 (by omega) (by omega)
            refine g_iload_n C 3 dX11_put_87 rfl ?_
            refine g_iast C (by decide) (ce_m_boxed ad cs _ _) (by rw [sI_k]; rfl) (fin' (n := 320) rfl (by omega) (by omega)) dX11_put_88 ?_
            have nx := ixn (x := x) (by omega)
            have ny := ixn (x := y) (by omega)
            have nv56 := ixn (x := v56) (by omega)
            have iv56 : v56.toNatClampNeg = 40 * x.toNatClampNeg + y.toNatClampNeg := by omega
            refine g_nm (fun M57 hM57 => ?_)
            have hI : IR M57 := by rw [hM57]; exact hI.st (show bR 267 _ _ from (by show bxd _; unfold bxd; omega))
            have hF : ∀ k i, ¬ (k = 258 ∧ i = 0) ∧ k ≠ 259 ∧ k ≠ 267 → M57 k i = M k i := fun k i hk => by (rw [hM57, sI_at, if_neg (by omega)]; try exact hF k i hk)
            have k0 : M57 258 0 = vR M 0 4 := by rw [hM57, sI_n _ _ _ (by decide)]; try exact k0
            have q259 : M57 259 = M 259 := by rw [hM57, sI_n _ _ _ (by decide)]; try exact q259
            have hcM57 : M57 = sI M 267 (40 * x.toNatClampNeg + y.toNatClampNeg) b := by rw [hM57, iv56]
            have o9 : M 258 9 = M 258 9 := by have h9 := hF 258 9 (by omega); rw [hM57, sI_n _ _ _ (by decide)] at h9; first | done | exact h9 | rfl
            have o9t := congrArg Int32.toInt o9
            have hV : vR M57 = sI (vR M) 8 (40 * x.toNatClampNeg + y.toNatClampNeg) b := by rw [hcM57, vR_b (by omega), hV]
            refine g_iconst C 1 dX11_put_89 (by decide) ?_
            have zr9 : (1 : Int32).toInt = 1 := by decide
            exact g_iret C hr ⟨(by dsimp only [A_put, hasC, hasB, hasX, hasM, ofS, ofK, bt, ix]; (repeat (first | rw [if_pos (by omega)] | rw [if_neg (by omega)])); rw [hV]; first | done | rfl | (simp only [ev56, ev55, ev47, gv46]; done) | (simp only [ev56, ev55, ev47, gv46]; rfl) | (subst_vars; first | rfl | grind)), hI, hF, hG⟩ dX11_put_90
          ·
            have f58 := fne rfl (by decide : ((-9) : Int32).toInt = (-9)) c53
            refine g_aload_n C 0 dX11_put_52 rfl ?_
            refine g_get C (.ref (ad 261)) 5 in_X11_put_11 (List.mem_of_getElem? (i := 2) rfl) (by decide) (ce_model ad cs _ _) rfl (by decide) rfl rfl dX11_put_53 ?_
            refine g_iload_n C 3 dX11_put_56 rfl ?_
            refine g_iald C (by decide) (ce_m_sortOf ad cs _ _) (fin' (n := 60) rfl (by omega) (by omega)) dX11_put_57 ?_
            refine g_ni (fun v59 ev59 => ?_)
            have gv59 : v59 = vR M 2 b.toNatClampNeg := ev59
            have tv59 := congrArg Int32.toInt gv59
            refine g_aload_n C 0 dX11_put_58 rfl ?_
            refine g_get C (.ref (ad 265)) 10 in_X11_put_11 (List.mem_of_getElem? (i := 3) rfl) (by decide) (ce_model ad cs _ _) rfl (by decide) rfl rfl dX11_put_59 ?_
            refine g_iload_n C 1 dX11_put_62 rfl ?_
            refine g_iald C (by decide) (ce_m_boxSort ad cs _ _) (fin' (n := 8) rfl (by omega) (by omega)) dX11_put_63 ?_
            refine g_ni (fun v60 ev60 => ?_)
            have gv60 : v60 = vR M 6 x.toNatClampNeg := ev60
            have tv60 := congrArg Int32.toInt gv60
            refine g_callSi C (n := 2) (As := [.int v59, .int v60]) (st := []) (s_X11_isOf l D ad cs _ _ v59 v60 hI ) gX11_put_X11_isOf rfl rfl rfl (by decide +kernel) ⟨Nat.le_of_ble_eq_true rfl, Nat.le_of_ble_eq_true rfl⟩ rfl (Nat.le_of_ble_eq_true rfl) ⟨Nat.zero_le _, Nat.zero_le _⟩ rfl dX11_put_64 (fun r61 M62 L63 hr61 => ?_)
            obtain ⟨hq1, hq2, hr61⟩ := hr61
            obtain rfl := hq1.symm
            obtain rfl := hq2.symm
            obtain ⟨bar61, bbr61⟩ := zo_b hr61
            refine g_if_ne C 77 dX11_put_67 (by decide) (fun c64 => ?_) (fun c64 => ?_)
            ·
              have f65 := fne rfl (by decide : (0 : Int32).toInt = 0) c64
              have pr61 := zo_t hr61 c64
              try dsimp only [hasC, hasB, hasX, hasM, ofS, ofK, bt] at pr61
              refine g_aload_n C 0 dX11_put_77 rfl ?_
              refine g_get C (.ref (ad 267)) 12 in_X11_put_11 (List.mem_of_getElem? (i := 4) rfl) (by decide) (ce_model ad cs _ _) rfl (by decide) rfl rfl dX11_put_78 ?_
              refine g_bipush C 40 dX11_put_81 (by decide) ?_
              refine g_iload_n C 1 dX11_put_83 rfl ?_
              refine g_imul C dX11_put_84 ?_
              refine g_ni (fun v66 ev66 => ?_)
              try have fv66 := fmul (by decide : (40 : Int32).toInt = 40) rfl ev66 (by omega) (by omega)
              refine g_iload_n C 2 dX11_put_85 rfl ?_
              refine g_iadd C dX11_put_86 ?_
              refine g_ni (fun v67 ev67 => ?_)
              try have fv67 := fadd rfl rfl ev67 (by omega) (by omega)
              refine g_iload_n C 3 dX11_put_87 rfl ?_
              refine g_iast C (by decide) (ce_m_boxed ad cs _ _) (by rw [sI_k]; rfl) (fin' (n := 320) rfl (by omega) (by omega)) dX11_put_88 ?_
              have nx := ixn (x := x) (by omega)
              have ny := ixn (x := y) (by omega)
              have nv67 := ixn (x := v67) (by omega)
              have iv67 : v67.toNatClampNeg = 40 * x.toNatClampNeg + y.toNatClampNeg := by omega
              refine g_nm (fun M68 hM68 => ?_)
              have hI : IR M68 := by rw [hM68]; exact hI.st (show bR 267 _ _ from (by show bxd _; unfold bxd; omega))
              have hF : ∀ k i, ¬ (k = 258 ∧ i = 0) ∧ k ≠ 259 ∧ k ≠ 267 → M68 k i = M k i := fun k i hk => by (rw [hM68, sI_at, if_neg (by omega)]; try exact hF k i hk)
              have k0 : M68 258 0 = vR M 0 4 := by rw [hM68, sI_n _ _ _ (by decide)]; try exact k0
              have q259 : M68 259 = M 259 := by rw [hM68, sI_n _ _ _ (by decide)]; try exact q259
              have hcM68 : M68 = sI M 267 (40 * x.toNatClampNeg + y.toNatClampNeg) b := by rw [hM68, iv67]
              have o9 : M 258 9 = M 258 9 := by have h9 := hF 258 9 (by omega); rw [hM68, sI_n _ _ _ (by decide)] at h9; first | done | exact h9 | rfl
              have o9t := congrArg Int32.toInt o9
              have hV : vR M68 = sI (vR M) 8 (40 * x.toNatClampNeg + y.toNatClampNeg) b := by rw [hcM68, vR_b (by omega), hV]
              refine g_iconst C 1 dX11_put_89 (by decide) ?_
              have zr9 : (1 : Int32).toInt = 1 := by decide
              exact g_iret C hr ⟨(by dsimp only [A_put, hasC, hasB, hasX, hasM, ofS, ofK, bt, ix]; (repeat (first | rw [if_pos (by omega)] | rw [if_neg (by omega)])); rw [hV]; first | done | rfl | (simp only [ev67, ev66, gv60, gv59, ev47, gv46]; done) | (simp only [ev67, ev66, gv60, gv59, ev47, gv46]; rfl) | (subst_vars; first | rfl | grind)), hI, hF, hG⟩ dX11_put_90
            ·
              have f69 := feq rfl (by decide : (0 : Int32).toInt = 0) c64
              have pr61 := zo_f hr61 c64
              try dsimp only [hasC, hasB, hasX, hasM, ofS, ofK, bt] at pr61
              refine g_aload_n C 0 dX11_put_70 rfl ?_
              refine g_bipush C 6 dX11_put_71 (by decide) ?_
              refine g_callVi C (n := 1) (As := [.int 6]) (st := []) (s_X11_meets l D ad cs _ _ 6 hI ⟨by first | omega | decide, by first | omega | decide⟩) gX11_put_X11_meets rfl rfl rfl (by decide +kernel) ⟨Nat.le_of_ble_eq_true rfl, Nat.le_of_ble_eq_true rfl⟩ rfl (Nat.le_of_ble_eq_true rfl) ⟨Nat.zero_le _, Nat.zero_le _⟩ (by decide) (ce_model ad cs _ _) rfl rfl dX11_put_73 (fun r70 M71 L72 hr70 => ?_)
              obtain ⟨hr70, hI, hFr70, hGr70⟩ := hr70
              have hF : ∀ k i, ¬ (k = 258 ∧ i = 0) ∧ k ≠ 259 ∧ k ≠ 267 → M71 k i = M k i := fun k i hk => by (rw [hFr70 k i (by omega)]; try exact hF k i hk)
              have hG : ∀ k i, True → L72 k i = L k i := fun k i hk => by (rw [hGr70 k i trivial]; try exact hG k i hk)
              have hV : vR M71 = meetsV (vR M) 6 := by rw [hr70.2, hV]
              have k0 : M71 258 0 = M71 258 0 := rfl
              have q259 : M71 259 = M71 259 := rfl
              have q267 : M71 267 = M 267 := (funext (fun i => hFr70 267 i (by omega))).trans q267
              exact g_iret C hr ⟨(by dsimp only [A_put, hasC, hasB, hasX, hasM, ofS, ofK, bt, ix]; (repeat (first | rw [if_pos (by omega)] | rw [if_neg (by omega)])); rw [hV]; first | done | rfl | (simp only [gv60, gv59, ev47, gv46]; done) | (simp only [gv60, gv59, ev47, gv46]; rfl) | (subst_vars; first | rfl | grind)), hI, hF, hG⟩ dX11_put_76
        ·
          have f73 := feq rfl (by decide : (0 : Int32).toInt = 0) c51
          have pr48 := zo_f hr48 c51
          try dsimp only [hasC, hasB, hasX, hasM, ofS, ofK, bt] at pr48
          refine g_aload_n C 0 dX11_put_40 rfl ?_
          refine g_iconst C 2 dX11_put_41 (by decide) ?_
          refine g_callVi C (n := 1) (As := [.int 2]) (st := []) (s_X11_meets l D ad cs _ _ 2 hI ⟨by first | omega | decide, by first | omega | decide⟩) gX11_put_X11_meets rfl rfl rfl (by decide +kernel) ⟨Nat.le_of_ble_eq_true rfl, Nat.le_of_ble_eq_true rfl⟩ rfl (Nat.le_of_ble_eq_true rfl) ⟨Nat.zero_le _, Nat.zero_le _⟩ (by decide) (ce_model ad cs _ _) rfl rfl dX11_put_42 (fun r74 M75 L76 hr74 => ?_)
          obtain ⟨hr74, hI, hFr74, hGr74⟩ := hr74
          have hF : ∀ k i, ¬ (k = 258 ∧ i = 0) ∧ k ≠ 259 ∧ k ≠ 267 → M75 k i = M k i := fun k i hk => by (rw [hFr74 k i (by omega)]; try exact hF k i hk)
          have hG : ∀ k i, True → L76 k i = L k i := fun k i hk => by (rw [hGr74 k i trivial]; try exact hG k i hk)
          have hV : vR M75 = meetsV (vR M) 2 := by rw [hr74.2, hV]
          have k0 : M75 258 0 = M75 258 0 := rfl
          have q259 : M75 259 = M75 259 := rfl
          have q267 : M75 267 = M 267 := (funext (fun i => hFr74 267 i (by omega))).trans q267
          exact g_iret C hr ⟨(by dsimp only [A_put, hasC, hasB, hasX, hasM, ofS, ofK, bt, ix]; (repeat (first | rw [if_pos (by omega)] | rw [if_neg (by omega)])); rw [hV]; first | done | rfl | (simp only [ev47, gv46]; done) | (simp only [ev47, gv46]; rfl) | (subst_vars; first | rfl | grind)), hI, hF, hG⟩ dX11_put_45
      ·
        have f77 := feq rfl (by decide : (0 : Int32).toInt = 0) c44
        have pr41 := zo_f hr41 c44
        try dsimp only [hasC, hasB, hasX, hasM, ofS, ofK, bt] at pr41
        refine g_iconst C (-1) dX11_put_22 (by decide) ?_
        have zr9 : ((-1) : Int32).toInt = (-1) := by decide
        exact g_iret C hr ⟨(by dsimp only [A_put, hasC, hasB, hasX, hasM, ofS, ofK, bt, ix]; (repeat (first | rw [if_pos (by omega)] | rw [if_neg (by omega)])); first | done | rfl | (simp only [ix]; done) | (simp only [ix]; rfl) | (subst_vars; first | rfl | grind)), hI, hF, hG⟩ dX11_put_23
theorem dX11_where_0 : decode cX11_where 0 = .ok (.aload_n 0, 1) := dw42 (n := 0) (i := 0) kc_cX11_where_0 (by decide +kernel)
theorem dX11_where_1 : decode cX11_where 1 = .ok (.getfield 126, 3) := dw180 (n := 0) (i := 1) (a := 0) (b := 126) kc_cX11_where_0 (by decide +kernel) (by decide)
theorem in_X11_where_11 : ∀ w ∈ u_ws RX11 TX11 53, w ∈ wsX11_where := fun _ h => List.mem_cons_of_mem _ (List.mem_append_right _ h)
theorem dX11_where_4 : decode cX11_where 4 = .ok (.ireturn, 1) := dw172 (n := 0) (i := 4) kc_cX11_where_0 (by decide +kernel)
set_option maxHeartbeats 4000000 in
set_option maxRecDepth 100000 in
theorem s_X11_where (l : Launch) (D : va_G) (ad : Nat → Nat) (cs : Nat → ClassId) (M : MI) (L : ML)  (hI : IR M) : Ci l yX11_where wsX11_where ({ frames := 0, cells := 0, slots := 0, locals := 0 }) D ad cs [.ref (ad 258)] M L (fun r M1 L1 => M1 = M ∧ L1 = L ∧ (r = vR M 0 5)) := by
  refine enter_i RX11 rfl [(0, .ref (ad 258))] rfl (Nat.le_of_ble_eq_true rfl) (by decide +kernel) rfl ?_
  intro p e s m below meth c C hr
  have hF : ∀ k i, True → M k i = M k i := fun _ _ _ => rfl
  have hG : ∀ k i, True → L k i = L k i := fun _ _ _ => rfl
  have w0 : (vR M 0 0).toInt = (M 258 2).toInt := rfl
  have w1 : (vR M 0 1).toInt = (M 258 4).toInt := rfl
  have w2 : (vR M 0 2).toInt = (M 258 9).toInt := rfl
  have w3 : (vR M 0 3).toInt = (M 258 14).toInt := rfl
  obtain ⟨y0a, y0b⟩ := (show rg 0 10 (M 258 2) from hI 258 2)
  obtain ⟨y1a, y1b⟩ := (show rg 0 60 (M 258 4) from hI 258 4)
  obtain ⟨y2a, y2b⟩ := (show rg 0 8 (M 258 9) from hI 258 9)
  obtain ⟨y3a, y3b⟩ := (show rg 0 20 (M 258 14) from hI 258 14)
  refine g_aload_n C 0 dX11_where_0 rfl ?_
  refine g_get C (.int (M 258 26)) 26 in_X11_where_11 (List.mem_of_getElem? (i := 1) rfl) (by decide) (ce_model ad cs _ _) rfl (by decide) rfl rfl dX11_where_1 ?_
  refine g_ni (fun v1 ev1 => ?_)
  have gv1 : v1 = vR M 0 5 := ev1
  have tv1 := congrArg Int32.toInt gv1
  exact g_iret C hr ⟨rfl, rfl, gv1⟩ dX11_where_4
theorem dX11_finding_0 : decode cX11_finding 0 = .ok (.aload_n 0, 1) := dw42 (n := 0) (i := 0) kc_cX11_finding_0 (by decide +kernel)
theorem dX11_finding_1 : decode cX11_finding 1 = .ok (.getfield 130, 3) := dw180 (n := 0) (i := 1) (a := 0) (b := 130) kc_cX11_finding_0 (by decide +kernel) (by decide)
theorem in_X11_finding_11 : ∀ w ∈ u_ws RX11 TX11 53, w ∈ wsX11_finding := fun _ h => List.mem_cons_of_mem _ (List.mem_append_right _ h)
theorem dX11_finding_4 : decode cX11_finding 4 = .ok (.ireturn, 1) := dw172 (n := 0) (i := 4) kc_cX11_finding_0 (by decide +kernel)
set_option maxHeartbeats 4000000 in
set_option maxRecDepth 100000 in
theorem s_X11_finding (l : Launch) (D : va_G) (ad : Nat → Nat) (cs : Nat → ClassId) (M : MI) (L : ML)  (hI : IR M) : Ci l yX11_finding wsX11_finding ({ frames := 0, cells := 0, slots := 0, locals := 0 }) D ad cs [.ref (ad 258)] M L (fun r M1 L1 => M1 = M ∧ L1 = L ∧ (r = vR M 0 4)) := by
  refine enter_i RX11 rfl [(0, .ref (ad 258))] rfl (Nat.le_of_ble_eq_true rfl) (by decide +kernel) rfl ?_
  intro p e s m below meth c C hr
  have hF : ∀ k i, True → M k i = M k i := fun _ _ _ => rfl
  have hG : ∀ k i, True → L k i = L k i := fun _ _ _ => rfl
  have w0 : (vR M 0 0).toInt = (M 258 2).toInt := rfl
  have w1 : (vR M 0 1).toInt = (M 258 4).toInt := rfl
  have w2 : (vR M 0 2).toInt = (M 258 9).toInt := rfl
  have w3 : (vR M 0 3).toInt = (M 258 14).toInt := rfl
  obtain ⟨y0a, y0b⟩ := (show rg 0 10 (M 258 2) from hI 258 2)
  obtain ⟨y1a, y1b⟩ := (show rg 0 60 (M 258 4) from hI 258 4)
  obtain ⟨y2a, y2b⟩ := (show rg 0 8 (M 258 9) from hI 258 9)
  obtain ⟨y3a, y3b⟩ := (show rg 0 20 (M 258 14) from hI 258 14)
  refine g_aload_n C 0 dX11_finding_0 rfl ?_
  refine g_get C (.int (M 258 0)) 0 in_X11_finding_11 (List.mem_of_getElem? (i := 1) rfl) (by decide) (ce_model ad cs _ _) rfl (by decide) rfl rfl dX11_finding_1 ?_
  refine g_ni (fun v1 ev1 => ?_)
  have gv1 : v1 = vR M 0 4 := ev1
  have tv1 := congrArg Int32.toInt gv1
  exact g_iret C hr ⟨rfl, rfl, gv1⟩ dX11_finding_4
theorem dX11_findings_0 : decode cX11_findings 0 = .ok (.iload_n 1, 1) := dw27 (n := 0) (i := 0) kc_cX11_findings_0 (by decide +kernel)
theorem dX11_findings_1 : decode cX11_findings 1 = .ok (.iconst 1, 1) := dw4 (n := 0) (i := 1) kc_cX11_findings_0 (by decide +kernel)
theorem dX11_findings_2 : decode cX11_findings 2 = .ok (.bipush 6, 2) := dw16 (n := 0) (i := 2) (a := 6) kc_cX11_findings_0 (by decide +kernel) (by decide)
theorem dX11_findings_4 : decode cX11_findings 4 = .ok (.invokestatic 133, 3) := dw184 (n := 0) (i := 4) (a := 0) (b := 133) kc_cX11_findings_0 (by decide +kernel) (by decide)
set_option maxRecDepth 20000 in
theorem ggX11_findings_X11_in : GoodIn wsX11_findings wsX11_in := (gk_code 5 rfl (gn))
set_option maxRecDepth 20000 in
theorem gX11_findings_X11_in : GoodIn wsX11_findings (va_wsS RX11 133 yX11_in wsX11_in) := goodIn_app (gk_methodLink 2 rfl (gk_static 3 rfl (gk_initialized 4 rfl (gn)))) ggX11_findings_X11_in
theorem dX11_findings_7 : decode cX11_findings 7 = .ok (.ifCond .eq 12, 3) := dw153 (n := 0) (i := 7) (a := 0) (b := 12) kc_cX11_findings_0 (by decide +kernel) (by decide)
theorem dX11_findings_19 : decode cX11_findings 19 = .ok (.iconst (-1), 1) := dw2 (n := 0) (i := 19) kc_cX11_findings_0 (by decide +kernel)
theorem dX11_findings_20 : decode cX11_findings 20 = .ok (.ireturn, 1) := dw172 (n := 0) (i := 20) kc_cX11_findings_0 (by decide +kernel)
theorem dX11_findings_10 : decode cX11_findings 10 = .ok (.aload_n 0, 1) := dw42 (n := 0) (i := 10) kc_cX11_findings_0 (by decide +kernel)
theorem dX11_findings_11 : decode cX11_findings 11 = .ok (.getfield 7, 3) := dw180 (n := 0) (i := 11) (a := 0) (b := 7) kc_cX11_findings_0 (by decide +kernel) (by decide)
theorem in_X11_findings_11 : ∀ w ∈ u_ws RX11 TX11 53, w ∈ wsX11_findings := fun _ h => List.mem_cons_of_mem _ (List.mem_append_right _ h)
theorem dX11_findings_14 : decode cX11_findings 14 = .ok (.iload_n 1, 1) := dw27 (n := 0) (i := 14) kc_cX11_findings_0 (by decide +kernel)
theorem dX11_findings_15 : decode cX11_findings 15 = .ok (.iaload, 1) := dw46 (n := 0) (i := 15) kc_cX11_findings_0 (by decide +kernel)
theorem dX11_findings_16 : decode cX11_findings 16 = .ok (.goto 4, 3) := dw167 (n := 0) (i := 16) (a := 0) (b := 4) kc_cX11_findings_0 (by decide +kernel) (by decide)
set_option maxHeartbeats 4000000 in
set_option maxRecDepth 100000 in
theorem s_X11_findings (l : Launch) (D : va_G) (ad : Nat → Nat) (cs : Nat → ClassId) (M : MI) (L : ML) (x : Int32) (hI : IR M) : Ci l yX11_findings wsX11_findings ({ frames := 1, cells := 0, slots := 0, locals := 22 }) D ad cs [.ref (ad 258), .int x] M L (fun r M1 L1 => M1 = M ∧ L1 = L ∧ (r = A_findings (vR M) x)) := by
  refine enter_i RX11 rfl [(0, .ref (ad 258)), (1, .int x)] rfl (Nat.le_of_ble_eq_true rfl) (by decide +kernel) rfl ?_
  intro p e s m below meth c C hr
  have hF : ∀ k i, True → M k i = M k i := fun _ _ _ => rfl
  have hG : ∀ k i, True → L k i = L k i := fun _ _ _ => rfl
  have w0 : (vR M 0 0).toInt = (M 258 2).toInt := rfl
  have w1 : (vR M 0 1).toInt = (M 258 4).toInt := rfl
  have w2 : (vR M 0 2).toInt = (M 258 9).toInt := rfl
  have w3 : (vR M 0 3).toInt = (M 258 14).toInt := rfl
  obtain ⟨y0a, y0b⟩ := (show rg 0 10 (M 258 2) from hI 258 2)
  obtain ⟨y1a, y1b⟩ := (show rg 0 60 (M 258 4) from hI 258 4)
  obtain ⟨y2a, y2b⟩ := (show rg 0 8 (M 258 9) from hI 258 9)
  obtain ⟨y3a, y3b⟩ := (show rg 0 20 (M 258 14) from hI 258 14)
  refine g_iload_n C 1 dX11_findings_0 rfl ?_
  refine g_iconst C 1 dX11_findings_1 (by decide) ?_
  refine g_bipush C 6 dX11_findings_2 (by decide) ?_
  refine g_callSi C (n := 3) (As := [.int x, .int 1, .int 6]) (st := []) (c_X11_in l D ad cs _ _ x 1 6 ) gX11_findings_X11_in rfl rfl rfl (by decide +kernel) ⟨Nat.le_of_ble_eq_true rfl, Nat.le_of_ble_eq_true rfl⟩ rfl (Nat.le_of_ble_eq_true rfl) ⟨Nat.zero_le _, Nat.zero_le _⟩ rfl dX11_findings_4 (fun r1 M2 L3 hr1 => ?_)
  obtain ⟨hq1, hq2, hr1⟩ := hr1
  obtain rfl := hq1.symm
  obtain rfl := hq2.symm
  have hr1 := zo_in hr1 (by decide : (1 : Int32).toInt = 1) (by decide : (6 : Int32).toInt = 6)
  obtain ⟨bar1, bbr1⟩ := zo_b hr1
  refine g_if_eq C 19 dX11_findings_7 (by decide) (fun c4 => ?_) (fun c4 => ?_)
  ·
    have f5 := feq rfl (by decide : (0 : Int32).toInt = 0) c4
    have pr1 := zo_f hr1 c4
    try dsimp only [hasC, hasB, hasX, hasM, ofS, ofK, bt] at pr1
    refine g_iconst C (-1) dX11_findings_19 (by decide) ?_
    have zr9 : ((-1) : Int32).toInt = (-1) := by decide
    exact g_iret C hr ⟨rfl, rfl, (by dsimp only [A_findings, hasC, hasB, hasX, hasM, ofS, ofK, bt, ix]; (repeat (first | rw [if_pos (by omega)] | rw [if_neg (by omega)])); first | done | rfl | (simp only [ix]; done) | (simp only [ix]; rfl) | (subst_vars; first | rfl | grind))⟩ dX11_findings_20
  ·
    have f6 := fne rfl (by decide : (0 : Int32).toInt = 0) c4
    have pr1 := zo_t hr1 c4
    try dsimp only [hasC, hasB, hasX, hasM, ofS, ofK, bt] at pr1
    refine g_aload_n C 0 dX11_findings_10 rfl ?_
    refine g_get C (.ref (ad 259)) 1 in_X11_findings_11 (List.mem_of_getElem? (i := 1) rfl) (by decide) (ce_model ad cs _ _) rfl (by decide) rfl rfl dX11_findings_11 ?_
    refine g_iload_n C 1 dX11_findings_14 rfl ?_
    refine g_iald C (by decide) (ce_m_came ad cs _ _) (fin' (n := 7) rfl (by omega) (by omega)) dX11_findings_15 ?_
    refine g_ni (fun v7 ev7 => ?_)
    have gv7 : v7 = vR M 14 x.toNatClampNeg := ev7
    have tv7 := congrArg Int32.toInt gv7
    refine g_goto C 20 dX11_findings_16 (by decide) ?_
    exact g_iret C hr ⟨rfl, rfl, (by dsimp only [A_findings, hasC, hasB, hasX, hasM, ofS, ofK, bt, ix]; (repeat (first | rw [if_pos (by omega)] | rw [if_neg (by omega)])); first | done | rfl | (simp only [gv7]; done) | (simp only [gv7]; rfl) | (subst_vars; first | rfl | grind))⟩ dX11_findings_20
theorem dX11_many_0 : decode cX11_many 0 = .ok (.iload_n 1, 1) := dw27 (n := 0) (i := 0) kc_cX11_many_0 (by decide +kernel)
theorem dX11_many_1 : decode cX11_many 1 = .ok (.tableswitch 60 0 4 #[35, 40, 45, 50, 55], 35) := by decide +kernel
theorem dX11_many_61 : decode cX11_many 61 = .ok (.iconst (-1), 1) := dw2 (n := 32) (i := 29) kc_cX11_many_1 (by decide +kernel)
theorem dX11_many_62 : decode cX11_many 62 = .ok (.ireturn, 1) := dw172 (n := 32) (i := 30) kc_cX11_many_1 (by decide +kernel)
theorem dX11_many_36 : decode cX11_many 36 = .ok (.aload_n 0, 1) := dw42 (n := 32) (i := 4) kc_cX11_many_1 (by decide +kernel)
theorem dX11_many_37 : decode cX11_many 37 = .ok (.getfield 137, 3) := dw180 (n := 32) (i := 5) (a := 0) (b := 137) kc_cX11_many_1 (by decide +kernel) (by decide)
theorem in_X11_many_11 : ∀ w ∈ u_ws RX11 TX11 53, w ∈ wsX11_many := fun _ h => List.mem_cons_of_mem _ (List.mem_append_right _ h)
theorem dX11_many_40 : decode cX11_many 40 = .ok (.ireturn, 1) := dw172 (n := 32) (i := 8) kc_cX11_many_1 (by decide +kernel)
theorem dX11_many_41 : decode cX11_many 41 = .ok (.aload_n 0, 1) := dw42 (n := 32) (i := 9) kc_cX11_many_1 (by decide +kernel)
theorem dX11_many_42 : decode cX11_many 42 = .ok (.getfield 144, 3) := dw180 (n := 32) (i := 10) (a := 0) (b := 144) kc_cX11_many_1 (by decide +kernel) (by decide)
theorem dX11_many_45 : decode cX11_many 45 = .ok (.ireturn, 1) := dw172 (n := 32) (i := 13) kc_cX11_many_1 (by decide +kernel)
theorem dX11_many_46 : decode cX11_many 46 = .ok (.aload_n 0, 1) := dw42 (n := 32) (i := 14) kc_cX11_many_1 (by decide +kernel)
theorem dX11_many_47 : decode cX11_many 47 = .ok (.getfield 163, 3) := dw180 (n := 32) (i := 15) (a := 0) (b := 163) kc_cX11_many_1 (by decide +kernel) (by decide)
theorem dX11_many_50 : decode cX11_many 50 = .ok (.ireturn, 1) := dw172 (n := 32) (i := 18) kc_cX11_many_1 (by decide +kernel)
theorem dX11_many_51 : decode cX11_many 51 = .ok (.aload_n 0, 1) := dw42 (n := 32) (i := 19) kc_cX11_many_1 (by decide +kernel)
theorem dX11_many_52 : decode cX11_many 52 = .ok (.getfield 175, 3) := dw180 (n := 32) (i := 20) (a := 0) (b := 175) kc_cX11_many_1 (by decide +kernel) (by decide)
theorem dX11_many_55 : decode cX11_many 55 = .ok (.ireturn, 1) := dw172 (n := 32) (i := 23) kc_cX11_many_1 (by decide +kernel)
theorem dX11_many_56 : decode cX11_many 56 = .ok (.aload_n 0, 1) := dw42 (n := 32) (i := 24) kc_cX11_many_1 (by decide +kernel)
theorem dX11_many_57 : decode cX11_many 57 = .ok (.getfield 290, 3) := dw180 (n := 32) (i := 25) (a := 1) (b := 34) kc_cX11_many_1 (by decide +kernel) (by decide)
theorem dX11_many_60 : decode cX11_many 60 = .ok (.ireturn, 1) := dw172 (n := 32) (i := 28) kc_cX11_many_1 (by decide +kernel)
set_option maxHeartbeats 4000000 in
set_option maxRecDepth 100000 in
theorem s_X11_many (l : Launch) (D : va_G) (ad : Nat → Nat) (cs : Nat → ClassId) (M : MI) (L : ML) (x : Int32) (hI : IR M) : Ci l yX11_many wsX11_many ({ frames := 0, cells := 0, slots := 0, locals := 0 }) D ad cs [.ref (ad 258), .int x] M L (fun r M1 L1 => M1 = M ∧ L1 = L ∧ (r = A_many (vR M) (M 258 42) x)) := by
  refine enter_i RX11 rfl [(0, .ref (ad 258)), (1, .int x)] rfl (Nat.le_of_ble_eq_true rfl) (by decide +kernel) rfl ?_
  intro p e s m below meth c C hr
  have hF : ∀ k i, True → M k i = M k i := fun _ _ _ => rfl
  have hG : ∀ k i, True → L k i = L k i := fun _ _ _ => rfl
  have w0 : (vR M 0 0).toInt = (M 258 2).toInt := rfl
  have w1 : (vR M 0 1).toInt = (M 258 4).toInt := rfl
  have w2 : (vR M 0 2).toInt = (M 258 9).toInt := rfl
  have w3 : (vR M 0 3).toInt = (M 258 14).toInt := rfl
  obtain ⟨y0a, y0b⟩ := (show rg 0 10 (M 258 2) from hI 258 2)
  obtain ⟨y1a, y1b⟩ := (show rg 0 60 (M 258 4) from hI 258 4)
  obtain ⟨y2a, y2b⟩ := (show rg 0 8 (M 258 9) from hI 258 9)
  obtain ⟨y3a, y3b⟩ := (show rg 0 20 (M 258 14) from hI 258 14)
  refine g_iload_n C 1 dX11_many_0 rfl ?_
  by_cases hsw : x.toInt < 0 ∨ 4 < x.toInt
  ·
    refine g_tableOut C 61 dX11_many_1 hsw (by decide) ?_
    refine g_iconst C (-1) dX11_many_61 (by decide) ?_
    have zr9 : ((-1) : Int32).toInt = (-1) := by decide
    exact g_iret C hr ⟨rfl, rfl, (by dsimp only [A_many, hasC, hasB, hasX, hasM, ofS, ofK, bt, ix]; (repeat (first | rw [if_pos (by omega)] | rw [if_neg (by omega)])); first | done | rfl | (simp only [ix]; done) | (simp only [ix]; rfl) | (subst_vars; first | rfl | grind))⟩ dX11_many_62
  ·
    have hsw1 : ¬ x.toInt < 0 := fun h => hsw (Or.inl h)
    have hsw2 : ¬ 4 < x.toInt := fun h => hsw (Or.inr h)
    rcases (show x.toInt = 0 ∨ x.toInt = 1 ∨ x.toInt = 2 ∨ x.toInt = 3 ∨ x.toInt = 4 by omega) with hq | hq | hq | hq | hq
    ·
      refine g_tableIn C 36 dX11_many_1 hsw1 hsw2 (off := 35) (by rw [hq]; rfl) (by decide) ?_
      refine g_aload_n C 0 dX11_many_36 rfl ?_
      refine g_get C (.int (M 258 2)) 2 in_X11_many_11 (List.mem_of_getElem? (i := 1) rfl) (by decide) (ce_model ad cs _ _) rfl (by decide) rfl rfl dX11_many_37 ?_
      refine g_ni (fun v1 ev1 => ?_)
      have gv1 : v1 = vR M 0 0 := ev1
      have tv1 := congrArg Int32.toInt gv1
      obtain ⟨bv1, dv1⟩ := (show rg 0 10 v1 from (by rw [ev1]; exact hI 258 2))
      exact g_iret C hr ⟨rfl, rfl, (by dsimp only [A_many, hasC, hasB, hasX, hasM, ofS, ofK, bt, ix]; (repeat (first | rw [if_pos (by omega)] | rw [if_neg (by omega)])); first | done | rfl | (simp only [gv1]; done) | (simp only [gv1]; rfl) | (subst_vars; first | rfl | grind))⟩ dX11_many_40
    ·
      refine g_tableIn C 41 dX11_many_1 hsw1 hsw2 (off := 40) (by rw [hq]; rfl) (by decide) ?_
      refine g_aload_n C 0 dX11_many_41 rfl ?_
      refine g_get C (.int (M 258 4)) 4 in_X11_many_11 (List.mem_of_getElem? (i := 2) rfl) (by decide) (ce_model ad cs _ _) rfl (by decide) rfl rfl dX11_many_42 ?_
      refine g_ni (fun v2 ev2 => ?_)
      have gv2 : v2 = vR M 0 1 := ev2
      have tv2 := congrArg Int32.toInt gv2
      obtain ⟨bv2, dv2⟩ := (show rg 0 60 v2 from (by rw [ev2]; exact hI 258 4))
      exact g_iret C hr ⟨rfl, rfl, (by dsimp only [A_many, hasC, hasB, hasX, hasM, ofS, ofK, bt, ix]; (repeat (first | rw [if_pos (by omega)] | rw [if_neg (by omega)])); first | done | rfl | (simp only [gv2]; done) | (simp only [gv2]; rfl) | (subst_vars; first | rfl | grind))⟩ dX11_many_45
    ·
      refine g_tableIn C 46 dX11_many_1 hsw1 hsw2 (off := 45) (by rw [hq]; rfl) (by decide) ?_
      refine g_aload_n C 0 dX11_many_46 rfl ?_
      refine g_get C (.int (M 258 9)) 9 in_X11_many_11 (List.mem_of_getElem? (i := 3) rfl) (by decide) (ce_model ad cs _ _) rfl (by decide) rfl rfl dX11_many_47 ?_
      refine g_ni (fun v3 ev3 => ?_)
      have gv3 : v3 = vR M 0 2 := ev3
      have tv3 := congrArg Int32.toInt gv3
      obtain ⟨bv3, dv3⟩ := (show rg 0 8 v3 from (by rw [ev3]; exact hI 258 9))
      exact g_iret C hr ⟨rfl, rfl, (by dsimp only [A_many, hasC, hasB, hasX, hasM, ofS, ofK, bt, ix]; (repeat (first | rw [if_pos (by omega)] | rw [if_neg (by omega)])); first | done | rfl | (simp only [gv3]; done) | (simp only [gv3]; rfl) | (subst_vars; first | rfl | grind))⟩ dX11_many_50
    ·
      refine g_tableIn C 51 dX11_many_1 hsw1 hsw2 (off := 50) (by rw [hq]; rfl) (by decide) ?_
      refine g_aload_n C 0 dX11_many_51 rfl ?_
      refine g_get C (.int (M 258 14)) 14 in_X11_many_11 (List.mem_of_getElem? (i := 4) rfl) (by decide) (ce_model ad cs _ _) rfl (by decide) rfl rfl dX11_many_52 ?_
      refine g_ni (fun v4 ev4 => ?_)
      have gv4 : v4 = vR M 0 3 := ev4
      have tv4 := congrArg Int32.toInt gv4
      obtain ⟨bv4, dv4⟩ := (show rg 0 20 v4 from (by rw [ev4]; exact hI 258 14))
      exact g_iret C hr ⟨rfl, rfl, (by dsimp only [A_many, hasC, hasB, hasX, hasM, ofS, ofK, bt, ix]; (repeat (first | rw [if_pos (by omega)] | rw [if_neg (by omega)])); first | done | rfl | (simp only [gv4]; done) | (simp only [gv4]; rfl) | (subst_vars; first | rfl | grind))⟩ dX11_many_55
    ·
      refine g_tableIn C 56 dX11_many_1 hsw1 hsw2 (off := 55) (by rw [hq]; rfl) (by decide) ?_
      refine g_aload_n C 0 dX11_many_56 rfl ?_
      refine g_get C (.int (M 258 42)) 42 in_X11_many_11 (List.mem_of_getElem? (i := 5) rfl) (by decide) (ce_model ad cs _ _) rfl (by decide) rfl rfl dX11_many_57 ?_
      refine g_ni (fun v5 ev5 => ?_)
      have gv5 : v5 = M 258 42 := ev5
      have tv5 := congrArg Int32.toInt gv5
      obtain ⟨bv5, dv5⟩ := (show rg 0 30 v5 from (by rw [ev5]; exact hI 258 42))
      exact g_iret C hr ⟨rfl, rfl, (by dsimp only [A_many, hasC, hasB, hasX, hasM, ofS, ofK, bt, ix]; (repeat (first | rw [if_pos (by omega)] | rw [if_neg (by omega)])); first | done | rfl | (simp only [gv5]; done) | (simp only [gv5]; rfl) | (subst_vars; first | rfl | grind))⟩ dX11_many_60
theorem dX11_seat_0 : decode cX11_seat 0 = .ok (.iload_n 1, 1) := dw27 (n := 0) (i := 0) kc_cX11_seat_0 (by decide +kernel)
theorem dX11_seat_1 : decode cX11_seat 1 = .ok (.iconst 0, 1) := dw3 (n := 0) (i := 1) kc_cX11_seat_0 (by decide +kernel)
theorem dX11_seat_2 : decode cX11_seat 2 = .ok (.aload_n 0, 1) := dw42 (n := 0) (i := 2) kc_cX11_seat_0 (by decide +kernel)
theorem dX11_seat_3 : decode cX11_seat 3 = .ok (.getfield 290, 3) := dw180 (n := 0) (i := 3) (a := 1) (b := 34) kc_cX11_seat_0 (by decide +kernel) (by decide)
theorem in_X11_seat_11 : ∀ w ∈ u_ws RX11 TX11 53, w ∈ wsX11_seat := fun _ h => List.mem_cons_of_mem _ (List.mem_append_right _ h)
theorem dX11_seat_6 : decode cX11_seat 6 = .ok (.iconst 1, 1) := dw4 (n := 0) (i := 6) kc_cX11_seat_0 (by decide +kernel)
theorem dX11_seat_7 : decode cX11_seat 7 = .ok (.isub, 1) := dw100 (n := 0) (i := 7) kc_cX11_seat_0 (by decide +kernel)
theorem dX11_seat_8 : decode cX11_seat 8 = .ok (.invokestatic 133, 3) := dw184 (n := 0) (i := 8) (a := 0) (b := 133) kc_cX11_seat_0 (by decide +kernel) (by decide)
set_option maxRecDepth 20000 in
theorem ggX11_seat_X11_in : GoodIn wsX11_seat wsX11_in := (gk_code 6 rfl (gn))
set_option maxRecDepth 20000 in
theorem gX11_seat_X11_in : GoodIn wsX11_seat (va_wsS RX11 133 yX11_in wsX11_in) := goodIn_app (gk_methodLink 3 rfl (gk_static 4 rfl (gk_initialized 5 rfl (gn)))) ggX11_seat_X11_in
theorem dX11_seat_11 : decode cX11_seat 11 = .ok (.ifCond .eq 12, 3) := dw153 (n := 0) (i := 11) (a := 0) (b := 12) kc_cX11_seat_0 (by decide +kernel) (by decide)
theorem dX11_seat_23 : decode cX11_seat 23 = .ok (.bipush (-9), 2) := dw16 (n := 0) (i := 23) (a := 247) kc_cX11_seat_0 (by decide +kernel) (by decide)
theorem dX11_seat_25 : decode cX11_seat 25 = .ok (.ireturn, 1) := dw172 (n := 0) (i := 25) kc_cX11_seat_0 (by decide +kernel)
theorem dX11_seat_14 : decode cX11_seat 14 = .ok (.aload_n 0, 1) := dw42 (n := 0) (i := 14) kc_cX11_seat_0 (by decide +kernel)
theorem dX11_seat_15 : decode cX11_seat 15 = .ok (.getfield 99, 3) := dw180 (n := 0) (i := 15) (a := 0) (b := 99) kc_cX11_seat_0 (by decide +kernel) (by decide)
theorem dX11_seat_18 : decode cX11_seat 18 = .ok (.iload_n 1, 1) := dw27 (n := 0) (i := 18) kc_cX11_seat_0 (by decide +kernel)
theorem dX11_seat_19 : decode cX11_seat 19 = .ok (.iaload, 1) := dw46 (n := 0) (i := 19) kc_cX11_seat_0 (by decide +kernel)
theorem dX11_seat_20 : decode cX11_seat 20 = .ok (.goto 5, 3) := dw167 (n := 0) (i := 20) (a := 0) (b := 5) kc_cX11_seat_0 (by decide +kernel) (by decide)
set_option maxHeartbeats 4000000 in
set_option maxRecDepth 100000 in
theorem s_X11_seat (l : Launch) (D : va_G) (ad : Nat → Nat) (cs : Nat → ClassId) (M : MI) (L : ML) (x : Int32) (hI : IR M) : Ci l yX11_seat wsX11_seat ({ frames := 1, cells := 0, slots := 0, locals := 22 }) D ad cs [.ref (ad 258), .int x] M L (fun r M1 L1 => M1 = M ∧ L1 = L ∧ (r = A_seat (M 258 42) (M 288) x)) := by
  refine enter_i RX11 rfl [(0, .ref (ad 258)), (1, .int x)] rfl (Nat.le_of_ble_eq_true rfl) (by decide +kernel) rfl ?_
  intro p e s m below meth c C hr
  have hF : ∀ k i, True → M k i = M k i := fun _ _ _ => rfl
  have hG : ∀ k i, True → L k i = L k i := fun _ _ _ => rfl
  have w0 : (vR M 0 0).toInt = (M 258 2).toInt := rfl
  have w1 : (vR M 0 1).toInt = (M 258 4).toInt := rfl
  have w2 : (vR M 0 2).toInt = (M 258 9).toInt := rfl
  have w3 : (vR M 0 3).toInt = (M 258 14).toInt := rfl
  obtain ⟨y0a, y0b⟩ := (show rg 0 10 (M 258 2) from hI 258 2)
  obtain ⟨y1a, y1b⟩ := (show rg 0 60 (M 258 4) from hI 258 4)
  obtain ⟨y2a, y2b⟩ := (show rg 0 8 (M 258 9) from hI 258 9)
  obtain ⟨y3a, y3b⟩ := (show rg 0 20 (M 258 14) from hI 258 14)
  refine g_iload_n C 1 dX11_seat_0 rfl ?_
  refine g_iconst C 0 dX11_seat_1 (by decide) ?_
  refine g_aload_n C 0 dX11_seat_2 rfl ?_
  refine g_get C (.int (M 258 42)) 42 in_X11_seat_11 (List.mem_of_getElem? (i := 1) rfl) (by decide) (ce_model ad cs _ _) rfl (by decide) rfl rfl dX11_seat_3 ?_
  refine g_ni (fun v1 ev1 => ?_)
  have gv1 : v1 = M 258 42 := ev1
  have tv1 := congrArg Int32.toInt gv1
  obtain ⟨bv1, dv1⟩ := (show rg 0 30 v1 from (by rw [ev1]; exact hI 258 42))
  refine g_iconst C 1 dX11_seat_6 (by decide) ?_
  refine g_isub C dX11_seat_7 ?_
  refine g_ni (fun v2 ev2 => ?_)
  try have fv2 := fsub rfl (by decide : (1 : Int32).toInt = 1) ev2 (by omega) (by omega)
  refine g_callSi C (n := 3) (As := [.int x, .int 0, .int v2]) (st := []) (c_X11_in l D ad cs _ _ x 0 v2 ) gX11_seat_X11_in rfl rfl rfl (by decide +kernel) ⟨Nat.le_of_ble_eq_true rfl, Nat.le_of_ble_eq_true rfl⟩ rfl (Nat.le_of_ble_eq_true rfl) ⟨Nat.zero_le _, Nat.zero_le _⟩ rfl dX11_seat_8 (fun r3 M4 L5 hr3 => ?_)
  obtain ⟨hq1, hq2, hr3⟩ := hr3
  obtain rfl := hq1.symm
  obtain rfl := hq2.symm
  have hr3 := zo_in hr3 (by decide : (0 : Int32).toInt = 0) rfl
  obtain ⟨bar3, bbr3⟩ := zo_b hr3
  refine g_if_eq C 23 dX11_seat_11 (by decide) (fun c6 => ?_) (fun c6 => ?_)
  ·
    have f7 := feq rfl (by decide : (0 : Int32).toInt = 0) c6
    have pr3 := zo_f hr3 c6
    try dsimp only [hasC, hasB, hasX, hasM, ofS, ofK, bt] at pr3
    refine g_bipush C (-9) dX11_seat_23 (by decide) ?_
    have zr9 : ((-9) : Int32).toInt = (-9) := by decide
    exact g_iret C hr ⟨rfl, rfl, (by dsimp only [A_seat, hasC, hasB, hasX, hasM, ofS, ofK, bt, ix]; (repeat (first | rw [if_pos (by omega)] | rw [if_neg (by omega)])); first | done | rfl | (simp only [ev2, gv1]; done) | (simp only [ev2, gv1]; rfl) | (subst_vars; first | rfl | grind))⟩ dX11_seat_25
  ·
    have f8 := fne rfl (by decide : (0 : Int32).toInt = 0) c6
    have pr3 := zo_t hr3 c6
    try dsimp only [hasC, hasB, hasX, hasM, ofS, ofK, bt] at pr3
    refine g_aload_n C 0 dX11_seat_14 rfl ?_
    refine g_get C (.ref (ad 288)) 43 in_X11_seat_11 (List.mem_of_getElem? (i := 2) rfl) (by decide) (ce_model ad cs _ _) rfl (by decide) rfl rfl dX11_seat_15 ?_
    refine g_iload_n C 1 dX11_seat_18 rfl ?_
    refine g_iald C (by decide) (ce_m_toldSeat ad cs _ _) (fin' (n := 30) rfl (by omega) (by omega)) dX11_seat_19 ?_
    refine g_ni (fun v9 ev9 => ?_)
    have gv9 : v9 = M 288 x.toNatClampNeg := ev9
    have tv9 := congrArg Int32.toInt gv9
    refine g_goto C 25 dX11_seat_20 (by decide) ?_
    exact g_iret C hr ⟨rfl, rfl, (by dsimp only [A_seat, hasC, hasB, hasX, hasM, ofS, ofK, bt, ix]; (repeat (first | rw [if_pos (by omega)] | rw [if_neg (by omega)])); first | done | rfl | (simp only [gv9, ev2, gv1]; done) | (simp only [gv9, ev2, gv1]; rfl) | (subst_vars; first | rfl | grind))⟩ dX11_seat_25
theorem dX11_rounds_0 : decode cX11_rounds 0 = .ok (.aload_n 0, 1) := dw42 (n := 0) (i := 0) kc_cX11_rounds_0 (by decide +kernel)
theorem dX11_rounds_1 : decode cX11_rounds 1 = .ok (.getfield 293, 3) := dw180 (n := 0) (i := 1) (a := 1) (b := 37) kc_cX11_rounds_0 (by decide +kernel) (by decide)
theorem in_X11_rounds_11 : ∀ w ∈ u_ws RX11 TX11 53, w ∈ wsX11_rounds := fun _ h => List.mem_cons_of_mem _ (List.mem_append_right _ h)
theorem dX11_rounds_4 : decode cX11_rounds 4 = .ok (.ireturn, 1) := dw172 (n := 0) (i := 4) kc_cX11_rounds_0 (by decide +kernel)
set_option maxHeartbeats 4000000 in
set_option maxRecDepth 100000 in
theorem s_X11_rounds (l : Launch) (D : va_G) (ad : Nat → Nat) (cs : Nat → ClassId) (M : MI) (L : ML)  (hI : IR M) : Ci l yX11_rounds wsX11_rounds ({ frames := 0, cells := 0, slots := 0, locals := 0 }) D ad cs [.ref (ad 258)] M L (fun r M1 L1 => M1 = M ∧ L1 = L ∧ (r = M 258 44)) := by
  refine enter_i RX11 rfl [(0, .ref (ad 258))] rfl (Nat.le_of_ble_eq_true rfl) (by decide +kernel) rfl ?_
  intro p e s m below meth c C hr
  have hF : ∀ k i, True → M k i = M k i := fun _ _ _ => rfl
  have hG : ∀ k i, True → L k i = L k i := fun _ _ _ => rfl
  have w0 : (vR M 0 0).toInt = (M 258 2).toInt := rfl
  have w1 : (vR M 0 1).toInt = (M 258 4).toInt := rfl
  have w2 : (vR M 0 2).toInt = (M 258 9).toInt := rfl
  have w3 : (vR M 0 3).toInt = (M 258 14).toInt := rfl
  obtain ⟨y0a, y0b⟩ := (show rg 0 10 (M 258 2) from hI 258 2)
  obtain ⟨y1a, y1b⟩ := (show rg 0 60 (M 258 4) from hI 258 4)
  obtain ⟨y2a, y2b⟩ := (show rg 0 8 (M 258 9) from hI 258 9)
  obtain ⟨y3a, y3b⟩ := (show rg 0 20 (M 258 14) from hI 258 14)
  refine g_aload_n C 0 dX11_rounds_0 rfl ?_
  refine g_get C (.int (M 258 44)) 44 in_X11_rounds_11 (List.mem_of_getElem? (i := 1) rfl) (by decide) (ce_model ad cs _ _) rfl (by decide) rfl rfl dX11_rounds_1 ?_
  refine g_ni (fun v1 ev1 => ?_)
  have gv1 : v1 = M 258 44 := ev1
  have tv1 := congrArg Int32.toInt gv1
  obtain ⟨bv1, dv1⟩ := (show rg 0 40 v1 from (by rw [ev1]; exact hI 258 44))
  exact g_iret C hr ⟨rfl, rfl, gv1⟩ dX11_rounds_4
theorem dX11_round_0 : decode cX11_round 0 = .ok (.iload_n 2, 1) := dw28 (n := 0) (i := 0) kc_cX11_round_0 (by decide +kernel)
theorem dX11_round_1 : decode cX11_round 1 = .ok (.iconst 0, 1) := dw3 (n := 0) (i := 1) kc_cX11_round_0 (by decide +kernel)
theorem dX11_round_2 : decode cX11_round 2 = .ok (.iconst 1, 1) := dw4 (n := 0) (i := 2) kc_cX11_round_0 (by decide +kernel)
theorem dX11_round_3 : decode cX11_round 3 = .ok (.invokestatic 133, 3) := dw184 (n := 0) (i := 3) (a := 0) (b := 133) kc_cX11_round_0 (by decide +kernel) (by decide)
set_option maxRecDepth 20000 in
theorem ggX11_round_X11_in : GoodIn wsX11_round wsX11_in := (gk_code 7 rfl (gn))
set_option maxRecDepth 20000 in
theorem gX11_round_X11_in : GoodIn wsX11_round (va_wsS RX11 133 yX11_in wsX11_in) := goodIn_app (gk_methodLink 4 rfl (gk_static 5 rfl (gk_initialized 6 rfl (gn)))) ggX11_round_X11_in
theorem dX11_round_6 : decode cX11_round 6 = .ok (.ifCond .ne 7, 3) := dw154 (n := 0) (i := 6) (a := 0) (b := 7) kc_cX11_round_0 (by decide +kernel) (by decide)
theorem dX11_round_13 : decode cX11_round 13 = .ok (.iload_n 1, 1) := dw27 (n := 0) (i := 13) kc_cX11_round_0 (by decide +kernel)
theorem dX11_round_14 : decode cX11_round 14 = .ok (.iconst 0, 1) := dw3 (n := 0) (i := 14) kc_cX11_round_0 (by decide +kernel)
theorem dX11_round_15 : decode cX11_round 15 = .ok (.aload_n 0, 1) := dw42 (n := 0) (i := 15) kc_cX11_round_0 (by decide +kernel)
theorem dX11_round_16 : decode cX11_round 16 = .ok (.getfield 293, 3) := dw180 (n := 0) (i := 16) (a := 1) (b := 37) kc_cX11_round_0 (by decide +kernel) (by decide)
theorem in_X11_round_11 : ∀ w ∈ u_ws RX11 TX11 53, w ∈ wsX11_round := fun _ h => List.mem_cons_of_mem _ (List.mem_append_right _ h)
theorem dX11_round_19 : decode cX11_round 19 = .ok (.iconst 1, 1) := dw4 (n := 0) (i := 19) kc_cX11_round_0 (by decide +kernel)
theorem dX11_round_20 : decode cX11_round 20 = .ok (.isub, 1) := dw100 (n := 0) (i := 20) kc_cX11_round_0 (by decide +kernel)
theorem dX11_round_21 : decode cX11_round 21 = .ok (.invokestatic 133, 3) := dw184 (n := 0) (i := 21) (a := 0) (b := 133) kc_cX11_round_0 (by decide +kernel) (by decide)
theorem dX11_round_24 : decode cX11_round 24 = .ok (.ifCond .ne 8, 3) := dw154 (n := 0) (i := 24) (a := 0) (b := 8) kc_cX11_round_0 (by decide +kernel) (by decide)
theorem dX11_round_32 : decode cX11_round 32 = .ok (.iload_n 2, 1) := dw28 (n := 32) (i := 0) kc_cX11_round_1 (by decide +kernel)
theorem dX11_round_33 : decode cX11_round 33 = .ok (.ifCond .ne 12, 3) := dw154 (n := 32) (i := 1) (a := 0) (b := 12) kc_cX11_round_1 (by decide +kernel) (by decide)
theorem dX11_round_45 : decode cX11_round 45 = .ok (.aload_n 0, 1) := dw42 (n := 32) (i := 13) kc_cX11_round_1 (by decide +kernel)
theorem dX11_round_46 : decode cX11_round 46 = .ok (.getfield 105, 3) := dw180 (n := 32) (i := 14) (a := 0) (b := 105) kc_cX11_round_1 (by decide +kernel) (by decide)
theorem dX11_round_49 : decode cX11_round 49 = .ok (.iload_n 1, 1) := dw27 (n := 32) (i := 17) kc_cX11_round_1 (by decide +kernel)
theorem dX11_round_50 : decode cX11_round 50 = .ok (.iaload, 1) := dw46 (n := 32) (i := 18) kc_cX11_round_1 (by decide +kernel)
theorem dX11_round_51 : decode cX11_round 51 = .ok (.ireturn, 1) := dw172 (n := 32) (i := 19) kc_cX11_round_1 (by decide +kernel)
theorem dX11_round_36 : decode cX11_round 36 = .ok (.aload_n 0, 1) := dw42 (n := 32) (i := 4) kc_cX11_round_1 (by decide +kernel)
theorem dX11_round_37 : decode cX11_round 37 = .ok (.getfield 102, 3) := dw180 (n := 32) (i := 5) (a := 0) (b := 102) kc_cX11_round_1 (by decide +kernel) (by decide)
theorem dX11_round_40 : decode cX11_round 40 = .ok (.iload_n 1, 1) := dw27 (n := 32) (i := 8) kc_cX11_round_1 (by decide +kernel)
theorem dX11_round_41 : decode cX11_round 41 = .ok (.iaload, 1) := dw46 (n := 32) (i := 9) kc_cX11_round_1 (by decide +kernel)
theorem dX11_round_42 : decode cX11_round 42 = .ok (.goto 9, 3) := dw167 (n := 32) (i := 10) (a := 0) (b := 9) kc_cX11_round_1 (by decide +kernel) (by decide)
theorem dX11_round_27 : decode cX11_round 27 = .ok (.bipush (-9), 2) := dw16 (n := 0) (i := 27) (a := 247) kc_cX11_round_0 (by decide +kernel) (by decide)
theorem dX11_round_29 : decode cX11_round 29 = .ok (.goto 22, 3) := dw167 (n := 0) (i := 29) (a := 0) (b := 22) kc_cX11_round_0 (by decide +kernel) (by decide)
theorem dX11_round_9 : decode cX11_round 9 = .ok (.iconst (-1), 1) := dw2 (n := 0) (i := 9) kc_cX11_round_0 (by decide +kernel)
theorem dX11_round_10 : decode cX11_round 10 = .ok (.goto 41, 3) := dw167 (n := 0) (i := 10) (a := 0) (b := 41) kc_cX11_round_0 (by decide +kernel) (by decide)
set_option maxHeartbeats 4000000 in
set_option maxRecDepth 100000 in
theorem s_X11_round (l : Launch) (D : va_G) (ad : Nat → Nat) (cs : Nat → ClassId) (M : MI) (L : ML) (x : Int32) (y : Int32) (hI : IR M) : Ci l yX11_round wsX11_round ({ frames := 1, cells := 0, slots := 0, locals := 22 }) D ad cs [.ref (ad 258), .int x, .int y] M L (fun r M1 L1 => M1 = M ∧ L1 = L ∧ (r = A_round (M 258 44) (M 289) (M 290) x y)) := by
  refine enter_i RX11 rfl [(0, .ref (ad 258)), (1, .int x), (2, .int y)] rfl (Nat.le_of_ble_eq_true rfl) (by decide +kernel) rfl ?_
  intro p e s m below meth c C hr
  have hF : ∀ k i, True → M k i = M k i := fun _ _ _ => rfl
  have hG : ∀ k i, True → L k i = L k i := fun _ _ _ => rfl
  have w0 : (vR M 0 0).toInt = (M 258 2).toInt := rfl
  have w1 : (vR M 0 1).toInt = (M 258 4).toInt := rfl
  have w2 : (vR M 0 2).toInt = (M 258 9).toInt := rfl
  have w3 : (vR M 0 3).toInt = (M 258 14).toInt := rfl
  obtain ⟨y0a, y0b⟩ := (show rg 0 10 (M 258 2) from hI 258 2)
  obtain ⟨y1a, y1b⟩ := (show rg 0 60 (M 258 4) from hI 258 4)
  obtain ⟨y2a, y2b⟩ := (show rg 0 8 (M 258 9) from hI 258 9)
  obtain ⟨y3a, y3b⟩ := (show rg 0 20 (M 258 14) from hI 258 14)
  refine g_iload_n C 2 dX11_round_0 rfl ?_
  refine g_iconst C 0 dX11_round_1 (by decide) ?_
  refine g_iconst C 1 dX11_round_2 (by decide) ?_
  refine g_callSi C (n := 3) (As := [.int y, .int 0, .int 1]) (st := []) (c_X11_in l D ad cs _ _ y 0 1 ) gX11_round_X11_in rfl rfl rfl (by decide +kernel) ⟨Nat.le_of_ble_eq_true rfl, Nat.le_of_ble_eq_true rfl⟩ rfl (Nat.le_of_ble_eq_true rfl) ⟨Nat.zero_le _, Nat.zero_le _⟩ rfl dX11_round_3 (fun r1 M2 L3 hr1 => ?_)
  obtain ⟨hq1, hq2, hr1⟩ := hr1
  obtain rfl := hq1.symm
  obtain rfl := hq2.symm
  have hr1 := zo_in hr1 (by decide : (0 : Int32).toInt = 0) (by decide : (1 : Int32).toInt = 1)
  obtain ⟨bar1, bbr1⟩ := zo_b hr1
  refine g_if_ne C 13 dX11_round_6 (by decide) (fun c4 => ?_) (fun c4 => ?_)
  ·
    have f5 := fne rfl (by decide : (0 : Int32).toInt = 0) c4
    have pr1 := zo_t hr1 c4
    try dsimp only [hasC, hasB, hasX, hasM, ofS, ofK, bt] at pr1
    refine g_iload_n C 1 dX11_round_13 rfl ?_
    refine g_iconst C 0 dX11_round_14 (by decide) ?_
    refine g_aload_n C 0 dX11_round_15 rfl ?_
    refine g_get C (.int (M 258 44)) 44 in_X11_round_11 (List.mem_of_getElem? (i := 1) rfl) (by decide) (ce_model ad cs _ _) rfl (by decide) rfl rfl dX11_round_16 ?_
    refine g_ni (fun v6 ev6 => ?_)
    have gv6 : v6 = M 258 44 := ev6
    have tv6 := congrArg Int32.toInt gv6
    obtain ⟨bv6, dv6⟩ := (show rg 0 40 v6 from (by rw [ev6]; exact hI 258 44))
    refine g_iconst C 1 dX11_round_19 (by decide) ?_
    refine g_isub C dX11_round_20 ?_
    refine g_ni (fun v7 ev7 => ?_)
    try have fv7 := fsub rfl (by decide : (1 : Int32).toInt = 1) ev7 (by omega) (by omega)
    refine g_callSi C (n := 3) (As := [.int x, .int 0, .int v7]) (st := []) (c_X11_in l D ad cs _ _ x 0 v7 ) gX11_round_X11_in rfl rfl rfl (by decide +kernel) ⟨Nat.le_of_ble_eq_true rfl, Nat.le_of_ble_eq_true rfl⟩ rfl (Nat.le_of_ble_eq_true rfl) ⟨Nat.zero_le _, Nat.zero_le _⟩ rfl dX11_round_21 (fun r8 M9 L10 hr8 => ?_)
    obtain ⟨hq1, hq2, hr8⟩ := hr8
    obtain rfl := hq1.symm
    obtain rfl := hq2.symm
    have hr8 := zo_in hr8 (by decide : (0 : Int32).toInt = 0) rfl
    obtain ⟨bar8, bbr8⟩ := zo_b hr8
    refine g_if_ne C 32 dX11_round_24 (by decide) (fun c11 => ?_) (fun c11 => ?_)
    ·
      have f12 := fne rfl (by decide : (0 : Int32).toInt = 0) c11
      have pr8 := zo_t hr8 c11
      try dsimp only [hasC, hasB, hasX, hasM, ofS, ofK, bt] at pr8
      refine g_iload_n C 2 dX11_round_32 rfl ?_
      refine g_if_ne C 45 dX11_round_33 (by decide) (fun c13 => ?_) (fun c13 => ?_)
      ·
        have f14 := fne rfl (by decide : (0 : Int32).toInt = 0) c13
        refine g_aload_n C 0 dX11_round_45 rfl ?_
        refine g_get C (.ref (ad 290)) 46 in_X11_round_11 (List.mem_of_getElem? (i := 3) rfl) (by decide) (ce_model ad cs _ _) rfl (by decide) rfl rfl dX11_round_46 ?_
        refine g_iload_n C 1 dX11_round_49 rfl ?_
        refine g_iald C (by decide) (ce_m_toldWho ad cs _ _) (fin' (n := 40) rfl (by omega) (by omega)) dX11_round_50 ?_
        refine g_ni (fun v15 ev15 => ?_)
        have gv15 : v15 = M 290 x.toNatClampNeg := ev15
        have tv15 := congrArg Int32.toInt gv15
        exact g_iret C hr ⟨rfl, rfl, (by dsimp only [A_round, hasC, hasB, hasX, hasM, ofS, ofK, bt, ix]; (repeat (first | rw [if_pos (by omega)] | rw [if_neg (by omega)])); first | done | rfl | (simp only [gv15, ev7, gv6]; done) | (simp only [gv15, ev7, gv6]; rfl) | (subst_vars; first | rfl | grind))⟩ dX11_round_51
      ·
        have f16 := feq rfl (by decide : (0 : Int32).toInt = 0) c13
        refine g_aload_n C 0 dX11_round_36 rfl ?_
        refine g_get C (.ref (ad 289)) 45 in_X11_round_11 (List.mem_of_getElem? (i := 2) rfl) (by decide) (ce_model ad cs _ _) rfl (by decide) rfl rfl dX11_round_37 ?_
        refine g_iload_n C 1 dX11_round_40 rfl ?_
        refine g_iald C (by decide) (ce_m_toldWhat ad cs _ _) (fin' (n := 40) rfl (by omega) (by omega)) dX11_round_41 ?_
        refine g_ni (fun v17 ev17 => ?_)
        have gv17 : v17 = M 289 x.toNatClampNeg := ev17
        have tv17 := congrArg Int32.toInt gv17
        refine g_goto C 51 dX11_round_42 (by decide) ?_
        exact g_iret C hr ⟨rfl, rfl, (by dsimp only [A_round, hasC, hasB, hasX, hasM, ofS, ofK, bt, ix]; (repeat (first | rw [if_pos (by omega)] | rw [if_neg (by omega)])); first | done | rfl | (simp only [gv17, ev7, gv6]; done) | (simp only [gv17, ev7, gv6]; rfl) | (subst_vars; first | rfl | grind))⟩ dX11_round_51
    ·
      have f18 := feq rfl (by decide : (0 : Int32).toInt = 0) c11
      have pr8 := zo_f hr8 c11
      try dsimp only [hasC, hasB, hasX, hasM, ofS, ofK, bt] at pr8
      refine g_bipush C (-9) dX11_round_27 (by decide) ?_
      refine g_goto C 51 dX11_round_29 (by decide) ?_
      have zr9 : ((-9) : Int32).toInt = (-9) := by decide
      exact g_iret C hr ⟨rfl, rfl, (by dsimp only [A_round, hasC, hasB, hasX, hasM, ofS, ofK, bt, ix]; (repeat (first | rw [if_pos (by omega)] | rw [if_neg (by omega)])); first | done | rfl | (simp only [ev7, gv6]; done) | (simp only [ev7, gv6]; rfl) | (subst_vars; first | rfl | grind))⟩ dX11_round_51
  ·
    have f19 := feq rfl (by decide : (0 : Int32).toInt = 0) c4
    have pr1 := zo_f hr1 c4
    try dsimp only [hasC, hasB, hasX, hasM, ofS, ofK, bt] at pr1
    refine g_iconst C (-1) dX11_round_9 (by decide) ?_
    refine g_goto C 51 dX11_round_10 (by decide) ?_
    have zr9 : ((-1) : Int32).toInt = (-1) := by decide
    exact g_iret C hr ⟨rfl, rfl, (by dsimp only [A_round, hasC, hasB, hasX, hasM, ofS, ofK, bt, ix]; (repeat (first | rw [if_pos (by omega)] | rw [if_neg (by omega)])); first | done | rfl | (simp only [ix]; done) | (simp only [ix]; rfl) | (subst_vars; first | rfl | grind))⟩ dX11_round_51
theorem dX11_tally_0 : decode cX11_tally 0 = .ok (.aload_n 0, 1) := dw42 (n := 0) (i := 0) kc_cX11_tally_0 (by decide +kernel)
theorem dX11_tally_1 : decode cX11_tally 1 = .ok (.iload_n 2, 1) := dw28 (n := 0) (i := 1) kc_cX11_tally_0 (by decide +kernel)
theorem dX11_tally_2 : decode cX11_tally 2 = .ok (.invokevirtual 140, 3) := dw182 (n := 0) (i := 2) (a := 0) (b := 140) kc_cX11_tally_0 (by decide +kernel) (by decide)
set_option maxRecDepth 20000 in
theorem ggX11_tally_X11_isCandidate : GoodIn wsX11_tally wsX11_isCandidate := (gk_code 10 rfl (gk_fieldLink 11 rfl (gk_methodLink 12 rfl (gk_static 13 rfl (gk_initialized 9 rfl (gk_code 14 rfl (gk_lays 15 rfl (gk_laysFinal 16 rfl (gk_lays 17 rfl (gk_laysFinal 18 rfl (gk_lays 19 rfl (gk_laysFinal 20 rfl (gk_laysFinal 21 rfl (gk_laysFinal 22 rfl (gk_laysFinal 23 rfl (gk_lays 24 rfl (gk_laysFinal 25 rfl (gk_laysFinal 26 rfl (gk_laysFinal 27 rfl (gk_laysFinal 28 rfl (gk_lays 29 rfl (gk_laysFinal 30 rfl (gk_laysFinal 31 rfl (gk_laysFinal 32 rfl (gk_laysFinal 33 rfl (gk_laysFinal 34 rfl (gk_laysFinal 35 rfl (gk_laysFinal 36 rfl (gk_laysFinal 37 rfl (gk_lays 38 rfl (gk_lays 39 rfl (gk_lays 40 rfl (gk_lays 41 rfl (gk_lays 42 rfl (gk_lays 43 rfl (gk_lays 44 rfl (gk_laysFinal 45 rfl (gk_lays 46 rfl (gk_laysFinal 47 rfl (gk_laysFinal 48 rfl (gk_laysFinal 49 rfl (gk_laysFinal 50 rfl (gk_laysFinal 51 rfl (gk_laysFinal 52 rfl (gk_laysFinal 53 rfl (gk_laysFinal 54 rfl (gk_laysFinal 55 rfl (gk_laysFinal 56 rfl (gk_lays 57 rfl (gk_laysFinal 58 rfl (gk_lays 59 rfl (gk_laysFinal 60 rfl (gk_laysFinal 61 rfl (gk_laysFinal 62 rfl (gk_laysFinal 63 rfl (gk_laysFinal 64 rfl (gk_laysFinal 65 rfl (gk_laysFinal 66 rfl (gk_laysFinal 67 rfl (gn))))))))))))))))))))))))))))))))))))))))))))))))))))))))))))
set_option maxRecDepth 20000 in
theorem gX11_tally_X11_isCandidate : GoodIn wsX11_tally (wsV RX11 140 RX11 yX11_isCandidate wsX11_isCandidate) := goodIn_app (gk_methodLink 6 rfl (gk_instanceMethod 7 rfl (gk_selects 8 rfl (gk_initialized 9 rfl (gn))))) ggX11_tally_X11_isCandidate
theorem dX11_tally_5 : decode cX11_tally 5 = .ok (.ifCond .ne 9, 3) := dw154 (n := 0) (i := 5) (a := 0) (b := 9) kc_cX11_tally_0 (by decide +kernel) (by decide)
theorem dX11_tally_14 : decode cX11_tally 14 = .ok (.iload_n 1, 1) := dw27 (n := 0) (i := 14) kc_cX11_tally_0 (by decide +kernel)
theorem dX11_tally_15 : decode cX11_tally 15 = .ok (.iconst 0, 1) := dw3 (n := 0) (i := 15) kc_cX11_tally_0 (by decide +kernel)
theorem dX11_tally_16 : decode cX11_tally 16 = .ok (.aload_n 0, 1) := dw42 (n := 0) (i := 16) kc_cX11_tally_0 (by decide +kernel)
theorem dX11_tally_17 : decode cX11_tally 17 = .ok (.getfield 293, 3) := dw180 (n := 0) (i := 17) (a := 1) (b := 37) kc_cX11_tally_0 (by decide +kernel) (by decide)
theorem in_X11_tally_11 : ∀ w ∈ u_ws RX11 TX11 53, w ∈ wsX11_tally := fun _ h => List.mem_cons_of_mem _ (List.mem_append_right _ h)
theorem dX11_tally_20 : decode cX11_tally 20 = .ok (.iconst 1, 1) := dw4 (n := 0) (i := 20) kc_cX11_tally_0 (by decide +kernel)
theorem dX11_tally_21 : decode cX11_tally 21 = .ok (.isub, 1) := dw100 (n := 0) (i := 21) kc_cX11_tally_0 (by decide +kernel)
theorem dX11_tally_22 : decode cX11_tally 22 = .ok (.invokestatic 133, 3) := dw184 (n := 0) (i := 22) (a := 0) (b := 133) kc_cX11_tally_0 (by decide +kernel) (by decide)
set_option maxRecDepth 20000 in
theorem ggX11_tally_X11_in : GoodIn wsX11_tally wsX11_in := (gk_code 14 rfl (gn))
set_option maxRecDepth 20000 in
theorem gX11_tally_X11_in : GoodIn wsX11_tally (va_wsS RX11 133 yX11_in wsX11_in) := goodIn_app (gk_methodLink 12 rfl (gk_static 13 rfl (gk_initialized 9 rfl (gn)))) ggX11_tally_X11_in
theorem dX11_tally_25 : decode cX11_tally 25 = .ok (.ifCond .ne 9, 3) := dw154 (n := 0) (i := 25) (a := 0) (b := 9) kc_cX11_tally_0 (by decide +kernel) (by decide)
theorem dX11_tally_34 : decode cX11_tally 34 = .ok (.iload_n 3, 1) := dw29 (n := 32) (i := 2) kc_cX11_tally_1 (by decide +kernel)
theorem dX11_tally_35 : decode cX11_tally 35 = .ok (.ifCond .eq 17, 3) := dw153 (n := 32) (i := 3) (a := 0) (b := 17) kc_cX11_tally_1 (by decide +kernel) (by decide)
theorem dX11_tally_52 : decode cX11_tally 52 = .ok (.aload_n 0, 1) := dw42 (n := 32) (i := 20) kc_cX11_tally_1 (by decide +kernel)
theorem dX11_tally_53 : decode cX11_tally 53 = .ok (.getfield 108, 3) := dw180 (n := 32) (i := 21) (a := 0) (b := 108) kc_cX11_tally_1 (by decide +kernel) (by decide)
theorem dX11_tally_56 : decode cX11_tally 56 = .ok (.bipush 10, 2) := dw16 (n := 32) (i := 24) (a := 10) kc_cX11_tally_1 (by decide +kernel) (by decide)
theorem dX11_tally_58 : decode cX11_tally 58 = .ok (.iload_n 1, 1) := dw27 (n := 32) (i := 26) kc_cX11_tally_1 (by decide +kernel)
theorem dX11_tally_59 : decode cX11_tally 59 = .ok (.imul, 1) := dw104 (n := 32) (i := 27) kc_cX11_tally_1 (by decide +kernel)
theorem dX11_tally_60 : decode cX11_tally 60 = .ok (.iload_n 2, 1) := dw28 (n := 32) (i := 28) kc_cX11_tally_1 (by decide +kernel)
theorem dX11_tally_61 : decode cX11_tally 61 = .ok (.iadd, 1) := dw96 (n := 32) (i := 29) kc_cX11_tally_1 (by decide +kernel)
theorem dX11_tally_62 : decode cX11_tally 62 = .ok (.laload, 1) := dw47 (n := 32) (i := 30) kc_cX11_tally_1 (by decide +kernel)
theorem dX11_tally_63 : decode cX11_tally 63 = .ok (.lreturn, 1) := dw173 (n := 32) (i := 31) kc_cX11_tally_1 (by decide +kernel)
theorem dX11_tally_38 : decode cX11_tally 38 = .ok (.aload_n 0, 1) := dw42 (n := 32) (i := 6) kc_cX11_tally_1 (by decide +kernel)
theorem dX11_tally_39 : decode cX11_tally 39 = .ok (.getfield 111, 3) := dw180 (n := 32) (i := 7) (a := 0) (b := 111) kc_cX11_tally_1 (by decide +kernel) (by decide)
theorem dX11_tally_42 : decode cX11_tally 42 = .ok (.bipush 10, 2) := dw16 (n := 32) (i := 10) (a := 10) kc_cX11_tally_1 (by decide +kernel) (by decide)
theorem dX11_tally_44 : decode cX11_tally 44 = .ok (.iload_n 1, 1) := dw27 (n := 32) (i := 12) kc_cX11_tally_1 (by decide +kernel)
theorem dX11_tally_45 : decode cX11_tally 45 = .ok (.imul, 1) := dw104 (n := 32) (i := 13) kc_cX11_tally_1 (by decide +kernel)
theorem dX11_tally_46 : decode cX11_tally 46 = .ok (.iload_n 2, 1) := dw28 (n := 32) (i := 14) kc_cX11_tally_1 (by decide +kernel)
theorem dX11_tally_47 : decode cX11_tally 47 = .ok (.iadd, 1) := dw96 (n := 32) (i := 15) kc_cX11_tally_1 (by decide +kernel)
theorem dX11_tally_48 : decode cX11_tally 48 = .ok (.laload, 1) := dw47 (n := 32) (i := 16) kc_cX11_tally_1 (by decide +kernel)
theorem dX11_tally_49 : decode cX11_tally 49 = .ok (.goto 14, 3) := dw167 (n := 32) (i := 17) (a := 0) (b := 14) kc_cX11_tally_1 (by decide +kernel) (by decide)
theorem dX11_tally_28 : decode cX11_tally 28 = .ok (.ldc2_w 310, 3) := dw20 (n := 0) (i := 28) (a := 1) (b := 54) kc_cX11_tally_0 (by decide +kernel) (by decide)
theorem dX11_tally_31 : decode cX11_tally 31 = .ok (.goto 32, 3) := dw167 (n := 0) (i := 31) (a := 0) (b := 32) kc_cX11_tally_0 (by decide +kernel) (by decide)
theorem dX11_tally_8 : decode cX11_tally 8 = .ok (.ldc2_w 308, 3) := dw20 (n := 0) (i := 8) (a := 1) (b := 52) kc_cX11_tally_0 (by decide +kernel) (by decide)
theorem dX11_tally_11 : decode cX11_tally 11 = .ok (.goto 52, 3) := dw167 (n := 0) (i := 11) (a := 0) (b := 52) kc_cX11_tally_0 (by decide +kernel) (by decide)
set_option maxHeartbeats 4000000 in
set_option maxRecDepth 100000 in
theorem s_X11_tally (l : Launch) (D : va_G) (ad : Nat → Nat) (cs : Nat → ClassId) (M : MI) (L : ML) (x : Int32) (y : Int32) (z : Int32) (hI : IR M) : Cl l yX11_tally wsX11_tally ({ frames := 2, cells := 0, slots := 0, locals := 43 }) D ad cs [.ref (ad 258), .int x, .int y, .int z] M L (fun r M1 L1 => M1 = M ∧ L1 = L ∧ (r = A_tally (vR M) (M 258 44) (L 291) (L 292) x y z)) := by
  refine enter_l RX11 rfl [(0, .ref (ad 258)), (1, .int x), (2, .int y), (3, .int z)] rfl (Nat.le_of_ble_eq_true rfl) (by decide +kernel) rfl ?_
  intro p e s m below meth c C hr
  have hF : ∀ k i, True → M k i = M k i := fun _ _ _ => rfl
  have hG : ∀ k i, True → L k i = L k i := fun _ _ _ => rfl
  have w0 : (vR M 0 0).toInt = (M 258 2).toInt := rfl
  have w1 : (vR M 0 1).toInt = (M 258 4).toInt := rfl
  have w2 : (vR M 0 2).toInt = (M 258 9).toInt := rfl
  have w3 : (vR M 0 3).toInt = (M 258 14).toInt := rfl
  obtain ⟨y0a, y0b⟩ := (show rg 0 10 (M 258 2) from hI 258 2)
  obtain ⟨y1a, y1b⟩ := (show rg 0 60 (M 258 4) from hI 258 4)
  obtain ⟨y2a, y2b⟩ := (show rg 0 8 (M 258 9) from hI 258 9)
  obtain ⟨y3a, y3b⟩ := (show rg 0 20 (M 258 14) from hI 258 14)
  refine g_aload_n C 0 dX11_tally_0 rfl ?_
  refine g_iload_n C 2 dX11_tally_1 rfl ?_
  refine g_callVi C (n := 1) (As := [.int y]) (st := []) (s_X11_isCandidate l D ad cs _ _ y hI ) gX11_tally_X11_isCandidate rfl rfl rfl (by decide +kernel) ⟨Nat.le_of_ble_eq_true rfl, Nat.le_of_ble_eq_true rfl⟩ rfl (Nat.le_of_ble_eq_true rfl) ⟨Nat.zero_le _, Nat.zero_le _⟩ (by decide) (ce_model ad cs _ _) rfl rfl dX11_tally_2 (fun r1 M2 L3 hr1 => ?_)
  obtain ⟨hq1, hq2, hr1⟩ := hr1
  obtain rfl := hq1.symm
  obtain rfl := hq2.symm
  obtain ⟨bar1, bbr1⟩ := zo_b hr1
  refine g_if_ne C 14 dX11_tally_5 (by decide) (fun c4 => ?_) (fun c4 => ?_)
  ·
    have f5 := fne rfl (by decide : (0 : Int32).toInt = 0) c4
    have pr1 := zo_t hr1 c4
    try dsimp only [hasC, hasB, hasX, hasM, ofS, ofK, bt] at pr1
    refine g_iload_n C 1 dX11_tally_14 rfl ?_
    refine g_iconst C 0 dX11_tally_15 (by decide) ?_
    refine g_aload_n C 0 dX11_tally_16 rfl ?_
    refine g_get C (.int (M 258 44)) 44 in_X11_tally_11 (List.mem_of_getElem? (i := 2) rfl) (by decide) (ce_model ad cs _ _) rfl (by decide) rfl rfl dX11_tally_17 ?_
    refine g_ni (fun v6 ev6 => ?_)
    have gv6 : v6 = M 258 44 := ev6
    have tv6 := congrArg Int32.toInt gv6
    obtain ⟨bv6, dv6⟩ := (show rg 0 40 v6 from (by rw [ev6]; exact hI 258 44))
    refine g_iconst C 1 dX11_tally_20 (by decide) ?_
    refine g_isub C dX11_tally_21 ?_
    refine g_ni (fun v7 ev7 => ?_)
    try have fv7 := fsub rfl (by decide : (1 : Int32).toInt = 1) ev7 (by omega) (by omega)
    refine g_callSi C (n := 3) (As := [.int x, .int 0, .int v7]) (st := []) (c_X11_in l D ad cs _ _ x 0 v7 ) gX11_tally_X11_in rfl rfl rfl (by decide +kernel) ⟨Nat.le_of_ble_eq_true rfl, Nat.le_of_ble_eq_true rfl⟩ rfl (Nat.le_of_ble_eq_true rfl) ⟨Nat.zero_le _, Nat.zero_le _⟩ rfl dX11_tally_22 (fun r8 M9 L10 hr8 => ?_)
    obtain ⟨hq1, hq2, hr8⟩ := hr8
    obtain rfl := hq1.symm
    obtain rfl := hq2.symm
    have hr8 := zo_in hr8 (by decide : (0 : Int32).toInt = 0) rfl
    obtain ⟨bar8, bbr8⟩ := zo_b hr8
    refine g_if_ne C 34 dX11_tally_25 (by decide) (fun c11 => ?_) (fun c11 => ?_)
    ·
      have f12 := fne rfl (by decide : (0 : Int32).toInt = 0) c11
      have pr8 := zo_t hr8 c11
      try dsimp only [hasC, hasB, hasX, hasM, ofS, ofK, bt] at pr8
      refine g_iload_n C 3 dX11_tally_34 rfl ?_
      refine g_if_eq C 52 dX11_tally_35 (by decide) (fun c13 => ?_) (fun c13 => ?_)
      ·
        have f14 := feq rfl (by decide : (0 : Int32).toInt = 0) c13
        refine g_aload_n C 0 dX11_tally_52 rfl ?_
        refine g_get C (.ref (ad 291)) 47 in_X11_tally_11 (List.mem_of_getElem? (i := 5) rfl) (by decide) (ce_model ad cs _ _) rfl (by decide) rfl rfl dX11_tally_53 ?_
        refine g_bipush C 10 dX11_tally_56 (by decide) ?_
        refine g_iload_n C 1 dX11_tally_58 rfl ?_
        refine g_imul C dX11_tally_59 ?_
        refine g_ni (fun v15 ev15 => ?_)
        try have fv15 := fmul (by decide : (10 : Int32).toInt = 10) rfl ev15 (by omega) (by omega)
        refine g_iload_n C 2 dX11_tally_60 rfl ?_
        refine g_iadd C dX11_tally_61 ?_
        refine g_ni (fun v16 ev16 => ?_)
        try have fv16 := fadd rfl rfl ev16 (by omega) (by omega)
        have nx := ixn (x := x) (by omega)
        have ny := ixn (x := y) (by omega)
        have nv16 := ixn (x := v16) (by omega)
        have iv16 : v16.toNatClampNeg = 10 * x.toNatClampNeg + y.toNatClampNeg := by omega
        refine g_lald C (by decide) (ce_m_toldUp ad cs _ _) (fin' (n := 400) rfl (by omega) (by omega)) dX11_tally_62 ?_
        refine g_nl (fun v17 ev17 => ?_)
        have gv17 := ev17
        have gv17 := cg1L (f := L 291) gv17 iv16
        have tv17 := congrArg Int64.toInt gv17
        exact g_lret C hr ⟨rfl, rfl, (by dsimp only [A_tally, hasC, hasB, hasX, hasM, ofS, ofK, bt, ix]; (repeat (first | rw [if_pos (by omega)] | rw [if_neg (by omega)])); first | done | rfl | (simp only [gv17, ev16, ev15, ev7, gv6]; done) | (simp only [gv17, ev16, ev15, ev7, gv6]; rfl) | (subst_vars; first | rfl | grind))⟩ dX11_tally_63
      ·
        have f18 := fne rfl (by decide : (0 : Int32).toInt = 0) c13
        refine g_aload_n C 0 dX11_tally_38 rfl ?_
        refine g_get C (.ref (ad 292)) 48 in_X11_tally_11 (List.mem_of_getElem? (i := 4) rfl) (by decide) (ce_model ad cs _ _) rfl (by decide) rfl rfl dX11_tally_39 ?_
        refine g_bipush C 10 dX11_tally_42 (by decide) ?_
        refine g_iload_n C 1 dX11_tally_44 rfl ?_
        refine g_imul C dX11_tally_45 ?_
        refine g_ni (fun v19 ev19 => ?_)
        try have fv19 := fmul (by decide : (10 : Int32).toInt = 10) rfl ev19 (by omega) (by omega)
        refine g_iload_n C 2 dX11_tally_46 rfl ?_
        refine g_iadd C dX11_tally_47 ?_
        refine g_ni (fun v20 ev20 => ?_)
        try have fv20 := fadd rfl rfl ev20 (by omega) (by omega)
        have nx := ixn (x := x) (by omega)
        have ny := ixn (x := y) (by omega)
        have nv20 := ixn (x := v20) (by omega)
        have iv20 : v20.toNatClampNeg = 10 * x.toNatClampNeg + y.toNatClampNeg := by omega
        refine g_lald C (by decide) (ce_m_toldDown ad cs _ _) (fin' (n := 400) rfl (by omega) (by omega)) dX11_tally_48 ?_
        refine g_nl (fun v21 ev21 => ?_)
        have gv21 := ev21
        have gv21 := cg1L (f := L 292) gv21 iv20
        have tv21 := congrArg Int64.toInt gv21
        refine g_goto C 63 dX11_tally_49 (by decide) ?_
        exact g_lret C hr ⟨rfl, rfl, (by dsimp only [A_tally, hasC, hasB, hasX, hasM, ofS, ofK, bt, ix]; (repeat (first | rw [if_pos (by omega)] | rw [if_neg (by omega)])); first | done | rfl | (simp only [gv21, ev20, ev19, ev7, gv6]; done) | (simp only [gv21, ev20, ev19, ev7, gv6]; rfl) | (subst_vars; first | rfl | grind))⟩ dX11_tally_63
    ·
      have f22 := feq rfl (by decide : (0 : Int32).toInt = 0) c11
      have pr8 := zo_f hr8 c11
      try dsimp only [hasC, hasB, hasX, hasM, ofS, ofK, bt] at pr8
      refine g_ldc2 C (-9) (List.mem_of_getElem? (i := 3) rfl) dX11_tally_28 ?_
      refine g_goto C 63 dX11_tally_31 (by decide) ?_
      exact g_lret C hr ⟨rfl, rfl, (by dsimp only [A_tally, hasC, hasB, hasX, hasM, ofS, ofK, bt, ix]; (repeat (first | rw [if_pos (by omega)] | rw [if_neg (by omega)])); first | done | rfl | (simp only [ev7, gv6]; done) | (simp only [ev7, gv6]; rfl) | (subst_vars; first | rfl | grind))⟩ dX11_tally_63
  ·
    have f23 := feq rfl (by decide : (0 : Int32).toInt = 0) c4
    have pr1 := zo_f hr1 c4
    try dsimp only [hasC, hasB, hasX, hasM, ofS, ofK, bt] at pr1
    refine g_ldc2 C (-1) (List.mem_of_getElem? (i := 1) rfl) dX11_tally_8 ?_
    refine g_goto C 63 dX11_tally_11 (by decide) ?_
    exact g_lret C hr ⟨rfl, rfl, (by dsimp only [A_tally, hasC, hasB, hasX, hasM, ofS, ofK, bt, ix]; (repeat (first | rw [if_pos (by omega)] | rw [if_neg (by omega)])); first | done | rfl | (simp only [ix]; done) | (simp only [ix]; rfl) | (subst_vars; first | rfl | grind))⟩ dX11_tally_63
