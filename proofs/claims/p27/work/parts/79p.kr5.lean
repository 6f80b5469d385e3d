set_option maxHeartbeats 4000000 in
set_option maxRecDepth 100000 in
theorem k_X11_lighten (l : Launch) (D : va_G) (ad : Nat → Nat) (cs : Nat → ClassId) (M : MI) (L : ML) (x : Int32) (y : Int64) (hI : IR M) (hx : 0 ≤ x.toInt ∧ x.toInt < 10) (hq : 1 ≤ y.toInt ∧ y.toInt ≤ 4000001) (hW : WT L) (hs : (M 258 25).toInt = 0) (hk : okF (L 284 x.toNatClampNeg) (L 285 x.toNatClampNeg)) (hge : y.toInt * (L 285 x.toNatClampNeg).toInt ≤ (L 284 x.toNatClampNeg).toInt) (hX : hasX (vR M) (M 258 27)) (hB8 : ∀ i : Nat, (vR M 8 i).toInt = -9 ∨ (0 ≤ (vR M 8 i).toInt ∧ (vR M 8 i).toInt ≤ 59)) : Cv l yX11_lighten wsX11_lighten ({ frames := 2, cells := 0, slots := 0, locals := 55 }) D ad cs [.ref (ad 258), .int x, .long y] M L (fun M1 L1 => (((M1 258 25).toInt = 0 ↔ lg2 (L 284 x.toNatClampNeg) (L 285 x.toNatClampNeg) y ∧ (lgW (vR M) (M 282) x (L 284 x.toNatClampNeg) (L 285 x.toNatClampNeg) y (fun i => vR M 8 (40 * (M 258 27).toNatClampNeg + i)) (L 286) (L 287) (vR M 7 (M 258 27).toNatClampNeg).toNatClampNeg).2.2 = true) ∧ (lg2 (L 284 x.toNatClampNeg) (L 285 x.toNatClampNeg) y → (lgW (vR M) (M 282) x (L 284 x.toNatClampNeg) (L 285 x.toNatClampNeg) y (fun i => vR M 8 (40 * (M 258 27).toNatClampNeg + i)) (L 286) (L 287) (vR M 7 (M 258 27).toNatClampNeg).toNatClampNeg).2.2 = true → (L1 286 = (lgW (vR M) (M 282) x (L 284 x.toNatClampNeg) (L 285 x.toNatClampNeg) y (fun i => vR M 8 (40 * (M 258 27).toNatClampNeg + i)) (L 286) (L 287) (vR M 7 (M 258 27).toNatClampNeg).toNatClampNeg).1 ∧ L1 287 = (lgW (vR M) (M 282) x (L 284 x.toNatClampNeg) (L 285 x.toNatClampNeg) y (fun i => vR M 8 (40 * (M 258 27).toNatClampNeg + i)) (L 286) (L 287) (vR M 7 (M 258 27).toNatClampNeg).toNatClampNeg).2.1) ∧ WT L1)) ∧ IR M1 ∧ (∀ k i, ¬ (k = 258 ∧ i = 25) → M1 k i = M k i) ∧ ∀ k i, ¬ (k = 258 ∧ i = 23) ∧ ¬ (k = 258 ∧ i = 24) ∧ k ≠ 286 ∧ k ≠ 287 → L1 k i = L k i) := by
  refine enter_v RX11 rfl [(0, .ref (ad 258)), (1, .int x), (2, .long y)] rfl (Nat.le_of_ble_eq_true rfl) (by decide +kernel) rfl ?_
  intro p e s m below meth c C hr
  have hF : ∀ k i, ¬ (k = 258 ∧ i = 25) → M k i = M k i := fun _ _ _ => rfl
  have hG : ∀ k i, ¬ (k = 258 ∧ i = 23) ∧ ¬ (k = 258 ∧ i = 24) ∧ k ≠ 286 ∧ k ≠ 287 → L k i = L k i := fun _ _ _ => rfl
  obtain ⟨hx1, hx2⟩ := hx
  obtain ⟨hq1, hq2⟩ := hq
  have hk0 := hk
  unfold okF at hk
  obtain ⟨hk1, hk2, hk3, hk4⟩ := hk
  have nxx := ixn (x := x) hx1
  have hyd1 := mul_le9 (a := y.toInt) (b := (L 285 x.toNatClampNeg).toInt) (by omega) (by omega) (by omega) (by omega)
  have hyd2 := mul_pos9 (a := y.toInt) (b := (L 285 x.toNatClampNeg).toInt) (by omega) (by omega)
  have hI0 := hI
  have hX1 := hX.1
  have hX2 := hX.2
  have w2_ : (vR M 0 2).toInt = (M 258 9).toInt := rfl
  obtain ⟨y2a, y2b⟩ := (show rg 0 8 (M 258 9) from hI 258 9)
  obtain ⟨sza, szb⟩ := (show rg 0 40 (vR M 7 (M 258 27).toNatClampNeg) from hI 266 _)
  have nsz := ixn sza
  have nX := ixn hX1
  have k25 : M 258 25 = M 258 25 := rfl
  have l23 : L 258 23 = L 258 23 := rfl
  have l24 : L 258 24 = L 258 24 := rfl
  have p286 : L 286 = L 286 := rfl
  have p287 : L 287 = L 287 := rfl
  refine g_aload_n C 0 dX11_lighten_0 rfl ?_
  refine g_aload_n C 0 dX11_lighten_1 rfl ?_
  refine g_get C (.ref (ad 284)) 38 in_X11_lighten_11 (List.mem_of_getElem? (i := 1) rfl) (by decide) (ce_model ad cs _ _) rfl (by decide) rfl rfl dX11_lighten_2 ?_
  refine g_iload_n C 1 dX11_lighten_5 rfl ?_
  refine g_lald C (by decide) (ce_m_ups ad cs _ _) (fin' (n := 10) rfl (by omega) (by omega)) dX11_lighten_6 ?_
  refine g_nl (fun v1 ev1 => ?_)
  have gv1 := ev1
  have tv1 := congrArg Int64.toInt gv1
  refine g_lload_n C 2 dX11_lighten_7 rfl ?_
  refine g_aload_n C 0 dX11_lighten_8 rfl ?_
  refine g_get C (.ref (ad 285)) 39 in_X11_lighten_11 (List.mem_of_getElem? (i := 2) rfl) (by decide) (ce_model ad cs _ _) rfl (by decide) rfl rfl dX11_lighten_9 ?_
  refine g_iload_n C 1 dX11_lighten_12 rfl ?_
  refine g_lald C (by decide) (ce_m_downs ad cs _ _) (fin' (n := 10) rfl (by omega) (by omega)) dX11_lighten_13 ?_
  refine g_nl (fun v2 ev2 => ?_)
  have gv2 := ev2
  have tv2 := congrArg Int64.toInt gv2
  refine g_lmul C dX11_lighten_14 ?_
  refine g_nl (fun v3 ev3 => ?_)
  try have fv3 := prodI ev3
  refine g_lsub C dX11_lighten_15 ?_
  refine g_nl (fun v4 ev4 => ?_)
  try have fv4 := flsub rfl rfl ev4 (by omega) (by omega)
  refine g_aload_n C 0 dX11_lighten_16 rfl ?_
  refine g_get C (.ref (ad 285)) 39 in_X11_lighten_11 (List.mem_of_getElem? (i := 2) rfl) (by decide) (ce_model ad cs _ _) rfl (by decide) rfl rfl dX11_lighten_17 ?_
  refine g_iload_n C 1 dX11_lighten_20 rfl ?_
  refine g_lald C (by decide) (ce_m_downs ad cs _ _) (fin' (n := 10) rfl (by omega) (by omega)) dX11_lighten_21 ?_
  refine g_nl (fun v5 ev5 => ?_)
  have gv5 := ev5
  have tv5 := congrArg Int64.toInt gv5
  rw [show v2.toInt = (L 285 x.toNatClampNeg).toInt by omega, bmod_id (by omega) (by omega)] at fv3
  have fA : v4.toInt = (L 284 x.toNatClampNeg).toInt - y.toInt * (L 285 x.toNatClampNeg).toInt := flsub (by omega) (by omega) ev4 (by omega) (by omega)
  have eA9 : v4 = (L 284 x.toNatClampNeg) - y * (L 285 x.toNatClampNeg) := by simp only [gv5, ev4, ev3, gv2, gv1]
  have eB9 : v5 = (L 285 x.toNatClampNeg) := by simp only [gv5, ev4, ev3, gv2, gv1]
  refine g_callVv C (n := 2) (As := [.long v4, .long v5]) (st := []) (k_X11_fraction l D ad cs _ _ v4 v5 hI (fun h9 => by omega)) gX11_lighten_X11_fraction rfl rfl rfl (by decide +kernel) ⟨Nat.le_of_ble_eq_true rfl, Nat.le_of_ble_eq_true rfl⟩ rfl (Nat.le_of_ble_eq_true rfl) ⟨Nat.zero_le _, Nat.zero_le _⟩ (by decide) (ce_model ad cs _ _) rfl rfl dX11_lighten_22 (fun M7 L8 hr6 => ?_)
  obtain ⟨hr6, hI, hFr6, hGr6⟩ := hr6
  have hF : ∀ k i, ¬ (k = 258 ∧ i = 25) → M7 k i = M k i := fun k i hk => by (rw [hFr6 k i (by omega)]; try exact hF k i hk)
  have hG : ∀ k i, ¬ (k = 258 ∧ i = 23) ∧ ¬ (k = 258 ∧ i = 24) ∧ k ≠ 286 ∧ k ≠ 287 → L8 k i = L k i := fun k i hk => by (rw [hGr6 k i (by omega)]; try exact hG k i hk)
  have k25 : M7 258 25 = M7 258 25 := rfl
  have kt25 := congrArg Int32.toInt k25
  have l23 : L8 258 23 = L8 258 23 := rfl
  have l24 : L8 258 24 = L8 258 24 := rfl
  have p286 : L8 286 = L 286 := (funext (fun i => hGr6 286 i (by omega))).trans p286
  have p287 : L8 287 = L 287 := (funext (fun i => hGr6 287 i (by omega))).trans p287
  obtain ⟨fo1, fm1, fe1⟩ := hr6
  obtain ⟨u23, u24, us⟩ := fe1 (by omega) (by omega)
  rw [eA9, eB9] at u23 u24 us
  have u23 : L8 258 23 = lgU (L 284 x.toNatClampNeg) (L 285 x.toNatClampNeg) y := u23
  have u24 : L8 258 24 = lgV (L 284 x.toNatClampNeg) (L 285 x.toNatClampNeg) y := u24
  have us : (M7 258 25).toInt = 0 ↔ (M 258 25).toInt = 0 ∧ fitF (lgU (L 284 x.toNatClampNeg) (L 285 x.toNatClampNeg) y) (lgV (L 284 x.toNatClampNeg) (L 285 x.toNatClampNeg) y) := us
  have lu9 : 0 ≤ (lgU (L 284 x.toNatClampNeg) (L 285 x.toNatClampNeg) y).toInt := by show 0 ≤ (frU ((L 284 x.toNatClampNeg) - y * (L 285 x.toNatClampNeg)) (L 285 x.toNatClampNeg)).toInt; rw [← eA9, ← eB9, frU_i (by omega) (by omega)]; exact Int.ediv_nonneg (by omega) (by have := frG_pos (x := v4) (y := v5) (by omega); omega)
  have lv9 : 1 ≤ (lgV (L 284 x.toNatClampNeg) (L 285 x.toNatClampNeg) y).toInt := by show 1 ≤ (frD ((L 284 x.toNatClampNeg) - y * (L 285 x.toNatClampNeg)) (L 285 x.toNatClampNeg)).toInt; rw [← eA9, ← eB9]; exact (frD_i (by omega)).2
  have u23t := congrArg Int64.toInt u23
  have u24t := congrArg Int64.toInt u24
  refine g_aload_n C 0 dX11_lighten_25 rfl ?_
  refine g_get C (.int (M7 258 25)) 25 in_X11_lighten_11 (List.mem_of_getElem? (i := 3) rfl) (by decide) (ce_model ad cs _ _) rfl (by decide) rfl rfl dX11_lighten_26 ?_
  refine g_ni (fun v9 ev9 => ?_)
  have gv9 : v9 = M7 258 25 := ev9.trans k25
  have tv9 := congrArg Int32.toInt gv9
  obtain ⟨bv9, dv9⟩ := (show rg 0 1 v9 from (by rw [ev9]; exact hI 258 25))
  refine g_if_ne C 58 dX11_lighten_29 (by decide) (fun c10 => ?_) (fun c10 => ?_)
  ·
    have f11 := fne rfl (by decide : (0 : Int32).toInt = 0) c10
    have hno : ¬ lg2 (L 284 x.toNatClampNeg) (L 285 x.toNatClampNeg) y := fun q9 => absurd (us.mpr ⟨hs, q9.1⟩) (by omega)
    have hsp : (M7 258 25).toInt = 0 ↔ lg2 (L 284 x.toNatClampNeg) (L 285 x.toNatClampNeg) y := ⟨fun q9 => absurd q9 (by omega), fun q9 => absurd q9 hno⟩
    refine g_aload_n C 0 dX11_lighten_58 rfl ?_
    refine g_get C (.long (L8 258 23)) 23 in_X11_lighten_11 (List.mem_of_getElem? (i := 4) rfl) (by decide) (ce_model ad cs _ _) rfl (by decide) rfl rfl dX11_lighten_59 ?_
    refine g_nl (fun v12 ev12 => ?_)
    have gv12 : v12 = L8 258 23 := ev12.trans l23
    have tv12 := congrArg Int64.toInt gv12
    refine g_lstore C [(4, .long v12), (0, .ref (ad 258)), (1, .int x), (2, .long y)] dX11_lighten_62 (by decide) rfl ?_
    refine g_aload_n C 1 dX11_lighten_64 rfl ?_
    refine g_get C (.long (L8 258 24)) 24 in_X11_lighten_11 (List.mem_of_getElem? (i := 5) rfl) (by decide) (ce_model ad cs _ _) rfl (by decide) rfl rfl dX11_lighten_65 ?_
    refine g_nl (fun v13 ev13 => ?_)
    have gv13 : v13 = L8 258 24 := ev13.trans l24
    have tv13 := congrArg Int64.toInt gv13
    refine g_lstore C [(6, .long v13), (4, .long v12), (0, .ref (ad 258)), (1, .int x), (2, .long y)] dX11_lighten_68 (by decide) rfl ?_
    refine g_iconst C 0 dX11_lighten_70 (by decide) ?_
    refine g_istore C [(8, .int 0), (6, .long v13), (4, .long v12), (0, .ref (ad 258)), (1, .int x), (2, .long y)] dX11_lighten_71 (by decide) rfl ?_
    have zy14 : (0 : Int32).toInt = 0 := by decide
    have hab : lg2 (L 284 x.toNatClampNeg) (L 285 x.toNatClampNeg) y → v12 = lgA (L 284 x.toNatClampNeg) (L 285 x.toNatClampNeg) y ∧ v13 = lgB (L 284 x.toNatClampNeg) (L 285 x.toNatClampNeg) y := fun q9 => absurd q9 hno
    have hW9 : (L8 286 = L 286 ∧ L8 287 = L 287) ∧ WT L8 := ⟨⟨p286, p287⟩, fun i hi => by rw [congrFun p286 i, congrFun p287 i]; exact hW i hi⟩
    have k25t := congrArg Int32.toInt k25
    refine g_loop (α := Int32 × MI × ML) (fun a => (41 - a.1.toInt).toNat) (fun a => (0 ≤ a.1.toInt) ∧ (a.1.toInt ≤ (vR M 7 (M 258 27).toNatClampNeg).toInt) ∧ ((a.2.1 258 25).toInt = 0 ↔ lg2 (L 284 x.toNatClampNeg) (L 285 x.toNatClampNeg) y ∧ (lgW (vR M) (M 282) x (L 284 x.toNatClampNeg) (L 285 x.toNatClampNeg) y (fun i => vR M 8 (40 * (M 258 27).toNatClampNeg + i)) (L 286) (L 287) a.1.toNatClampNeg).2.2 = true) ∧ (lg2 (L 284 x.toNatClampNeg) (L 285 x.toNatClampNeg) y → (lgW (vR M) (M 282) x (L 284 x.toNatClampNeg) (L 285 x.toNatClampNeg) y (fun i => vR M 8 (40 * (M 258 27).toNatClampNeg + i)) (L 286) (L 287) a.1.toNatClampNeg).2.2 = true → (a.2.2 286 = (lgW (vR M) (M 282) x (L 284 x.toNatClampNeg) (L 285 x.toNatClampNeg) y (fun i => vR M 8 (40 * (M 258 27).toNatClampNeg + i)) (L 286) (L 287) a.1.toNatClampNeg).1 ∧ a.2.2 287 = (lgW (vR M) (M 282) x (L 284 x.toNatClampNeg) (L 285 x.toNatClampNeg) y (fun i => vR M 8 (40 * (M 258 27).toNatClampNeg + i)) (L 286) (L 287) a.1.toNatClampNeg).2.1) ∧ WT a.2.2) ∧ IR a.2.1 ∧ (∀ k i, ¬ (k = 258 ∧ i = 25) → a.2.1 k i = M k i) ∧ (∀ k i, ¬ (k = 258 ∧ i = 23) ∧ ¬ (k = 258 ∧ i = 24) ∧ k ≠ 286 ∧ k ≠ 287 → a.2.2 k i = L k i)) (fun a => a.2.1) (fun a => a.2.2) (fun a => [(8, .int a.1), (6, .long v13), (4, .long v12), (0, .ref (ad 258)), (1, .int x), (2, .long y)]) ((0 : Int32), M7, L8) ⟨by show 0 ≤ (0 : Int32).toInt; omega, by show (0 : Int32).toInt ≤ (vR M 7 (M 258 27).toNatClampNeg).toInt; omega, by show (M7 258 25).toInt = 0 ↔ lg2 (L 284 x.toNatClampNeg) (L 285 x.toNatClampNeg) y ∧ (lgW (vR M) (M 282) x (L 284 x.toNatClampNeg) (L 285 x.toNatClampNeg) y (fun i => vR M 8 (40 * (M 258 27).toNatClampNeg + i)) (L 286) (L 287) (0 : Int32).toNatClampNeg).2.2 = true; exact hsp.trans ⟨fun q9 => ⟨q9, rfl⟩, fun q9 => q9.1⟩, by show lg2 (L 284 x.toNatClampNeg) (L 285 x.toNatClampNeg) y → (lgW (vR M) (M 282) x (L 284 x.toNatClampNeg) (L 285 x.toNatClampNeg) y (fun i => vR M 8 (40 * (M 258 27).toNatClampNeg + i)) (L 286) (L 287) (0 : Int32).toNatClampNeg).2.2 = true → (L8 286 = (lgW (vR M) (M 282) x (L 284 x.toNatClampNeg) (L 285 x.toNatClampNeg) y (fun i => vR M 8 (40 * (M 258 27).toNatClampNeg + i)) (L 286) (L 287) (0 : Int32).toNatClampNeg).1 ∧ L8 287 = (lgW (vR M) (M 282) x (L 284 x.toNatClampNeg) (L 285 x.toNatClampNeg) y (fun i => vR M 8 (40 * (M 258 27).toNatClampNeg + i)) (L 286) (L 287) (0 : Int32).toNatClampNeg).2.1) ∧ WT L8; exact fun _ _ => hW9, hI, hF, hG⟩ rfl rfl rfl ?_
    rintro ⟨x8_73, M_73, L_73⟩ ⟨j73_0, j73_1, j73_2, j73_3, hI, hF, hG⟩ ih_73
    dsimp only at j73_0 j73_1 j73_2 j73_3 hI hF hG ih_73 ⊢
    have k25 : M_73 258 25 = M_73 258 25 := rfl
    have l23 : L_73 258 23 = L_73 258 23 := rfl
    have l24 : L_73 258 24 = L_73 258 24 := rfl
    have p286 : L_73 286 = L_73 286 := rfl
    have p287 : L_73 287 = L_73 287 := rfl
    have n8 := ixn (x := x8_73) (by omega)
    have hMv : vR M_73 = vR M := vR_fr (fun k i hk => hF k i (by omega))
    have h27 : M_73 258 27 = M 258 27 := hF 258 27 (by omega)
    have h282 : M_73 282 = M 282 := funext (fun i => hF 282 i (by omega))
    have hX6 : hasX (vR M_73) (M_73 258 27) := by rw [hMv, h27]; exact hX
    refine g_iload C 0 dX11_lighten_73 rfl ?_
    refine g_aload_n C 3 dX11_lighten_75 rfl ?_
    refine g_get C (.ref (ad 266)) 11 in_X11_lighten_11 (List.mem_of_getElem? (i := 6) rfl) (by decide) (ce_model ad cs _ _) rfl (by decide) rfl rfl dX11_lighten_76 ?_
    refine g_aload_n C 3 dX11_lighten_79 rfl ?_
    refine g_get C (.int (M_73 258 27)) 27 in_X11_lighten_11 (List.mem_of_getElem? (i := 7) rfl) (by decide) (ce_model ad cs _ _) rfl (by decide) rfl rfl dX11_lighten_80 ?_
    refine g_ni (fun v15 ev15 => ?_)
    have gv15 : v15 = M 258 27 := ev15.trans (hF 258 27 (by omega))
    have tv15 := congrArg Int32.toInt gv15
    obtain ⟨bv15, dv15⟩ := (show rg 0 7 v15 from (by rw [ev15]; exact hI 258 27))
    refine g_iald C (by decide) (ce_m_boxSize ad cs _ _) (fin' (n := 8) rfl (by omega) (by omega)) dX11_lighten_83 ?_
    refine g_ni (fun v16 ev16 => ?_)
    have gv16 : v16 = M 266 v15.toNatClampNeg := ev16.trans (hF 266 v15.toNatClampNeg (by omega))
    have tv16 := congrArg Int32.toInt gv16
    obtain ⟨bv16, dv16⟩ := (show rg 0 40 v16 from (by rw [ev16]; exact hI 266 v15.toNatClampNeg))
    have ts9 : v16.toInt = (vR M 7 (M 258 27).toNatClampNeg).toInt := by rw [gv16, gv15]; rfl
    refine g_icmp_ge C 171 dX11_lighten_84 (by decide) (fun c17 => ?_) (fun c17 => ?_)
    ·
      have f18 := fle rfl rfl c17
      exact g_vret C hr ⟨(by
      have k9 : (lgW (vR M) (M 282) x (L 284 x.toNatClampNeg) (L 285 x.toNatClampNeg) y (fun i => vR M 8 (40 * (M 258 27).toNatClampNeg + i)) (L 286) (L 287) x8_73.toNatClampNeg).2.2 = (lgW (vR M) (M 282) x (L 284 x.toNatClampNeg) (L 285 x.toNatClampNeg) y (fun i => vR M 8 (40 * (M 258 27).toNatClampNeg + i)) (L 286) (L 287) (vR M 7 (M 258 27).toNatClampNeg).toNatClampNeg).2.2 ∨ ¬ (x8_73.toNatClampNeg = (vR M 7 (M 258 27).toNatClampNeg).toNatClampNeg) := by by_cases e9 : x8_73.toNatClampNeg = (vR M 7 (M 258 27).toNatClampNeg).toNatClampNeg; (rw [e9]; exact Or.inl rfl); exact Or.inr e9
      by_cases e9 : x8_73.toNatClampNeg = (vR M 7 (M 258 27).toNatClampNeg).toNatClampNeg
      · rw [e9] at j73_2 j73_3; exact ⟨j73_2, j73_3⟩
      · have hnz : ¬ (M_73 258 25).toInt = 0 := (by omega)
        have hno9 : lg2 (L 284 x.toNatClampNeg) (L 285 x.toNatClampNeg) y → ¬ (lgW (vR M) (M 282) x (L 284 x.toNatClampNeg) (L 285 x.toNatClampNeg) y (fun i => vR M 8 (40 * (M 258 27).toNatClampNeg + i)) (L 286) (L 287) (vR M 7 (M 258 27).toNatClampNeg).toNatClampNeg).2.2 = true := by
          intro h2 ht
          by_cases hx : (lgW (vR M) (M 282) x (L 284 x.toNatClampNeg) (L 285 x.toNatClampNeg) y (fun i => vR M 8 (40 * (M 258 27).toNatClampNeg + i)) (L 286) (L 287) x8_73.toNatClampNeg).2.2 = false
          · have h9 := lgW_stay hx ((vR M 7 (M 258 27).toNatClampNeg).toNatClampNeg - x8_73.toNatClampNeg)
            rw [show x8_73.toNatClampNeg + ((vR M 7 (M 258 27).toNatClampNeg).toNatClampNeg - x8_73.toNatClampNeg) = (vR M 7 (M 258 27).toNatClampNeg).toNatClampNeg by omega, ht] at h9
            exact Bool.noConfusion h9
          · exact hnz (j73_2.mpr ⟨h2, bt_true hx⟩)
        exact ⟨⟨fun q9 => absurd q9 hnz, fun q9 => absurd q9.2 (hno9 q9.1)⟩, fun h2 ht => absurd ht (hno9 h2)⟩), hI, hF, hG⟩ dX11_lighten_171
    ·
      have f19 := fnle rfl rfl c17
      refine g_aload_n C 3 dX11_lighten_87 rfl ?_
      refine g_get C (.int (M_73 258 25)) 25 in_X11_lighten_11 (List.mem_of_getElem? (i := 3) rfl) (by decide) (ce_model ad cs _ _) rfl (by decide) rfl rfl dX11_lighten_88 ?_
      refine g_ni (fun v20 ev20 => ?_)
      have gv20 : v20 = M_73 258 25 := ev20.trans k25
      have tv20 := congrArg Int32.toInt gv20
      obtain ⟨bv20, dv20⟩ := (show rg 0 1 v20 from (by rw [ev20]; exact hI 258 25))
      refine g_if_ne C 171 dX11_lighten_91 (by decide) (fun c21 => ?_) (fun c21 => ?_)
      ·
        have f22 := fne rfl (by decide : (0 : Int32).toInt = 0) c21
        exact g_vret C hr ⟨(by
      have k9 : (lgW (vR M) (M 282) x (L 284 x.toNatClampNeg) (L 285 x.toNatClampNeg) y (fun i => vR M 8 (40 * (M 258 27).toNatClampNeg + i)) (L 286) (L 287) x8_73.toNatClampNeg).2.2 = (lgW (vR M) (M 282) x (L 284 x.toNatClampNeg) (L 285 x.toNatClampNeg) y (fun i => vR M 8 (40 * (M 258 27).toNatClampNeg + i)) (L 286) (L 287) (vR M 7 (M 258 27).toNatClampNeg).toNatClampNeg).2.2 ∨ ¬ (x8_73.toNatClampNeg = (vR M 7 (M 258 27).toNatClampNeg).toNatClampNeg) := by by_cases e9 : x8_73.toNatClampNeg = (vR M 7 (M 258 27).toNatClampNeg).toNatClampNeg; (rw [e9]; exact Or.inl rfl); exact Or.inr e9
      by_cases e9 : x8_73.toNatClampNeg = (vR M 7 (M 258 27).toNatClampNeg).toNatClampNeg
      · rw [e9] at j73_2 j73_3; exact ⟨j73_2, j73_3⟩
      · have hnz : ¬ (M_73 258 25).toInt = 0 := (by omega)
        have hno9 : lg2 (L 284 x.toNatClampNeg) (L 285 x.toNatClampNeg) y → ¬ (lgW (vR M) (M 282) x (L 284 x.toNatClampNeg) (L 285 x.toNatClampNeg) y (fun i => vR M 8 (40 * (M 258 27).toNatClampNeg + i)) (L 286) (L 287) (vR M 7 (M 258 27).toNatClampNeg).toNatClampNeg).2.2 = true := by
          intro h2 ht
          by_cases hx : (lgW (vR M) (M 282) x (L 284 x.toNatClampNeg) (L 285 x.toNatClampNeg) y (fun i => vR M 8 (40 * (M 258 27).toNatClampNeg + i)) (L 286) (L 287) x8_73.toNatClampNeg).2.2 = false
          · have h9 := lgW_stay hx ((vR M 7 (M 258 27).toNatClampNeg).toNatClampNeg - x8_73.toNatClampNeg)
            rw [show x8_73.toNatClampNeg + ((vR M 7 (M 258 27).toNatClampNeg).toNatClampNeg - x8_73.toNatClampNeg) = (vR M 7 (M 258 27).toNatClampNeg).toNatClampNeg by omega, ht] at h9
            exact Bool.noConfusion h9
          · exact hnz (j73_2.mpr ⟨h2, bt_true hx⟩)
        exact ⟨⟨fun q9 => absurd q9 hnz, fun q9 => absurd q9.2 (hno9 q9.1)⟩, fun h2 ht => absurd ht (hno9 h2)⟩), hI, hF, hG⟩ dX11_lighten_171
      ·
        have f23 := feq rfl (by decide : (0 : Int32).toInt = 0) c21
        refine g_aload_n C 3 dX11_lighten_94 rfl ?_
        refine g_iload C 0 dX11_lighten_95 rfl ?_
        refine g_callVi C (n := 1) (As := [.int x8_73]) (st := []) (k_X11_ballotAt l D ad cs _ _ x8_73 hI ⟨by omega, by omega⟩ hX6) gX11_lighten_X11_ballotAt rfl rfl rfl (by decide +kernel) ⟨Nat.le_of_ble_eq_true rfl, Nat.le_of_ble_eq_true rfl⟩ rfl (Nat.le_of_ble_eq_true rfl) ⟨Nat.zero_le _, Nat.zero_le _⟩ (by decide) (ce_model ad cs _ _) rfl rfl dX11_lighten_97 (fun r24 M25 L26 hr24 => ?_)
        obtain ⟨hq1, hq2, hr24⟩ := hr24
        obtain rfl := hq1.symm
        obtain rfl := hq2.symm
        rw [hMv, h27] at hr24
        have tr24 := congrArg Int32.toInt hr24
        have hB9 := hB8 (40 * (M 258 27).toNatClampNeg + x8_73.toNatClampNeg)
        obtain ⟨hl2, hok⟩ := j73_2.mp (by omega)
        obtain ⟨hwe, hww⟩ := j73_3 hl2 hok
        obtain ⟨ea9, eb9⟩ := hab hl2
        refine g_istore C [(9, .int r24), (8, .int x8_73), (6, .long v13), (4, .long v12), (0, .ref (ad 258)), (1, .int x), (2, .long y)] dX11_lighten_100 (by decide) rfl ?_
        refine g_iload C 0 dX11_lighten_102 rfl ?_
        refine g_bipush C (-9) dX11_lighten_104 (by decide) ?_
        refine g_icmp_eq C 165 dX11_lighten_106 (by decide) (fun c27 => ?_) (fun c27 => ?_)
        ·
          have f28 := feq rfl (by decide : ((-9) : Int32).toInt = (-9)) c27
          obtain ⟨v29, ev29⟩ : ∃ y : Int32, y = x8_73 + 1 := ⟨_, rfl⟩
          try have fv29 := fadd rfl (by decide : (1 : Int32).toInt = 1) ev29 (by omega) (by omega)
          refine g_iinc C 1 v29 [(8, .int v29), (9, .int r24), (6, .long v13), (4, .long v12), (0, .ref (ad 258)), (1, .int x), (2, .long y)] dX11_lighten_165 rfl (by rw [ev29]; rfl) (by decide) rfl ?_
          refine g_goto C 73 dX11_lighten_168 (by decide) ?_
          refine g_lv [0, 2, 3, 4, 5, 6] [(8, .int v29), (6, .long v13), (4, .long v12), (0, .ref (ad 258)), (1, .int x), (2, .long y)] rfl ?_
          have nv := ixn (x := v29) (by omega)
          have iv : v29.toNatClampNeg = x8_73.toNatClampNeg + 1 := by omega
          have eS : lgW (vR M) (M 282) x (L 284 x.toNatClampNeg) (L 285 x.toNatClampNeg) y (fun i => vR M 8 (40 * (M 258 27).toNatClampNeg + i)) (L 286) (L 287) (x8_73.toNatClampNeg + 1) = lgW (vR M) (M 282) x (L 284 x.toNatClampNeg) (L 285 x.toNatClampNeg) y (fun i => vR M 8 (40 * (M 258 27).toNatClampNeg + i)) (L 286) (L 287) x8_73.toNatClampNeg := by
            unfold lgW
            by_cases e9 : (vR M 8 (40 * (M 258 27).toNatClampNeg + x8_73.toNatClampNeg)).toInt = -9
            · exact foP_e (p := (fun i => vR M 8 (40 * (M 258 27).toNatClampNeg + i))) e9
            · rw [foP_s (p := (fun i => vR M 8 (40 * (M 258 27).toNatClampNeg + i))) e9]; exact ltS_f (fun q9 => by first | (exfalso; omega) | (have h9 : (fiV (vR M) (M 282) (vR M 8 (40 * (M 258 27).toNatClampNeg + x8_73.toNatClampNeg)).toNatClampNeg).toInt = x.toInt := q9.1; omega))
          have w1 := j73_2
          have w2 := j73_3
          rw [← eS] at w1 w2
          exact ih_73 (v29, M_73, L_73) ⟨by show 0 ≤ v29.toInt; omega, by show v29.toInt ≤ (vR M 7 (M 258 27).toNatClampNeg).toInt; omega, by show (M_73 258 25).toInt = 0 ↔ lg2 (L 284 x.toNatClampNeg) (L 285 x.toNatClampNeg) y ∧ (lgW (vR M) (M 282) x (L 284 x.toNatClampNeg) (L 285 x.toNatClampNeg) y (fun i => vR M 8 (40 * (M 258 27).toNatClampNeg + i)) (L 286) (L 287) v29.toNatClampNeg).2.2 = true; rw [iv]; first | exact w1 | (rw [k25]; exact w1), by show lg2 (L 284 x.toNatClampNeg) (L 285 x.toNatClampNeg) y → (lgW (vR M) (M 282) x (L 284 x.toNatClampNeg) (L 285 x.toNatClampNeg) y (fun i => vR M 8 (40 * (M 258 27).toNatClampNeg + i)) (L 286) (L 287) v29.toNatClampNeg).2.2 = true → (L_73 286 = (lgW (vR M) (M 282) x (L 284 x.toNatClampNeg) (L 285 x.toNatClampNeg) y (fun i => vR M 8 (40 * (M 258 27).toNatClampNeg + i)) (L 286) (L 287) v29.toNatClampNeg).1 ∧ L_73 287 = (lgW (vR M) (M 282) x (L 284 x.toNatClampNeg) (L 285 x.toNatClampNeg) y (fun i => vR M 8 (40 * (M 258 27).toNatClampNeg + i)) (L 286) (L 287) v29.toNatClampNeg).2.1) ∧ WT L_73; rw [iv]; exact w2, hI, hF, hG⟩ (by show (41 - v29.toInt).toNat < (41 - x8_73.toInt).toNat; omega)
        ·
          have f30 := fne rfl (by decide : ((-9) : Int32).toInt = (-9)) c27
          refine g_aload_n C 4 dX11_lighten_109 rfl ?_
          refine g_iload C 0 dX11_lighten_110 rfl ?_
          refine g_callVi C (n := 1) (As := [.int r24]) (st := []) (k_X11_firstOn l D ad cs _ _ r24 hI ⟨by omega, by omega⟩) gX11_lighten_X11_firstOn rfl rfl rfl (by decide +kernel) ⟨Nat.le_of_ble_eq_true rfl, Nat.le_of_ble_eq_true rfl⟩ rfl (Nat.le_of_ble_eq_true rfl) ⟨Nat.zero_le _, Nat.zero_le _⟩ (by decide) (ce_model ad cs _ _) rfl rfl dX11_lighten_112 (fun r31 M32 L33 hr31 => ?_)
          obtain ⟨hq1, hq2, hr31⟩ := hr31
          obtain rfl := hq1.symm
          obtain rfl := hq2.symm
          rw [hMv, h282, hr24] at hr31
          have tr31 := congrArg Int32.toInt hr31
          refine g_iload_n C 5 dX11_lighten_115 rfl ?_
          refine g_icmp_ne C 165 dX11_lighten_116 (by decide) (fun c34 => ?_) (fun c34 => ?_)
          ·
            have f35 := fne rfl rfl c34
            obtain ⟨v36, ev36⟩ : ∃ y : Int32, y = x8_73 + 1 := ⟨_, rfl⟩
            try have fv36 := fadd rfl (by decide : (1 : Int32).toInt = 1) ev36 (by omega) (by omega)
            refine g_iinc C 1 v36 [(8, .int v36), (9, .int r24), (6, .long v13), (4, .long v12), (0, .ref (ad 258)), (1, .int x), (2, .long y)] dX11_lighten_165 rfl (by rw [ev36]; rfl) (by decide) rfl ?_
            refine g_goto C 73 dX11_lighten_168 (by decide) ?_
            refine g_lv [0, 2, 3, 4, 5, 6] [(8, .int v36), (6, .long v13), (4, .long v12), (0, .ref (ad 258)), (1, .int x), (2, .long y)] rfl ?_
            have nv := ixn (x := v36) (by omega)
            have iv : v36.toNatClampNeg = x8_73.toNatClampNeg + 1 := by omega
            have eS : lgW (vR M) (M 282) x (L 284 x.toNatClampNeg) (L 285 x.toNatClampNeg) y (fun i => vR M 8 (40 * (M 258 27).toNatClampNeg + i)) (L 286) (L 287) (x8_73.toNatClampNeg + 1) = lgW (vR M) (M 282) x (L 284 x.toNatClampNeg) (L 285 x.toNatClampNeg) y (fun i => vR M 8 (40 * (M 258 27).toNatClampNeg + i)) (L 286) (L 287) x8_73.toNatClampNeg := by
              unfold lgW
              by_cases e9 : (vR M 8 (40 * (M 258 27).toNatClampNeg + x8_73.toNatClampNeg)).toInt = -9
              · exact foP_e (p := (fun i => vR M 8 (40 * (M 258 27).toNatClampNeg + i))) e9
              · rw [foP_s (p := (fun i => vR M 8 (40 * (M 258 27).toNatClampNeg + i))) e9]; exact ltS_f (fun q9 => by first | (exfalso; omega) | (have h9 : (fiV (vR M) (M 282) (vR M 8 (40 * (M 258 27).toNatClampNeg + x8_73.toNatClampNeg)).toNatClampNeg).toInt = x.toInt := q9.1; omega))
            have w1 := j73_2
            have w2 := j73_3
            rw [← eS] at w1 w2
            exact ih_73 (v36, M_73, L_73) ⟨by show 0 ≤ v36.toInt; omega, by show v36.toInt ≤ (vR M 7 (M 258 27).toNatClampNeg).toInt; omega, by show (M_73 258 25).toInt = 0 ↔ lg2 (L 284 x.toNatClampNeg) (L 285 x.toNatClampNeg) y ∧ (lgW (vR M) (M 282) x (L 284 x.toNatClampNeg) (L 285 x.toNatClampNeg) y (fun i => vR M 8 (40 * (M 258 27).toNatClampNeg + i)) (L 286) (L 287) v36.toNatClampNeg).2.2 = true; rw [iv]; first | exact w1 | (rw [k25]; exact w1), by show lg2 (L 284 x.toNatClampNeg) (L 285 x.toNatClampNeg) y → (lgW (vR M) (M 282) x (L 284 x.toNatClampNeg) (L 285 x.toNatClampNeg) y (fun i => vR M 8 (40 * (M 258 27).toNatClampNeg + i)) (L 286) (L 287) v36.toNatClampNeg).2.2 = true → (L_73 286 = (lgW (vR M) (M 282) x (L 284 x.toNatClampNeg) (L 285 x.toNatClampNeg) y (fun i => vR M 8 (40 * (M 258 27).toNatClampNeg + i)) (L 286) (L 287) v36.toNatClampNeg).1 ∧ L_73 287 = (lgW (vR M) (M 282) x (L 284 x.toNatClampNeg) (L 285 x.toNatClampNeg) y (fun i => vR M 8 (40 * (M 258 27).toNatClampNeg + i)) (L 286) (L 287) v36.toNatClampNeg).2.1) ∧ WT L_73; rw [iv]; exact w2, hI, hF, hG⟩ (by show (41 - v36.toInt).toNat < (41 - x8_73.toInt).toNat; omega)
          ·
            have f37 := feq rfl rfl c34
            have hw8 := hww x8_73.toNatClampNeg (by omega)
            unfold okF at hw8
            have hf2 := hl2.2
            dsimp only [fitF] at hf2
            have ea9t := congrArg Int64.toInt ea9
            have eb9t := congrArg Int64.toInt eb9
            have la9 := lgAB (u := (L 284 x.toNatClampNeg)) (d := (L 285 x.toNatClampNeg)) (q := y) (by omega) (by omega) (by omega) hl2.1 (by omega) (by omega)
            refine g_aload_n C 4 dX11_lighten_119 rfl ?_
            refine g_aload_n C 4 dX11_lighten_120 rfl ?_
            refine g_get C (.ref (ad 286)) 40 in_X11_lighten_11 (List.mem_of_getElem? (i := 8) rfl) (by decide) (ce_model ad cs _ _) rfl (by decide) rfl rfl dX11_lighten_121 ?_
            refine g_iload C 1 dX11_lighten_124 rfl ?_
            refine g_lald C (by decide) (ce_m_weightUp ad cs _ _) (fin' (n := 40) rfl (by omega) (by omega)) dX11_lighten_126 ?_
            refine g_nl (fun v38 ev38 => ?_)
            have gv38 : v38 = L_73 286 x8_73.toNatClampNeg := ev38.trans (congrFun p286 _)
            have tv38 := congrArg Int64.toInt gv38
            refine g_lload C 3 dX11_lighten_127 rfl ?_
            refine g_lmul C dX11_lighten_129 ?_
            refine g_nl (fun v39 ev39 => ?_)
            try have fv39 := prodI ev39
            refine g_aload_n C 4 dX11_lighten_130 rfl ?_
            refine g_get C (.ref (ad 287)) 41 in_X11_lighten_11 (List.mem_of_getElem? (i := 9) rfl) (by decide) (ce_model ad cs _ _) rfl (by decide) rfl rfl dX11_lighten_131 ?_
            refine g_iload C 1 dX11_lighten_134 rfl ?_
            refine g_lald C (by decide) (ce_m_weightDown ad cs _ _) (fin' (n := 40) rfl (by omega) (by omega)) dX11_lighten_136 ?_
            refine g_nl (fun v40 ev40 => ?_)
            have gv40 : v40 = L_73 287 x8_73.toNatClampNeg := ev40.trans (congrFun p287 _)
            have tv40 := congrArg Int64.toInt gv40
            refine g_lload C 2 dX11_lighten_137 rfl ?_
            refine g_lmul C dX11_lighten_139 ?_
            refine g_nl (fun v41 ev41 => ?_)
            try have fv41 := prodI ev41
            have m1 := mul_le9 (a := v38.toInt) (b := v12.toInt) (by omega) (by omega) (by omega) (by omega)
            have m2 := mul_le9 (a := v40.toInt) (b := v13.toInt) (by omega) (by omega) (by omega) (by omega)
            have m3 := mul_pos9 (a := v40.toInt) (b := v13.toInt) (by omega) (by omega)
            have m4 := mul_nn9 (a := v38.toInt) (b := v12.toInt) (by omega) (by omega)
            rw [bmod_id (by omega) (by omega)] at fv39 fv41
            have eA7 : v39 = L_73 286 x8_73.toNatClampNeg * lgA (L 284 x.toNatClampNeg) (L 285 x.toNatClampNeg) y := by rw [ev39, ea9, gv38]
            have eB7 : v41 = L_73 287 x8_73.toNatClampNeg * lgB (L 284 x.toNatClampNeg) (L 285 x.toNatClampNeg) y := by rw [ev41, eb9, gv40]
            refine g_callVv C (n := 2) (As := [.long v39, .long v41]) (st := []) (k_X11_fraction l D ad cs _ _ v39 v41 hI (fun h9 => by omega)) gX11_lighten_X11_fraction rfl rfl rfl (by decide +kernel) ⟨Nat.le_of_ble_eq_true rfl, Nat.le_of_ble_eq_true rfl⟩ rfl (Nat.le_of_ble_eq_true rfl) ⟨Nat.zero_le _, Nat.zero_le _⟩ (by decide) (ce_model ad cs _ _) rfl rfl dX11_lighten_140 (fun M43 L44 hr42 => ?_)
            obtain ⟨hr42, hI, hFr42, hGr42⟩ := hr42
            have hF : ∀ k i, ¬ (k = 258 ∧ i = 25) → M43 k i = M k i := fun k i hk => by (rw [hFr42 k i (by omega)]; try exact hF k i hk)
            have hG : ∀ k i, ¬ (k = 258 ∧ i = 23) ∧ ¬ (k = 258 ∧ i = 24) ∧ k ≠ 286 ∧ k ≠ 287 → L44 k i = L k i := fun k i hk => by (rw [hGr42 k i (by omega)]; try exact hG k i hk)
            have k25 : M43 258 25 = M43 258 25 := rfl
            have kt25 := congrArg Int32.toInt k25
            have l23 : L44 258 23 = L44 258 23 := rfl
            have l24 : L44 258 24 = L44 258 24 := rfl
            have p286 : L44 286 = L_73 286 := (funext (fun i => hGr42 286 i (by omega))).trans p286
            have p287 : L44 287 = L_73 287 := (funext (fun i => hGr42 287 i (by omega))).trans p287
            obtain ⟨fo3, fm3, fe3⟩ := hr42
            obtain ⟨w23, w24, ws9⟩ := fe3 (by omega) (by omega)
            rw [eA7, eB7] at w23 w24 ws9
            refine g_aload_n C 4 dX11_lighten_143 rfl ?_
            refine g_get C (.ref (ad 286)) 40 in_X11_lighten_11 (List.mem_of_getElem? (i := 8) rfl) (by decide) (ce_model ad cs _ _) rfl (by decide) rfl rfl dX11_lighten_144 ?_
            refine g_iload C 1 dX11_lighten_147 rfl ?_
            refine g_aload_n C 4 dX11_lighten_149 rfl ?_
            refine g_get C (.long (L44 258 23)) 23 in_X11_lighten_11 (List.mem_of_getElem? (i := 4) rfl) (by decide) (ce_model ad cs _ _) rfl (by decide) rfl rfl dX11_lighten_150 ?_
            refine g_nl (fun v45 ev45 => ?_)
            have gv45 : v45 = L44 258 23 := ev45.trans l23
            have tv45 := congrArg Int64.toInt gv45
            refine g_last C (by decide) (ce_m_weightUp ad cs _ _) (by rw [sJ_k]; rfl) (fin' (n := 40) rfl (by omega) (by omega)) dX11_lighten_153 ?_
            refine g_nmL (fun L46 hL46 => ?_)
            have hG : ∀ k i, ¬ (k = 258 ∧ i = 23) ∧ ¬ (k = 258 ∧ i = 24) ∧ k ≠ 286 ∧ k ≠ 287 → L46 k i = L k i := fun k i hk => by (rw [hL46, sJ_at, if_neg (by omega)]; try exact hG k i hk)
            have l23 : L46 258 23 = L44 258 23 := by rw [hL46, sJ_n _ _ _ (by decide)]; try exact l23
            have l24 : L46 258 24 = L44 258 24 := by rw [hL46, sJ_n _ _ _ (by decide)]; try exact l24
            have p287 : L46 287 = L_73 287 := by rw [hL46, sJ_n _ _ _ (by decide)]; try exact p287
            refine g_aload_n C 4 dX11_lighten_154 rfl ?_
            refine g_get C (.ref (ad 287)) 41 in_X11_lighten_11 (List.mem_of_getElem? (i := 9) rfl) (by decide) (ce_model ad cs _ _) rfl (by decide) rfl rfl dX11_lighten_155 ?_
            refine g_iload C 1 dX11_lighten_158 rfl ?_
            refine g_aload_n C 4 dX11_lighten_160 rfl ?_
            refine g_get C (.long (L46 258 24)) 24 in_X11_lighten_11 (List.mem_of_getElem? (i := 5) rfl) (by decide) (ce_model ad cs _ _) rfl (by decide) rfl rfl dX11_lighten_161 ?_
            refine g_nl (fun v47 ev47 => ?_)
            have gv47 : v47 = L44 258 24 := ev47.trans l24
            have tv47 := congrArg Int64.toInt gv47
            refine g_last C (by decide) (ce_m_weightDown ad cs _ _) (by rw [sJ_k]; rfl) (fin' (n := 40) rfl (by omega) (by omega)) dX11_lighten_164 ?_
            refine g_nmL (fun L48 hL48 => ?_)
            have hG : ∀ k i, ¬ (k = 258 ∧ i = 23) ∧ ¬ (k = 258 ∧ i = 24) ∧ k ≠ 286 ∧ k ≠ 287 → L48 k i = L k i := fun k i hk => by (rw [hL48, sJ_at, if_neg (by omega)]; try exact hG k i hk)
            have l23 : L48 258 23 = L44 258 23 := by rw [hL48, sJ_n _ _ _ (by decide)]; try exact l23
            have l24 : L48 258 24 = L44 258 24 := by rw [hL48, sJ_n _ _ _ (by decide)]; try exact l24
            obtain ⟨v49, ev49⟩ : ∃ y : Int32, y = x8_73 + 1 := ⟨_, rfl⟩
            try have fv49 := fadd rfl (by decide : (1 : Int32).toInt = 1) ev49 (by omega) (by omega)
            refine g_iinc C 1 v49 [(8, .int v49), (9, .int r24), (6, .long v13), (4, .long v12), (0, .ref (ad 258)), (1, .int x), (2, .long y)] dX11_lighten_165 rfl (by rw [ev49]; rfl) (by decide) rfl ?_
            refine g_goto C 73 dX11_lighten_168 (by decide) ?_
            refine g_lv [0, 2, 3, 4, 5, 6] [(8, .int v49), (6, .long v13), (4, .long v12), (0, .ref (ad 258)), (1, .int x), (2, .long y)] rfl ?_
            have nv := ixn (x := v49) (by omega)
            have iv : v49.toNatClampNeg = x8_73.toNatClampNeg + 1 := by omega
            have ha : L48 286 = vp_updL (L_73 286) x8_73.toNatClampNeg (frU (L_73 286 x8_73.toNatClampNeg * lgA (L 284 x.toNatClampNeg) (L 285 x.toNatClampNeg) y) (L_73 287 x8_73.toNatClampNeg * lgB (L 284 x.toNatClampNeg) (L 285 x.toNatClampNeg) y)) := by rw [hL48, sJ_n _ _ _ (by decide), hL46, sJ_k, p286, gv45, w23]
            have hb : L48 287 = vp_updL (L_73 287) x8_73.toNatClampNeg (frD (L_73 286 x8_73.toNatClampNeg * lgA (L 284 x.toNatClampNeg) (L 285 x.toNatClampNeg) y) (L_73 287 x8_73.toNatClampNeg * lgB (L 284 x.toNatClampNeg) (L 285 x.toNatClampNeg) y)) := by rw [hL48, sJ_k, p287, gv47, w24]
            have eT : lgW (vR M) (M 282) x (L 284 x.toNatClampNeg) (L 285 x.toNatClampNeg) y (fun i => vR M 8 (40 * (M 258 27).toNatClampNeg + i)) (L 286) (L 287) (x8_73.toNatClampNeg + 1) = (vp_updL (lgW (vR M) (M 282) x (L 284 x.toNatClampNeg) (L 285 x.toNatClampNeg) y (fun i => vR M 8 (40 * (M 258 27).toNatClampNeg + i)) (L 286) (L 287) x8_73.toNatClampNeg).1 x8_73.toNatClampNeg (frU ((lgW (vR M) (M 282) x (L 284 x.toNatClampNeg) (L 285 x.toNatClampNeg) y (fun i => vR M 8 (40 * (M 258 27).toNatClampNeg + i)) (L 286) (L 287) x8_73.toNatClampNeg).1 x8_73.toNatClampNeg * lgA (L 284 x.toNatClampNeg) (L 285 x.toNatClampNeg) y) ((lgW (vR M) (M 282) x (L 284 x.toNatClampNeg) (L 285 x.toNatClampNeg) y (fun i => vR M 8 (40 * (M 258 27).toNatClampNeg + i)) (L 286) (L 287) x8_73.toNatClampNeg).2.1 x8_73.toNatClampNeg * lgB (L 284 x.toNatClampNeg) (L 285 x.toNatClampNeg) y)), vp_updL (lgW (vR M) (M 282) x (L 284 x.toNatClampNeg) (L 285 x.toNatClampNeg) y (fun i => vR M 8 (40 * (M 258 27).toNatClampNeg + i)) (L 286) (L 287) x8_73.toNatClampNeg).2.1 x8_73.toNatClampNeg (frD ((lgW (vR M) (M 282) x (L 284 x.toNatClampNeg) (L 285 x.toNatClampNeg) y (fun i => vR M 8 (40 * (M 258 27).toNatClampNeg + i)) (L 286) (L 287) x8_73.toNatClampNeg).1 x8_73.toNatClampNeg * lgA (L 284 x.toNatClampNeg) (L 285 x.toNatClampNeg) y) ((lgW (vR M) (M 282) x (L 284 x.toNatClampNeg) (L 285 x.toNatClampNeg) y (fun i => vR M 8 (40 * (M 258 27).toNatClampNeg + i)) (L 286) (L 287) x8_73.toNatClampNeg).2.1 x8_73.toNatClampNeg * lgB (L 284 x.toNatClampNeg) (L 285 x.toNatClampNeg) y)), decide (fitF (frU ((lgW (vR M) (M 282) x (L 284 x.toNatClampNeg) (L 285 x.toNatClampNeg) y (fun i => vR M 8 (40 * (M 258 27).toNatClampNeg + i)) (L 286) (L 287) x8_73.toNatClampNeg).1 x8_73.toNatClampNeg * lgA (L 284 x.toNatClampNeg) (L 285 x.toNatClampNeg) y) ((lgW (vR M) (M 282) x (L 284 x.toNatClampNeg) (L 285 x.toNatClampNeg) y (fun i => vR M 8 (40 * (M 258 27).toNatClampNeg + i)) (L 286) (L 287) x8_73.toNatClampNeg).2.1 x8_73.toNatClampNeg * lgB (L 284 x.toNatClampNeg) (L 285 x.toNatClampNeg) y)) (frD ((lgW (vR M) (M 282) x (L 284 x.toNatClampNeg) (L 285 x.toNatClampNeg) y (fun i => vR M 8 (40 * (M 258 27).toNatClampNeg + i)) (L 286) (L 287) x8_73.toNatClampNeg).1 x8_73.toNatClampNeg * lgA (L 284 x.toNatClampNeg) (L 285 x.toNatClampNeg) y) ((lgW (vR M) (M 282) x (L 284 x.toNatClampNeg) (L 285 x.toNatClampNeg) y (fun i => vR M 8 (40 * (M 258 27).toNatClampNeg + i)) (L 286) (L 287) x8_73.toNatClampNeg).2.1 x8_73.toNatClampNeg * lgB (L 284 x.toNatClampNeg) (L 285 x.toNatClampNeg) y)))) := by
              have h9 : lgW (vR M) (M 282) x (L 284 x.toNatClampNeg) (L 285 x.toNatClampNeg) y (fun i => vR M 8 (40 * (M 258 27).toNatClampNeg + i)) (L 286) (L 287) (x8_73.toNatClampNeg + 1) = ltS (vR M) (M 282) x (lgA (L 284 x.toNatClampNeg) (L 285 x.toNatClampNeg) y) (lgB (L 284 x.toNatClampNeg) (L 285 x.toNatClampNeg) y) x8_73.toNatClampNeg (vR M 8 (40 * (M 258 27).toNatClampNeg + x8_73.toNatClampNeg)).toNatClampNeg (lgW (vR M) (M 282) x (L 284 x.toNatClampNeg) (L 285 x.toNatClampNeg) y (fun i => vR M 8 (40 * (M 258 27).toNatClampNeg + i)) (L 286) (L 287) x8_73.toNatClampNeg) := foP_s (p := (fun i => vR M 8 (40 * (M 258 27).toNatClampNeg + i))) (show ¬ (vR M 8 (40 * (M 258 27).toNatClampNeg + x8_73.toNatClampNeg)).toInt = -9 by omega)
              rw [h9]
              exact if_pos ⟨by show (fiV (vR M) (M 282) (vR M 8 (40 * (M 258 27).toNatClampNeg + x8_73.toNatClampNeg)).toNatClampNeg).toInt = x.toInt; omega, hok⟩
            obtain ⟨w1, w2e⟩ := lt_step (j := x8_73.toNatClampNeg) hl2 (by omega) hwe ⟨ha, hb, ws9⟩ eT
            have k25u := congrArg Int32.toInt k25
            have w2 : lg2 (L 284 x.toNatClampNeg) (L 285 x.toNatClampNeg) y → (lgW (vR M) (M 282) x (L 284 x.toNatClampNeg) (L 285 x.toNatClampNeg) y (fun i => vR M 8 (40 * (M 258 27).toNatClampNeg + i)) (L 286) (L 287) (x8_73.toNatClampNeg + 1)).2.2 = true → (L48 286 = (lgW (vR M) (M 282) x (L 284 x.toNatClampNeg) (L 285 x.toNatClampNeg) y (fun i => vR M 8 (40 * (M 258 27).toNatClampNeg + i)) (L 286) (L 287) (x8_73.toNatClampNeg + 1)).1 ∧ L48 287 = (lgW (vR M) (M 282) x (L 284 x.toNatClampNeg) (L 285 x.toNatClampNeg) y (fun i => vR M 8 (40 * (M 258 27).toNatClampNeg + i)) (L 286) (L 287) (x8_73.toNatClampNeg + 1)).2.1) ∧ WT L48 := fun _ ht => ⟨w2e, fun i hi => by
              have hft := (ws9.mp (w1.mpr ⟨hl2, ht⟩)).2
              dsimp only [fitF] at hft
              rw [ha, hb]
              by_cases e9 : i = x8_73.toNatClampNeg
              · rw [show ∀ (G : Nat → Int64) (v : Int64), vp_updL G x8_73.toNatClampNeg v i = v from fun G v => if_pos e9, show ∀ (G : Nat → Int64) (v : Int64), vp_updL G x8_73.toNatClampNeg v i = v from fun G v => if_pos e9]; rw [← eA7, ← eB7] at hft ⊢; exact okF_of hft (by omega) (by omega)
              · rw [show ∀ (G : Nat → Int64) (v : Int64), vp_updL G x8_73.toNatClampNeg v i = G i from fun G v => if_neg e9, show ∀ (G : Nat → Int64) (v : Int64), vp_updL G x8_73.toNatClampNeg v i = G i from fun G v => if_neg e9]; exact hww i hi⟩
            exact ih_73 (v49, M43, L48) ⟨by show 0 ≤ v49.toInt; omega, by show v49.toInt ≤ (vR M 7 (M 258 27).toNatClampNeg).toInt; omega, by show (M43 258 25).toInt = 0 ↔ lg2 (L 284 x.toNatClampNeg) (L 285 x.toNatClampNeg) y ∧ (lgW (vR M) (M 282) x (L 284 x.toNatClampNeg) (L 285 x.toNatClampNeg) y (fun i => vR M 8 (40 * (M 258 27).toNatClampNeg + i)) (L 286) (L 287) v49.toNatClampNeg).2.2 = true; rw [iv]; first | exact w1 | (rw [k25]; exact w1), by show lg2 (L 284 x.toNatClampNeg) (L 285 x.toNatClampNeg) y → (lgW (vR M) (M 282) x (L 284 x.toNatClampNeg) (L 285 x.toNatClampNeg) y (fun i => vR M 8 (40 * (M 258 27).toNatClampNeg + i)) (L 286) (L 287) v49.toNatClampNeg).2.2 = true → (L48 286 = (lgW (vR M) (M 282) x (L 284 x.toNatClampNeg) (L 285 x.toNatClampNeg) y (fun i => vR M 8 (40 * (M 258 27).toNatClampNeg + i)) (L 286) (L 287) v49.toNatClampNeg).1 ∧ L48 287 = (lgW (vR M) (M 282) x (L 284 x.toNatClampNeg) (L 285 x.toNatClampNeg) y (fun i => vR M 8 (40 * (M 258 27).toNatClampNeg + i)) (L 286) (L 287) v49.toNatClampNeg).2.1) ∧ WT L48; rw [iv]; exact w2, hI, hF, hG⟩ (by show (41 - v49.toInt).toNat < (41 - x8_73.toInt).toNat; omega)
  ·
    have f50 := feq rfl (by decide : (0 : Int32).toInt = 0) c10
    have hf1 := (us.mp (by omega)).2
    have hf1b := hf1
    dsimp only [fitF] at hf1b
    refine g_aload_n C 0 dX11_lighten_32 rfl ?_
    refine g_aload_n C 0 dX11_lighten_33 rfl ?_
    refine g_get C (.long (L8 258 23)) 23 in_X11_lighten_11 (List.mem_of_getElem? (i := 4) rfl) (by decide) (ce_model ad cs _ _) rfl (by decide) rfl rfl dX11_lighten_34 ?_
    refine g_nl (fun v51 ev51 => ?_)
    have gv51 : v51 = L8 258 23 := ev51.trans l23
    have tv51 := congrArg Int64.toInt gv51
    refine g_aload_n C 0 dX11_lighten_37 rfl ?_
    refine g_get C (.ref (ad 285)) 39 in_X11_lighten_11 (List.mem_of_getElem? (i := 2) rfl) (by decide) (ce_model ad cs _ _) rfl (by decide) rfl rfl dX11_lighten_38 ?_
    refine g_iload_n C 1 dX11_lighten_41 rfl ?_
    refine g_lald C (by decide) (ce_m_downs ad cs _ _) (fin' (n := 10) rfl (by omega) (by omega)) dX11_lighten_42 ?_
    refine g_nl (fun v52 ev52 => ?_)
    have gv52 : v52 = L 285 x.toNatClampNeg := ev52.trans (hG 285 _ (by omega))
    have tv52 := congrArg Int64.toInt gv52
    refine g_lmul C dX11_lighten_43 ?_
    refine g_nl (fun v53 ev53 => ?_)
    try have fv53 := prodI ev53
    refine g_aload_n C 0 dX11_lighten_44 rfl ?_
    refine g_get C (.long (L8 258 24)) 24 in_X11_lighten_11 (List.mem_of_getElem? (i := 5) rfl) (by decide) (ce_model ad cs _ _) rfl (by decide) rfl rfl dX11_lighten_45 ?_
    refine g_nl (fun v54 ev54 => ?_)
    have gv54 : v54 = L8 258 24 := ev54.trans l24
    have tv54 := congrArg Int64.toInt gv54
    refine g_aload_n C 0 dX11_lighten_48 rfl ?_
    refine g_get C (.ref (ad 284)) 38 in_X11_lighten_11 (List.mem_of_getElem? (i := 1) rfl) (by decide) (ce_model ad cs _ _) rfl (by decide) rfl rfl dX11_lighten_49 ?_
    refine g_iload_n C 1 dX11_lighten_52 rfl ?_
    refine g_lald C (by decide) (ce_m_ups ad cs _ _) (fin' (n := 10) rfl (by omega) (by omega)) dX11_lighten_53 ?_
    refine g_nl (fun v55 ev55 => ?_)
    have gv55 : v55 = L 284 x.toNatClampNeg := ev55.trans (hG 284 _ (by omega))
    have tv55 := congrArg Int64.toInt gv55
    refine g_lmul C dX11_lighten_54 ?_
    refine g_nl (fun v56 ev56 => ?_)
    try have fv56 := prodI ev56
    have m1 := mul_le9 (a := v51.toInt) (b := v52.toInt) (by omega) (by omega) (by omega) (by omega)
    have m2 := mul_le9 (a := v54.toInt) (b := v55.toInt) (by omega) (by omega) (by omega) (by omega)
    have m3 := mul_pos9 (a := v54.toInt) (b := v55.toInt) (by omega) (by omega)
    have m4 := mul_nn9 (a := v51.toInt) (b := v52.toInt) (by omega) (by omega)
    rw [bmod_id (by omega) (by omega)] at fv53 fv56
    have eA8 : v53 = lgU (L 284 x.toNatClampNeg) (L 285 x.toNatClampNeg) y * (L 285 x.toNatClampNeg) := by simp only [ev56, gv55, gv54, ev53, gv52, gv51, gv9, gv5, ev4, ev3, gv2, gv1, u23]
    have eB8 : v56 = lgV (L 284 x.toNatClampNeg) (L 285 x.toNatClampNeg) y * (L 284 x.toNatClampNeg) := by simp only [ev56, gv55, gv54, ev53, gv52, gv51, gv9, gv5, ev4, ev3, gv2, gv1, u24]
    refine g_callVv C (n := 2) (As := [.long v53, .long v56]) (st := []) (k_X11_fraction l D ad cs _ _ v53 v56 hI (fun h9 => by omega)) gX11_lighten_X11_fraction rfl rfl rfl (by decide +kernel) ⟨Nat.le_of_ble_eq_true rfl, Nat.le_of_ble_eq_true rfl⟩ rfl (Nat.le_of_ble_eq_true rfl) ⟨Nat.zero_le _, Nat.zero_le _⟩ (by decide) (ce_model ad cs _ _) rfl rfl dX11_lighten_55 (fun M58 L59 hr57 => ?_)
    obtain ⟨hr57, hI, hFr57, hGr57⟩ := hr57
    have hF : ∀ k i, ¬ (k = 258 ∧ i = 25) → M58 k i = M k i := fun k i hk => by (rw [hFr57 k i (by omega)]; try exact hF k i hk)
    have hG : ∀ k i, ¬ (k = 258 ∧ i = 23) ∧ ¬ (k = 258 ∧ i = 24) ∧ k ≠ 286 ∧ k ≠ 287 → L59 k i = L k i := fun k i hk => by (rw [hGr57 k i (by omega)]; try exact hG k i hk)
    have k25 : M58 258 25 = M58 258 25 := rfl
    have kt25 := congrArg Int32.toInt k25
    have l23 : L59 258 23 = L59 258 23 := rfl
    have l24 : L59 258 24 = L59 258 24 := rfl
    have p286 : L59 286 = L 286 := (funext (fun i => hGr57 286 i (by omega))).trans p286
    have p287 : L59 287 = L 287 := (funext (fun i => hGr57 287 i (by omega))).trans p287
    obtain ⟨fo2, fm2, fe2⟩ := hr57
    obtain ⟨v23, v24, vs⟩ := fe2 (by omega) (by omega)
    rw [eA8, eB8] at v23 v24 vs
    have v23 : L59 258 23 = lgA (L 284 x.toNatClampNeg) (L 285 x.toNatClampNeg) y := v23
    have v24 : L59 258 24 = lgB (L 284 x.toNatClampNeg) (L 285 x.toNatClampNeg) y := v24
    have vs : (M58 258 25).toInt = 0 ↔ lg2 (L 284 x.toNatClampNeg) (L 285 x.toNatClampNeg) y := vs.trans ⟨fun q9 => ⟨hf1, q9.2⟩, fun q9 => ⟨us.mpr ⟨hs, hf1⟩, q9.2⟩⟩
    have hsp := vs
    refine g_aload_n C 0 dX11_lighten_58 rfl ?_
    refine g_get C (.long (L59 258 23)) 23 in_X11_lighten_11 (List.mem_of_getElem? (i := 4) rfl) (by decide) (ce_model ad cs _ _) rfl (by decide) rfl rfl dX11_lighten_59 ?_
    refine g_nl (fun v60 ev60 => ?_)
    have gv60 : v60 = L59 258 23 := ev60.trans l23
    have tv60 := congrArg Int64.toInt gv60
    refine g_lstore C [(4, .long v60), (0, .ref (ad 258)), (1, .int x), (2, .long y)] dX11_lighten_62 (by decide) rfl ?_
    refine g_aload_n C 1 dX11_lighten_64 rfl ?_
    refine g_get C (.long (L59 258 24)) 24 in_X11_lighten_11 (List.mem_of_getElem? (i := 5) rfl) (by decide) (ce_model ad cs _ _) rfl (by decide) rfl rfl dX11_lighten_65 ?_
    refine g_nl (fun v61 ev61 => ?_)
    have gv61 : v61 = L59 258 24 := ev61.trans l24
    have tv61 := congrArg Int64.toInt gv61
    refine g_lstore C [(6, .long v61), (4, .long v60), (0, .ref (ad 258)), (1, .int x), (2, .long y)] dX11_lighten_68 (by decide) rfl ?_
    refine g_iconst C 0 dX11_lighten_70 (by decide) ?_
    refine g_istore C [(8, .int 0), (6, .long v61), (4, .long v60), (0, .ref (ad 258)), (1, .int x), (2, .long y)] dX11_lighten_71 (by decide) rfl ?_
    have zy62 : (0 : Int32).toInt = 0 := by decide
    have hab : lg2 (L 284 x.toNatClampNeg) (L 285 x.toNatClampNeg) y → v60 = lgA (L 284 x.toNatClampNeg) (L 285 x.toNatClampNeg) y ∧ v61 = lgB (L 284 x.toNatClampNeg) (L 285 x.toNatClampNeg) y := fun q9 => ⟨by rw [gv60, v23], by rw [gv61, v24]⟩
    have hW9 : (L59 286 = L 286 ∧ L59 287 = L 287) ∧ WT L59 := ⟨⟨p286, p287⟩, fun i hi => by rw [congrFun p286 i, congrFun p287 i]; exact hW i hi⟩
    have k25t := congrArg Int32.toInt k25
    refine g_loop (α := Int32 × MI × ML) (fun a => (41 - a.1.toInt).toNat) (fun a => (0 ≤ a.1.toInt) ∧ (a.1.toInt ≤ (vR M 7 (M 258 27).toNatClampNeg).toInt) ∧ ((a.2.1 258 25).toInt = 0 ↔ lg2 (L 284 x.toNatClampNeg) (L 285 x.toNatClampNeg) y ∧ (lgW (vR M) (M 282) x (L 284 x.toNatClampNeg) (L 285 x.toNatClampNeg) y (fun i => vR M 8 (40 * (M 258 27).toNatClampNeg + i)) (L 286) (L 287) a.1.toNatClampNeg).2.2 = true) ∧ (lg2 (L 284 x.toNatClampNeg) (L 285 x.toNatClampNeg) y → (lgW (vR M) (M 282) x (L 284 x.toNatClampNeg) (L 285 x.toNatClampNeg) y (fun i => vR M 8 (40 * (M 258 27).toNatClampNeg + i)) (L 286) (L 287) a.1.toNatClampNeg).2.2 = true → (a.2.2 286 = (lgW (vR M) (M 282) x (L 284 x.toNatClampNeg) (L 285 x.toNatClampNeg) y (fun i => vR M 8 (40 * (M 258 27).toNatClampNeg + i)) (L 286) (L 287) a.1.toNatClampNeg).1 ∧ a.2.2 287 = (lgW (vR M) (M 282) x (L 284 x.toNatClampNeg) (L 285 x.toNatClampNeg) y (fun i => vR M 8 (40 * (M 258 27).toNatClampNeg + i)) (L 286) (L 287) a.1.toNatClampNeg).2.1) ∧ WT a.2.2) ∧ IR a.2.1 ∧ (∀ k i, ¬ (k = 258 ∧ i = 25) → a.2.1 k i = M k i) ∧ (∀ k i, ¬ (k = 258 ∧ i = 23) ∧ ¬ (k = 258 ∧ i = 24) ∧ k ≠ 286 ∧ k ≠ 287 → a.2.2 k i = L k i)) (fun a => a.2.1) (fun a => a.2.2) (fun a => [(8, .int a.1), (6, .long v61), (4, .long v60), (0, .ref (ad 258)), (1, .int x), (2, .long y)]) ((0 : Int32), M58, L59) ⟨by show 0 ≤ (0 : Int32).toInt; omega, by show (0 : Int32).toInt ≤ (vR M 7 (M 258 27).toNatClampNeg).toInt; omega, by show (M58 258 25).toInt = 0 ↔ lg2 (L 284 x.toNatClampNeg) (L 285 x.toNatClampNeg) y ∧ (lgW (vR M) (M 282) x (L 284 x.toNatClampNeg) (L 285 x.toNatClampNeg) y (fun i => vR M 8 (40 * (M 258 27).toNatClampNeg + i)) (L 286) (L 287) (0 : Int32).toNatClampNeg).2.2 = true; exact hsp.trans ⟨fun q9 => ⟨q9, rfl⟩, fun q9 => q9.1⟩, by show lg2 (L 284 x.toNatClampNeg) (L 285 x.toNatClampNeg) y → (lgW (vR M) (M 282) x (L 284 x.toNatClampNeg) (L 285 x.toNatClampNeg) y (fun i => vR M 8 (40 * (M 258 27).toNatClampNeg + i)) (L 286) (L 287) (0 : Int32).toNatClampNeg).2.2 = true → (L59 286 = (lgW (vR M) (M 282) x (L 284 x.toNatClampNeg) (L 285 x.toNatClampNeg) y (fun i => vR M 8 (40 * (M 258 27).toNatClampNeg + i)) (L 286) (L 287) (0 : Int32).toNatClampNeg).1 ∧ L59 287 = (lgW (vR M) (M 282) x (L 284 x.toNatClampNeg) (L 285 x.toNatClampNeg) y (fun i => vR M 8 (40 * (M 258 27).toNatClampNeg + i)) (L 286) (L 287) (0 : Int32).toNatClampNeg).2.1) ∧ WT L59; exact fun _ _ => hW9, hI, hF, hG⟩ rfl rfl rfl ?_
    rintro ⟨x8_73, M_73, L_73⟩ ⟨j73_0, j73_1, j73_2, j73_3, hI, hF, hG⟩ ih_73
    dsimp only at j73_0 j73_1 j73_2 j73_3 hI hF hG ih_73 ⊢
    have k25 : M_73 258 25 = M_73 258 25 := rfl
    have l23 : L_73 258 23 = L_73 258 23 := rfl
    have l24 : L_73 258 24 = L_73 258 24 := rfl
    have p286 : L_73 286 = L_73 286 := rfl
    have p287 : L_73 287 = L_73 287 := rfl
    have n8 := ixn (x := x8_73) (by omega)
    have hMv : vR M_73 = vR M := vR_fr (fun k i hk => hF k i (by omega))
    have h27 : M_73 258 27 = M 258 27 := hF 258 27 (by omega)
    have h282 : M_73 282 = M 282 := funext (fun i => hF 282 i (by omega))
    have hX6 : hasX (vR M_73) (M_73 258 27) := by rw [hMv, h27]; exact hX
    refine g_iload C 0 dX11_lighten_73 rfl ?_
    refine g_aload_n C 3 dX11_lighten_75 rfl ?_
    refine g_get C (.ref (ad 266)) 11 in_X11_lighten_11 (List.mem_of_getElem? (i := 6) rfl) (by decide) (ce_model ad cs _ _) rfl (by decide) rfl rfl dX11_lighten_76 ?_
    refine g_aload_n C 3 dX11_lighten_79 rfl ?_
    refine g_get C (.int (M_73 258 27)) 27 in_X11_lighten_11 (List.mem_of_getElem? (i := 7) rfl) (by decide) (ce_model ad cs _ _) rfl (by decide) rfl rfl dX11_lighten_80 ?_
    refine g_ni (fun v63 ev63 => ?_)
    have gv63 : v63 = M 258 27 := ev63.trans (hF 258 27 (by omega))
    have tv63 := congrArg Int32.toInt gv63
    obtain ⟨bv63, dv63⟩ := (show rg 0 7 v63 from (by rw [ev63]; exact hI 258 27))
    refine g_iald C (by decide) (ce_m_boxSize ad cs _ _) (fin' (n := 8) rfl (by omega) (by omega)) dX11_lighten_83 ?_
    refine g_ni (fun v64 ev64 => ?_)
    have gv64 : v64 = M 266 v63.toNatClampNeg := ev64.trans (hF 266 v63.toNatClampNeg (by omega))
    have tv64 := congrArg Int32.toInt gv64
    obtain ⟨bv64, dv64⟩ := (show rg 0 40 v64 from (by rw [ev64]; exact hI 266 v63.toNatClampNeg))
    have ts9 : v64.toInt = (vR M 7 (M 258 27).toNatClampNeg).toInt := by rw [gv64, gv63]; rfl
    refine g_icmp_ge C 171 dX11_lighten_84 (by decide) (fun c65 => ?_) (fun c65 => ?_)
    ·
      have f66 := fle rfl rfl c65
      exact g_vret C hr ⟨(by
      have k9 : (lgW (vR M) (M 282) x (L 284 x.toNatClampNeg) (L 285 x.toNatClampNeg) y (fun i => vR M 8 (40 * (M 258 27).toNatClampNeg + i)) (L 286) (L 287) x8_73.toNatClampNeg).2.2 = (lgW (vR M) (M 282) x (L 284 x.toNatClampNeg) (L 285 x.toNatClampNeg) y (fun i => vR M 8 (40 * (M 258 27).toNatClampNeg + i)) (L 286) (L 287) (vR M 7 (M 258 27).toNatClampNeg).toNatClampNeg).2.2 ∨ ¬ (x8_73.toNatClampNeg = (vR M 7 (M 258 27).toNatClampNeg).toNatClampNeg) := by by_cases e9 : x8_73.toNatClampNeg = (vR M 7 (M 258 27).toNatClampNeg).toNatClampNeg; (rw [e9]; exact Or.inl rfl); exact Or.inr e9
      by_cases e9 : x8_73.toNatClampNeg = (vR M 7 (M 258 27).toNatClampNeg).toNatClampNeg
      · rw [e9] at j73_2 j73_3; exact ⟨j73_2, j73_3⟩
      · have hnz : ¬ (M_73 258 25).toInt = 0 := (by omega)
        have hno9 : lg2 (L 284 x.toNatClampNeg) (L 285 x.toNatClampNeg) y → ¬ (lgW (vR M) (M 282) x (L 284 x.toNatClampNeg) (L 285 x.toNatClampNeg) y (fun i => vR M 8 (40 * (M 258 27).toNatClampNeg + i)) (L 286) (L 287) (vR M 7 (M 258 27).toNatClampNeg).toNatClampNeg).2.2 = true := by
          intro h2 ht
          by_cases hx : (lgW (vR M) (M 282) x (L 284 x.toNatClampNeg) (L 285 x.toNatClampNeg) y (fun i => vR M 8 (40 * (M 258 27).toNatClampNeg + i)) (L 286) (L 287) x8_73.toNatClampNeg).2.2 = false
          · have h9 := lgW_stay hx ((vR M 7 (M 258 27).toNatClampNeg).toNatClampNeg - x8_73.toNatClampNeg)
            rw [show x8_73.toNatClampNeg + ((vR M 7 (M 258 27).toNatClampNeg).toNatClampNeg - x8_73.toNatClampNeg) = (vR M 7 (M 258 27).toNatClampNeg).toNatClampNeg by omega, ht] at h9
            exact Bool.noConfusion h9
          · exact hnz (j73_2.mpr ⟨h2, bt_true hx⟩)
        exact ⟨⟨fun q9 => absurd q9 hnz, fun q9 => absurd q9.2 (hno9 q9.1)⟩, fun h2 ht => absurd ht (hno9 h2)⟩), hI, hF, hG⟩ dX11_lighten_171
    ·
      have f67 := fnle rfl rfl c65
      refine g_aload_n C 3 dX11_lighten_87 rfl ?_
      refine g_get C (.int (M_73 258 25)) 25 in_X11_lighten_11 (List.mem_of_getElem? (i := 3) rfl) (by decide) (ce_model ad cs _ _) rfl (by decide) rfl rfl dX11_lighten_88 ?_
      refine g_ni (fun v68 ev68 => ?_)
      have gv68 : v68 = M_73 258 25 := ev68.trans k25
      have tv68 := congrArg Int32.toInt gv68
      obtain ⟨bv68, dv68⟩ := (show rg 0 1 v68 from (by rw [ev68]; exact hI 258 25))
      refine g_if_ne C 171 dX11_lighten_91 (by decide) (fun c69 => ?_) (fun c69 => ?_)
      ·
        have f70 := fne rfl (by decide : (0 : Int32).toInt = 0) c69
        exact g_vret C hr ⟨(by
      have k9 : (lgW (vR M) (M 282) x (L 284 x.toNatClampNeg) (L 285 x.toNatClampNeg) y (fun i => vR M 8 (40 * (M 258 27).toNatClampNeg + i)) (L 286) (L 287) x8_73.toNatClampNeg).2.2 = (lgW (vR M) (M 282) x (L 284 x.toNatClampNeg) (L 285 x.toNatClampNeg) y (fun i => vR M 8 (40 * (M 258 27).toNatClampNeg + i)) (L 286) (L 287) (vR M 7 (M 258 27).toNatClampNeg).toNatClampNeg).2.2 ∨ ¬ (x8_73.toNatClampNeg = (vR M 7 (M 258 27).toNatClampNeg).toNatClampNeg) := by by_cases e9 : x8_73.toNatClampNeg = (vR M 7 (M 258 27).toNatClampNeg).toNatClampNeg; (rw [e9]; exact Or.inl rfl); exact Or.inr e9
      by_cases e9 : x8_73.toNatClampNeg = (vR M 7 (M 258 27).toNatClampNeg).toNatClampNeg
      · rw [e9] at j73_2 j73_3; exact ⟨j73_2, j73_3⟩
      · have hnz : ¬ (M_73 258 25).toInt = 0 := (by omega)
        have hno9 : lg2 (L 284 x.toNatClampNeg) (L 285 x.toNatClampNeg) y → ¬ (lgW (vR M) (M 282) x (L 284 x.toNatClampNeg) (L 285 x.toNatClampNeg) y (fun i => vR M 8 (40 * (M 258 27).toNatClampNeg + i)) (L 286) (L 287) (vR M 7 (M 258 27).toNatClampNeg).toNatClampNeg).2.2 = true := by
          intro h2 ht
          by_cases hx : (lgW (vR M) (M 282) x (L 284 x.toNatClampNeg) (L 285 x.toNatClampNeg) y (fun i => vR M 8 (40 * (M 258 27).toNatClampNeg + i)) (L 286) (L 287) x8_73.toNatClampNeg).2.2 = false
          · have h9 := lgW_stay hx ((vR M 7 (M 258 27).toNatClampNeg).toNatClampNeg - x8_73.toNatClampNeg)
            rw [show x8_73.toNatClampNeg + ((vR M 7 (M 258 27).toNatClampNeg).toNatClampNeg - x8_73.toNatClampNeg) = (vR M 7 (M 258 27).toNatClampNeg).toNatClampNeg by omega, ht] at h9
            exact Bool.noConfusion h9
          · exact hnz (j73_2.mpr ⟨h2, bt_true hx⟩)
        exact ⟨⟨fun q9 => absurd q9 hnz, fun q9 => absurd q9.2 (hno9 q9.1)⟩, fun h2 ht => absurd ht (hno9 h2)⟩), hI, hF, hG⟩ dX11_lighten_171
      ·
        have f71 := feq rfl (by decide : (0 : Int32).toInt = 0) c69
        refine g_aload_n C 3 dX11_lighten_94 rfl ?_
        refine g_iload C 0 dX11_lighten_95 rfl ?_
        refine g_callVi C (n := 1) (As := [.int x8_73]) (st := []) (k_X11_ballotAt l D ad cs _ _ x8_73 hI ⟨by omega, by omega⟩ hX6) gX11_lighten_X11_ballotAt rfl rfl rfl (by decide +kernel) ⟨Nat.le_of_ble_eq_true rfl, Nat.le_of_ble_eq_true rfl⟩ rfl (Nat.le_of_ble_eq_true rfl) ⟨Nat.zero_le _, Nat.zero_le _⟩ (by decide) (ce_model ad cs _ _) rfl rfl dX11_lighten_97 (fun r72 M73 L74 hr72 => ?_)
        obtain ⟨hq1, hq2, hr72⟩ := hr72
        obtain rfl := hq1.symm
        obtain rfl := hq2.symm
        rw [hMv, h27] at hr72
        have tr72 := congrArg Int32.toInt hr72
        have hB9 := hB8 (40 * (M 258 27).toNatClampNeg + x8_73.toNatClampNeg)
        obtain ⟨hl2, hok⟩ := j73_2.mp (by omega)
        obtain ⟨hwe, hww⟩ := j73_3 hl2 hok
        obtain ⟨ea9, eb9⟩ := hab hl2
        refine g_istore C [(9, .int r72), (8, .int x8_73), (6, .long v61), (4, .long v60), (0, .ref (ad 258)), (1, .int x), (2, .long y)] dX11_lighten_100 (by decide) rfl ?_
        refine g_iload C 0 dX11_lighten_102 rfl ?_
        refine g_bipush C (-9) dX11_lighten_104 (by decide) ?_
        refine g_icmp_eq C 165 dX11_lighten_106 (by decide) (fun c75 => ?_) (fun c75 => ?_)
        ·
          have f76 := feq rfl (by decide : ((-9) : Int32).toInt = (-9)) c75
          obtain ⟨v77, ev77⟩ : ∃ y : Int32, y = x8_73 + 1 := ⟨_, rfl⟩
          try have fv77 := fadd rfl (by decide : (1 : Int32).toInt = 1) ev77 (by omega) (by omega)
          refine g_iinc C 1 v77 [(8, .int v77), (9, .int r72), (6, .long v61), (4, .long v60), (0, .ref (ad 258)), (1, .int x), (2, .long y)] dX11_lighten_165 rfl (by rw [ev77]; rfl) (by decide) rfl ?_
          refine g_goto C 73 dX11_lighten_168 (by decide) ?_
          refine g_lv [0, 2, 3, 4, 5, 6] [(8, .int v77), (6, .long v61), (4, .long v60), (0, .ref (ad 258)), (1, .int x), (2, .long y)] rfl ?_
          have nv := ixn (x := v77) (by omega)
          have iv : v77.toNatClampNeg = x8_73.toNatClampNeg + 1 := by omega
          have eS : lgW (vR M) (M 282) x (L 284 x.toNatClampNeg) (L 285 x.toNatClampNeg) y (fun i => vR M 8 (40 * (M 258 27).toNatClampNeg + i)) (L 286) (L 287) (x8_73.toNatClampNeg + 1) = lgW (vR M) (M 282) x (L 284 x.toNatClampNeg) (L 285 x.toNatClampNeg) y (fun i => vR M 8 (40 * (M 258 27).toNatClampNeg + i)) (L 286) (L 287) x8_73.toNatClampNeg := by
            unfold lgW
            by_cases e9 : (vR M 8 (40 * (M 258 27).toNatClampNeg + x8_73.toNatClampNeg)).toInt = -9
            · exact foP_e (p := (fun i => vR M 8 (40 * (M 258 27).toNatClampNeg + i))) e9
            · rw [foP_s (p := (fun i => vR M 8 (40 * (M 258 27).toNatClampNeg + i))) e9]; exact ltS_f (fun q9 => by first | (exfalso; omega) | (have h9 : (fiV (vR M) (M 282) (vR M 8 (40 * (M 258 27).toNatClampNeg + x8_73.toNatClampNeg)).toNatClampNeg).toInt = x.toInt := q9.1; omega))
          have w1 := j73_2
          have w2 := j73_3
          rw [← eS] at w1 w2
          exact ih_73 (v77, M_73, L_73) ⟨by show 0 ≤ v77.toInt; omega, by show v77.toInt ≤ (vR M 7 (M 258 27).toNatClampNeg).toInt; omega, by show (M_73 258 25).toInt = 0 ↔ lg2 (L 284 x.toNatClampNeg) (L 285 x.toNatClampNeg) y ∧ (lgW (vR M) (M 282) x (L 284 x.toNatClampNeg) (L 285 x.toNatClampNeg) y (fun i => vR M 8 (40 * (M 258 27).toNatClampNeg + i)) (L 286) (L 287) v77.toNatClampNeg).2.2 = true; rw [iv]; first | exact w1 | (rw [k25]; exact w1), by show lg2 (L 284 x.toNatClampNeg) (L 285 x.toNatClampNeg) y → (lgW (vR M) (M 282) x (L 284 x.toNatClampNeg) (L 285 x.toNatClampNeg) y (fun i => vR M 8 (40 * (M 258 27).toNatClampNeg + i)) (L 286) (L 287) v77.toNatClampNeg).2.2 = true → (L_73 286 = (lgW (vR M) (M 282) x (L 284 x.toNatClampNeg) (L 285 x.toNatClampNeg) y (fun i => vR M 8 (40 * (M 258 27).toNatClampNeg + i)) (L 286) (L 287) v77.toNatClampNeg).1 ∧ L_73 287 = (lgW (vR M) (M 282) x (L 284 x.toNatClampNeg) (L 285 x.toNatClampNeg) y (fun i => vR M 8 (40 * (M 258 27).toNatClampNeg + i)) (L 286) (L 287) v77.toNatClampNeg).2.1) ∧ WT L_73; rw [iv]; exact w2, hI, hF, hG⟩ (by show (41 - v77.toInt).toNat < (41 - x8_73.toInt).toNat; omega)
        ·
          have f78 := fne rfl (by decide : ((-9) : Int32).toInt = (-9)) c75
          refine g_aload_n C 4 dX11_lighten_109 rfl ?_
          refine g_iload C 0 dX11_lighten_110 rfl ?_
          refine g_callVi C (n := 1) (As := [.int r72]) (st := []) (k_X11_firstOn l D ad cs _ _ r72 hI ⟨by omega, by omega⟩) gX11_lighten_X11_firstOn rfl rfl rfl (by decide +kernel) ⟨Nat.le_of_ble_eq_true rfl, Nat.le_of_ble_eq_true rfl⟩ rfl (Nat.le_of_ble_eq_true rfl) ⟨Nat.zero_le _, Nat.zero_le _⟩ (by decide) (ce_model ad cs _ _) rfl rfl dX11_lighten_112 (fun r79 M80 L81 hr79 => ?_)
          obtain ⟨hq1, hq2, hr79⟩ := hr79
          obtain rfl := hq1.symm
          obtain rfl := hq2.symm
          rw [hMv, h282, hr72] at hr79
          have tr79 := congrArg Int32.toInt hr79
          refine g_iload_n C 5 dX11_lighten_115 rfl ?_
          refine g_icmp_ne C 165 dX11_lighten_116 (by decide) (fun c82 => ?_) (fun c82 => ?_)
          ·
            have f83 := fne rfl rfl c82
            obtain ⟨v84, ev84⟩ : ∃ y : Int32, y = x8_73 + 1 := ⟨_, rfl⟩
            try have fv84 := fadd rfl (by decide : (1 : Int32).toInt = 1) ev84 (by omega) (by omega)
            refine g_iinc C 1 v84 [(8, .int v84), (9, .int r72), (6, .long v61), (4, .long v60), (0, .ref (ad 258)), (1, .int x), (2, .long y)] dX11_lighten_165 rfl (by rw [ev84]; rfl) (by decide) rfl ?_
            refine g_goto C 73 dX11_lighten_168 (by decide) ?_
            refine g_lv [0, 2, 3, 4, 5, 6] [(8, .int v84), (6, .long v61), (4, .long v60), (0, .ref (ad 258)), (1, .int x), (2, .long y)] rfl ?_
            have nv := ixn (x := v84) (by omega)
            have iv : v84.toNatClampNeg = x8_73.toNatClampNeg + 1 := by omega
            have eS : lgW (vR M) (M 282) x (L 284 x.toNatClampNeg) (L 285 x.toNatClampNeg) y (fun i => vR M 8 (40 * (M 258 27).toNatClampNeg + i)) (L 286) (L 287) (x8_73.toNatClampNeg + 1) = lgW (vR M) (M 282) x (L 284 x.toNatClampNeg) (L 285 x.toNatClampNeg) y (fun i => vR M 8 (40 * (M 258 27).toNatClampNeg + i)) (L 286) (L 287) x8_73.toNatClampNeg := by
              unfold lgW
              by_cases e9 : (vR M 8 (40 * (M 258 27).toNatClampNeg + x8_73.toNatClampNeg)).toInt = -9
              · exact foP_e (p := (fun i => vR M 8 (40 * (M 258 27).toNatClampNeg + i))) e9
              · rw [foP_s (p := (fun i => vR M 8 (40 * (M 258 27).toNatClampNeg + i))) e9]; exact ltS_f (fun q9 => by first | (exfalso; omega) | (have h9 : (fiV (vR M) (M 282) (vR M 8 (40 * (M 258 27).toNatClampNeg + x8_73.toNatClampNeg)).toNatClampNeg).toInt = x.toInt := q9.1; omega))
            have w1 := j73_2
            have w2 := j73_3
            rw [← eS] at w1 w2
            exact ih_73 (v84, M_73, L_73) ⟨by show 0 ≤ v84.toInt; omega, by show v84.toInt ≤ (vR M 7 (M 258 27).toNatClampNeg).toInt; omega, by show (M_73 258 25).toInt = 0 ↔ lg2 (L 284 x.toNatClampNeg) (L 285 x.toNatClampNeg) y ∧ (lgW (vR M) (M 282) x (L 284 x.toNatClampNeg) (L 285 x.toNatClampNeg) y (fun i => vR M 8 (40 * (M 258 27).toNatClampNeg + i)) (L 286) (L 287) v84.toNatClampNeg).2.2 = true; rw [iv]; first | exact w1 | (rw [k25]; exact w1), by show lg2 (L 284 x.toNatClampNeg) (L 285 x.toNatClampNeg) y → (lgW (vR M) (M 282) x (L 284 x.toNatClampNeg) (L 285 x.toNatClampNeg) y (fun i => vR M 8 (40 * (M 258 27).toNatClampNeg + i)) (L 286) (L 287) v84.toNatClampNeg).2.2 = true → (L_73 286 = (lgW (vR M) (M 282) x (L 284 x.toNatClampNeg) (L 285 x.toNatClampNeg) y (fun i => vR M 8 (40 * (M 258 27).toNatClampNeg + i)) (L 286) (L 287) v84.toNatClampNeg).1 ∧ L_73 287 = (lgW (vR M) (M 282) x (L 284 x.toNatClampNeg) (L 285 x.toNatClampNeg) y (fun i => vR M 8 (40 * (M 258 27).toNatClampNeg + i)) (L 286) (L 287) v84.toNatClampNeg).2.1) ∧ WT L_73; rw [iv]; exact w2, hI, hF, hG⟩ (by show (41 - v84.toInt).toNat < (41 - x8_73.toInt).toNat; omega)
          ·
            have f85 := feq rfl rfl c82
            have hw8 := hww x8_73.toNatClampNeg (by omega)
            unfold okF at hw8
            have hf2 := hl2.2
            dsimp only [fitF] at hf2
            have ea9t := congrArg Int64.toInt ea9
            have eb9t := congrArg Int64.toInt eb9
            have la9 := lgAB (u := (L 284 x.toNatClampNeg)) (d := (L 285 x.toNatClampNeg)) (q := y) (by omega) (by omega) (by omega) hl2.1 (by omega) (by omega)
            refine g_aload_n C 4 dX11_lighten_119 rfl ?_
            refine g_aload_n C 4 dX11_lighten_120 rfl ?_
            refine g_get C (.ref (ad 286)) 40 in_X11_lighten_11 (List.mem_of_getElem? (i := 8) rfl) (by decide) (ce_model ad cs _ _) rfl (by decide) rfl rfl dX11_lighten_121 ?_
            refine g_iload C 1 dX11_lighten_124 rfl ?_
            refine g_lald C (by decide) (ce_m_weightUp ad cs _ _) (fin' (n := 40) rfl (by omega) (by omega)) dX11_lighten_126 ?_
            refine g_nl (fun v86 ev86 => ?_)
            have gv86 : v86 = L_73 286 x8_73.toNatClampNeg := ev86.trans (congrFun p286 _)
            have tv86 := congrArg Int64.toInt gv86
            refine g_lload C 3 dX11_lighten_127 rfl ?_
            refine g_lmul C dX11_lighten_129 ?_
            refine g_nl (fun v87 ev87 => ?_)
            try have fv87 := prodI ev87
            refine g_aload_n C 4 dX11_lighten_130 rfl ?_
            refine g_get C (.ref (ad 287)) 41 in_X11_lighten_11 (List.mem_of_getElem? (i := 9) rfl) (by decide) (ce_model ad cs _ _) rfl (by decide) rfl rfl dX11_lighten_131 ?_
            refine g_iload C 1 dX11_lighten_134 rfl ?_
            refine g_lald C (by decide) (ce_m_weightDown ad cs _ _) (fin' (n := 40) rfl (by omega) (by omega)) dX11_lighten_136 ?_
            refine g_nl (fun v88 ev88 => ?_)
            have gv88 : v88 = L_73 287 x8_73.toNatClampNeg := ev88.trans (congrFun p287 _)
            have tv88 := congrArg Int64.toInt gv88
            refine g_lload C 2 dX11_lighten_137 rfl ?_
            refine g_lmul C dX11_lighten_139 ?_
            refine g_nl (fun v89 ev89 => ?_)
            try have fv89 := prodI ev89
            have m1 := mul_le9 (a := v86.toInt) (b := v60.toInt) (by omega) (by omega) (by omega) (by omega)
            have m2 := mul_le9 (a := v88.toInt) (b := v61.toInt) (by omega) (by omega) (by omega) (by omega)
            have m3 := mul_pos9 (a := v88.toInt) (b := v61.toInt) (by omega) (by omega)
            have m4 := mul_nn9 (a := v86.toInt) (b := v60.toInt) (by omega) (by omega)
            rw [bmod_id (by omega) (by omega)] at fv87 fv89
            have eA7 : v87 = L_73 286 x8_73.toNatClampNeg * lgA (L 284 x.toNatClampNeg) (L 285 x.toNatClampNeg) y := by rw [ev87, ea9, gv86]
            have eB7 : v89 = L_73 287 x8_73.toNatClampNeg * lgB (L 284 x.toNatClampNeg) (L 285 x.toNatClampNeg) y := by rw [ev89, eb9, gv88]
            refine g_callVv C (n := 2) (As := [.long v87, .long v89]) (st := []) (k_X11_fraction l D ad cs _ _ v87 v89 hI (fun h9 => by omega)) gX11_lighten_X11_fraction rfl rfl rfl (by decide +kernel) ⟨Nat.le_of_ble_eq_true rfl, Nat.le_of_ble_eq_true rfl⟩ rfl (Nat.le_of_ble_eq_true rfl) ⟨Nat.zero_le _, Nat.zero_le _⟩ (by decide) (ce_model ad cs _ _) rfl rfl dX11_lighten_140 (fun M91 L92 hr90 => ?_)
            obtain ⟨hr90, hI, hFr90, hGr90⟩ := hr90
            have hF : ∀ k i, ¬ (k = 258 ∧ i = 25) → M91 k i = M k i := fun k i hk => by (rw [hFr90 k i (by omega)]; try exact hF k i hk)
            have hG : ∀ k i, ¬ (k = 258 ∧ i = 23) ∧ ¬ (k = 258 ∧ i = 24) ∧ k ≠ 286 ∧ k ≠ 287 → L92 k i = L k i := fun k i hk => by (rw [hGr90 k i (by omega)]; try exact hG k i hk)
            have k25 : M91 258 25 = M91 258 25 := rfl
            have kt25 := congrArg Int32.toInt k25
            have l23 : L92 258 23 = L92 258 23 := rfl
            have l24 : L92 258 24 = L92 258 24 := rfl
            have p286 : L92 286 = L_73 286 := (funext (fun i => hGr90 286 i (by omega))).trans p286
            have p287 : L92 287 = L_73 287 := (funext (fun i => hGr90 287 i (by omega))).trans p287
            obtain ⟨fo3, fm3, fe3⟩ := hr90
            obtain ⟨w23, w24, ws9⟩ := fe3 (by omega) (by omega)
            rw [eA7, eB7] at w23 w24 ws9
            refine g_aload_n C 4 dX11_lighten_143 rfl ?_
            refine g_get C (.ref (ad 286)) 40 in_X11_lighten_11 (List.mem_of_getElem? (i := 8) rfl) (by decide) (ce_model ad cs _ _) rfl (by decide) rfl rfl dX11_lighten_144 ?_
            refine g_iload C 1 dX11_lighten_147 rfl ?_
            refine g_aload_n C 4 dX11_lighten_149 rfl ?_
            refine g_get C (.long (L92 258 23)) 23 in_X11_lighten_11 (List.mem_of_getElem? (i := 4) rfl) (by decide) (ce_model ad cs _ _) rfl (by decide) rfl rfl dX11_lighten_150 ?_
            refine g_nl (fun v93 ev93 => ?_)
            have gv93 : v93 = L92 258 23 := ev93.trans l23
            have tv93 := congrArg Int64.toInt gv93
            refine g_last C (by decide) (ce_m_weightUp ad cs _ _) (by rw [sJ_k]; rfl) (fin' (n := 40) rfl (by omega) (by omega)) dX11_lighten_153 ?_
            refine g_nmL (fun L94 hL94 => ?_)
            have hG : ∀ k i, ¬ (k = 258 ∧ i = 23) ∧ ¬ (k = 258 ∧ i = 24) ∧ k ≠ 286 ∧ k ≠ 287 → L94 k i = L k i := fun k i hk => by (rw [hL94, sJ_at, if_neg (by omega)]; try exact hG k i hk)
            have l23 : L94 258 23 = L92 258 23 := by rw [hL94, sJ_n _ _ _ (by decide)]; try exact l23
            have l24 : L94 258 24 = L92 258 24 := by rw [hL94, sJ_n _ _ _ (by decide)]; try exact l24
            have p287 : L94 287 = L_73 287 := by rw [hL94, sJ_n _ _ _ (by decide)]; try exact p287
            refine g_aload_n C 4 dX11_lighten_154 rfl ?_
            refine g_get C (.ref (ad 287)) 41 in_X11_lighten_11 (List.mem_of_getElem? (i := 9) rfl) (by decide) (ce_model ad cs _ _) rfl (by decide) rfl rfl dX11_lighten_155 ?_
            refine g_iload C 1 dX11_lighten_158 rfl ?_
            refine g_aload_n C 4 dX11_lighten_160 rfl ?_
            refine g_get C (.long (L94 258 24)) 24 in_X11_lighten_11 (List.mem_of_getElem? (i := 5) rfl) (by decide) (ce_model ad cs _ _) rfl (by decide) rfl rfl dX11_lighten_161 ?_
            refine g_nl (fun v95 ev95 => ?_)
            have gv95 : v95 = L92 258 24 := ev95.trans l24
            have tv95 := congrArg Int64.toInt gv95
            refine g_last C (by decide) (ce_m_weightDown ad cs _ _) (by rw [sJ_k]; rfl) (fin' (n := 40) rfl (by omega) (by omega)) dX11_lighten_164 ?_
            refine g_nmL (fun L96 hL96 => ?_)
            have hG : ∀ k i, ¬ (k = 258 ∧ i = 23) ∧ ¬ (k = 258 ∧ i = 24) ∧ k ≠ 286 ∧ k ≠ 287 → L96 k i = L k i := fun k i hk => by (rw [hL96, sJ_at, if_neg (by omega)]; try exact hG k i hk)
            have l23 : L96 258 23 = L92 258 23 := by rw [hL96, sJ_n _ _ _ (by decide)]; try exact l23
            have l24 : L96 258 24 = L92 258 24 := by rw [hL96, sJ_n _ _ _ (by decide)]; try exact l24
            obtain ⟨v97, ev97⟩ : ∃ y : Int32, y = x8_73 + 1 := ⟨_, rfl⟩
            try have fv97 := fadd rfl (by decide : (1 : Int32).toInt = 1) ev97 (by omega) (by omega)
            refine g_iinc C 1 v97 [(8, .int v97), (9, .int r72), (6, .long v61), (4, .long v60), (0, .ref (ad 258)), (1, .int x), (2, .long y)] dX11_lighten_165 rfl (by rw [ev97]; rfl) (by decide) rfl ?_
            refine g_goto C 73 dX11_lighten_168 (by decide) ?_
            refine g_lv [0, 2, 3, 4, 5, 6] [(8, .int v97), (6, .long v61), (4, .long v60), (0, .ref (ad 258)), (1, .int x), (2, .long y)] rfl ?_
            have nv := ixn (x := v97) (by omega)
            have iv : v97.toNatClampNeg = x8_73.toNatClampNeg + 1 := by omega
            have ha : L96 286 = vp_updL (L_73 286) x8_73.toNatClampNeg (frU (L_73 286 x8_73.toNatClampNeg * lgA (L 284 x.toNatClampNeg) (L 285 x.toNatClampNeg) y) (L_73 287 x8_73.toNatClampNeg * lgB (L 284 x.toNatClampNeg) (L 285 x.toNatClampNeg) y)) := by rw [hL96, sJ_n _ _ _ (by decide), hL94, sJ_k, p286, gv93, w23]
            have hb : L96 287 = vp_updL (L_73 287) x8_73.toNatClampNeg (frD (L_73 286 x8_73.toNatClampNeg * lgA (L 284 x.toNatClampNeg) (L 285 x.toNatClampNeg) y) (L_73 287 x8_73.toNatClampNeg * lgB (L 284 x.toNatClampNeg) (L 285 x.toNatClampNeg) y)) := by rw [hL96, sJ_k, p287, gv95, w24]
            have eT : lgW (vR M) (M 282) x (L 284 x.toNatClampNeg) (L 285 x.toNatClampNeg) y (fun i => vR M 8 (40 * (M 258 27).toNatClampNeg + i)) (L 286) (L 287) (x8_73.toNatClampNeg + 1) = (vp_updL (lgW (vR M) (M 282) x (L 284 x.toNatClampNeg) (L 285 x.toNatClampNeg) y (fun i => vR M 8 (40 * (M 258 27).toNatClampNeg + i)) (L 286) (L 287) x8_73.toNatClampNeg).1 x8_73.toNatClampNeg (frU ((lgW (vR M) (M 282) x (L 284 x.toNatClampNeg) (L 285 x.toNatClampNeg) y (fun i => vR M 8 (40 * (M 258 27).toNatClampNeg + i)) (L 286) (L 287) x8_73.toNatClampNeg).1 x8_73.toNatClampNeg * lgA (L 284 x.toNatClampNeg) (L 285 x.toNatClampNeg) y) ((lgW (vR M) (M 282) x (L 284 x.toNatClampNeg) (L 285 x.toNatClampNeg) y (fun i => vR M 8 (40 * (M 258 27).toNatClampNeg + i)) (L 286) (L 287) x8_73.toNatClampNeg).2.1 x8_73.toNatClampNeg * lgB (L 284 x.toNatClampNeg) (L 285 x.toNatClampNeg) y)), vp_updL (lgW (vR M) (M 282) x (L 284 x.toNatClampNeg) (L 285 x.toNatClampNeg) y (fun i => vR M 8 (40 * (M 258 27).toNatClampNeg + i)) (L 286) (L 287) x8_73.toNatClampNeg).2.1 x8_73.toNatClampNeg (frD ((lgW (vR M) (M 282) x (L 284 x.toNatClampNeg) (L 285 x.toNatClampNeg) y (fun i => vR M 8 (40 * (M 258 27).toNatClampNeg + i)) (L 286) (L 287) x8_73.toNatClampNeg).1 x8_73.toNatClampNeg * lgA (L 284 x.toNatClampNeg) (L 285 x.toNatClampNeg) y) ((lgW (vR M) (M 282) x (L 284 x.toNatClampNeg) (L 285 x.toNatClampNeg) y (fun i => vR M 8 (40 * (M 258 27).toNatClampNeg + i)) (L 286) (L 287) x8_73.toNatClampNeg).2.1 x8_73.toNatClampNeg * lgB (L 284 x.toNatClampNeg) (L 285 x.toNatClampNeg) y)), decide (fitF (frU ((lgW (vR M) (M 282) x (L 284 x.toNatClampNeg) (L 285 x.toNatClampNeg) y (fun i => vR M 8 (40 * (M 258 27).toNatClampNeg + i)) (L 286) (L 287) x8_73.toNatClampNeg).1 x8_73.toNatClampNeg * lgA (L 284 x.toNatClampNeg) (L 285 x.toNatClampNeg) y) ((lgW (vR M) (M 282) x (L 284 x.toNatClampNeg) (L 285 x.toNatClampNeg) y (fun i => vR M 8 (40 * (M 258 27).toNatClampNeg + i)) (L 286) (L 287) x8_73.toNatClampNeg).2.1 x8_73.toNatClampNeg * lgB (L 284 x.toNatClampNeg) (L 285 x.toNatClampNeg) y)) (frD ((lgW (vR M) (M 282) x (L 284 x.toNatClampNeg) (L 285 x.toNatClampNeg) y (fun i => vR M 8 (40 * (M 258 27).toNatClampNeg + i)) (L 286) (L 287) x8_73.toNatClampNeg).1 x8_73.toNatClampNeg * lgA (L 284 x.toNatClampNeg) (L 285 x.toNatClampNeg) y) ((lgW (vR M) (M 282) x (L 284 x.toNatClampNeg) (L 285 x.toNatClampNeg) y (fun i => vR M 8 (40 * (M 258 27).toNatClampNeg + i)) (L 286) (L 287) x8_73.toNatClampNeg).2.1 x8_73.toNatClampNeg * lgB (L 284 x.toNatClampNeg) (L 285 x.toNatClampNeg) y)))) := by
              have h9 : lgW (vR M) (M 282) x (L 284 x.toNatClampNeg) (L 285 x.toNatClampNeg) y (fun i => vR M 8 (40 * (M 258 27).toNatClampNeg + i)) (L 286) (L 287) (x8_73.toNatClampNeg + 1) = ltS (vR M) (M 282) x (lgA (L 284 x.toNatClampNeg) (L 285 x.toNatClampNeg) y) (lgB (L 284 x.toNatClampNeg) (L 285 x.toNatClampNeg) y) x8_73.toNatClampNeg (vR M 8 (40 * (M 258 27).toNatClampNeg + x8_73.toNatClampNeg)).toNatClampNeg (lgW (vR M) (M 282) x (L 284 x.toNatClampNeg) (L 285 x.toNatClampNeg) y (fun i => vR M 8 (40 * (M 258 27).toNatClampNeg + i)) (L 286) (L 287) x8_73.toNatClampNeg) := foP_s (p := (fun i => vR M 8 (40 * (M 258 27).toNatClampNeg + i))) (show ¬ (vR M 8 (40 * (M 258 27).toNatClampNeg + x8_73.toNatClampNeg)).toInt = -9 by omega)
              rw [h9]
              exact if_pos ⟨by show (fiV (vR M) (M 282) (vR M 8 (40 * (M 258 27).toNatClampNeg + x8_73.toNatClampNeg)).toNatClampNeg).toInt = x.toInt; omega, hok⟩
            obtain ⟨w1, w2e⟩ := lt_step (j := x8_73.toNatClampNeg) hl2 (by omega) hwe ⟨ha, hb, ws9⟩ eT
            have k25u := congrArg Int32.toInt k25
            have w2 : lg2 (L 284 x.toNatClampNeg) (L 285 x.toNatClampNeg) y → (lgW (vR M) (M 282) x (L 284 x.toNatClampNeg) (L 285 x.toNatClampNeg) y (fun i => vR M 8 (40 * (M 258 27).toNatClampNeg + i)) (L 286) (L 287) (x8_73.toNatClampNeg + 1)).2.2 = true → (L96 286 = (lgW (vR M) (M 282) x (L 284 x.toNatClampNeg) (L 285 x.toNatClampNeg) y (fun i => vR M 8 (40 * (M 258 27).toNatClampNeg + i)) (L 286) (L 287) (x8_73.toNatClampNeg + 1)).1 ∧ L96 287 = (lgW (vR M) (M 282) x (L 284 x.toNatClampNeg) (L 285 x.toNatClampNeg) y (fun i => vR M 8 (40 * (M 258 27).toNatClampNeg + i)) (L 286) (L 287) (x8_73.toNatClampNeg + 1)).2.1) ∧ WT L96 := fun _ ht => ⟨w2e, fun i hi => by
              have hft := (ws9.mp (w1.mpr ⟨hl2, ht⟩)).2
              dsimp only [fitF] at hft
              rw [ha, hb]
              by_cases e9 : i = x8_73.toNatClampNeg
              · rw [show ∀ (G : Nat → Int64) (v : Int64), vp_updL G x8_73.toNatClampNeg v i = v from fun G v => if_pos e9, show ∀ (G : Nat → Int64) (v : Int64), vp_updL G x8_73.toNatClampNeg v i = v from fun G v => if_pos e9]; rw [← eA7, ← eB7] at hft ⊢; exact okF_of hft (by omega) (by omega)
              · rw [show ∀ (G : Nat → Int64) (v : Int64), vp_updL G x8_73.toNatClampNeg v i = G i from fun G v => if_neg e9, show ∀ (G : Nat → Int64) (v : Int64), vp_updL G x8_73.toNatClampNeg v i = G i from fun G v => if_neg e9]; exact hww i hi⟩
            exact ih_73 (v97, M91, L96) ⟨by show 0 ≤ v97.toInt; omega, by show v97.toInt ≤ (vR M 7 (M 258 27).toNatClampNeg).toInt; omega, by show (M91 258 25).toInt = 0 ↔ lg2 (L 284 x.toNatClampNeg) (L 285 x.toNatClampNeg) y ∧ (lgW (vR M) (M 282) x (L 284 x.toNatClampNeg) (L 285 x.toNatClampNeg) y (fun i => vR M 8 (40 * (M 258 27).toNatClampNeg + i)) (L 286) (L 287) v97.toNatClampNeg).2.2 = true; rw [iv]; first | exact w1 | (rw [k25]; exact w1), by show lg2 (L 284 x.toNatClampNeg) (L 285 x.toNatClampNeg) y → (lgW (vR M) (M 282) x (L 284 x.toNatClampNeg) (L 285 x.toNatClampNeg) y (fun i => vR M 8 (40 * (M 258 27).toNatClampNeg + i)) (L 286) (L 287) v97.toNatClampNeg).2.2 = true → (L96 286 = (lgW (vR M) (M 282) x (L 284 x.toNatClampNeg) (L 285 x.toNatClampNeg) y (fun i => vR M 8 (40 * (M 258 27).toNatClampNeg + i)) (L 286) (L 287) v97.toNatClampNeg).1 ∧ L96 287 = (lgW (vR M) (M 282) x (L 284 x.toNatClampNeg) (L 285 x.toNatClampNeg) y (fun i => vR M 8 (40 * (M 258 27).toNatClampNeg + i)) (L 286) (L 287) v97.toNatClampNeg).2.1) ∧ WT L96; rw [iv]; exact w2, hI, hF, hG⟩ (by show (41 - v97.toInt).toNat < (41 - x8_73.toInt).toNat; omega)
