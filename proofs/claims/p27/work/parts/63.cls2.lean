set_option maxHeartbeats 4000000 in
set_option maxRecDepth 100000 in
theorem v_X10_found (l : Launch) (D : va_G) (ad : Nat → Nat) (cs : Nat → ClassId) (M : MI) (L : ML) (f : Int32) (hI : IC M) (hf : 0 ≤ f.toInt ∧ f.toInt < 7) : Ci l yX10_found wsX10_found ({ frames := 0, cells := 0, slots := 0, locals := 0 }) D ad cs [.ref (ad 0), .int f] M L (fun r M1 L1 => (r = -3 ∧ vC M1 = meetsV (vC M) f) ∧ IC M1 ∧ (∀ k i, ¬ (k = 0 ∧ i = 11) ∧ k ≠ 257 → M1 k i = M k i) ∧ ∀ k i, True → L1 k i = L k i) := by
  refine enter_i RX10 rfl [(0, .ref (ad 0)), (1, .int f)] rfl (Nat.le_of_ble_eq_true rfl) (by decide +kernel) rfl ?_
  intro p e s m below meth c C hr
  have hF : ∀ k i, ¬ (k = 0 ∧ i = 11) ∧ k ≠ 257 → M k i = M k i := fun _ _ _ => rfl
  have hG : ∀ k i, True → L k i = L k i := fun _ _ _ => rfl
  have w0 : (vC M 0 0).toInt = (M 1 0).toInt := rfl
  have w1 : (vC M 0 1).toInt = (M 3 0).toInt := rfl
  have w2 : (vC M 0 2).toInt = (M 68 0).toInt := rfl
  have w3 : (vC M 0 3).toInt = (M 81 0).toInt := rfl
  obtain ⟨y0a, y0b⟩ := (show rg 0 10 (M 1 0) from hI 1 0 rfl)
  obtain ⟨y1a, y1b⟩ := (show rg 0 60 (M 3 0) from hI 3 0 rfl)
  obtain ⟨y2a, y2b⟩ := (show rg 0 8 (M 68 0) from hI 68 0 rfl)
  obtain ⟨y3a, y3b⟩ := (show rg 0 20 (M 81 0) from hI 81 0 rfl)
  obtain ⟨hf1, hf2⟩ := hf
  have k0_11 : M 0 11 = vC M 0 4 := rfl
  have q257 : M 257 = M 257 := rfl
  have hV : vC M = vC M := rfl
  refine g_aload_n C 0 dX10_found_0 rfl ?_
  refine g_iload_n C 1 dX10_found_1 rfl ?_
  refine g_putI C 11 in_X10_found_10 (List.mem_of_getElem? (i := 1) rfl) (by decide) (ce_house ad cs _ _) rfl (by decide) rfl tyX10 tyX10_ok nmX10 rfl rfl rfl rfl (Nat.le_of_ble_eq_true rfl) (by rw [sI_k]; rfl) dX10_found_2 ?_
  refine g_nm (fun M1 hM1 => ?_)
  have hI : IC M1 := by rw [hM1]; exact hI.st (by intro h; rcases h with h | h <;> exact absurd h (by decide))
  have hF : ∀ k i, ¬ (k = 0 ∧ i = 11) ∧ k ≠ 257 → M1 k i = M k i := fun k i hk => by (rw [hM1, sI_at, if_neg (by omega)]; try exact hF k i hk)
  have k0_11 : M1 0 11 = f := by rw [hM1, sI_at, if_pos (by decide)]
  have q257 : M1 257 = M 257 := by rw [hM1, sI_n _ _ _ (by decide)]; try exact q257
  have hV : vC M1 = sI (vC M) 0 4 f := by rw [hM1, vC_s (c := 4) (by decide), hV]
  refine g_aload_n C 0 dX10_found_5 rfl ?_
  refine g_get C (.ref (ad 257)) 12 in_X10_found_10 (List.mem_of_getElem? (i := 2) rfl) (by decide) (ce_house ad cs _ _) rfl (by decide) rfl rfl dX10_found_6 ?_
  refine g_iload_n C 1 dX10_found_9 rfl ?_
  refine g_dup2 C dX10_found_10 rfl rfl ?_
  have nf := ixn (x := f) (by omega)
  refine g_iald C (by decide) (ce_times ad cs _ _) (fin' (n := 7) rfl (by omega) (by omega)) dX10_found_11 ?_
  refine g_ni (fun v2 ev2 => ?_)
  have gv2 : v2 = vC M 14 f.toNatClampNeg := ev2.trans (congrFun q257 _)
  have tv2 := congrArg Int32.toInt gv2
  refine g_iconst C 1 dX10_found_12 (by decide) ?_
  refine g_iadd C dX10_found_13 ?_
  refine g_ni (fun v3 ev3 => ?_)
  try have fv3 := fadd rfl (by decide : (1 : Int32).toInt = 1) ev3 (by omega) (by omega)
  have nf := ixn (x := f) (by omega)
  refine g_iast C (by decide) (ce_times ad cs _ _) (by rw [sI_k]; rfl) (fin' (n := 7) rfl (by omega) (by omega)) dX10_found_14 ?_
  refine g_nm (fun M4 hM4 => ?_)
  have hI : IC M4 := by rw [hM4]; exact hI.st (bC_free (by decide) (by decide) (by decide) (by decide) (by decide) (by decide) (by decide))
  have hF : ∀ k i, ¬ (k = 0 ∧ i = 11) ∧ k ≠ 257 → M4 k i = M k i := fun k i hk => by (rw [hM4, sI_at, if_neg (by omega)]; try exact hF k i hk)
  have k0_11 : M4 0 11 = f := by rw [hM4, sI_n _ _ _ (by decide)]; try exact k0_11
  have hV : vC M4 = sI (sI (vC M) 0 4 f) 14 f.toNatClampNeg v3 := by rw [hM4, vC_a (c := 14) (by decide), hV]
  refine g_bipush C (-3) dX10_found_15 (by decide) ?_
  have zr9 : ((-3) : Int32).toInt = (-3) := by decide
  exact g_iret C hr ⟨⟨rfl, by rw [hV]; unfold meetsV; simp only [ev3, gv2]; try rfl⟩, hI, hF, hG⟩ dX10_found_17
set_option maxHeartbeats 4000000 in
set_option maxRecDepth 100000 in
theorem v_X2_come (l : Launch) (D : va_G) (ad : Nat → Nat) (cs : Nat → ClassId) (M : MI) (L : ML)  (hI : IC M) : Ci l yX2_come wsX2_come ({ frames := 0, cells := 0, slots := 0, locals := 0 }) D ad cs [.ref (ad 1)] M L (fun r M1 L1 => (A_stand (vC M) = (r, vC M1)) ∧ IC M1 ∧ (∀ k i, ¬ (k = 1 ∧ i = 0) ∧ k ≠ 2 → M1 k i = M k i) ∧ ∀ k i, True → L1 k i = L k i) := by
  refine enter_i RX2 rfl [(0, .ref (ad 1))] rfl (Nat.le_of_ble_eq_true rfl) (by decide +kernel) rfl ?_
  intro p e s m below meth c C hr
  have hF : ∀ k i, ¬ (k = 1 ∧ i = 0) ∧ k ≠ 2 → M k i = M k i := fun _ _ _ => rfl
  have hG : ∀ k i, True → L k i = L k i := fun _ _ _ => rfl
  have w0 : (vC M 0 0).toInt = (M 1 0).toInt := rfl
  have w1 : (vC M 0 1).toInt = (M 3 0).toInt := rfl
  have w2 : (vC M 0 2).toInt = (M 68 0).toInt := rfl
  have w3 : (vC M 0 3).toInt = (M 81 0).toInt := rfl
  obtain ⟨y0a, y0b⟩ := (show rg 0 10 (M 1 0) from hI 1 0 rfl)
  obtain ⟨y1a, y1b⟩ := (show rg 0 60 (M 3 0) from hI 3 0 rfl)
  obtain ⟨y2a, y2b⟩ := (show rg 0 8 (M 68 0) from hI 68 0 rfl)
  obtain ⟨y3a, y3b⟩ := (show rg 0 20 (M 81 0) from hI 81 0 rfl)
  have k1_0 : M 1 0 = vC M 0 0 := rfl
  have q2 : M 2 = M 2 := rfl
  have hV : vC M = vC M := rfl
  refine g_aload_n C 0 dX2_come_0 rfl ?_
  refine g_get C (.int (M 1 0)) 0 in_X2_come_2 (List.mem_of_getElem? (i := 1) rfl) (by decide) (ce_cand ad cs _ _) rfl (by decide) rfl rfl dX2_come_1 ?_
  refine g_ni (fun v1 ev1 => ?_)
  have gv1 : v1 = vC M 0 0 := ev1.trans k1_0
  have tv1 := congrArg Int32.toInt gv1
  obtain ⟨bv1, dv1⟩ := (show rg 0 10 v1 from (by rw [ev1]; exact hI 1 0 rfl))
  refine g_bipush C 10 dX2_come_4 (by decide) ?_
  refine g_icmp_ne C 12 dX2_come_6 (by decide) (fun c2 => ?_) (fun c2 => ?_)
  ·
    have f3 := fne rfl (by decide : (10 : Int32).toInt = 10) c2
    refine g_aload_n C 0 dX2_come_12 rfl ?_
    refine g_get C (.ref (ad 2)) 1 in_X2_come_2 (List.mem_of_getElem? (i := 2) rfl) (by decide) (ce_cand ad cs _ _) rfl (by decide) rfl rfl dX2_come_13 ?_
    refine g_aload_n C 0 dX2_come_16 rfl ?_
    refine g_get C (.int (M 1 0)) 0 in_X2_come_2 (List.mem_of_getElem? (i := 1) rfl) (by decide) (ce_cand ad cs _ _) rfl (by decide) rfl rfl dX2_come_17 ?_
    refine g_ni (fun v4 ev4 => ?_)
    have gv4 : v4 = vC M 0 0 := ev4.trans k1_0
    have tv4 := congrArg Int32.toInt gv4
    obtain ⟨bv4, dv4⟩ := (show rg 0 10 v4 from (by rw [ev4]; exact hI 1 0 rfl))
    refine g_aload_n C 0 dX2_come_20 rfl ?_
    refine g_get C (.int (M 1 0)) 0 in_X2_come_2 (List.mem_of_getElem? (i := 1) rfl) (by decide) (ce_cand ad cs _ _) rfl (by decide) rfl rfl dX2_come_21 ?_
    refine g_ni (fun v5 ev5 => ?_)
    have gv5 : v5 = vC M 0 0 := ev5.trans k1_0
    have tv5 := congrArg Int32.toInt gv5
    obtain ⟨bv5, dv5⟩ := (show rg 0 10 v5 from (by rw [ev5]; exact hI 1 0 rfl))
    have nv4 := ixn (x := v4) (by omega)
    refine g_iast C (by decide) (ce_crow ad cs _ _) (by rw [sI_k]; rfl) (fin' (n := 10) rfl (by omega) (by omega)) dX2_come_24 ?_
    refine g_nm (fun M6 hM6 => ?_)
    have hI : IC M6 := by rw [hM6]; exact hI.st ⟨by first | omega | decide, by first | omega | decide⟩
    have hF : ∀ k i, ¬ (k = 1 ∧ i = 0) ∧ k ≠ 2 → M6 k i = M k i := fun k i hk => by (rw [hM6, sI_at, if_neg (by omega)]; try exact hF k i hk)
    have k1_0 : M6 1 0 = vC M 0 0 := by rw [hM6, sI_n _ _ _ (by decide)]; try exact k1_0
    have hV : vC M6 = sI (vC M) 1 v4.toNatClampNeg v5 := by rw [hM6, vC_a (c := 1) (by decide), hV]
    refine g_aload_n C 0 dX2_come_25 rfl ?_
    refine g_dup C dX2_come_26 rfl ?_
    refine g_get C (.int (M6 1 0)) 0 in_X2_come_2 (List.mem_of_getElem? (i := 1) rfl) (by decide) (ce_cand ad cs _ _) rfl (by decide) rfl rfl dX2_come_27 ?_
    refine g_ni (fun v7 ev7 => ?_)
    have gv7 : v7 = vC M 0 0 := ev7.trans k1_0
    have tv7 := congrArg Int32.toInt gv7
    obtain ⟨bv7, dv7⟩ := (show rg 0 10 v7 from (by rw [ev7]; exact hI 1 0 rfl))
    refine g_iconst C 1 dX2_come_30 (by decide) ?_
    refine g_iadd C dX2_come_31 ?_
    refine g_ni (fun v8 ev8 => ?_)
    try have fv8 := fadd rfl (by decide : (1 : Int32).toInt = 1) ev8 (by omega) (by omega)
    refine g_putI C 0 in_X2_come_2 (List.mem_of_getElem? (i := 1) rfl) (by decide) (ce_cand ad cs _ _) rfl (by decide) rfl tyX2 tyX2_ok nmX2 rfl rfl rfl rfl (Nat.le_of_ble_eq_true rfl) (by rw [sI_k]; rfl) dX2_come_32 ?_
    refine g_nm (fun M9 hM9 => ?_)
    have hI : IC M9 := by rw [hM9]; exact hI.st (fun _ => ⟨by first | omega | decide, by first | omega | decide⟩)
    have hF : ∀ k i, ¬ (k = 1 ∧ i = 0) ∧ k ≠ 2 → M9 k i = M k i := fun k i hk => by (rw [hM9, sI_at, if_neg (by omega)]; try exact hF k i hk)
    have k1_0 : M9 1 0 = v8 := by rw [hM9, sI_at, if_pos (by decide)]
    have hV : vC M9 = sI (sI (vC M) 1 v4.toNatClampNeg v5) 0 0 v8 := by rw [hM9, vC_s (c := 0) (by decide), hV]
    refine g_aload_n C 0 dX2_come_35 rfl ?_
    refine g_get C (.int (M9 1 0)) 0 in_X2_come_2 (List.mem_of_getElem? (i := 1) rfl) (by decide) (ce_cand ad cs _ _) rfl (by decide) rfl rfl dX2_come_36 ?_
    refine g_ni (fun v10 ev10 => ?_)
    have gv10 : v10 = v8 := ev10.trans k1_0
    have tv10 := congrArg Int32.toInt gv10
    obtain ⟨bv10, dv10⟩ := (show rg 0 10 v10 from (by rw [ev10]; exact hI 1 0 rfl))
    refine g_iconst C 1 dX2_come_39 (by decide) ?_
    refine g_isub C dX2_come_40 ?_
    refine g_ni (fun v11 ev11 => ?_)
    try have fv11 := fsub rfl (by decide : (1 : Int32).toInt = 1) ev11 (by omega) (by omega)
    exact g_iret C hr ⟨(by dsimp only [A_stand, hasC, hasB, hasX, hasM, ofS, ofK, bt, ix]; (repeat (first | rw [if_pos (by omega)] | rw [if_neg (by omega)])); rw [hV]; first | done | rfl | (simp only [ev11, gv10, ev8, gv7, gv5, gv4, gv1, inc_dec]; done) | (simp only [ev11, gv10, ev8, gv7, gv5, gv4, gv1, inc_dec]; rfl) | (subst_vars; first | rfl | grind)), hI, hF, hG⟩ dX2_come_41
  ·
    have f12 := feq rfl (by decide : (10 : Int32).toInt = 10) c2
    refine g_bipush C (-2) dX2_come_9 (by decide) ?_
    have zr9 : ((-2) : Int32).toInt = (-2) := by decide
    exact g_iret C hr ⟨(by dsimp only [A_stand, hasC, hasB, hasX, hasM, ofS, ofK, bt, ix]; (repeat (first | rw [if_pos (by omega)] | rw [if_neg (by omega)])); first | done | rfl | (simp only [gv1, inc_dec]; done) | (simp only [gv1, inc_dec]; rfl) | (subst_vars; first | rfl | grind)), hI, hF, hG⟩ dX2_come_11
set_option maxHeartbeats 4000000 in
set_option maxRecDepth 100000 in
theorem v_X10_stand (l : Launch) (D : va_G) (ad : Nat → Nat) (cs : Nat → ClassId) (M : MI) (L : ML)  (hI : IC M) : Ci l yX10_stand wsX10_stand ({ frames := 1, cells := 0, slots := 0, locals := 20 }) D ad cs [.ref (ad 0)] M L (fun r M1 L1 => (A_stand (vC M) = (r, vC M1)) ∧ IC M1 ∧ (∀ k i, ¬ (k = 1 ∧ i = 0) ∧ k ≠ 2 → M1 k i = M k i) ∧ ∀ k i, True → L1 k i = L k i) := by
  refine enter_i RX10 rfl [(0, .ref (ad 0))] rfl (Nat.le_of_ble_eq_true rfl) (by decide +kernel) rfl ?_
  intro p e s m below meth c C hr
  have hF : ∀ k i, ¬ (k = 1 ∧ i = 0) ∧ k ≠ 2 → M k i = M k i := fun _ _ _ => rfl
  have hG : ∀ k i, True → L k i = L k i := fun _ _ _ => rfl
  have w0 : (vC M 0 0).toInt = (M 1 0).toInt := rfl
  have w1 : (vC M 0 1).toInt = (M 3 0).toInt := rfl
  have w2 : (vC M 0 2).toInt = (M 68 0).toInt := rfl
  have w3 : (vC M 0 3).toInt = (M 81 0).toInt := rfl
  obtain ⟨y0a, y0b⟩ := (show rg 0 10 (M 1 0) from hI 1 0 rfl)
  obtain ⟨y1a, y1b⟩ := (show rg 0 60 (M 3 0) from hI 3 0 rfl)
  obtain ⟨y2a, y2b⟩ := (show rg 0 8 (M 68 0) from hI 68 0 rfl)
  obtain ⟨y3a, y3b⟩ := (show rg 0 20 (M 81 0) from hI 81 0 rfl)
  have k1_0 : M 1 0 = vC M 0 0 := rfl
  have q2 : M 2 = M 2 := rfl
  have hV : vC M = vC M := rfl
  refine g_aload_n C 0 dX10_stand_0 rfl ?_
  refine g_get C (.ref (ad 1)) 0 in_X10_stand_10 (List.mem_of_getElem? (i := 1) rfl) (by decide) (ce_house ad cs _ _) rfl (by decide) rfl rfl dX10_stand_1 ?_
  refine g_callVi C (n := 0) (As := []) (st := []) (v_X2_come l D ad cs _ _  hI ) gX10_stand_X2_come rfl rfl rfl (by decide +kernel) ⟨Nat.le_of_ble_eq_true rfl, Nat.le_of_ble_eq_true rfl⟩ rfl (Nat.le_of_ble_eq_true rfl) ⟨Nat.zero_le _, Nat.zero_le _⟩ (by decide) (ce_cand ad cs _ _) rfl rfl dX10_stand_4 (fun r1 M2 L3 hr1 => ?_)
  obtain ⟨hr1, hI, hFr1, hGr1⟩ := hr1
  have hF : ∀ k i, ¬ (k = 1 ∧ i = 0) ∧ k ≠ 2 → M2 k i = M k i := fun k i hk => by (rw [hFr1 k i (by omega)]; try exact hF k i hk)
  have hG : ∀ k i, True → L3 k i = L k i := fun k i hk => by (rw [hGr1 k i trivial]; try exact hG k i hk)
  have k1_0 : M2 1 0 = M2 1 0 := rfl
  have q2 : M2 2 = M2 2 := rfl
  exact g_iret C hr ⟨hr1, hI, hF, hG⟩ dX10_stand_7
set_option maxHeartbeats 4000000 in
set_option maxRecDepth 100000 in
theorem v_X2_change (l : Launch) (D : va_G) (ad : Nat → Nat) (cs : Nat → ClassId) (M : MI) (L : ML) (x : Int32) (y : Int32) (hI : IC M) (hx : 0 ≤ x.toInt ∧ x.toInt < 10) (hy : 0 ≤ y.toInt ∧ y.toInt < 10) : Cv l yX2_change wsX2_change ({ frames := 0, cells := 0, slots := 0, locals := 0 }) D ad cs [.ref (ad 1), .int x, .int y] M L (fun M1 L1 => (vC M1 = sI (sI (vC M) 1 (x.toNatClampNeg) (vC M 1 (y.toNatClampNeg))) 1 (y.toNatClampNeg) (vC M 1 (x.toNatClampNeg))) ∧ IC M1 ∧ (∀ k i, k ≠ 2 → M1 k i = M k i) ∧ ∀ k i, True → L1 k i = L k i) := by
  refine enter_v RX2 rfl [(0, .ref (ad 1)), (1, .int x), (2, .int y)] rfl (Nat.le_of_ble_eq_true rfl) (by decide +kernel) rfl ?_
  intro p e s m below meth c C hr
  have hF : ∀ k i, k ≠ 2 → M k i = M k i := fun _ _ _ => rfl
  have hG : ∀ k i, True → L k i = L k i := fun _ _ _ => rfl
  have w0 : (vC M 0 0).toInt = (M 1 0).toInt := rfl
  have w1 : (vC M 0 1).toInt = (M 3 0).toInt := rfl
  have w2 : (vC M 0 2).toInt = (M 68 0).toInt := rfl
  have w3 : (vC M 0 3).toInt = (M 81 0).toInt := rfl
  obtain ⟨y0a, y0b⟩ := (show rg 0 10 (M 1 0) from hI 1 0 rfl)
  obtain ⟨y1a, y1b⟩ := (show rg 0 60 (M 3 0) from hI 3 0 rfl)
  obtain ⟨y2a, y2b⟩ := (show rg 0 8 (M 68 0) from hI 68 0 rfl)
  obtain ⟨y3a, y3b⟩ := (show rg 0 20 (M 81 0) from hI 81 0 rfl)
  obtain ⟨hx1, hx2⟩ := hx
  obtain ⟨hy1, hy2⟩ := hy
  have q2 : M 2 = M 2 := rfl
  have hV : vC M = vC M := rfl
  refine g_aload_n C 0 dX2_change_0 rfl ?_
  refine g_get C (.ref (ad 2)) 1 in_X2_change_2 (List.mem_of_getElem? (i := 1) rfl) (by decide) (ce_cand ad cs _ _) rfl (by decide) rfl rfl dX2_change_1 ?_
  refine g_iload_n C 1 dX2_change_4 rfl ?_
  have nx := ixn (x := x) (by omega)
  refine g_iald C (by decide) (ce_crow ad cs _ _) (fin' (n := 10) rfl (by omega) (by omega)) dX2_change_5 ?_
  refine g_ni (fun v1 ev1 => ?_)
  have gv1 : v1 = vC M 1 x.toNatClampNeg := ev1.trans (congrFun q2 _)
  have tv1 := congrArg Int32.toInt gv1
  obtain ⟨bv1, dv1⟩ := (show rg 0 9 v1 from (by rw [ev1]; exact hI 2 x.toNatClampNeg))
  refine g_istore_n C [(3, .int v1), (0, .ref (ad 1)), (1, .int x), (2, .int y)] dX2_change_6 (by decide) rfl ?_
  refine g_aload_n C 1 dX2_change_7 rfl ?_
  refine g_get C (.ref (ad 2)) 1 in_X2_change_2 (List.mem_of_getElem? (i := 1) rfl) (by decide) (ce_cand ad cs _ _) rfl (by decide) rfl rfl dX2_change_8 ?_
  refine g_iload_n C 2 dX2_change_11 rfl ?_
  refine g_aload_n C 1 dX2_change_12 rfl ?_
  refine g_get C (.ref (ad 2)) 1 in_X2_change_2 (List.mem_of_getElem? (i := 1) rfl) (by decide) (ce_cand ad cs _ _) rfl (by decide) rfl rfl dX2_change_13 ?_
  refine g_iload_n C 3 dX2_change_16 rfl ?_
  have ny := ixn (x := y) (by omega)
  refine g_iald C (by decide) (ce_crow ad cs _ _) (fin' (n := 10) rfl (by omega) (by omega)) dX2_change_17 ?_
  refine g_ni (fun v2 ev2 => ?_)
  have gv2 : v2 = vC M 1 y.toNatClampNeg := ev2.trans (congrFun q2 _)
  have tv2 := congrArg Int32.toInt gv2
  obtain ⟨bv2, dv2⟩ := (show rg 0 9 v2 from (by rw [ev2]; exact hI 2 y.toNatClampNeg))
  have nx := ixn (x := x) (by omega)
  refine g_iast C (by decide) (ce_crow ad cs _ _) (by rw [sI_k]; rfl) (fin' (n := 10) rfl (by omega) (by omega)) dX2_change_18 ?_
  refine g_nm (fun M3 hM3 => ?_)
  have hI : IC M3 := by rw [hM3]; exact hI.st ⟨by first | omega | decide, by first | omega | decide⟩
  have hF : ∀ k i, k ≠ 2 → M3 k i = M k i := fun k i hk => by (rw [hM3, sI_at, if_neg (by omega)]; try exact hF k i hk)
  have hV : vC M3 = sI (vC M) 1 x.toNatClampNeg v2 := by rw [hM3, vC_a (c := 1) (by decide), hV]
  refine g_aload_n C 1 dX2_change_19 rfl ?_
  refine g_get C (.ref (ad 2)) 1 in_X2_change_2 (List.mem_of_getElem? (i := 1) rfl) (by decide) (ce_cand ad cs _ _) rfl (by decide) rfl rfl dX2_change_20 ?_
  refine g_iload_n C 3 dX2_change_23 rfl ?_
  refine g_iload_n C 0 dX2_change_24 rfl ?_
  have ny := ixn (x := y) (by omega)
  refine g_iast C (by decide) (ce_crow ad cs _ _) (by rw [sI_k]; rfl) (fin' (n := 10) rfl (by omega) (by omega)) dX2_change_25 ?_
  refine g_nm (fun M4 hM4 => ?_)
  have hI : IC M4 := by rw [hM4]; exact hI.st ⟨by first | omega | decide, by first | omega | decide⟩
  have hF : ∀ k i, k ≠ 2 → M4 k i = M k i := fun k i hk => by (rw [hM4, sI_at, if_neg (by omega)]; try exact hF k i hk)
  have hV : vC M4 = sI (sI (vC M) 1 x.toNatClampNeg v2) 1 y.toNatClampNeg v1 := by rw [hM4, vC_a (c := 1) (by decide), hV]
  exact g_vret C hr ⟨(by rw [hV]; simp only [gv2, gv1]), hI, hF, hG⟩ dX2_change_26
set_option maxHeartbeats 4000000 in
set_option maxRecDepth 100000 in
theorem v_X10_draw (l : Launch) (D : va_G) (ad : Nat → Nat) (cs : Nat → ClassId) (M : MI) (L : ML) (x : Int32) (y : Int32) (hI : IC M) : Ci l yX10_draw wsX10_draw ({ frames := 1, cells := 0, slots := 0, locals := 23 }) D ad cs [.ref (ad 0), .int x, .int y] M L (fun r M1 L1 => (A_draw (vC M) x y = (r, vC M1)) ∧ IC M1 ∧ (∀ k i, k ≠ 2 → M1 k i = M k i) ∧ ∀ k i, True → L1 k i = L k i) := by
  refine enter_i RX10 rfl [(0, .ref (ad 0)), (1, .int x), (2, .int y)] rfl (Nat.le_of_ble_eq_true rfl) (by decide +kernel) rfl ?_
  intro p e s m below meth c C hr
  have hF : ∀ k i, k ≠ 2 → M k i = M k i := fun _ _ _ => rfl
  have hG : ∀ k i, True → L k i = L k i := fun _ _ _ => rfl
  have w0 : (vC M 0 0).toInt = (M 1 0).toInt := rfl
  have w1 : (vC M 0 1).toInt = (M 3 0).toInt := rfl
  have w2 : (vC M 0 2).toInt = (M 68 0).toInt := rfl
  have w3 : (vC M 0 3).toInt = (M 81 0).toInt := rfl
  obtain ⟨y0a, y0b⟩ := (show rg 0 10 (M 1 0) from hI 1 0 rfl)
  obtain ⟨y1a, y1b⟩ := (show rg 0 60 (M 3 0) from hI 3 0 rfl)
  obtain ⟨y2a, y2b⟩ := (show rg 0 8 (M 68 0) from hI 68 0 rfl)
  obtain ⟨y3a, y3b⟩ := (show rg 0 20 (M 81 0) from hI 81 0 rfl)
  have q2 : M 2 = M 2 := rfl
  have hV : vC M = vC M := rfl
  refine g_aload_n C 0 dX10_draw_0 rfl ?_
  refine g_get C (.ref (ad 1)) 0 in_X10_draw_10 (List.mem_of_getElem? (i := 1) rfl) (by decide) (ce_house ad cs _ _) rfl (by decide) rfl rfl dX10_draw_1 ?_
  refine g_iload_n C 1 dX10_draw_4 rfl ?_
  refine g_callVi C (n := 1) (As := [.int x]) (st := []) (c_X2_has l D ad cs _ _ x ) gX10_draw_X2_has rfl rfl rfl (by decide +kernel) ⟨Nat.le_of_ble_eq_true rfl, Nat.le_of_ble_eq_true rfl⟩ rfl (Nat.le_of_ble_eq_true rfl) ⟨Nat.zero_le _, Nat.zero_le _⟩ (by decide) (ce_cand ad cs _ _) rfl rfl dX10_draw_5 (fun r1 M2 L3 hr1 => ?_)
  obtain ⟨hq1, hq2, hr1⟩ := hr1
  obtain rfl := hq1.symm
  obtain rfl := hq2.symm
  have hr1 := zo_has hr1
  obtain ⟨bar1, bbr1⟩ := zo_b hr1
  refine g_if_eq C 22 dX10_draw_8 (by decide) (fun c4 => ?_) (fun c4 => ?_)
  ·
    have f5 := feq rfl (by decide : (0 : Int32).toInt = 0) c4
    have pr1 := zo_f hr1 c4
    try dsimp only [hasC, hasB, hasX, hasM, ofS, ofK, bt] at pr1
    refine g_iconst C (-1) dX10_draw_22 (by decide) ?_
    have zr9 : ((-1) : Int32).toInt = (-1) := by decide
    exact g_iret C hr ⟨(by dsimp only [A_draw, hasC, hasB, hasX, hasM, ofS, ofK, bt, ix]; (repeat (first | rw [if_pos (by omega)] | rw [if_neg (by omega)])); first | done | rfl | (simp only [ix]; done) | (simp only [ix]; rfl) | (subst_vars; first | rfl | grind)), hI, hF, hG⟩ dX10_draw_23
  ·
    have f6 := fne rfl (by decide : (0 : Int32).toInt = 0) c4
    have pr1 := zo_t hr1 c4
    try dsimp only [hasC, hasB, hasX, hasM, ofS, ofK, bt] at pr1
    refine g_aload_n C 0 dX10_draw_11 rfl ?_
    refine g_get C (.ref (ad 1)) 0 in_X10_draw_10 (List.mem_of_getElem? (i := 1) rfl) (by decide) (ce_house ad cs _ _) rfl (by decide) rfl rfl dX10_draw_12 ?_
    refine g_iload_n C 2 dX10_draw_15 rfl ?_
    refine g_callVi C (n := 1) (As := [.int y]) (st := []) (c_X2_has l D ad cs _ _ y ) gX10_draw_X2_has rfl rfl rfl (by decide +kernel) ⟨Nat.le_of_ble_eq_true rfl, Nat.le_of_ble_eq_true rfl⟩ rfl (Nat.le_of_ble_eq_true rfl) ⟨Nat.zero_le _, Nat.zero_le _⟩ (by decide) (ce_cand ad cs _ _) rfl rfl dX10_draw_16 (fun r7 M8 L9 hr7 => ?_)
    obtain ⟨hq1, hq2, hr7⟩ := hr7
    obtain rfl := hq1.symm
    obtain rfl := hq2.symm
    have hr7 := zo_has hr7
    obtain ⟨bar7, bbr7⟩ := zo_b hr7
    refine g_if_ne C 24 dX10_draw_19 (by decide) (fun c10 => ?_) (fun c10 => ?_)
    ·
      have f11 := fne rfl (by decide : (0 : Int32).toInt = 0) c10
      have pr7 := zo_t hr7 c10
      try dsimp only [hasC, hasB, hasX, hasM, ofS, ofK, bt] at pr7
      refine g_aload_n C 0 dX10_draw_24 rfl ?_
      refine g_get C (.ref (ad 1)) 0 in_X10_draw_10 (List.mem_of_getElem? (i := 1) rfl) (by decide) (ce_house ad cs _ _) rfl (by decide) rfl rfl dX10_draw_25 ?_
      refine g_iload_n C 1 dX10_draw_28 rfl ?_
      refine g_iload_n C 2 dX10_draw_29 rfl ?_
      refine g_callVv C (n := 2) (As := [.int x, .int y]) (st := []) (v_X2_change l D ad cs _ _ x y hI ⟨by omega, by omega⟩ ⟨by omega, by omega⟩) gX10_draw_X2_change rfl rfl rfl (by decide +kernel) ⟨Nat.le_of_ble_eq_true rfl, Nat.le_of_ble_eq_true rfl⟩ rfl (Nat.le_of_ble_eq_true rfl) ⟨Nat.zero_le _, Nat.zero_le _⟩ (by decide) (ce_cand ad cs _ _) rfl rfl dX10_draw_30 (fun M13 L14 hr12 => ?_)
      obtain ⟨hr12, hI, hFr12, hGr12⟩ := hr12
      have hF : ∀ k i, k ≠ 2 → M13 k i = M k i := fun k i hk => by (rw [hFr12 k i (by omega)]; try exact hF k i hk)
      have hG : ∀ k i, True → L14 k i = L k i := fun k i hk => by (rw [hGr12 k i trivial]; try exact hG k i hk)
      have hV : vC M13 = sI (sI (vC M) 1 x.toNatClampNeg ((vC M) 1 y.toNatClampNeg)) 1 y.toNatClampNeg ((vC M) 1 x.toNatClampNeg) := by rw [hr12, hV]
      have q2 : M13 2 = M13 2 := rfl
      refine g_iconst C 1 dX10_draw_33 (by decide) ?_
      have zr9 : (1 : Int32).toInt = 1 := by decide
      exact g_iret C hr ⟨(by dsimp only [A_draw, hasC, hasB, hasX, hasM, ofS, ofK, bt, ix]; (repeat (first | rw [if_pos (by omega)] | rw [if_neg (by omega)])); rw [hV]; first | done | rfl | (simp only [ix]; done) | (simp only [ix]; rfl) | (subst_vars; first | rfl | grind)), hI, hF, hG⟩ dX10_draw_34
    ·
      have f15 := feq rfl (by decide : (0 : Int32).toInt = 0) c10
      have pr7 := zo_f hr7 c10
      try dsimp only [hasC, hasB, hasX, hasM, ofS, ofK, bt] at pr7
      refine g_iconst C (-1) dX10_draw_22 (by decide) ?_
      have zr9 : ((-1) : Int32).toInt = (-1) := by decide
      exact g_iret C hr ⟨(by dsimp only [A_draw, hasC, hasB, hasX, hasM, ofS, ofK, bt, ix]; (repeat (first | rw [if_pos (by omega)] | rw [if_neg (by omega)])); first | done | rfl | (simp only [ix]; done) | (simp only [ix]; rfl) | (subst_vars; first | rfl | grind)), hI, hF, hG⟩ dX10_draw_23
set_option maxHeartbeats 4000000 in
set_option maxRecDepth 100000 in
theorem v_X10_drawn (l : Launch) (D : va_G) (ad : Nat → Nat) (cs : Nat → ClassId) (M : MI) (L : ML) (x : Int32) (hI : IC M) : Ci l yX10_drawn wsX10_drawn ({ frames := 1, cells := 0, slots := 0, locals := 21 }) D ad cs [.ref (ad 0), .int x] M L (fun r M1 L1 => M1 = M ∧ L1 = L ∧ (r = A_drawn (vC M) x)) := by
  refine enter_i RX10 rfl [(0, .ref (ad 0)), (1, .int x)] rfl (Nat.le_of_ble_eq_true rfl) (by decide +kernel) rfl ?_
  intro p e s m below meth c C hr
  have hF : ∀ k i, True → M k i = M k i := fun _ _ _ => rfl
  have hG : ∀ k i, True → L k i = L k i := fun _ _ _ => rfl
  have w0 : (vC M 0 0).toInt = (M 1 0).toInt := rfl
  have w1 : (vC M 0 1).toInt = (M 3 0).toInt := rfl
  have w2 : (vC M 0 2).toInt = (M 68 0).toInt := rfl
  have w3 : (vC M 0 3).toInt = (M 81 0).toInt := rfl
  obtain ⟨y0a, y0b⟩ := (show rg 0 10 (M 1 0) from hI 1 0 rfl)
  obtain ⟨y1a, y1b⟩ := (show rg 0 60 (M 3 0) from hI 3 0 rfl)
  obtain ⟨y2a, y2b⟩ := (show rg 0 8 (M 68 0) from hI 68 0 rfl)
  obtain ⟨y3a, y3b⟩ := (show rg 0 20 (M 81 0) from hI 81 0 rfl)
  refine g_aload_n C 0 dX10_drawn_0 rfl ?_
  refine g_get C (.ref (ad 1)) 0 in_X10_drawn_10 (List.mem_of_getElem? (i := 1) rfl) (by decide) (ce_house ad cs _ _) rfl (by decide) rfl rfl dX10_drawn_1 ?_
  refine g_iload_n C 1 dX10_drawn_4 rfl ?_
  refine g_callVi C (n := 1) (As := [.int x]) (st := []) (c_X2_has l D ad cs _ _ x ) gX10_drawn_X2_has rfl rfl rfl (by decide +kernel) ⟨Nat.le_of_ble_eq_true rfl, Nat.le_of_ble_eq_true rfl⟩ rfl (Nat.le_of_ble_eq_true rfl) ⟨Nat.zero_le _, Nat.zero_le _⟩ (by decide) (ce_cand ad cs _ _) rfl rfl dX10_drawn_5 (fun r1 M2 L3 hr1 => ?_)
  obtain ⟨hq1, hq2, hr1⟩ := hr1
  obtain rfl := hq1.symm
  obtain rfl := hq2.symm
  have hr1 := zo_has hr1
  obtain ⟨bar1, bbr1⟩ := zo_b hr1
  refine g_if_eq C 23 dX10_drawn_8 (by decide) (fun c4 => ?_) (fun c4 => ?_)
  ·
    have f5 := feq rfl (by decide : (0 : Int32).toInt = 0) c4
    have pr1 := zo_f hr1 c4
    try dsimp only [hasC, hasB, hasX, hasM, ofS, ofK, bt] at pr1
    refine g_iconst C (-1) dX10_drawn_23 (by decide) ?_
    have zr9 : ((-1) : Int32).toInt = (-1) := by decide
    exact g_iret C hr ⟨rfl, rfl, (by dsimp only [A_drawn, hasC, hasB, hasX, hasM, ofS, ofK, bt, ix]; (repeat (first | rw [if_pos (by omega)] | rw [if_neg (by omega)])); first | done | rfl | (simp only [ix]; done) | (simp only [ix]; rfl) | (subst_vars; first | rfl | grind))⟩ dX10_drawn_24
  ·
    have f6 := fne rfl (by decide : (0 : Int32).toInt = 0) c4
    have pr1 := zo_t hr1 c4
    try dsimp only [hasC, hasB, hasX, hasM, ofS, ofK, bt] at pr1
    refine g_aload_n C 0 dX10_drawn_11 rfl ?_
    refine g_get C (.ref (ad 1)) 0 in_X10_drawn_10 (List.mem_of_getElem? (i := 1) rfl) (by decide) (ce_house ad cs _ _) rfl (by decide) rfl rfl dX10_drawn_12 ?_
    refine g_get C (.ref (ad 2)) 1 in_X10_drawn_2 (List.mem_of_getElem? (i := 2) rfl) (by decide) (ce_cand ad cs _ _) rfl (by decide) rfl rfl dX10_drawn_15 ?_
    refine g_iload_n C 1 dX10_drawn_18 rfl ?_
    have nx := ixn (x := x) (by omega)
    refine g_iald C (by decide) (ce_crow ad cs _ _) (fin' (n := 10) rfl (by omega) (by omega)) dX10_drawn_19 ?_
    refine g_ni (fun v7 ev7 => ?_)
    have gv7 : v7 = vC M 1 x.toNatClampNeg := ev7
    have tv7 := congrArg Int32.toInt gv7
    obtain ⟨bv7, dv7⟩ := (show rg 0 9 v7 from (by rw [ev7]; exact hI 2 x.toNatClampNeg))
    refine g_goto C 24 dX10_drawn_20 (by decide) ?_
    exact g_iret C hr ⟨rfl, rfl, (by dsimp only [A_drawn, hasC, hasB, hasX, hasM, ofS, ofK, bt, ix]; (repeat (first | rw [if_pos (by omega)] | rw [if_neg (by omega)])); first | done | rfl | (simp only [gv7]; done) | (simp only [gv7]; rfl) | (subst_vars; first | rfl | grind))⟩ dX10_drawn_24
set_option maxHeartbeats 4000000 in
set_option maxRecDepth 100000 in
theorem v_X0_come (l : Launch) (D : va_G) (ad : Nat → Nat) (cs : Nat → ClassId) (M : MI) (L : ML) (x : Int32) (y : Int32) (hI : IC M) : Ci l yX0_come wsX0_come ({ frames := 0, cells := 0, slots := 0, locals := 0 }) D ad cs [.ref (ad 3), .int x, .int y] M L (fun r M1 L1 => ((if (vC M 0 1).toInt = 60 then ((-2 : Int32), vC M) else (vC M 0 1, sI (sI (sI (vC M) 2 (vC M 0 1).toNatClampNeg x) 3 (vC M 0 1).toNatClampNeg y) 0 1 (vC M 0 1 + 1))) = (r, vC M1)) ∧ IC M1 ∧ (∀ k i, ¬ (k = 3 ∧ i = 0) ∧ k ≠ 4 ∧ k ≠ 5 → M1 k i = M k i) ∧ ∀ k i, True → L1 k i = L k i) := by
  refine enter_i RX0 rfl [(0, .ref (ad 3)), (1, .int x), (2, .int y)] rfl (Nat.le_of_ble_eq_true rfl) (by decide +kernel) rfl ?_
  intro p e s m below meth c C hr
  have hF : ∀ k i, ¬ (k = 3 ∧ i = 0) ∧ k ≠ 4 ∧ k ≠ 5 → M k i = M k i := fun _ _ _ => rfl
  have hG : ∀ k i, True → L k i = L k i := fun _ _ _ => rfl
  have w0 : (vC M 0 0).toInt = (M 1 0).toInt := rfl
  have w1 : (vC M 0 1).toInt = (M 3 0).toInt := rfl
  have w2 : (vC M 0 2).toInt = (M 68 0).toInt := rfl
  have w3 : (vC M 0 3).toInt = (M 81 0).toInt := rfl
  obtain ⟨y0a, y0b⟩ := (show rg 0 10 (M 1 0) from hI 1 0 rfl)
  obtain ⟨y1a, y1b⟩ := (show rg 0 60 (M 3 0) from hI 3 0 rfl)
  obtain ⟨y2a, y2b⟩ := (show rg 0 8 (M 68 0) from hI 68 0 rfl)
  obtain ⟨y3a, y3b⟩ := (show rg 0 20 (M 81 0) from hI 81 0 rfl)
  have k3_0 : M 3 0 = vC M 0 1 := rfl
  have q4 : M 4 = M 4 := rfl
  have q5 : M 5 = M 5 := rfl
  have hV : vC M = vC M := rfl
  refine g_aload_n C 0 dX0_come_0 rfl ?_
  refine g_get C (.int (M 3 0)) 0 in_X0_come_0 (List.mem_of_getElem? (i := 1) rfl) (by decide) (ce_ball ad cs _ _) rfl (by decide) rfl rfl dX0_come_1 ?_
  refine g_ni (fun v1 ev1 => ?_)
  have gv1 : v1 = vC M 0 1 := ev1.trans k3_0
  have tv1 := congrArg Int32.toInt gv1
  obtain ⟨bv1, dv1⟩ := (show rg 0 60 v1 from (by rw [ev1]; exact hI 3 0 rfl))
  refine g_bipush C 60 dX0_come_4 (by decide) ?_
  refine g_icmp_ne C 12 dX0_come_6 (by decide) (fun c2 => ?_) (fun c2 => ?_)
  ·
    have f3 := fne rfl (by decide : (60 : Int32).toInt = 60) c2
    refine g_aload_n C 0 dX0_come_12 rfl ?_
    refine g_get C (.ref (ad 4)) 1 in_X0_come_0 (List.mem_of_getElem? (i := 2) rfl) (by decide) (ce_ball ad cs _ _) rfl (by decide) rfl rfl dX0_come_13 ?_
    refine g_aload_n C 0 dX0_come_16 rfl ?_
    refine g_get C (.int (M 3 0)) 0 in_X0_come_0 (List.mem_of_getElem? (i := 1) rfl) (by decide) (ce_ball ad cs _ _) rfl (by decide) rfl rfl dX0_come_17 ?_
    refine g_ni (fun v4 ev4 => ?_)
    have gv4 : v4 = vC M 0 1 := ev4.trans k3_0
    have tv4 := congrArg Int32.toInt gv4
    obtain ⟨bv4, dv4⟩ := (show rg 0 60 v4 from (by rw [ev4]; exact hI 3 0 rfl))
    refine g_iload_n C 1 dX0_come_20 rfl ?_
    have nv4 := ixn (x := v4) (by omega)
    refine g_iast C (by decide) (ce_bsort ad cs _ _) (by rw [sI_k]; rfl) (fin' (n := 60) rfl (by omega) (by omega)) dX0_come_21 ?_
    refine g_nm (fun M5 hM5 => ?_)
    have hI : IC M5 := by rw [hM5]; exact hI.st trivial
    have hF : ∀ k i, ¬ (k = 3 ∧ i = 0) ∧ k ≠ 4 ∧ k ≠ 5 → M5 k i = M k i := fun k i hk => by (rw [hM5, sI_at, if_neg (by omega)]; try exact hF k i hk)
    have k3_0 : M5 3 0 = vC M 0 1 := by rw [hM5, sI_n _ _ _ (by decide)]; try exact k3_0
    have q5 : M5 5 = M 5 := by rw [hM5, sI_n _ _ _ (by decide)]; try exact q5
    have hV : vC M5 = sI (vC M) 2 v4.toNatClampNeg x := by rw [hM5, vC_a (c := 2) (by decide), hV]
    refine g_aload_n C 0 dX0_come_22 rfl ?_
    refine g_get C (.ref (ad 5)) 2 in_X0_come_0 (List.mem_of_getElem? (i := 3) rfl) (by decide) (ce_ball ad cs _ _) rfl (by decide) rfl rfl dX0_come_23 ?_
    refine g_aload_n C 0 dX0_come_26 rfl ?_
    refine g_get C (.int (M5 3 0)) 0 in_X0_come_0 (List.mem_of_getElem? (i := 1) rfl) (by decide) (ce_ball ad cs _ _) rfl (by decide) rfl rfl dX0_come_27 ?_
    refine g_ni (fun v6 ev6 => ?_)
    have gv6 : v6 = vC M 0 1 := ev6.trans k3_0
    have tv6 := congrArg Int32.toInt gv6
    obtain ⟨bv6, dv6⟩ := (show rg 0 60 v6 from (by rw [ev6]; exact hI 3 0 rfl))
    refine g_iload_n C 2 dX0_come_30 rfl ?_
    have nv6 := ixn (x := v6) (by omega)
    refine g_iast C (by decide) (ce_bpapers ad cs _ _) (by rw [sI_k]; rfl) (fin' (n := 60) rfl (by omega) (by omega)) dX0_come_31 ?_
    refine g_nm (fun M7 hM7 => ?_)
    have hI : IC M7 := by rw [hM7]; exact hI.st trivial
    have hF : ∀ k i, ¬ (k = 3 ∧ i = 0) ∧ k ≠ 4 ∧ k ≠ 5 → M7 k i = M k i := fun k i hk => by (rw [hM7, sI_at, if_neg (by omega)]; try exact hF k i hk)
    have k3_0 : M7 3 0 = vC M 0 1 := by rw [hM7, sI_n _ _ _ (by decide)]; try exact k3_0
    have hV : vC M7 = sI (sI (vC M) 2 v4.toNatClampNeg x) 3 v6.toNatClampNeg y := by rw [hM7, vC_a (c := 3) (by decide), hV]
    refine g_aload_n C 0 dX0_come_32 rfl ?_
    refine g_dup C dX0_come_33 rfl ?_
    refine g_get C (.int (M7 3 0)) 0 in_X0_come_0 (List.mem_of_getElem? (i := 1) rfl) (by decide) (ce_ball ad cs _ _) rfl (by decide) rfl rfl dX0_come_34 ?_
    refine g_ni (fun v8 ev8 => ?_)
    have gv8 : v8 = vC M 0 1 := ev8.trans k3_0
    have tv8 := congrArg Int32.toInt gv8
    obtain ⟨bv8, dv8⟩ := (show rg 0 60 v8 from (by rw [ev8]; exact hI 3 0 rfl))
    refine g_iconst C 1 dX0_come_37 (by decide) ?_
    refine g_iadd C dX0_come_38 ?_
    refine g_ni (fun v9 ev9 => ?_)
    try have fv9 := fadd rfl (by decide : (1 : Int32).toInt = 1) ev9 (by omega) (by omega)
    refine g_putI C 0 in_X0_come_0 (List.mem_of_getElem? (i := 1) rfl) (by decide) (ce_ball ad cs _ _) rfl (by decide) rfl tyX0 tyX0_ok nmX0 rfl rfl rfl rfl (Nat.le_of_ble_eq_true rfl) (by rw [sI_k]; rfl) dX0_come_39 ?_
    refine g_nm (fun M10 hM10 => ?_)
    have hI : IC M10 := by rw [hM10]; exact hI.st (fun _ => ⟨by first | omega | decide, by first | omega | decide⟩)
    have hF : ∀ k i, ¬ (k = 3 ∧ i = 0) ∧ k ≠ 4 ∧ k ≠ 5 → M10 k i = M k i := fun k i hk => by (rw [hM10, sI_at, if_neg (by omega)]; try exact hF k i hk)
    have k3_0 : M10 3 0 = v9 := by rw [hM10, sI_at, if_pos (by decide)]
    have hV : vC M10 = sI (sI (sI (vC M) 2 v4.toNatClampNeg x) 3 v6.toNatClampNeg y) 0 1 v9 := by rw [hM10, vC_s (c := 1) (by decide), hV]
    refine g_aload_n C 0 dX0_come_42 rfl ?_
    refine g_get C (.int (M10 3 0)) 0 in_X0_come_0 (List.mem_of_getElem? (i := 1) rfl) (by decide) (ce_ball ad cs _ _) rfl (by decide) rfl rfl dX0_come_43 ?_
    refine g_ni (fun v11 ev11 => ?_)
    have gv11 : v11 = v9 := ev11.trans k3_0
    have tv11 := congrArg Int32.toInt gv11
    obtain ⟨bv11, dv11⟩ := (show rg 0 60 v11 from (by rw [ev11]; exact hI 3 0 rfl))
    refine g_iconst C 1 dX0_come_46 (by decide) ?_
    refine g_isub C dX0_come_47 ?_
    refine g_ni (fun v12 ev12 => ?_)
    try have fv12 := fsub rfl (by decide : (1 : Int32).toInt = 1) ev12 (by omega) (by omega)
    exact g_iret C hr ⟨(by (repeat (first | rw [if_pos (by omega)] | rw [if_neg (by omega)])); rw [hV]; first | done | rfl | (simp only [ev12, gv11, ev9, gv8, gv6, gv4, gv1, inc_dec]; done) | (simp only [ev12, gv11, ev9, gv8, gv6, gv4, gv1, inc_dec]; rfl) | (subst_vars; first | rfl | grind)), hI, hF, hG⟩ dX0_come_48
  ·
    have f13 := feq rfl (by decide : (60 : Int32).toInt = 60) c2
    refine g_bipush C (-2) dX0_come_9 (by decide) ?_
    have zr9 : ((-2) : Int32).toInt = (-2) := by decide
    exact g_iret C hr ⟨(by (repeat (first | rw [if_pos (by omega)] | rw [if_neg (by omega)])); first | done | rfl | (simp only [gv1, inc_dec]; done) | (simp only [gv1, inc_dec]; rfl) | (subst_vars; first | rfl | grind)), hI, hF, hG⟩ dX0_come_11
set_option maxHeartbeats 4000000 in
set_option maxRecDepth 100000 in
theorem v_X10_ballot (l : Launch) (D : va_G) (ad : Nat → Nat) (cs : Nat → ClassId) (M : MI) (L : ML) (x : Int32) (y : Int32) (hI : IC M) : Ci l yX10_ballot wsX10_ballot ({ frames := 1, cells := 0, slots := 0, locals := 22 }) D ad cs [.ref (ad 0), .int x, .int y] M L (fun r M1 L1 => (A_ballot (vC M) x y = (r, vC M1)) ∧ IC M1 ∧ (∀ k i, ¬ (k = 3 ∧ i = 0) ∧ k ≠ 4 ∧ k ≠ 5 → M1 k i = M k i) ∧ ∀ k i, True → L1 k i = L k i) := by
  refine enter_i RX10 rfl [(0, .ref (ad 0)), (1, .int x), (2, .int y)] rfl (Nat.le_of_ble_eq_true rfl) (by decide +kernel) rfl ?_
  intro p e s m below meth c C hr
  have hF : ∀ k i, ¬ (k = 3 ∧ i = 0) ∧ k ≠ 4 ∧ k ≠ 5 → M k i = M k i := fun _ _ _ => rfl
  have hG : ∀ k i, True → L k i = L k i := fun _ _ _ => rfl
  have w0 : (vC M 0 0).toInt = (M 1 0).toInt := rfl
  have w1 : (vC M 0 1).toInt = (M 3 0).toInt := rfl
  have w2 : (vC M 0 2).toInt = (M 68 0).toInt := rfl
  have w3 : (vC M 0 3).toInt = (M 81 0).toInt := rfl
  obtain ⟨y0a, y0b⟩ := (show rg 0 10 (M 1 0) from hI 1 0 rfl)
  obtain ⟨y1a, y1b⟩ := (show rg 0 60 (M 3 0) from hI 3 0 rfl)
  obtain ⟨y2a, y2b⟩ := (show rg 0 8 (M 68 0) from hI 68 0 rfl)
  obtain ⟨y3a, y3b⟩ := (show rg 0 20 (M 81 0) from hI 81 0 rfl)
  have k3_0 : M 3 0 = vC M 0 1 := rfl
  have q4 : M 4 = M 4 := rfl
  have q5 : M 5 = M 5 := rfl
  have hV : vC M = vC M := rfl
  refine g_iload_n C 1 dX10_ballot_0 rfl ?_
  refine g_callSi C (n := 1) (As := [.int x]) (st := []) (c_X10_isSort l D ad cs _ _ x ) gX10_ballot_X10_isSort rfl rfl rfl (by decide +kernel) ⟨Nat.le_of_ble_eq_true rfl, Nat.le_of_ble_eq_true rfl⟩ rfl (Nat.le_of_ble_eq_true rfl) ⟨Nat.zero_le _, Nat.zero_le _⟩ rfl dX10_ballot_1 (fun r1 M2 L3 hr1 => ?_)
  obtain ⟨hq1, hq2, hr1⟩ := hr1
  obtain rfl := hq1.symm
  obtain rfl := hq2.symm
  have hr1 := zo_lt hr1 (by decide : (4 : Int32).toInt = 4)
  obtain ⟨bar1, bbr1⟩ := zo_b hr1
  refine g_if_eq C 18 dX10_ballot_4 (by decide) (fun c4 => ?_) (fun c4 => ?_)
  ·
    have f5 := feq rfl (by decide : (0 : Int32).toInt = 0) c4
    have pr1 := zo_f hr1 c4
    try dsimp only [hasC, hasB, hasX, hasM, ofS, ofK, bt] at pr1
    refine g_iconst C (-1) dX10_ballot_18 (by decide) ?_
    have zr9 : ((-1) : Int32).toInt = (-1) := by decide
    exact g_iret C hr ⟨(by dsimp only [A_ballot, hasC, hasB, hasX, hasM, ofS, ofK, bt, ix]; (repeat (first | rw [if_pos (by omega)] | rw [if_neg (by omega)])); first | done | rfl | (simp only [ix]; done) | (simp only [ix]; rfl) | (subst_vars; first | rfl | grind)), hI, hF, hG⟩ dX10_ballot_19
  ·
    have f6 := fne rfl (by decide : (0 : Int32).toInt = 0) c4
    have pr1 := zo_t hr1 c4
    try dsimp only [hasC, hasB, hasX, hasM, ofS, ofK, bt] at pr1
    refine g_iload_n C 2 dX10_ballot_7 rfl ?_
    refine g_iconst C 1 dX10_ballot_8 (by decide) ?_
    refine g_icmp_lt C 18 dX10_ballot_9 (by decide) (fun c7 => ?_) (fun c7 => ?_)
    ·
      have f8 := fl rfl (by decide : (1 : Int32).toInt = 1) c7
      refine g_iconst C (-1) dX10_ballot_18 (by decide) ?_
      have zr9 : ((-1) : Int32).toInt = (-1) := by decide
      exact g_iret C hr ⟨(by dsimp only [A_ballot, hasC, hasB, hasX, hasM, ofS, ofK, bt, ix]; (repeat (first | rw [if_pos (by omega)] | rw [if_neg (by omega)])); first | done | rfl | (simp only [ix]; done) | (simp only [ix]; rfl) | (subst_vars; first | rfl | grind)), hI, hF, hG⟩ dX10_ballot_19
    ·
      have f9 := fnl rfl (by decide : (1 : Int32).toInt = 1) c7
      refine g_iload_n C 2 dX10_ballot_12 rfl ?_
      refine g_ldc C 100000 (List.mem_of_getElem? (i := 1) rfl) dX10_ballot_13 ?_
      refine g_icmp_le C 20 dX10_ballot_15 (by decide) (fun c10 => ?_) (fun c10 => ?_)
      ·
        have f11 := fle rfl (by decide : (100000 : Int32).toInt = 100000) c10
        refine g_aload_n C 0 dX10_ballot_20 rfl ?_
        refine g_get C (.ref (ad 3)) 1 in_X10_ballot_10 (List.mem_of_getElem? (i := 2) rfl) (by decide) (ce_house ad cs _ _) rfl (by decide) rfl rfl dX10_ballot_21 ?_
        refine g_iload_n C 1 dX10_ballot_24 rfl ?_
        refine g_iload_n C 2 dX10_ballot_25 rfl ?_
        refine g_callVi C (n := 2) (As := [.int x, .int y]) (st := []) (v_X0_come l D ad cs _ _ x y hI ) gX10_ballot_X0_come rfl rfl rfl (by decide +kernel) ⟨Nat.le_of_ble_eq_true rfl, Nat.le_of_ble_eq_true rfl⟩ rfl (Nat.le_of_ble_eq_true rfl) ⟨Nat.zero_le _, Nat.zero_le _⟩ (by decide) (ce_ball ad cs _ _) rfl rfl dX10_ballot_26 (fun r12 M13 L14 hr12 => ?_)
        obtain ⟨hr12, hI, hFr12, hGr12⟩ := hr12
        have hF : ∀ k i, ¬ (k = 3 ∧ i = 0) ∧ k ≠ 4 ∧ k ≠ 5 → M13 k i = M k i := fun k i hk => by (rw [hFr12 k i (by omega)]; try exact hF k i hk)
        have hG : ∀ k i, True → L14 k i = L k i := fun k i hk => by (rw [hGr12 k i trivial]; try exact hG k i hk)
        have k3_0 : M13 3 0 = M13 3 0 := rfl
        have q4 : M13 4 = M13 4 := rfl
        have q5 : M13 5 = M13 5 := rfl
        exact g_iret C hr ⟨(by dsimp only [A_ballot, bt]; rw [if_pos (by omega)]; exact hr12), hI, hF, hG⟩ dX10_ballot_29
      ·
        have f15 := fnle rfl (by decide : (100000 : Int32).toInt = 100000) c10
        refine g_iconst C (-1) dX10_ballot_18 (by decide) ?_
        have zr9 : ((-1) : Int32).toInt = (-1) := by decide
        exact g_iret C hr ⟨(by dsimp only [A_ballot, hasC, hasB, hasX, hasM, ofS, ofK, bt, ix]; (repeat (first | rw [if_pos (by omega)] | rw [if_neg (by omega)])); first | done | rfl | (simp only [ix]; done) | (simp only [ix]; rfl) | (subst_vars; first | rfl | grind)), hI, hF, hG⟩ dX10_ballot_19
set_option maxHeartbeats 4000000 in
set_option maxRecDepth 100000 in
theorem v_X10_is (l : Launch) (D : va_G) (ad : Nat → Nat) (cs : Nat → ClassId) (M : MI) (L : ML) (b : Int32) (x : Int32) (hI : IC M) (hS : ∀ b, 0 ≤ (vC M 2 b).toInt ∧ (vC M 2 b).toInt ≤ 3) : Ci l yX10_is wsX10_is ({ frames := 2, cells := 0, slots := 0, locals := 46 }) D ad cs [.ref (ad 0), .int b, .int x] M L (fun r M1 L1 => M1 = M ∧ L1 = L ∧ (r = A_is (vC M) b x)) := by
  refine enter_i RX10 rfl [(0, .ref (ad 0)), (1, .int b), (2, .int x)] rfl (Nat.le_of_ble_eq_true rfl) (by decide +kernel) rfl ?_
  intro p e s m below meth c C hr
  have hF : ∀ k i, True → M k i = M k i := fun _ _ _ => rfl
  have hG : ∀ k i, True → L k i = L k i := fun _ _ _ => rfl
  have w0 : (vC M 0 0).toInt = (M 1 0).toInt := rfl
  have w1 : (vC M 0 1).toInt = (M 3 0).toInt := rfl
  have w2 : (vC M 0 2).toInt = (M 68 0).toInt := rfl
  have w3 : (vC M 0 3).toInt = (M 81 0).toInt := rfl
  obtain ⟨y0a, y0b⟩ := (show rg 0 10 (M 1 0) from hI 1 0 rfl)
  obtain ⟨y1a, y1b⟩ := (show rg 0 60 (M 3 0) from hI 3 0 rfl)
  obtain ⟨y2a, y2b⟩ := (show rg 0 8 (M 68 0) from hI 68 0 rfl)
  obtain ⟨y3a, y3b⟩ := (show rg 0 20 (M 81 0) from hI 81 0 rfl)
  refine g_aload_n C 0 dX10_is_0 rfl ?_
  refine g_get C (.ref (ad 3)) 1 in_X10_is_10 (List.mem_of_getElem? (i := 1) rfl) (by decide) (ce_house ad cs _ _) rfl (by decide) rfl rfl dX10_is_1 ?_
  refine g_iload_n C 1 dX10_is_4 rfl ?_
  refine g_callVi C (n := 1) (As := [.int b]) (st := []) (c_X0_has l D ad cs _ _ b ) gX10_is_X0_has rfl rfl rfl (by decide +kernel) ⟨Nat.le_of_ble_eq_true rfl, Nat.le_of_ble_eq_true rfl⟩ rfl (Nat.le_of_ble_eq_true rfl) ⟨Nat.zero_le _, Nat.zero_le _⟩ (by decide) (ce_ball ad cs _ _) rfl rfl dX10_is_5 (fun r1 M2 L3 hr1 => ?_)
  obtain ⟨hq1, hq2, hr1⟩ := hr1
  obtain rfl := hq1.symm
  obtain rfl := hq2.symm
  have hr1 := zo_has hr1
  obtain ⟨bar1, bbr1⟩ := zo_b hr1
  refine g_if_eq C 18 dX10_is_8 (by decide) (fun c4 => ?_) (fun c4 => ?_)
  ·
    have f5 := feq rfl (by decide : (0 : Int32).toInt = 0) c4
    have pr1 := zo_f hr1 c4
    try dsimp only [hasC, hasB, hasX, hasM, ofS, ofK, bt] at pr1
    refine g_iconst C (-1) dX10_is_18 (by decide) ?_
    have zr9 : ((-1) : Int32).toInt = (-1) := by decide
    exact g_iret C hr ⟨rfl, rfl, (by dsimp only [A_is, hasC, hasB, hasX, hasM, ofS, ofK, bt, ix]; (repeat (first | rw [if_pos (by omega)] | rw [if_neg (by omega)])); first | done | rfl | (simp only [ix]; done) | (simp only [ix]; rfl) | (subst_vars; first | rfl | grind))⟩ dX10_is_19
  ·
    have f6 := fne rfl (by decide : (0 : Int32).toInt = 0) c4
    have pr1 := zo_t hr1 c4
    try dsimp only [hasC, hasB, hasX, hasM, ofS, ofK, bt] at pr1
    refine g_iload_n C 2 dX10_is_11 rfl ?_
    refine g_callSi C (n := 1) (As := [.int x]) (st := []) (c_X10_isSort l D ad cs _ _ x ) gX10_is_X10_isSort rfl rfl rfl (by decide +kernel) ⟨Nat.le_of_ble_eq_true rfl, Nat.le_of_ble_eq_true rfl⟩ rfl (Nat.le_of_ble_eq_true rfl) ⟨Nat.zero_le _, Nat.zero_le _⟩ rfl dX10_is_12 (fun r7 M8 L9 hr7 => ?_)
    obtain ⟨hq1, hq2, hr7⟩ := hr7
    obtain rfl := hq1.symm
    obtain rfl := hq2.symm
    have hr7 := zo_lt hr7 (by decide : (4 : Int32).toInt = 4)
    obtain ⟨bar7, bbr7⟩ := zo_b hr7
    refine g_if_ne C 20 dX10_is_15 (by decide) (fun c10 => ?_) (fun c10 => ?_)
    ·
      have f11 := fne rfl (by decide : (0 : Int32).toInt = 0) c10
      have pr7 := zo_t hr7 c10
      try dsimp only [hasC, hasB, hasX, hasM, ofS, ofK, bt] at pr7
      refine g_aload_n C 0 dX10_is_20 rfl ?_
      refine g_get C (.ref (ad 3)) 1 in_X10_is_10 (List.mem_of_getElem? (i := 1) rfl) (by decide) (ce_house ad cs _ _) rfl (by decide) rfl rfl dX10_is_21 ?_
      refine g_iload_n C 1 dX10_is_24 rfl ?_
      refine g_iload_n C 2 dX10_is_25 rfl ?_
      refine g_callVi C (n := 2) (As := [.int b, .int x]) (st := []) (v_X0_isOf l D ad cs _ _ b x hI ⟨by omega, by omega⟩ (by first | omega | decide) hS) gX10_is_X0_isOf rfl rfl rfl (by decide +kernel) ⟨Nat.le_of_ble_eq_true rfl, Nat.le_of_ble_eq_true rfl⟩ rfl (Nat.le_of_ble_eq_true rfl) ⟨Nat.zero_le _, Nat.zero_le _⟩ (by decide) (ce_ball ad cs _ _) rfl rfl dX10_is_26 (fun r12 M13 L14 hr12 => ?_)
      obtain ⟨hq1, hq2, hr12⟩ := hr12
      obtain rfl := hq1.symm
      obtain rfl := hq2.symm
      obtain ⟨bar12, bbr12⟩ := zo_b hr12
      refine g_if_eq C 36 dX10_is_29 (by decide) (fun c15 => ?_) (fun c15 => ?_)
      ·
        have f16 := feq rfl (by decide : (0 : Int32).toInt = 0) c15
        have pr12 := zo_f hr12 c15
        try dsimp only [hasC, hasB, hasX, hasM, ofS, ofK, bt] at pr12
        refine g_iconst C 0 dX10_is_36 (by decide) ?_
        have zr9 : (0 : Int32).toInt = 0 := by decide
        exact g_iret C hr ⟨rfl, rfl, (by dsimp only [A_is, hasC, hasB, hasX, hasM, ofS, ofK, bt, ix]; (repeat (first | rw [if_pos (by omega)] | rw [if_neg (by omega)])); first | done | rfl | (simp only [ix]; done) | (simp only [ix]; rfl) | (subst_vars; first | rfl | grind))⟩ dX10_is_37
      ·
        have f17 := fne rfl (by decide : (0 : Int32).toInt = 0) c15
        have pr12 := zo_t hr12 c15
        try dsimp only [hasC, hasB, hasX, hasM, ofS, ofK, bt] at pr12
        refine g_iconst C 1 dX10_is_32 (by decide) ?_
        refine g_goto C 37 dX10_is_33 (by decide) ?_
        have zr9 : (1 : Int32).toInt = 1 := by decide
        exact g_iret C hr ⟨rfl, rfl, (by dsimp only [A_is, hasC, hasB, hasX, hasM, ofS, ofK, bt, ix]; (repeat (first | rw [if_pos (by omega)] | rw [if_neg (by omega)])); first | done | rfl | (simp only [ix]; done) | (simp only [ix]; rfl) | (subst_vars; first | rfl | grind))⟩ dX10_is_37
    ·
      have f18 := feq rfl (by decide : (0 : Int32).toInt = 0) c10
      have pr7 := zo_f hr7 c10
      try dsimp only [hasC, hasB, hasX, hasM, ofS, ofK, bt] at pr7
      refine g_iconst C (-1) dX10_is_18 (by decide) ?_
      have zr9 : ((-1) : Int32).toInt = (-1) := by decide
      exact g_iret C hr ⟨rfl, rfl, (by dsimp only [A_is, hasC, hasB, hasX, hasM, ofS, ofK, bt, ix]; (repeat (first | rw [if_pos (by omega)] | rw [if_neg (by omega)])); first | done | rfl | (simp only [ix]; done) | (simp only [ix]; rfl) | (subst_vars; first | rfl | grind))⟩ dX10_is_19
