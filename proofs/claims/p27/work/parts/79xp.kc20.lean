set_option maxHeartbeats 4000000 in
set_option maxRecDepth 100000 in
theorem k_X7_hasRound_a (l : Launch) (D : va_G) (ad : Nat → Nat) (cs : Nat → ClassId) (M : MI) (L : ML) (x : Int32) (hI : IC M) : Ci l yX7_hasRound wsX7_hasRound ({ frames := 0, cells := 0, slots := 0, locals := 0 }) D ad cs [.ref (ad 125), .int x] M L (fun r M1 L1 => M1 = M ∧ L1 = L ∧ (zo r (0 ≤ x.toInt ∧ x.toInt < (M 125 2).toInt))) := by
  refine enter_i RX7 rfl [(0, .ref (ad 125)), (1, .int x)] rfl (Nat.le_of_ble_eq_true rfl) (by decide +kernel) rfl ?_
  intro p e s m below meth c C hr
  have hF : ∀ k i, True → M k i = M k i := fun _ _ _ => rfl
  have hG : ∀ k i, True → L k i = L k i := fun _ _ _ => rfl
  have w0 : (vC M 0 0).toInt = (M 1 0).toInt := rfl
  have w1 : (vC M 0 1).toInt = (M 3 0).toInt := rfl
  have w2 : (vC M 0 2).toInt = (M 68 0).toInt := rfl
  have w3 : (vC M 0 3).toInt = (M 81 0).toInt := rfl
  obtain ⟨y0a, y0b⟩ := (show rg 0 10 (M 1 0) from hI 1 0 rfl)
  obtain ⟨y1a, y1b⟩ := (show rg 0 60 (M 3 0) from hI 3 0 rfl)
  obtain ⟨y2a, y2b⟩ := (show rg 0 8 (M 68 0) from hI 68 0 rfl)
  obtain ⟨y3a, y3b⟩ := (show rg 0 20 (M 81 0) from hI 81 0 rfl)
  refine g_iload_n C 1 dX7_hasRound_0 rfl ?_
  refine g_if_lt C 16 dX7_hasRound_1 (by decide) (fun c1 => ?_) (fun c1 => ?_)
  ·
    have f2 := fl rfl (by decide : (0 : Int32).toInt = 0) c1
    refine g_iconst C 0 dX7_hasRound_16 (by decide) ?_
    have zr9 : (0 : Int32).toInt = 0 := by decide
    exact g_zret C hr rfl ⟨rfl, rfl, (by first | exact Or.inl ⟨rfl, by omega⟩ | exact Or.inr ⟨rfl, by omega⟩)⟩ dX7_hasRound_17
  ·
    have f3 := fnl rfl (by decide : (0 : Int32).toInt = 0) c1
    refine g_iload_n C 1 dX7_hasRound_4 rfl ?_
    refine g_aload_n C 0 dX7_hasRound_5 rfl ?_
    refine g_get C (.int (M 125 2)) 2 in_X7_hasRound_7 (List.mem_of_getElem? (i := 1) rfl) (by decide) (ce_ra ad cs _ _) rfl (by decide) rfl rfl dX7_hasRound_6 ?_
    refine g_ni (fun v4 ev4 => ?_)
    have gv4 : v4 = M 125 2 := ev4
    have tv4 := congrArg Int32.toInt gv4
    obtain ⟨bv4, dv4⟩ := (show rg 0 30 v4 from (by rw [ev4]; exact hI 125 2 (Or.inr rfl)))
    refine g_icmp_ge C 16 dX7_hasRound_9 (by decide) (fun c5 => ?_) (fun c5 => ?_)
    ·
      have f6 := fle rfl rfl c5
      refine g_iconst C 0 dX7_hasRound_16 (by decide) ?_
      have zr9 : (0 : Int32).toInt = 0 := by decide
      exact g_zret C hr rfl ⟨rfl, rfl, (by first | exact Or.inl ⟨rfl, by omega⟩ | exact Or.inr ⟨rfl, by omega⟩)⟩ dX7_hasRound_17
    ·
      have f7 := fnle rfl rfl c5
      refine g_iconst C 1 dX7_hasRound_12 (by decide) ?_
      refine g_goto C 17 dX7_hasRound_13 (by decide) ?_
      have zr9 : (1 : Int32).toInt = 1 := by decide
      exact g_zret C hr rfl ⟨rfl, rfl, (by first | exact Or.inl ⟨rfl, by omega⟩ | exact Or.inr ⟨rfl, by omega⟩)⟩ dX7_hasRound_17
set_option maxHeartbeats 4000000 in
set_option maxRecDepth 100000 in
theorem k_X7_hasRound_b (l : Launch) (D : va_G) (ad : Nat → Nat) (cs : Nat → ClassId) (M : MI) (L : ML) (x : Int32) (hI : IC M) : Ci l yX7_hasRound wsX7_hasRound ({ frames := 0, cells := 0, slots := 0, locals := 0 }) D ad cs [.ref (ad 191), .int x] M L (fun r M1 L1 => M1 = M ∧ L1 = L ∧ (zo r (0 ≤ x.toInt ∧ x.toInt < (M 191 2).toInt))) := by
  refine enter_i RX7 rfl [(0, .ref (ad 191)), (1, .int x)] rfl (Nat.le_of_ble_eq_true rfl) (by decide +kernel) rfl ?_
  intro p e s m below meth c C hr
  have hF : ∀ k i, True → M k i = M k i := fun _ _ _ => rfl
  have hG : ∀ k i, True → L k i = L k i := fun _ _ _ => rfl
  have w0 : (vC M 0 0).toInt = (M 1 0).toInt := rfl
  have w1 : (vC M 0 1).toInt = (M 3 0).toInt := rfl
  have w2 : (vC M 0 2).toInt = (M 68 0).toInt := rfl
  have w3 : (vC M 0 3).toInt = (M 81 0).toInt := rfl
  obtain ⟨y0a, y0b⟩ := (show rg 0 10 (M 1 0) from hI 1 0 rfl)
  obtain ⟨y1a, y1b⟩ := (show rg 0 60 (M 3 0) from hI 3 0 rfl)
  obtain ⟨y2a, y2b⟩ := (show rg 0 8 (M 68 0) from hI 68 0 rfl)
  obtain ⟨y3a, y3b⟩ := (show rg 0 20 (M 81 0) from hI 81 0 rfl)
  refine g_iload_n C 1 dX7_hasRound_0 rfl ?_
  refine g_if_lt C 16 dX7_hasRound_1 (by decide) (fun c1 => ?_) (fun c1 => ?_)
  ·
    have f2 := fl rfl (by decide : (0 : Int32).toInt = 0) c1
    refine g_iconst C 0 dX7_hasRound_16 (by decide) ?_
    have zr9 : (0 : Int32).toInt = 0 := by decide
    exact g_zret C hr rfl ⟨rfl, rfl, (by first | exact Or.inl ⟨rfl, by omega⟩ | exact Or.inr ⟨rfl, by omega⟩)⟩ dX7_hasRound_17
  ·
    have f3 := fnl rfl (by decide : (0 : Int32).toInt = 0) c1
    refine g_iload_n C 1 dX7_hasRound_4 rfl ?_
    refine g_aload_n C 0 dX7_hasRound_5 rfl ?_
    refine g_get C (.int (M 191 2)) 2 in_X7_hasRound_7 (List.mem_of_getElem? (i := 1) rfl) (by decide) (ce_rb ad cs _ _) rfl (by decide) rfl rfl dX7_hasRound_6 ?_
    refine g_ni (fun v4 ev4 => ?_)
    have gv4 : v4 = M 191 2 := ev4
    have tv4 := congrArg Int32.toInt gv4
    obtain ⟨bv4, dv4⟩ := (show rg 0 30 v4 from (by rw [ev4]; exact hI 191 2 (Or.inr rfl)))
    refine g_icmp_ge C 16 dX7_hasRound_9 (by decide) (fun c5 => ?_) (fun c5 => ?_)
    ·
      have f6 := fle rfl rfl c5
      refine g_iconst C 0 dX7_hasRound_16 (by decide) ?_
      have zr9 : (0 : Int32).toInt = 0 := by decide
      exact g_zret C hr rfl ⟨rfl, rfl, (by first | exact Or.inl ⟨rfl, by omega⟩ | exact Or.inr ⟨rfl, by omega⟩)⟩ dX7_hasRound_17
    ·
      have f7 := fnle rfl rfl c5
      refine g_iconst C 1 dX7_hasRound_12 (by decide) ?_
      refine g_goto C 17 dX7_hasRound_13 (by decide) ?_
      have zr9 : (1 : Int32).toInt = 1 := by decide
      exact g_zret C hr rfl ⟨rfl, rfl, (by first | exact Or.inl ⟨rfl, by omega⟩ | exact Or.inr ⟨rfl, by omega⟩)⟩ dX7_hasRound_17
set_option maxHeartbeats 4000000 in
set_option maxRecDepth 100000 in
theorem k_X10_seat (l : Launch) (D : va_G) (ad : Nat → Nat) (cs : Nat → ClassId) (M : MI) (L : ML) (x : Int32) (hI : IC M) : Ci l yX10_seat wsX10_seat ({ frames := 0, cells := 0, slots := 0, locals := 0 }) D ad cs [.ref (ad 0), .int x] M L (fun r M1 L1 => M1 = M ∧ L1 = L ∧ ((M 0 8 = 125 ∧ r = A_seat (M 125 0) (M 126) x) ∨ (M 0 8 = 191 ∧ r = A_seat (M 191 0) (M 192) x))) := by
  refine enter_i RX10 rfl [(0, .ref (ad 0)), (1, .int x)] rfl (Nat.le_of_ble_eq_true rfl) (by decide +kernel) rfl ?_
  intro p e s m below meth c C hr
  have hF : ∀ k i, True → M k i = M k i := fun _ _ _ => rfl
  have hG : ∀ k i, True → L k i = L k i := fun _ _ _ => rfl
  have w0 : (vC M 0 0).toInt = (M 1 0).toInt := rfl
  have w1 : (vC M 0 1).toInt = (M 3 0).toInt := rfl
  have w2 : (vC M 0 2).toInt = (M 68 0).toInt := rfl
  have w3 : (vC M 0 3).toInt = (M 81 0).toInt := rfl
  obtain ⟨y0a, y0b⟩ := (show rg 0 10 (M 1 0) from hI 1 0 rfl)
  obtain ⟨y1a, y1b⟩ := (show rg 0 60 (M 3 0) from hI 3 0 rfl)
  obtain ⟨y2a, y2b⟩ := (show rg 0 8 (M 68 0) from hI 68 0 rfl)
  obtain ⟨y3a, y3b⟩ := (show rg 0 20 (M 81 0) from hI 81 0 rfl)
  rcases (hI 0 8 (Or.inl rfl)) with hg8 | hg8
  ·
    obtain ⟨ra0, rb0⟩ := (show rg 0 30 (M 125 0) from hI 125 0 (Or.inl rfl))
    obtain ⟨ra2, rb2⟩ := (show rg 0 30 (M 125 2) from hI 125 2 (Or.inr rfl))
    refine g_iload_n C 1 dX10_seat_0 rfl ?_
    refine g_if_lt C 27 dX10_seat_1 (by decide) (fun c1 => ?_) (fun c1 => ?_)
    ·
      have f2 := fl rfl (by decide : (0 : Int32).toInt = 0) c1
      refine g_bipush C (-9) dX10_seat_27 (by decide) ?_
      have zr9 : ((-9) : Int32).toInt = (-9) := by decide
      exact g_iret C hr ⟨rfl, rfl, (Or.inl ⟨hg8, (by dsimp only [A_seat, hasC, hasB, hasX, hasM, ofS, ofK, bt, ix]; (repeat (first | rw [if_pos (by omega)] | rw [if_neg (by omega)])); first | done | rfl | (simp only [ix]; done) | (simp only [ix]; rfl) | (subst_vars; first | rfl | grind))⟩)⟩ dX10_seat_29
    ·
      have f3 := fnl rfl (by decide : (0 : Int32).toInt = 0) c1
      refine g_iload_n C 1 dX10_seat_4 rfl ?_
      refine g_aload_n C 0 dX10_seat_5 rfl ?_
      refine g_get C (.ref (ad ((M 0 8).toNatClampNeg))) 8 in_X10_seat_10 (List.mem_of_getElem? (i := 1) rfl) (by decide) (ce_house ad cs _ _) rfl (by decide) rfl rfl dX10_seat_6 ?_
      refine g_tr 125 (by rw [hg8]; rfl) ?_
      refine g_get C (.int (M 125 0)) 0 in_X10_seat_7 (List.mem_of_getElem? (i := 2) rfl) (by decide) (ce_ra ad cs _ _) rfl (by decide) rfl rfl dX10_seat_9 ?_
      refine g_ni (fun v4 ev4 => ?_)
      have gv4 : v4 = M 125 0 := ev4
      have tv4 := congrArg Int32.toInt gv4
      obtain ⟨bv4, dv4⟩ := (show rg 0 30 v4 from (by rw [ev4]; exact hI 125 0 (Or.inl rfl)))
      refine g_icmp_ge C 27 dX10_seat_12 (by decide) (fun c5 => ?_) (fun c5 => ?_)
      ·
        have f6 := fle rfl rfl c5
        refine g_bipush C (-9) dX10_seat_27 (by decide) ?_
        have zr9 : ((-9) : Int32).toInt = (-9) := by decide
        exact g_iret C hr ⟨rfl, rfl, (Or.inl ⟨hg8, (by dsimp only [A_seat, hasC, hasB, hasX, hasM, ofS, ofK, bt, ix]; (repeat (first | rw [if_pos (by omega)] | rw [if_neg (by omega)])); first | done | rfl | (simp only [gv4]; done) | (simp only [gv4]; rfl) | (subst_vars; first | rfl | grind))⟩)⟩ dX10_seat_29
      ·
        have f7 := fnle rfl rfl c5
        refine g_aload_n C 0 dX10_seat_15 rfl ?_
        refine g_get C (.ref (ad ((M 0 8).toNatClampNeg))) 8 in_X10_seat_10 (List.mem_of_getElem? (i := 1) rfl) (by decide) (ce_house ad cs _ _) rfl (by decide) rfl rfl dX10_seat_16 ?_
        refine g_tr 125 (by rw [hg8]; rfl) ?_
        refine g_get C (.ref (ad 126)) 1 in_X10_seat_7 (List.mem_of_getElem? (i := 3) rfl) (by decide) (ce_ra ad cs _ _) rfl (by decide) rfl rfl dX10_seat_19 ?_
        refine g_iload_n C 1 dX10_seat_22 rfl ?_
        have nx := ixn (x := x) (by omega)
        refine g_iald C (by decide) (ce_raseated ad cs _ _) (fin' (n := 30) rfl (by omega) (by omega)) dX10_seat_23 ?_
        refine g_ni (fun v8 ev8 => ?_)
        have gv8 : v8 = M 126 x.toNatClampNeg := ev8
        have tv8 := congrArg Int32.toInt gv8
        refine g_goto C 29 dX10_seat_24 (by decide) ?_
        exact g_iret C hr ⟨rfl, rfl, (Or.inl ⟨hg8, (by dsimp only [A_seat, hasC, hasB, hasX, hasM, ofS, ofK, bt, ix]; (repeat (first | rw [if_pos (by omega)] | rw [if_neg (by omega)])); first | done | rfl | (simp only [gv8, gv4]; done) | (simp only [gv8, gv4]; rfl) | (subst_vars; first | rfl | grind))⟩)⟩ dX10_seat_29
  ·
    obtain ⟨ra0, rb0⟩ := (show rg 0 30 (M 191 0) from hI 191 0 (Or.inl rfl))
    obtain ⟨ra2, rb2⟩ := (show rg 0 30 (M 191 2) from hI 191 2 (Or.inr rfl))
    refine g_iload_n C 1 dX10_seat_0 rfl ?_
    refine g_if_lt C 27 dX10_seat_1 (by decide) (fun c9 => ?_) (fun c9 => ?_)
    ·
      have f10 := fl rfl (by decide : (0 : Int32).toInt = 0) c9
      refine g_bipush C (-9) dX10_seat_27 (by decide) ?_
      have zr9 : ((-9) : Int32).toInt = (-9) := by decide
      exact g_iret C hr ⟨rfl, rfl, (Or.inr ⟨hg8, (by dsimp only [A_seat, hasC, hasB, hasX, hasM, ofS, ofK, bt, ix]; (repeat (first | rw [if_pos (by omega)] | rw [if_neg (by omega)])); first | done | rfl | (simp only [ix]; done) | (simp only [ix]; rfl) | (subst_vars; first | rfl | grind))⟩)⟩ dX10_seat_29
    ·
      have f11 := fnl rfl (by decide : (0 : Int32).toInt = 0) c9
      refine g_iload_n C 1 dX10_seat_4 rfl ?_
      refine g_aload_n C 0 dX10_seat_5 rfl ?_
      refine g_get C (.ref (ad ((M 0 8).toNatClampNeg))) 8 in_X10_seat_10 (List.mem_of_getElem? (i := 1) rfl) (by decide) (ce_house ad cs _ _) rfl (by decide) rfl rfl dX10_seat_6 ?_
      refine g_tr 191 (by rw [hg8]; rfl) ?_
      refine g_get C (.int (M 191 0)) 0 in_X10_seat_7 (List.mem_of_getElem? (i := 2) rfl) (by decide) (ce_rb ad cs _ _) rfl (by decide) rfl rfl dX10_seat_9 ?_
      refine g_ni (fun v12 ev12 => ?_)
      have gv12 : v12 = M 191 0 := ev12
      have tv12 := congrArg Int32.toInt gv12
      obtain ⟨bv12, dv12⟩ := (show rg 0 30 v12 from (by rw [ev12]; exact hI 191 0 (Or.inl rfl)))
      refine g_icmp_ge C 27 dX10_seat_12 (by decide) (fun c13 => ?_) (fun c13 => ?_)
      ·
        have f14 := fle rfl rfl c13
        refine g_bipush C (-9) dX10_seat_27 (by decide) ?_
        have zr9 : ((-9) : Int32).toInt = (-9) := by decide
        exact g_iret C hr ⟨rfl, rfl, (Or.inr ⟨hg8, (by dsimp only [A_seat, hasC, hasB, hasX, hasM, ofS, ofK, bt, ix]; (repeat (first | rw [if_pos (by omega)] | rw [if_neg (by omega)])); first | done | rfl | (simp only [gv12]; done) | (simp only [gv12]; rfl) | (subst_vars; first | rfl | grind))⟩)⟩ dX10_seat_29
      ·
        have f15 := fnle rfl rfl c13
        refine g_aload_n C 0 dX10_seat_15 rfl ?_
        refine g_get C (.ref (ad ((M 0 8).toNatClampNeg))) 8 in_X10_seat_10 (List.mem_of_getElem? (i := 1) rfl) (by decide) (ce_house ad cs _ _) rfl (by decide) rfl rfl dX10_seat_16 ?_
        refine g_tr 191 (by rw [hg8]; rfl) ?_
        refine g_get C (.ref (ad 192)) 1 in_X10_seat_7 (List.mem_of_getElem? (i := 3) rfl) (by decide) (ce_rb ad cs _ _) rfl (by decide) rfl rfl dX10_seat_19 ?_
        refine g_iload_n C 1 dX10_seat_22 rfl ?_
        have nx := ixn (x := x) (by omega)
        refine g_iald C (by decide) (ce_rbseated ad cs _ _) (fin' (n := 30) rfl (by omega) (by omega)) dX10_seat_23 ?_
        refine g_ni (fun v16 ev16 => ?_)
        have gv16 : v16 = M 192 x.toNatClampNeg := ev16
        have tv16 := congrArg Int32.toInt gv16
        refine g_goto C 29 dX10_seat_24 (by decide) ?_
        exact g_iret C hr ⟨rfl, rfl, (Or.inr ⟨hg8, (by dsimp only [A_seat, hasC, hasB, hasX, hasM, ofS, ofK, bt, ix]; (repeat (first | rw [if_pos (by omega)] | rw [if_neg (by omega)])); first | done | rfl | (simp only [gv16, gv12]; done) | (simp only [gv16, gv12]; rfl) | (subst_vars; first | rfl | grind))⟩)⟩ dX10_seat_29
set_option maxHeartbeats 4000000 in
set_option maxRecDepth 100000 in
theorem k_X10_rounds (l : Launch) (D : va_G) (ad : Nat → Nat) (cs : Nat → ClassId) (M : MI) (L : ML)  (hI : IC M) : Ci l yX10_rounds wsX10_rounds ({ frames := 0, cells := 0, slots := 0, locals := 0 }) D ad cs [.ref (ad 0)] M L (fun r M1 L1 => M1 = M ∧ L1 = L ∧ ((M 0 8 = 125 ∧ r = M 125 2) ∨ (M 0 8 = 191 ∧ r = M 191 2))) := by
  refine enter_i RX10 rfl [(0, .ref (ad 0))] rfl (Nat.le_of_ble_eq_true rfl) (by decide +kernel) rfl ?_
  intro p e s m below meth c C hr
  have hF : ∀ k i, True → M k i = M k i := fun _ _ _ => rfl
  have hG : ∀ k i, True → L k i = L k i := fun _ _ _ => rfl
  have w0 : (vC M 0 0).toInt = (M 1 0).toInt := rfl
  have w1 : (vC M 0 1).toInt = (M 3 0).toInt := rfl
  have w2 : (vC M 0 2).toInt = (M 68 0).toInt := rfl
  have w3 : (vC M 0 3).toInt = (M 81 0).toInt := rfl
  obtain ⟨y0a, y0b⟩ := (show rg 0 10 (M 1 0) from hI 1 0 rfl)
  obtain ⟨y1a, y1b⟩ := (show rg 0 60 (M 3 0) from hI 3 0 rfl)
  obtain ⟨y2a, y2b⟩ := (show rg 0 8 (M 68 0) from hI 68 0 rfl)
  obtain ⟨y3a, y3b⟩ := (show rg 0 20 (M 81 0) from hI 81 0 rfl)
  rcases (hI 0 8 (Or.inl rfl)) with hg8 | hg8
  ·
    obtain ⟨ra0, rb0⟩ := (show rg 0 30 (M 125 0) from hI 125 0 (Or.inl rfl))
    obtain ⟨ra2, rb2⟩ := (show rg 0 30 (M 125 2) from hI 125 2 (Or.inr rfl))
    refine g_aload_n C 0 dX10_rounds_0 rfl ?_
    refine g_get C (.ref (ad ((M 0 8).toNatClampNeg))) 8 in_X10_rounds_10 (List.mem_of_getElem? (i := 1) rfl) (by decide) (ce_house ad cs _ _) rfl (by decide) rfl rfl dX10_rounds_1 ?_
    refine g_tr 125 (by rw [hg8]; rfl) ?_
    refine g_get C (.int (M 125 2)) 2 in_X10_rounds_7 (List.mem_of_getElem? (i := 2) rfl) (by decide) (ce_ra ad cs _ _) rfl (by decide) rfl rfl dX10_rounds_4 ?_
    refine g_ni (fun v1 ev1 => ?_)
    have gv1 : v1 = M 125 2 := ev1
    have tv1 := congrArg Int32.toInt gv1
    obtain ⟨bv1, dv1⟩ := (show rg 0 30 v1 from (by rw [ev1]; exact hI 125 2 (Or.inr rfl)))
    exact g_iret C hr ⟨rfl, rfl, (Or.inl ⟨hg8, gv1⟩)⟩ dX10_rounds_7
  ·
    obtain ⟨ra0, rb0⟩ := (show rg 0 30 (M 191 0) from hI 191 0 (Or.inl rfl))
    obtain ⟨ra2, rb2⟩ := (show rg 0 30 (M 191 2) from hI 191 2 (Or.inr rfl))
    refine g_aload_n C 0 dX10_rounds_0 rfl ?_
    refine g_get C (.ref (ad ((M 0 8).toNatClampNeg))) 8 in_X10_rounds_10 (List.mem_of_getElem? (i := 1) rfl) (by decide) (ce_house ad cs _ _) rfl (by decide) rfl rfl dX10_rounds_1 ?_
    refine g_tr 191 (by rw [hg8]; rfl) ?_
    refine g_get C (.int (M 191 2)) 2 in_X10_rounds_7 (List.mem_of_getElem? (i := 2) rfl) (by decide) (ce_rb ad cs _ _) rfl (by decide) rfl rfl dX10_rounds_4 ?_
    refine g_ni (fun v2 ev2 => ?_)
    have gv2 : v2 = M 191 2 := ev2
    have tv2 := congrArg Int32.toInt gv2
    obtain ⟨bv2, dv2⟩ := (show rg 0 30 v2 from (by rw [ev2]; exact hI 191 2 (Or.inr rfl)))
    exact g_iret C hr ⟨rfl, rfl, (Or.inr ⟨hg8, gv2⟩)⟩ dX10_rounds_7
set_option maxHeartbeats 4000000 in
set_option maxRecDepth 100000 in
theorem k_X10_round (l : Launch) (D : va_G) (ad : Nat → Nat) (cs : Nat → ClassId) (M : MI) (L : ML) (x : Int32) (y : Int32) (hI : IC M) : Ci l yX10_round wsX10_round ({ frames := 1, cells := 0, slots := 0, locals := 21 }) D ad cs [.ref (ad 0), .int x, .int y] M L (fun r M1 L1 => M1 = M ∧ L1 = L ∧ ((M 0 8 = 125 ∧ r = A_round (M 125 2) (M 127) (M 128) x y) ∨ (M 0 8 = 191 ∧ r = A_round (M 191 2) (M 193) (M 194) x y))) := by
  refine enter_i RX10 rfl [(0, .ref (ad 0)), (1, .int x), (2, .int y)] rfl (Nat.le_of_ble_eq_true rfl) (by decide +kernel) rfl ?_
  intro p e s m below meth c C hr
  have hF : ∀ k i, True → M k i = M k i := fun _ _ _ => rfl
  have hG : ∀ k i, True → L k i = L k i := fun _ _ _ => rfl
  have w0 : (vC M 0 0).toInt = (M 1 0).toInt := rfl
  have w1 : (vC M 0 1).toInt = (M 3 0).toInt := rfl
  have w2 : (vC M 0 2).toInt = (M 68 0).toInt := rfl
  have w3 : (vC M 0 3).toInt = (M 81 0).toInt := rfl
  obtain ⟨y0a, y0b⟩ := (show rg 0 10 (M 1 0) from hI 1 0 rfl)
  obtain ⟨y1a, y1b⟩ := (show rg 0 60 (M 3 0) from hI 3 0 rfl)
  obtain ⟨y2a, y2b⟩ := (show rg 0 8 (M 68 0) from hI 68 0 rfl)
  obtain ⟨y3a, y3b⟩ := (show rg 0 20 (M 81 0) from hI 81 0 rfl)
  rcases (hI 0 8 (Or.inl rfl)) with hg8 | hg8
  ·
    obtain ⟨ra0, rb0⟩ := (show rg 0 30 (M 125 0) from hI 125 0 (Or.inl rfl))
    obtain ⟨ra2, rb2⟩ := (show rg 0 30 (M 125 2) from hI 125 2 (Or.inr rfl))
    refine g_iload_n C 2 dX10_round_0 rfl ?_
    refine g_if_eq C 11 dX10_round_1 (by decide) (fun c1 => ?_) (fun c1 => ?_)
    ·
      have f2 := feq rfl (by decide : (0 : Int32).toInt = 0) c1
      refine g_aload_n C 0 dX10_round_11 rfl ?_
      refine g_get C (.ref (ad ((M 0 8).toNatClampNeg))) 8 in_X10_round_10 (List.mem_of_getElem? (i := 1) rfl) (by decide) (ce_house ad cs _ _) rfl (by decide) rfl rfl dX10_round_12 ?_
      refine g_tr 125 (by rw [hg8]; rfl) ?_
      refine g_iload_n C 1 dX10_round_15 rfl ?_
      refine g_callVi C (n := 1) (As := [.int x]) (st := []) (k_X7_hasRound_a l D ad cs _ _ x hI ) gX10_round_X7_hasRound rfl rfl rfl (by decide +kernel) ⟨Nat.le_of_ble_eq_true rfl, Nat.le_of_ble_eq_true rfl⟩ rfl (Nat.le_of_ble_eq_true rfl) ⟨Nat.zero_le _, Nat.zero_le _⟩ (by decide) (ce_ra ad cs _ _) rfl rfl dX10_round_16 (fun r3 M4 L5 hr3 => ?_)
      obtain ⟨hq1, hq2, hr3⟩ := hr3
      obtain rfl := hq1.symm
      obtain rfl := hq2.symm
      obtain ⟨bar3, bbr3⟩ := zo_b hr3
      refine g_if_ne C 25 dX10_round_19 (by decide) (fun c6 => ?_) (fun c6 => ?_)
      ·
        have f7 := fne rfl (by decide : (0 : Int32).toInt = 0) c6
        have pr3 := zo_t hr3 c6
        try dsimp only [hasC, hasB, hasX, hasM, ofS, ofK, bt] at pr3
        refine g_iload_n C 2 dX10_round_25 rfl ?_
        refine g_if_ne C 41 dX10_round_26 (by decide) (fun c8 => ?_) (fun c8 => ?_)
        ·
          have f9 := fne rfl (by decide : (0 : Int32).toInt = 0) c8
          refine g_aload_n C 0 dX10_round_41 rfl ?_
          refine g_get C (.ref (ad ((M 0 8).toNatClampNeg))) 8 in_X10_round_10 (List.mem_of_getElem? (i := 1) rfl) (by decide) (ce_house ad cs _ _) rfl (by decide) rfl rfl dX10_round_42 ?_
          refine g_tr 125 (by rw [hg8]; rfl) ?_
          refine g_get C (.ref (ad 128)) 4 in_X10_round_7 (List.mem_of_getElem? (i := 3) rfl) (by decide) (ce_ra ad cs _ _) rfl (by decide) rfl rfl dX10_round_45 ?_
          refine g_iload_n C 1 dX10_round_48 rfl ?_
          have nx := ixn (x := x) (by omega)
          refine g_iald C (by decide) (ce_rawhom ad cs _ _) (fin' (n := 30) rfl (by omega) (by omega)) dX10_round_49 ?_
          refine g_ni (fun v10 ev10 => ?_)
          have gv10 : v10 = M 128 x.toNatClampNeg := ev10
          have tv10 := congrArg Int32.toInt gv10
          exact g_iret C hr ⟨rfl, rfl, (Or.inl ⟨hg8, (by dsimp only [A_round, hasC, hasB, hasX, hasM, ofS, ofK, bt, ix]; (repeat (first | rw [if_pos (by omega)] | rw [if_neg (by omega)])); first | done | rfl | (simp only [gv10]; done) | (simp only [gv10]; rfl) | (subst_vars; first | rfl | grind))⟩)⟩ dX10_round_50
        ·
          have f11 := feq rfl (by decide : (0 : Int32).toInt = 0) c8
          refine g_aload_n C 0 dX10_round_29 rfl ?_
          refine g_get C (.ref (ad ((M 0 8).toNatClampNeg))) 8 in_X10_round_10 (List.mem_of_getElem? (i := 1) rfl) (by decide) (ce_house ad cs _ _) rfl (by decide) rfl rfl dX10_round_30 ?_
          refine g_tr 125 (by rw [hg8]; rfl) ?_
          refine g_get C (.ref (ad 127)) 3 in_X10_round_7 (List.mem_of_getElem? (i := 2) rfl) (by decide) (ce_ra ad cs _ _) rfl (by decide) rfl rfl dX10_round_33 ?_
          refine g_iload_n C 1 dX10_round_36 rfl ?_
          have nx := ixn (x := x) (by omega)
          refine g_iald C (by decide) (ce_rahap ad cs _ _) (fin' (n := 30) rfl (by omega) (by omega)) dX10_round_37 ?_
          refine g_ni (fun v12 ev12 => ?_)
          have gv12 : v12 = M 127 x.toNatClampNeg := ev12
          have tv12 := congrArg Int32.toInt gv12
          refine g_goto C 50 dX10_round_38 (by decide) ?_
          exact g_iret C hr ⟨rfl, rfl, (Or.inl ⟨hg8, (by dsimp only [A_round, hasC, hasB, hasX, hasM, ofS, ofK, bt, ix]; (repeat (first | rw [if_pos (by omega)] | rw [if_neg (by omega)])); first | done | rfl | (simp only [gv12]; done) | (simp only [gv12]; rfl) | (subst_vars; first | rfl | grind))⟩)⟩ dX10_round_50
      ·
        have f13 := feq rfl (by decide : (0 : Int32).toInt = 0) c6
        have pr3 := zo_f hr3 c6
        try dsimp only [hasC, hasB, hasX, hasM, ofS, ofK, bt] at pr3
        refine g_bipush C (-9) dX10_round_22 (by decide) ?_
        have zr9 : ((-9) : Int32).toInt = (-9) := by decide
        exact g_iret C hr ⟨rfl, rfl, (Or.inl ⟨hg8, (by dsimp only [A_round, hasC, hasB, hasX, hasM, ofS, ofK, bt, ix]; (repeat (first | rw [if_pos (by omega)] | rw [if_neg (by omega)])); first | done | rfl | (simp only [ix]; done) | (simp only [ix]; rfl) | (subst_vars; first | rfl | grind))⟩)⟩ dX10_round_24
    ·
      have f14 := fne rfl (by decide : (0 : Int32).toInt = 0) c1
      refine g_iload_n C 2 dX10_round_4 rfl ?_
      refine g_iconst C 1 dX10_round_5 (by decide) ?_
      refine g_icmp_eq C 11 dX10_round_6 (by decide) (fun c15 => ?_) (fun c15 => ?_)
      ·
        have f16 := feq rfl (by decide : (1 : Int32).toInt = 1) c15
        refine g_aload_n C 0 dX10_round_11 rfl ?_
        refine g_get C (.ref (ad ((M 0 8).toNatClampNeg))) 8 in_X10_round_10 (List.mem_of_getElem? (i := 1) rfl) (by decide) (ce_house ad cs _ _) rfl (by decide) rfl rfl dX10_round_12 ?_
        refine g_tr 125 (by rw [hg8]; rfl) ?_
        refine g_iload_n C 1 dX10_round_15 rfl ?_
        refine g_callVi C (n := 1) (As := [.int x]) (st := []) (k_X7_hasRound_a l D ad cs _ _ x hI ) gX10_round_X7_hasRound rfl rfl rfl (by decide +kernel) ⟨Nat.le_of_ble_eq_true rfl, Nat.le_of_ble_eq_true rfl⟩ rfl (Nat.le_of_ble_eq_true rfl) ⟨Nat.zero_le _, Nat.zero_le _⟩ (by decide) (ce_ra ad cs _ _) rfl rfl dX10_round_16 (fun r17 M18 L19 hr17 => ?_)
        obtain ⟨hq1, hq2, hr17⟩ := hr17
        obtain rfl := hq1.symm
        obtain rfl := hq2.symm
        obtain ⟨bar17, bbr17⟩ := zo_b hr17
        refine g_if_ne C 25 dX10_round_19 (by decide) (fun c20 => ?_) (fun c20 => ?_)
        ·
          have f21 := fne rfl (by decide : (0 : Int32).toInt = 0) c20
          have pr17 := zo_t hr17 c20
          try dsimp only [hasC, hasB, hasX, hasM, ofS, ofK, bt] at pr17
          refine g_iload_n C 2 dX10_round_25 rfl ?_
          refine g_if_ne C 41 dX10_round_26 (by decide) (fun c22 => ?_) (fun c22 => ?_)
          ·
            have f23 := fne rfl (by decide : (0 : Int32).toInt = 0) c22
            refine g_aload_n C 0 dX10_round_41 rfl ?_
            refine g_get C (.ref (ad ((M 0 8).toNatClampNeg))) 8 in_X10_round_10 (List.mem_of_getElem? (i := 1) rfl) (by decide) (ce_house ad cs _ _) rfl (by decide) rfl rfl dX10_round_42 ?_
            refine g_tr 125 (by rw [hg8]; rfl) ?_
            refine g_get C (.ref (ad 128)) 4 in_X10_round_7 (List.mem_of_getElem? (i := 3) rfl) (by decide) (ce_ra ad cs _ _) rfl (by decide) rfl rfl dX10_round_45 ?_
            refine g_iload_n C 1 dX10_round_48 rfl ?_
            have nx := ixn (x := x) (by omega)
            refine g_iald C (by decide) (ce_rawhom ad cs _ _) (fin' (n := 30) rfl (by omega) (by omega)) dX10_round_49 ?_
            refine g_ni (fun v24 ev24 => ?_)
            have gv24 : v24 = M 128 x.toNatClampNeg := ev24
            have tv24 := congrArg Int32.toInt gv24
            exact g_iret C hr ⟨rfl, rfl, (Or.inl ⟨hg8, (by dsimp only [A_round, hasC, hasB, hasX, hasM, ofS, ofK, bt, ix]; (repeat (first | rw [if_pos (by omega)] | rw [if_neg (by omega)])); first | done | rfl | (simp only [gv24]; done) | (simp only [gv24]; rfl) | (subst_vars; first | rfl | grind))⟩)⟩ dX10_round_50
          ·
            have f25 := feq rfl (by decide : (0 : Int32).toInt = 0) c22
            refine g_aload_n C 0 dX10_round_29 rfl ?_
            refine g_get C (.ref (ad ((M 0 8).toNatClampNeg))) 8 in_X10_round_10 (List.mem_of_getElem? (i := 1) rfl) (by decide) (ce_house ad cs _ _) rfl (by decide) rfl rfl dX10_round_30 ?_
            refine g_tr 125 (by rw [hg8]; rfl) ?_
            refine g_get C (.ref (ad 127)) 3 in_X10_round_7 (List.mem_of_getElem? (i := 2) rfl) (by decide) (ce_ra ad cs _ _) rfl (by decide) rfl rfl dX10_round_33 ?_
            refine g_iload_n C 1 dX10_round_36 rfl ?_
            have nx := ixn (x := x) (by omega)
            refine g_iald C (by decide) (ce_rahap ad cs _ _) (fin' (n := 30) rfl (by omega) (by omega)) dX10_round_37 ?_
            refine g_ni (fun v26 ev26 => ?_)
            have gv26 : v26 = M 127 x.toNatClampNeg := ev26
            have tv26 := congrArg Int32.toInt gv26
            refine g_goto C 50 dX10_round_38 (by decide) ?_
            exact g_iret C hr ⟨rfl, rfl, (Or.inl ⟨hg8, (by dsimp only [A_round, hasC, hasB, hasX, hasM, ofS, ofK, bt, ix]; (repeat (first | rw [if_pos (by omega)] | rw [if_neg (by omega)])); first | done | rfl | (simp only [gv26]; done) | (simp only [gv26]; rfl) | (subst_vars; first | rfl | grind))⟩)⟩ dX10_round_50
        ·
          have f27 := feq rfl (by decide : (0 : Int32).toInt = 0) c20
          have pr17 := zo_f hr17 c20
          try dsimp only [hasC, hasB, hasX, hasM, ofS, ofK, bt] at pr17
          refine g_bipush C (-9) dX10_round_22 (by decide) ?_
          have zr9 : ((-9) : Int32).toInt = (-9) := by decide
          exact g_iret C hr ⟨rfl, rfl, (Or.inl ⟨hg8, (by dsimp only [A_round, hasC, hasB, hasX, hasM, ofS, ofK, bt, ix]; (repeat (first | rw [if_pos (by omega)] | rw [if_neg (by omega)])); first | done | rfl | (simp only [ix]; done) | (simp only [ix]; rfl) | (subst_vars; first | rfl | grind))⟩)⟩ dX10_round_24
      ·
        have f28 := fne rfl (by decide : (1 : Int32).toInt = 1) c15
        refine g_iconst C (-1) dX10_round_9 (by decide) ?_
        have zr9 : ((-1) : Int32).toInt = (-1) := by decide
        exact g_iret C hr ⟨rfl, rfl, (Or.inl ⟨hg8, (by dsimp only [A_round, hasC, hasB, hasX, hasM, ofS, ofK, bt, ix]; (repeat (first | rw [if_pos (by omega)] | rw [if_neg (by omega)])); first | done | rfl | (simp only [ix]; done) | (simp only [ix]; rfl) | (subst_vars; first | rfl | grind))⟩)⟩ dX10_round_10
  ·
    obtain ⟨ra0, rb0⟩ := (show rg 0 30 (M 191 0) from hI 191 0 (Or.inl rfl))
    obtain ⟨ra2, rb2⟩ := (show rg 0 30 (M 191 2) from hI 191 2 (Or.inr rfl))
    refine g_iload_n C 2 dX10_round_0 rfl ?_
    refine g_if_eq C 11 dX10_round_1 (by decide) (fun c29 => ?_) (fun c29 => ?_)
    ·
      have f30 := feq rfl (by decide : (0 : Int32).toInt = 0) c29
      refine g_aload_n C 0 dX10_round_11 rfl ?_
      refine g_get C (.ref (ad ((M 0 8).toNatClampNeg))) 8 in_X10_round_10 (List.mem_of_getElem? (i := 1) rfl) (by decide) (ce_house ad cs _ _) rfl (by decide) rfl rfl dX10_round_12 ?_
      refine g_tr 191 (by rw [hg8]; rfl) ?_
      refine g_iload_n C 1 dX10_round_15 rfl ?_
      refine g_callVi C (n := 1) (As := [.int x]) (st := []) (k_X7_hasRound_b l D ad cs _ _ x hI ) gX10_round_X7_hasRound rfl rfl rfl (by decide +kernel) ⟨Nat.le_of_ble_eq_true rfl, Nat.le_of_ble_eq_true rfl⟩ rfl (Nat.le_of_ble_eq_true rfl) ⟨Nat.zero_le _, Nat.zero_le _⟩ (by decide) (ce_rb ad cs _ _) rfl rfl dX10_round_16 (fun r31 M32 L33 hr31 => ?_)
      obtain ⟨hq1, hq2, hr31⟩ := hr31
      obtain rfl := hq1.symm
      obtain rfl := hq2.symm
      obtain ⟨bar31, bbr31⟩ := zo_b hr31
      refine g_if_ne C 25 dX10_round_19 (by decide) (fun c34 => ?_) (fun c34 => ?_)
      ·
        have f35 := fne rfl (by decide : (0 : Int32).toInt = 0) c34
        have pr31 := zo_t hr31 c34
        try dsimp only [hasC, hasB, hasX, hasM, ofS, ofK, bt] at pr31
        refine g_iload_n C 2 dX10_round_25 rfl ?_
        refine g_if_ne C 41 dX10_round_26 (by decide) (fun c36 => ?_) (fun c36 => ?_)
        ·
          have f37 := fne rfl (by decide : (0 : Int32).toInt = 0) c36
          refine g_aload_n C 0 dX10_round_41 rfl ?_
          refine g_get C (.ref (ad ((M 0 8).toNatClampNeg))) 8 in_X10_round_10 (List.mem_of_getElem? (i := 1) rfl) (by decide) (ce_house ad cs _ _) rfl (by decide) rfl rfl dX10_round_42 ?_
          refine g_tr 191 (by rw [hg8]; rfl) ?_
          refine g_get C (.ref (ad 194)) 4 in_X10_round_7 (List.mem_of_getElem? (i := 3) rfl) (by decide) (ce_rb ad cs _ _) rfl (by decide) rfl rfl dX10_round_45 ?_
          refine g_iload_n C 1 dX10_round_48 rfl ?_
          have nx := ixn (x := x) (by omega)
          refine g_iald C (by decide) (ce_rbwhom ad cs _ _) (fin' (n := 30) rfl (by omega) (by omega)) dX10_round_49 ?_
          refine g_ni (fun v38 ev38 => ?_)
          have gv38 : v38 = M 194 x.toNatClampNeg := ev38
          have tv38 := congrArg Int32.toInt gv38
          exact g_iret C hr ⟨rfl, rfl, (Or.inr ⟨hg8, (by dsimp only [A_round, hasC, hasB, hasX, hasM, ofS, ofK, bt, ix]; (repeat (first | rw [if_pos (by omega)] | rw [if_neg (by omega)])); first | done | rfl | (simp only [gv38]; done) | (simp only [gv38]; rfl) | (subst_vars; first | rfl | grind))⟩)⟩ dX10_round_50
        ·
          have f39 := feq rfl (by decide : (0 : Int32).toInt = 0) c36
          refine g_aload_n C 0 dX10_round_29 rfl ?_
          refine g_get C (.ref (ad ((M 0 8).toNatClampNeg))) 8 in_X10_round_10 (List.mem_of_getElem? (i := 1) rfl) (by decide) (ce_house ad cs _ _) rfl (by decide) rfl rfl dX10_round_30 ?_
          refine g_tr 191 (by rw [hg8]; rfl) ?_
          refine g_get C (.ref (ad 193)) 3 in_X10_round_7 (List.mem_of_getElem? (i := 2) rfl) (by decide) (ce_rb ad cs _ _) rfl (by decide) rfl rfl dX10_round_33 ?_
          refine g_iload_n C 1 dX10_round_36 rfl ?_
          have nx := ixn (x := x) (by omega)
          refine g_iald C (by decide) (ce_rbhap ad cs _ _) (fin' (n := 30) rfl (by omega) (by omega)) dX10_round_37 ?_
          refine g_ni (fun v40 ev40 => ?_)
          have gv40 : v40 = M 193 x.toNatClampNeg := ev40
          have tv40 := congrArg Int32.toInt gv40
          refine g_goto C 50 dX10_round_38 (by decide) ?_
          exact g_iret C hr ⟨rfl, rfl, (Or.inr ⟨hg8, (by dsimp only [A_round, hasC, hasB, hasX, hasM, ofS, ofK, bt, ix]; (repeat (first | rw [if_pos (by omega)] | rw [if_neg (by omega)])); first | done | rfl | (simp only [gv40]; done) | (simp only [gv40]; rfl) | (subst_vars; first | rfl | grind))⟩)⟩ dX10_round_50
      ·
        have f41 := feq rfl (by decide : (0 : Int32).toInt = 0) c34
        have pr31 := zo_f hr31 c34
        try dsimp only [hasC, hasB, hasX, hasM, ofS, ofK, bt] at pr31
        refine g_bipush C (-9) dX10_round_22 (by decide) ?_
        have zr9 : ((-9) : Int32).toInt = (-9) := by decide
        exact g_iret C hr ⟨rfl, rfl, (Or.inr ⟨hg8, (by dsimp only [A_round, hasC, hasB, hasX, hasM, ofS, ofK, bt, ix]; (repeat (first | rw [if_pos (by omega)] | rw [if_neg (by omega)])); first | done | rfl | (simp only [ix]; done) | (simp only [ix]; rfl) | (subst_vars; first | rfl | grind))⟩)⟩ dX10_round_24
    ·
      have f42 := fne rfl (by decide : (0 : Int32).toInt = 0) c29
      refine g_iload_n C 2 dX10_round_4 rfl ?_
      refine g_iconst C 1 dX10_round_5 (by decide) ?_
      refine g_icmp_eq C 11 dX10_round_6 (by decide) (fun c43 => ?_) (fun c43 => ?_)
      ·
        have f44 := feq rfl (by decide : (1 : Int32).toInt = 1) c43
        refine g_aload_n C 0 dX10_round_11 rfl ?_
        refine g_get C (.ref (ad ((M 0 8).toNatClampNeg))) 8 in_X10_round_10 (List.mem_of_getElem? (i := 1) rfl) (by decide) (ce_house ad cs _ _) rfl (by decide) rfl rfl dX10_round_12 ?_
        refine g_tr 191 (by rw [hg8]; rfl) ?_
        refine g_iload_n C 1 dX10_round_15 rfl ?_
        refine g_callVi C (n := 1) (As := [.int x]) (st := []) (k_X7_hasRound_b l D ad cs _ _ x hI ) gX10_round_X7_hasRound rfl rfl rfl (by decide +kernel) ⟨Nat.le_of_ble_eq_true rfl, Nat.le_of_ble_eq_true rfl⟩ rfl (Nat.le_of_ble_eq_true rfl) ⟨Nat.zero_le _, Nat.zero_le _⟩ (by decide) (ce_rb ad cs _ _) rfl rfl dX10_round_16 (fun r45 M46 L47 hr45 => ?_)
        obtain ⟨hq1, hq2, hr45⟩ := hr45
        obtain rfl := hq1.symm
        obtain rfl := hq2.symm
        obtain ⟨bar45, bbr45⟩ := zo_b hr45
        refine g_if_ne C 25 dX10_round_19 (by decide) (fun c48 => ?_) (fun c48 => ?_)
        ·
          have f49 := fne rfl (by decide : (0 : Int32).toInt = 0) c48
          have pr45 := zo_t hr45 c48
          try dsimp only [hasC, hasB, hasX, hasM, ofS, ofK, bt] at pr45
          refine g_iload_n C 2 dX10_round_25 rfl ?_
          refine g_if_ne C 41 dX10_round_26 (by decide) (fun c50 => ?_) (fun c50 => ?_)
          ·
            have f51 := fne rfl (by decide : (0 : Int32).toInt = 0) c50
            refine g_aload_n C 0 dX10_round_41 rfl ?_
            refine g_get C (.ref (ad ((M 0 8).toNatClampNeg))) 8 in_X10_round_10 (List.mem_of_getElem? (i := 1) rfl) (by decide) (ce_house ad cs _ _) rfl (by decide) rfl rfl dX10_round_42 ?_
            refine g_tr 191 (by rw [hg8]; rfl) ?_
            refine g_get C (.ref (ad 194)) 4 in_X10_round_7 (List.mem_of_getElem? (i := 3) rfl) (by decide) (ce_rb ad cs _ _) rfl (by decide) rfl rfl dX10_round_45 ?_
            refine g_iload_n C 1 dX10_round_48 rfl ?_
            have nx := ixn (x := x) (by omega)
            refine g_iald C (by decide) (ce_rbwhom ad cs _ _) (fin' (n := 30) rfl (by omega) (by omega)) dX10_round_49 ?_
            refine g_ni (fun v52 ev52 => ?_)
            have gv52 : v52 = M 194 x.toNatClampNeg := ev52
            have tv52 := congrArg Int32.toInt gv52
            exact g_iret C hr ⟨rfl, rfl, (Or.inr ⟨hg8, (by dsimp only [A_round, hasC, hasB, hasX, hasM, ofS, ofK, bt, ix]; (repeat (first | rw [if_pos (by omega)] | rw [if_neg (by omega)])); first | done | rfl | (simp only [gv52]; done) | (simp only [gv52]; rfl) | (subst_vars; first | rfl | grind))⟩)⟩ dX10_round_50
          ·
            have f53 := feq rfl (by decide : (0 : Int32).toInt = 0) c50
            refine g_aload_n C 0 dX10_round_29 rfl ?_
            refine g_get C (.ref (ad ((M 0 8).toNatClampNeg))) 8 in_X10_round_10 (List.mem_of_getElem? (i := 1) rfl) (by decide) (ce_house ad cs _ _) rfl (by decide) rfl rfl dX10_round_30 ?_
            refine g_tr 191 (by rw [hg8]; rfl) ?_
            refine g_get C (.ref (ad 193)) 3 in_X10_round_7 (List.mem_of_getElem? (i := 2) rfl) (by decide) (ce_rb ad cs _ _) rfl (by decide) rfl rfl dX10_round_33 ?_
            refine g_iload_n C 1 dX10_round_36 rfl ?_
            have nx := ixn (x := x) (by omega)
            refine g_iald C (by decide) (ce_rbhap ad cs _ _) (fin' (n := 30) rfl (by omega) (by omega)) dX10_round_37 ?_
            refine g_ni (fun v54 ev54 => ?_)
            have gv54 : v54 = M 193 x.toNatClampNeg := ev54
            have tv54 := congrArg Int32.toInt gv54
            refine g_goto C 50 dX10_round_38 (by decide) ?_
            exact g_iret C hr ⟨rfl, rfl, (Or.inr ⟨hg8, (by dsimp only [A_round, hasC, hasB, hasX, hasM, ofS, ofK, bt, ix]; (repeat (first | rw [if_pos (by omega)] | rw [if_neg (by omega)])); first | done | rfl | (simp only [gv54]; done) | (simp only [gv54]; rfl) | (subst_vars; first | rfl | grind))⟩)⟩ dX10_round_50
        ·
          have f55 := feq rfl (by decide : (0 : Int32).toInt = 0) c48
          have pr45 := zo_f hr45 c48
          try dsimp only [hasC, hasB, hasX, hasM, ofS, ofK, bt] at pr45
          refine g_bipush C (-9) dX10_round_22 (by decide) ?_
          have zr9 : ((-9) : Int32).toInt = (-9) := by decide
          exact g_iret C hr ⟨rfl, rfl, (Or.inr ⟨hg8, (by dsimp only [A_round, hasC, hasB, hasX, hasM, ofS, ofK, bt, ix]; (repeat (first | rw [if_pos (by omega)] | rw [if_neg (by omega)])); first | done | rfl | (simp only [ix]; done) | (simp only [ix]; rfl) | (subst_vars; first | rfl | grind))⟩)⟩ dX10_round_24
      ·
        have f56 := fne rfl (by decide : (1 : Int32).toInt = 1) c43
        refine g_iconst C (-1) dX10_round_9 (by decide) ?_
        have zr9 : ((-1) : Int32).toInt = (-1) := by decide
        exact g_iret C hr ⟨rfl, rfl, (Or.inr ⟨hg8, (by dsimp only [A_round, hasC, hasB, hasX, hasM, ofS, ofK, bt, ix]; (repeat (first | rw [if_pos (by omega)] | rw [if_neg (by omega)])); first | done | rfl | (simp only [ix]; done) | (simp only [ix]; rfl) | (subst_vars; first | rfl | grind))⟩)⟩ dX10_round_10
set_option maxHeartbeats 4000000 in
set_option maxRecDepth 100000 in
theorem k_X10_many (l : Launch) (D : va_G) (ad : Nat → Nat) (cs : Nat → ClassId) (M : MI) (L : ML) (x : Int32) (hI : IC M) : Ci l yX10_many wsX10_many ({ frames := 0, cells := 0, slots := 0, locals := 0 }) D ad cs [.ref (ad 0), .int x] M L (fun r M1 L1 => M1 = M ∧ L1 = L ∧ ((M 0 8 = 125 ∧ r = A_many (vC M) (M 125 0) x) ∨ (M 0 8 = 191 ∧ r = A_many (vC M) (M 191 0) x))) := by
  refine enter_i RX10 rfl [(0, .ref (ad 0)), (1, .int x)] rfl (Nat.le_of_ble_eq_true rfl) (by decide +kernel) rfl ?_
  intro p e s m below meth c C hr
  have hF : ∀ k i, True → M k i = M k i := fun _ _ _ => rfl
  have hG : ∀ k i, True → L k i = L k i := fun _ _ _ => rfl
  have w0 : (vC M 0 0).toInt = (M 1 0).toInt := rfl
  have w1 : (vC M 0 1).toInt = (M 3 0).toInt := rfl
  have w2 : (vC M 0 2).toInt = (M 68 0).toInt := rfl
  have w3 : (vC M 0 3).toInt = (M 81 0).toInt := rfl
  obtain ⟨y0a, y0b⟩ := (show rg 0 10 (M 1 0) from hI 1 0 rfl)
  obtain ⟨y1a, y1b⟩ := (show rg 0 60 (M 3 0) from hI 3 0 rfl)
  obtain ⟨y2a, y2b⟩ := (show rg 0 8 (M 68 0) from hI 68 0 rfl)
  obtain ⟨y3a, y3b⟩ := (show rg 0 20 (M 81 0) from hI 81 0 rfl)
  rcases (hI 0 8 (Or.inl rfl)) with hg8 | hg8
  ·
    obtain ⟨ra0, rb0⟩ := (show rg 0 30 (M 125 0) from hI 125 0 (Or.inl rfl))
    obtain ⟨ra2, rb2⟩ := (show rg 0 30 (M 125 2) from hI 125 2 (Or.inr rfl))
    refine g_iload_n C 1 dX10_many_0 rfl ?_
    by_cases hsw : x.toInt < 0 ∨ 4 < x.toInt
    ·
      refine g_tableOut C 76 dX10_many_1 hsw (by decide) ?_
      refine g_iconst C (-1) dX10_many_76 (by decide) ?_
      have zr9 : ((-1) : Int32).toInt = (-1) := by decide
      exact g_iret C hr ⟨rfl, rfl, (Or.inl ⟨hg8, (by dsimp only [A_many, hasC, hasB, hasX, hasM, ofS, ofK, bt, ix]; (repeat (first | rw [if_pos (by omega)] | rw [if_neg (by omega)])); first | done | rfl | (simp only [ix]; done) | (simp only [ix]; rfl) | (subst_vars; first | rfl | grind))⟩)⟩ dX10_many_77
    ·
      have hsw1 : ¬ x.toInt < 0 := fun h => hsw (Or.inl h)
      have hsw2 : ¬ 4 < x.toInt := fun h => hsw (Or.inr h)
      rcases (show x.toInt = 0 ∨ x.toInt = 1 ∨ x.toInt = 2 ∨ x.toInt = 3 ∨ x.toInt = 4 by omega) with hq | hq | hq | hq | hq
      ·
        refine g_tableIn C 36 dX10_many_1 hsw1 hsw2 (off := 35) (by rw [hq]; rfl) (by decide) ?_
        refine g_aload_n C 0 dX10_many_36 rfl ?_
        refine g_get C (.ref (ad 1)) 0 in_X10_many_10 (List.mem_of_getElem? (i := 1) rfl) (by decide) (ce_house ad cs _ _) rfl (by decide) rfl rfl dX10_many_37 ?_
        refine g_get C (.int (M 1 0)) 0 in_X10_many_2 (List.mem_of_getElem? (i := 2) rfl) (by decide) (ce_cand ad cs _ _) rfl (by decide) rfl rfl dX10_many_40 ?_
        refine g_ni (fun v1 ev1 => ?_)
        have gv1 : v1 = vC M 0 0 := ev1
        have tv1 := congrArg Int32.toInt gv1
        obtain ⟨bv1, dv1⟩ := (show rg 0 10 v1 from (by rw [ev1]; exact hI 1 0 rfl))
        exact g_iret C hr ⟨rfl, rfl, (Or.inl ⟨hg8, (by dsimp only [A_many, hasC, hasB, hasX, hasM, ofS, ofK, bt, ix]; (repeat (first | rw [if_pos (by omega)] | rw [if_neg (by omega)])); first | done | rfl | (simp only [gv1]; done) | (simp only [gv1]; rfl) | (subst_vars; first | rfl | grind))⟩)⟩ dX10_many_43
      ·
        refine g_tableIn C 44 dX10_many_1 hsw1 hsw2 (off := 43) (by rw [hq]; rfl) (by decide) ?_
        refine g_aload_n C 0 dX10_many_44 rfl ?_
        refine g_get C (.ref (ad 3)) 1 in_X10_many_10 (List.mem_of_getElem? (i := 3) rfl) (by decide) (ce_house ad cs _ _) rfl (by decide) rfl rfl dX10_many_45 ?_
        refine g_get C (.int (M 3 0)) 0 in_X10_many_0 (List.mem_of_getElem? (i := 4) rfl) (by decide) (ce_ball ad cs _ _) rfl (by decide) rfl rfl dX10_many_48 ?_
        refine g_ni (fun v2 ev2 => ?_)
        have gv2 : v2 = vC M 0 1 := ev2
        have tv2 := congrArg Int32.toInt gv2
        obtain ⟨bv2, dv2⟩ := (show rg 0 60 v2 from (by rw [ev2]; exact hI 3 0 rfl))
        exact g_iret C hr ⟨rfl, rfl, (Or.inl ⟨hg8, (by dsimp only [A_many, hasC, hasB, hasX, hasM, ofS, ofK, bt, ix]; (repeat (first | rw [if_pos (by omega)] | rw [if_neg (by omega)])); first | done | rfl | (simp only [gv2]; done) | (simp only [gv2]; rfl) | (subst_vars; first | rfl | grind))⟩)⟩ dX10_many_51
      ·
        refine g_tableIn C 52 dX10_many_1 hsw1 hsw2 (off := 51) (by rw [hq]; rfl) (by decide) ?_
        refine g_aload_n C 0 dX10_many_52 rfl ?_
        refine g_get C (.ref (ad 68)) 2 in_X10_many_10 (List.mem_of_getElem? (i := 5) rfl) (by decide) (ce_house ad cs _ _) rfl (by decide) rfl rfl dX10_many_53 ?_
        refine g_get C (.int (M 68 0)) 0 in_X10_many_1 (List.mem_of_getElem? (i := 6) rfl) (by decide) (ce_box ad cs _ _) rfl (by decide) rfl rfl dX10_many_56 ?_
        refine g_ni (fun v3 ev3 => ?_)
        have gv3 : v3 = vC M 0 2 := ev3
        have tv3 := congrArg Int32.toInt gv3
        obtain ⟨bv3, dv3⟩ := (show rg 0 8 v3 from (by rw [ev3]; exact hI 68 0 rfl))
        exact g_iret C hr ⟨rfl, rfl, (Or.inl ⟨hg8, (by dsimp only [A_many, hasC, hasB, hasX, hasM, ofS, ofK, bt, ix]; (repeat (first | rw [if_pos (by omega)] | rw [if_neg (by omega)])); first | done | rfl | (simp only [gv3]; done) | (simp only [gv3]; rfl) | (subst_vars; first | rfl | grind))⟩)⟩ dX10_many_59
      ·
        refine g_tableIn C 60 dX10_many_1 hsw1 hsw2 (off := 59) (by rw [hq]; rfl) (by decide) ?_
        refine g_aload_n C 0 dX10_many_60 rfl ?_
        refine g_get C (.ref (ad 81)) 3 in_X10_many_10 (List.mem_of_getElem? (i := 7) rfl) (by decide) (ce_house ad cs _ _) rfl (by decide) rfl rfl dX10_many_61 ?_
        refine g_get C (.int (M 81 0)) 0 in_X10_many_4 (List.mem_of_getElem? (i := 8) rfl) (by decide) (ce_meth ad cs _ _) rfl (by decide) rfl rfl dX10_many_64 ?_
        refine g_ni (fun v4 ev4 => ?_)
        have gv4 : v4 = vC M 0 3 := ev4
        have tv4 := congrArg Int32.toInt gv4
        obtain ⟨bv4, dv4⟩ := (show rg 0 20 v4 from (by rw [ev4]; exact hI 81 0 rfl))
        exact g_iret C hr ⟨rfl, rfl, (Or.inl ⟨hg8, (by dsimp only [A_many, hasC, hasB, hasX, hasM, ofS, ofK, bt, ix]; (repeat (first | rw [if_pos (by omega)] | rw [if_neg (by omega)])); first | done | rfl | (simp only [gv4]; done) | (simp only [gv4]; rfl) | (subst_vars; first | rfl | grind))⟩)⟩ dX10_many_67
      ·
        refine g_tableIn C 68 dX10_many_1 hsw1 hsw2 (off := 67) (by rw [hq]; rfl) (by decide) ?_
        refine g_aload_n C 0 dX10_many_68 rfl ?_
        refine g_get C (.ref (ad ((M 0 8).toNatClampNeg))) 8 in_X10_many_10 (List.mem_of_getElem? (i := 9) rfl) (by decide) (ce_house ad cs _ _) rfl (by decide) rfl rfl dX10_many_69 ?_
        refine g_tr 125 (by rw [hg8]; rfl) ?_
        refine g_get C (.int (M 125 0)) 0 in_X10_many_7 (List.mem_of_getElem? (i := 10) rfl) (by decide) (ce_ra ad cs _ _) rfl (by decide) rfl rfl dX10_many_72 ?_
        refine g_ni (fun v5 ev5 => ?_)
        have gv5 : v5 = M 125 0 := ev5
        have tv5 := congrArg Int32.toInt gv5
        obtain ⟨bv5, dv5⟩ := (show rg 0 30 v5 from (by rw [ev5]; exact hI 125 0 (Or.inl rfl)))
        exact g_iret C hr ⟨rfl, rfl, (Or.inl ⟨hg8, (by dsimp only [A_many, hasC, hasB, hasX, hasM, ofS, ofK, bt, ix]; (repeat (first | rw [if_pos (by omega)] | rw [if_neg (by omega)])); first | done | rfl | (simp only [gv5]; done) | (simp only [gv5]; rfl) | (subst_vars; first | rfl | grind))⟩)⟩ dX10_many_75
  ·
    obtain ⟨ra0, rb0⟩ := (show rg 0 30 (M 191 0) from hI 191 0 (Or.inl rfl))
    obtain ⟨ra2, rb2⟩ := (show rg 0 30 (M 191 2) from hI 191 2 (Or.inr rfl))
    refine g_iload_n C 1 dX10_many_0 rfl ?_
    by_cases hsw : x.toInt < 0 ∨ 4 < x.toInt
    ·
      refine g_tableOut C 76 dX10_many_1 hsw (by decide) ?_
      refine g_iconst C (-1) dX10_many_76 (by decide) ?_
      have zr9 : ((-1) : Int32).toInt = (-1) := by decide
      exact g_iret C hr ⟨rfl, rfl, (Or.inr ⟨hg8, (by dsimp only [A_many, hasC, hasB, hasX, hasM, ofS, ofK, bt, ix]; (repeat (first | rw [if_pos (by omega)] | rw [if_neg (by omega)])); first | done | rfl | (simp only [ix]; done) | (simp only [ix]; rfl) | (subst_vars; first | rfl | grind))⟩)⟩ dX10_many_77
    ·
      have hsw1 : ¬ x.toInt < 0 := fun h => hsw (Or.inl h)
      have hsw2 : ¬ 4 < x.toInt := fun h => hsw (Or.inr h)
      rcases (show x.toInt = 0 ∨ x.toInt = 1 ∨ x.toInt = 2 ∨ x.toInt = 3 ∨ x.toInt = 4 by omega) with hq | hq | hq | hq | hq
      ·
        refine g_tableIn C 36 dX10_many_1 hsw1 hsw2 (off := 35) (by rw [hq]; rfl) (by decide) ?_
        refine g_aload_n C 0 dX10_many_36 rfl ?_
        refine g_get C (.ref (ad 1)) 0 in_X10_many_10 (List.mem_of_getElem? (i := 1) rfl) (by decide) (ce_house ad cs _ _) rfl (by decide) rfl rfl dX10_many_37 ?_
        refine g_get C (.int (M 1 0)) 0 in_X10_many_2 (List.mem_of_getElem? (i := 2) rfl) (by decide) (ce_cand ad cs _ _) rfl (by decide) rfl rfl dX10_many_40 ?_
        refine g_ni (fun v6 ev6 => ?_)
        have gv6 : v6 = vC M 0 0 := ev6
        have tv6 := congrArg Int32.toInt gv6
        obtain ⟨bv6, dv6⟩ := (show rg 0 10 v6 from (by rw [ev6]; exact hI 1 0 rfl))
        exact g_iret C hr ⟨rfl, rfl, (Or.inr ⟨hg8, (by dsimp only [A_many, hasC, hasB, hasX, hasM, ofS, ofK, bt, ix]; (repeat (first | rw [if_pos (by omega)] | rw [if_neg (by omega)])); first | done | rfl | (simp only [gv6]; done) | (simp only [gv6]; rfl) | (subst_vars; first | rfl | grind))⟩)⟩ dX10_many_43
      ·
        refine g_tableIn C 44 dX10_many_1 hsw1 hsw2 (off := 43) (by rw [hq]; rfl) (by decide) ?_
        refine g_aload_n C 0 dX10_many_44 rfl ?_
        refine g_get C (.ref (ad 3)) 1 in_X10_many_10 (List.mem_of_getElem? (i := 3) rfl) (by decide) (ce_house ad cs _ _) rfl (by decide) rfl rfl dX10_many_45 ?_
        refine g_get C (.int (M 3 0)) 0 in_X10_many_0 (List.mem_of_getElem? (i := 4) rfl) (by decide) (ce_ball ad cs _ _) rfl (by decide) rfl rfl dX10_many_48 ?_
        refine g_ni (fun v7 ev7 => ?_)
        have gv7 : v7 = vC M 0 1 := ev7
        have tv7 := congrArg Int32.toInt gv7
        obtain ⟨bv7, dv7⟩ := (show rg 0 60 v7 from (by rw [ev7]; exact hI 3 0 rfl))
        exact g_iret C hr ⟨rfl, rfl, (Or.inr ⟨hg8, (by dsimp only [A_many, hasC, hasB, hasX, hasM, ofS, ofK, bt, ix]; (repeat (first | rw [if_pos (by omega)] | rw [if_neg (by omega)])); first | done | rfl | (simp only [gv7]; done) | (simp only [gv7]; rfl) | (subst_vars; first | rfl | grind))⟩)⟩ dX10_many_51
      ·
        refine g_tableIn C 52 dX10_many_1 hsw1 hsw2 (off := 51) (by rw [hq]; rfl) (by decide) ?_
        refine g_aload_n C 0 dX10_many_52 rfl ?_
        refine g_get C (.ref (ad 68)) 2 in_X10_many_10 (List.mem_of_getElem? (i := 5) rfl) (by decide) (ce_house ad cs _ _) rfl (by decide) rfl rfl dX10_many_53 ?_
        refine g_get C (.int (M 68 0)) 0 in_X10_many_1 (List.mem_of_getElem? (i := 6) rfl) (by decide) (ce_box ad cs _ _) rfl (by decide) rfl rfl dX10_many_56 ?_
        refine g_ni (fun v8 ev8 => ?_)
        have gv8 : v8 = vC M 0 2 := ev8
        have tv8 := congrArg Int32.toInt gv8
        obtain ⟨bv8, dv8⟩ := (show rg 0 8 v8 from (by rw [ev8]; exact hI 68 0 rfl))
        exact g_iret C hr ⟨rfl, rfl, (Or.inr ⟨hg8, (by dsimp only [A_many, hasC, hasB, hasX, hasM, ofS, ofK, bt, ix]; (repeat (first | rw [if_pos (by omega)] | rw [if_neg (by omega)])); first | done | rfl | (simp only [gv8]; done) | (simp only [gv8]; rfl) | (subst_vars; first | rfl | grind))⟩)⟩ dX10_many_59
      ·
        refine g_tableIn C 60 dX10_many_1 hsw1 hsw2 (off := 59) (by rw [hq]; rfl) (by decide) ?_
        refine g_aload_n C 0 dX10_many_60 rfl ?_
        refine g_get C (.ref (ad 81)) 3 in_X10_many_10 (List.mem_of_getElem? (i := 7) rfl) (by decide) (ce_house ad cs _ _) rfl (by decide) rfl rfl dX10_many_61 ?_
        refine g_get C (.int (M 81 0)) 0 in_X10_many_4 (List.mem_of_getElem? (i := 8) rfl) (by decide) (ce_meth ad cs _ _) rfl (by decide) rfl rfl dX10_many_64 ?_
        refine g_ni (fun v9 ev9 => ?_)
        have gv9 : v9 = vC M 0 3 := ev9
        have tv9 := congrArg Int32.toInt gv9
        obtain ⟨bv9, dv9⟩ := (show rg 0 20 v9 from (by rw [ev9]; exact hI 81 0 rfl))
        exact g_iret C hr ⟨rfl, rfl, (Or.inr ⟨hg8, (by dsimp only [A_many, hasC, hasB, hasX, hasM, ofS, ofK, bt, ix]; (repeat (first | rw [if_pos (by omega)] | rw [if_neg (by omega)])); first | done | rfl | (simp only [gv9]; done) | (simp only [gv9]; rfl) | (subst_vars; first | rfl | grind))⟩)⟩ dX10_many_67
      ·
        refine g_tableIn C 68 dX10_many_1 hsw1 hsw2 (off := 67) (by rw [hq]; rfl) (by decide) ?_
        refine g_aload_n C 0 dX10_many_68 rfl ?_
        refine g_get C (.ref (ad ((M 0 8).toNatClampNeg))) 8 in_X10_many_10 (List.mem_of_getElem? (i := 9) rfl) (by decide) (ce_house ad cs _ _) rfl (by decide) rfl rfl dX10_many_69 ?_
        refine g_tr 191 (by rw [hg8]; rfl) ?_
        refine g_get C (.int (M 191 0)) 0 in_X10_many_7 (List.mem_of_getElem? (i := 10) rfl) (by decide) (ce_rb ad cs _ _) rfl (by decide) rfl rfl dX10_many_72 ?_
        refine g_ni (fun v10 ev10 => ?_)
        have gv10 : v10 = M 191 0 := ev10
        have tv10 := congrArg Int32.toInt gv10
        obtain ⟨bv10, dv10⟩ := (show rg 0 30 v10 from (by rw [ev10]; exact hI 191 0 (Or.inl rfl)))
        exact g_iret C hr ⟨rfl, rfl, (Or.inr ⟨hg8, (by dsimp only [A_many, hasC, hasB, hasX, hasM, ofS, ofK, bt, ix]; (repeat (first | rw [if_pos (by omega)] | rw [if_neg (by omega)])); first | done | rfl | (simp only [gv10]; done) | (simp only [gv10]; rfl) | (subst_vars; first | rfl | grind))⟩)⟩ dX10_many_75
