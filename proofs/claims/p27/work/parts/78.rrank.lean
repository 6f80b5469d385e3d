set_option maxHeartbeats 4000000 in
set_option maxRecDepth 100000 in
theorem s_X11_rank2 (l : Launch) (D : va_G) (ad : Nat → Nat) (cs : Nat → ClassId) (M : MI) (L : ML) (b : Int32) (x : Int32) (hI : IR M) (hP : hasB (vR M) b → hasC (vR M) x → (placeV (vR M) b x).toInt = -9 → (vR M 4 (b.toNatClampNeg)).toInt < 10) : Ci l yX11_rank wsX11_rank ({ frames := 2, cells := 0, slots := 0, locals := 43 }) D ad cs [.ref (ad 258), .int b, .int x] M L (fun r M1 L1 => (A_rank (vR M) b x = (r, vR M1)) ∧ IR M1 ∧ (∀ k i, ¬ (k = 258 ∧ i = 0) ∧ k ≠ 259 ∧ k ≠ 263 ∧ k ≠ 264 → M1 k i = M k i) ∧ ∀ k i, True → L1 k i = L k i) := by
  refine enter_i RX11 rfl [(0, .ref (ad 258)), (1, .int b), (2, .int x)] rfl (Nat.le_of_ble_eq_true rfl) (by decide +kernel) rfl ?_
  intro p e s m below meth c C hr
  have hF : ∀ k i, ¬ (k = 258 ∧ i = 0) ∧ k ≠ 259 ∧ k ≠ 263 ∧ k ≠ 264 → M k i = M k i := fun _ _ _ => rfl
  have hG : ∀ k i, True → L k i = L k i := fun _ _ _ => rfl
  have w0 : (vR M 0 0).toInt = (M 258 2).toInt := rfl
  have w1 : (vR M 0 1).toInt = (M 258 4).toInt := rfl
  have w2 : (vR M 0 2).toInt = (M 258 9).toInt := rfl
  have w3 : (vR M 0 3).toInt = (M 258 14).toInt := rfl
  obtain ⟨y0a, y0b⟩ := (show rg 0 10 (M 258 2) from hI 258 2)
  obtain ⟨y1a, y1b⟩ := (show rg 0 60 (M 258 4) from hI 258 4)
  obtain ⟨y2a, y2b⟩ := (show rg 0 8 (M 258 9) from hI 258 9)
  obtain ⟨y3a, y3b⟩ := (show rg 0 20 (M 258 14) from hI 258 14)
  have k0 : M 258 0 = vR M 0 4 := rfl
  have q259 : M 259 = M 259 := rfl
  have q263 : M 263 = M 263 := rfl
  have q264 : M 264 = M 264 := rfl
  have hV : vR M = vR M := rfl
  refine g_aload_n C 0 dX11_rank_0 rfl ?_
  refine g_iload_n C 1 dX11_rank_1 rfl ?_
  refine g_callVi C (n := 1) (As := [.int b]) (st := []) (s_X11_isBallot l D ad cs _ _ b hI ) gX11_rank_X11_isBallot rfl rfl rfl (by decide +kernel) ⟨Nat.le_of_ble_eq_true rfl, Nat.le_of_ble_eq_true rfl⟩ rfl (Nat.le_of_ble_eq_true rfl) ⟨Nat.zero_le _, Nat.zero_le _⟩ (by decide) (ce_model ad cs _ _) rfl rfl dX11_rank_2 (fun r1 M2 L3 hr1 => ?_)
  obtain ⟨hq1, hq2, hr1⟩ := hr1
  obtain rfl := hq1.symm
  obtain rfl := hq2.symm
  obtain ⟨bar1, bbr1⟩ := zo_b hr1
  refine g_if_eq C 16 dX11_rank_5 (by decide) (fun c4 => ?_) (fun c4 => ?_)
  ·
    have f5 := feq rfl (by decide : (0 : Int32).toInt = 0) c4
    have pr1 := zo_f hr1 c4
    try dsimp only [hasC, hasB, hasX, hasM, ofS, ofK, bt] at pr1
    refine g_iconst C (-1) dX11_rank_16 (by decide) ?_
    have zr9 : ((-1) : Int32).toInt = (-1) := by decide
    exact g_iret C hr ⟨(by dsimp only [A_rank, hasC, hasB, hasX, hasM, ofS, ofK, bt, ix]; (repeat (first | rw [if_pos (by omega)] | rw [if_neg (by omega)])); first | done | rfl | (simp only [ix]; done) | (simp only [ix]; rfl) | (subst_vars; first | rfl | grind)), hI, hF, hG⟩ dX11_rank_17
  ·
    have f6 := fne rfl (by decide : (0 : Int32).toInt = 0) c4
    have pr1 := zo_t hr1 c4
    try dsimp only [hasC, hasB, hasX, hasM, ofS, ofK, bt] at pr1
    refine g_aload_n C 0 dX11_rank_8 rfl ?_
    refine g_iload_n C 2 dX11_rank_9 rfl ?_
    refine g_callVi C (n := 1) (As := [.int x]) (st := []) (s_X11_isCandidate l D ad cs _ _ x hI ) gX11_rank_X11_isCandidate rfl rfl rfl (by decide +kernel) ⟨Nat.le_of_ble_eq_true rfl, Nat.le_of_ble_eq_true rfl⟩ rfl (Nat.le_of_ble_eq_true rfl) ⟨Nat.zero_le _, Nat.zero_le _⟩ (by decide) (ce_model ad cs _ _) rfl rfl dX11_rank_10 (fun r7 M8 L9 hr7 => ?_)
    obtain ⟨hq1, hq2, hr7⟩ := hr7
    obtain rfl := hq1.symm
    obtain rfl := hq2.symm
    obtain ⟨bar7, bbr7⟩ := zo_b hr7
    refine g_if_ne C 18 dX11_rank_13 (by decide) (fun c10 => ?_) (fun c10 => ?_)
    ·
      have f11 := fne rfl (by decide : (0 : Int32).toInt = 0) c10
      have pr7 := zo_t hr7 c10
      try dsimp only [hasC, hasB, hasX, hasM, ofS, ofK, bt] at pr7
      refine g_aload_n C 0 dX11_rank_18 rfl ?_
      refine g_get C (.ref (ad 261)) 5 in_X11_rank_11 (List.mem_of_getElem? (i := 1) rfl) (by decide) (ce_model ad cs _ _) rfl (by decide) rfl rfl dX11_rank_19 ?_
      refine g_iload_n C 1 dX11_rank_22 rfl ?_
      refine g_iald C (by decide) (ce_m_sortOf ad cs _ _) (fin' (n := 60) rfl (by omega) (by omega)) dX11_rank_23 ?_
      refine g_ni (fun v12 ev12 => ?_)
      have gv12 : v12 = vR M 2 b.toNatClampNeg := ev12
      have tv12 := congrArg Int32.toInt gv12
      refine g_iconst C 1 dX11_rank_24 (by decide) ?_
      refine g_callSi C (n := 2) (As := [.int v12, .int 1]) (st := []) (s_X11_isOf l D ad cs _ _ v12 1 hI ) gX11_rank_X11_isOf rfl rfl rfl (by decide +kernel) ⟨Nat.le_of_ble_eq_true rfl, Nat.le_of_ble_eq_true rfl⟩ rfl (Nat.le_of_ble_eq_true rfl) ⟨Nat.zero_le _, Nat.zero_le _⟩ rfl dX11_rank_25 (fun r13 M14 L15 hr13 => ?_)
      obtain ⟨hq1, hq2, hr13⟩ := hr13
      obtain rfl := hq1.symm
      obtain rfl := hq2.symm
      obtain ⟨bar13, bbr13⟩ := zo_b hr13
      refine g_if_ne C 37 dX11_rank_28 (by decide) (fun c16 => ?_) (fun c16 => ?_)
      ·
        have f17 := fne rfl (by decide : (0 : Int32).toInt = 0) c16
        have pr13 := zo_t hr13 c16
        try dsimp only [hasC, hasB, hasX, hasM, ofS, ofK, bt] at pr13
        refine g_aload_n C 0 dX11_rank_37 rfl ?_
        refine g_iload_n C 1 dX11_rank_38 rfl ?_
        refine g_iload_n C 2 dX11_rank_39 rfl ?_
        refine g_callVi C (n := 2) (As := [.int b, .int x]) (st := []) (s_X11_placeOn l D ad cs _ _ b x hI ⟨by omega, by omega⟩) gX11_rank_X11_placeOn rfl rfl rfl (by decide +kernel) ⟨Nat.le_of_ble_eq_true rfl, Nat.le_of_ble_eq_true rfl⟩ rfl (Nat.le_of_ble_eq_true rfl) ⟨Nat.zero_le _, Nat.zero_le _⟩ (by decide) (ce_model ad cs _ _) rfl rfl dX11_rank_40 (fun r18 M19 L20 hr18 => ?_)
        obtain ⟨hq1, hq2, hr18⟩ := hr18
        obtain rfl := hq1.symm
        obtain rfl := hq2.symm
        obtain ⟨hr18, br18⟩ := hr18
        have tr18 := congrArg Int32.toInt hr18
        refine g_bipush C (-9) dX11_rank_43 (by decide) ?_
        refine g_icmp_ne C 68 dX11_rank_45 (by decide) (fun c21 => ?_) (fun c21 => ?_)
        ·
          have f22 := fne rfl (by decide : ((-9) : Int32).toInt = (-9)) c21
          refine g_bipush C (-4) dX11_rank_68 (by decide) ?_
          have zr9 : ((-4) : Int32).toInt = (-4) := by decide
          exact g_iret C hr ⟨(by dsimp only [A_rank, hasC, hasB, hasX, hasM, ofS, ofK, bt, ix]; (repeat (first | rw [if_pos (by omega)] | rw [if_neg (by omega)])); first | done | rfl | (simp only [hr18, gv12]; done) | (simp only [hr18, gv12]; rfl) | (subst_vars; first | rfl | grind)), hI, hF, hG⟩ dX11_rank_70
        ·
          have f23 := feq rfl (by decide : ((-9) : Int32).toInt = (-9)) c21
          refine g_aload_n C 0 dX11_rank_48 rfl ?_
          refine g_get C (.ref (ad 261)) 5 in_X11_rank_11 (List.mem_of_getElem? (i := 1) rfl) (by decide) (ce_model ad cs _ _) rfl (by decide) rfl rfl dX11_rank_49 ?_
          refine g_iload_n C 1 dX11_rank_52 rfl ?_
          refine g_iald C (by decide) (ce_m_sortOf ad cs _ _) (fin' (n := 60) rfl (by omega) (by omega)) dX11_rank_53 ?_
          refine g_ni (fun v24 ev24 => ?_)
          have gv24 : v24 = vR M 2 b.toNatClampNeg := ev24
          have tv24 := congrArg Int32.toInt gv24
          refine g_iconst C 2 dX11_rank_54 (by decide) ?_
          refine g_icmp_ne C 71 dX11_rank_55 (by decide) (fun c25 => ?_) (fun c25 => ?_)
          ·
            have f26 := fne rfl (by decide : (2 : Int32).toInt = 2) c25
            have hp := hP ⟨by omega, by omega⟩ ⟨by omega, by omega⟩ (by omega)
            refine g_aload_n C 0 dX11_rank_71 rfl ?_
            refine g_get C (.ref (ad 264)) 8 in_X11_rank_11 (List.mem_of_getElem? (i := 3) rfl) (by decide) (ce_model ad cs _ _) rfl (by decide) rfl rfl dX11_rank_72 ?_
            refine g_bipush C 10 dX11_rank_75 (by decide) ?_
            refine g_iload_n C 1 dX11_rank_77 rfl ?_
            refine g_imul C dX11_rank_78 ?_
            refine g_ni (fun v27 ev27 => ?_)
            try have fv27 := fmul (by decide : (10 : Int32).toInt = 10) rfl ev27 (by omega) (by omega)
            refine g_aload_n C 0 dX11_rank_79 rfl ?_
            refine g_get C (.ref (ad 263)) 7 in_X11_rank_11 (List.mem_of_getElem? (i := 2) rfl) (by decide) (ce_model ad cs _ _) rfl (by decide) rfl rfl dX11_rank_80 ?_
            refine g_iload_n C 1 dX11_rank_83 rfl ?_
            refine g_iald C (by decide) (ce_m_onIt ad cs _ _) (fin' (n := 60) rfl (by omega) (by omega)) dX11_rank_84 ?_
            refine g_ni (fun v28 ev28 => ?_)
            have gv28 : v28 = vR M 4 b.toNatClampNeg := ev28.trans (congrFun q263 _)
            have tv28 := congrArg Int32.toInt gv28
            obtain ⟨bv28, dv28⟩ := (show rg 0 10 v28 from (by rw [ev28]; exact hI 263 b.toNatClampNeg))
            refine g_iadd C dX11_rank_85 ?_
            refine g_ni (fun v29 ev29 => ?_)
            try have fv29 := fadd rfl rfl ev29 (by omega) (by omega)
            refine g_iload_n C 2 dX11_rank_86 rfl ?_
            refine g_iast C (by decide) (ce_m_marks ad cs _ _) (by rw [sI_k]; rfl) (fin' (n := 600) rfl (by omega) (by omega)) dX11_rank_87 ?_
            have nb := ixn (x := b) (by omega)
            have nv28 := ixn (x := v28) (by omega)
            have nv29 := ixn (x := v29) (by omega)
            have iv29 : v29.toNatClampNeg = 10 * b.toNatClampNeg + v28.toNatClampNeg := by omega
            refine g_nm (fun M30 hM30 => ?_)
            have hI : IR M30 := by rw [hM30]; exact hI.st (show bR 264 _ _ from ⟨by first | omega | decide, by first | omega | decide⟩)
            have hF : ∀ k i, ¬ (k = 258 ∧ i = 0) ∧ k ≠ 259 ∧ k ≠ 263 ∧ k ≠ 264 → M30 k i = M k i := fun k i hk => by (rw [hM30, sI_at, if_neg (by omega)]; try exact hF k i hk)
            have k0 : M30 258 0 = vR M 0 4 := by rw [hM30, sI_n _ _ _ (by decide)]; try exact k0
            have q259 : M30 259 = M 259 := by rw [hM30, sI_n _ _ _ (by decide)]; try exact q259
            have q263 : M30 263 = M 263 := by rw [hM30, sI_n _ _ _ (by decide)]; try exact q263
            have hV : vR M30 = sI (vR M) 5 v29.toNatClampNeg x := by rw [hM30, vR_a (c := 5) (by decide), hV]
            have hV : vR M30 = sI (vR M) 5 (10 * b.toNatClampNeg + v28.toNatClampNeg) x := sge hV iv29
            refine g_aload_n C 0 dX11_rank_88 rfl ?_
            refine g_get C (.ref (ad 263)) 7 in_X11_rank_11 (List.mem_of_getElem? (i := 2) rfl) (by decide) (ce_model ad cs _ _) rfl (by decide) rfl rfl dX11_rank_89 ?_
            refine g_iload_n C 1 dX11_rank_92 rfl ?_
            refine g_dup2 C dX11_rank_93 rfl rfl ?_
            refine g_iald C (by decide) (ce_m_onIt ad cs _ _) (fin' (n := 60) rfl (by omega) (by omega)) dX11_rank_94 ?_
            refine g_ni (fun v31 ev31 => ?_)
            have gv31 : v31 = vR M 4 b.toNatClampNeg := ev31.trans (congrFun q263 _)
            have tv31 := congrArg Int32.toInt gv31
            obtain ⟨bv31, dv31⟩ := (show rg 0 10 v31 from (by rw [ev31]; exact hI 263 b.toNatClampNeg))
            refine g_iconst C 1 dX11_rank_95 (by decide) ?_
            refine g_iadd C dX11_rank_96 ?_
            refine g_ni (fun v32 ev32 => ?_)
            try have fv32 := fadd rfl (by decide : (1 : Int32).toInt = 1) ev32 (by omega) (by omega)
            refine g_iast C (by decide) (ce_m_onIt ad cs _ _) (by rw [sI_k]; rfl) (fin' (n := 60) rfl (by omega) (by omega)) dX11_rank_97 ?_
            refine g_nm (fun M33 hM33 => ?_)
            have hI : IR M33 := by rw [hM33]; exact hI.st (show bR 263 _ _ from ⟨by first | omega | decide, by first | omega | decide⟩)
            have hF : ∀ k i, ¬ (k = 258 ∧ i = 0) ∧ k ≠ 259 ∧ k ≠ 263 ∧ k ≠ 264 → M33 k i = M k i := fun k i hk => by (rw [hM33, sI_at, if_neg (by omega)]; try exact hF k i hk)
            have k0 : M33 258 0 = vR M 0 4 := by rw [hM33, sI_n _ _ _ (by decide)]; try exact k0
            have q259 : M33 259 = M 259 := by rw [hM33, sI_n _ _ _ (by decide)]; try exact q259
            have hV : vR M33 = sI (sI (vR M) 5 (10 * b.toNatClampNeg + v28.toNatClampNeg) x) 4 b.toNatClampNeg v32 := by rw [hM33, vR_a (c := 4) (by decide), hV]
            refine g_aload_n C 0 dX11_rank_98 rfl ?_
            refine g_get C (.ref (ad 263)) 7 in_X11_rank_11 (List.mem_of_getElem? (i := 2) rfl) (by decide) (ce_model ad cs _ _) rfl (by decide) rfl rfl dX11_rank_99 ?_
            refine g_iload_n C 1 dX11_rank_102 rfl ?_
            refine g_iald C (by decide) (ce_m_onIt ad cs _ _) (fin' (n := 60) rfl (by omega) (by omega)) dX11_rank_103 ?_
            refine g_ni (fun v34 ev34 => ?_)
            have gv34 : v34 = v32 := ev34.trans (by rw [hM33, sI_at, if_pos ⟨rfl, rfl⟩])
            have tv34 := congrArg Int32.toInt gv34
            obtain ⟨bv34, dv34⟩ := (show rg 0 10 v34 from (by rw [ev34]; exact hI 263 b.toNatClampNeg))
            exact g_iret C hr ⟨(by dsimp only [A_rank, hasC, hasB, hasX, hasM, ofS, ofK, bt, ix]; (repeat (first | rw [if_pos (by omega)] | rw [if_neg (by omega)])); rw [hV]; first | done | rfl | (simp only [gv34, ev32, gv31, ev29, gv28, ev27, gv24, hr18, gv12]; done) | (simp only [gv34, ev32, gv31, ev29, gv28, ev27, gv24, hr18, gv12]; rfl) | (subst_vars; first | rfl | grind)), hI, hF, hG⟩ dX11_rank_104
          ·
            have f35 := feq rfl (by decide : (2 : Int32).toInt = 2) c25
            refine g_aload_n C 0 dX11_rank_58 rfl ?_
            refine g_get C (.ref (ad 263)) 7 in_X11_rank_11 (List.mem_of_getElem? (i := 2) rfl) (by decide) (ce_model ad cs _ _) rfl (by decide) rfl rfl dX11_rank_59 ?_
            refine g_iload_n C 1 dX11_rank_62 rfl ?_
            refine g_iald C (by decide) (ce_m_onIt ad cs _ _) (fin' (n := 60) rfl (by omega) (by omega)) dX11_rank_63 ?_
            refine g_ni (fun v36 ev36 => ?_)
            have gv36 : v36 = vR M 4 b.toNatClampNeg := ev36.trans (congrFun q263 _)
            have tv36 := congrArg Int32.toInt gv36
            obtain ⟨bv36, dv36⟩ := (show rg 0 10 v36 from (by rw [ev36]; exact hI 263 b.toNatClampNeg))
            refine g_iconst C 1 dX11_rank_64 (by decide) ?_
            refine g_icmp_ne C 71 dX11_rank_65 (by decide) (fun c37 => ?_) (fun c37 => ?_)
            ·
              have f38 := fne rfl (by decide : (1 : Int32).toInt = 1) c37
              have hp := hP ⟨by omega, by omega⟩ ⟨by omega, by omega⟩ (by omega)
              refine g_aload_n C 0 dX11_rank_71 rfl ?_
              refine g_get C (.ref (ad 264)) 8 in_X11_rank_11 (List.mem_of_getElem? (i := 3) rfl) (by decide) (ce_model ad cs _ _) rfl (by decide) rfl rfl dX11_rank_72 ?_
              refine g_bipush C 10 dX11_rank_75 (by decide) ?_
              refine g_iload_n C 1 dX11_rank_77 rfl ?_
              refine g_imul C dX11_rank_78 ?_
              refine g_ni (fun v39 ev39 => ?_)
              try have fv39 := fmul (by decide : (10 : Int32).toInt = 10) rfl ev39 (by omega) (by omega)
              refine g_aload_n C 0 dX11_rank_79 rfl ?_
              refine g_get C (.ref (ad 263)) 7 in_X11_rank_11 (List.mem_of_getElem? (i := 2) rfl) (by decide) (ce_model ad cs _ _) rfl (by decide) rfl rfl dX11_rank_80 ?_
              refine g_iload_n C 1 dX11_rank_83 rfl ?_
              refine g_iald C (by decide) (ce_m_onIt ad cs _ _) (fin' (n := 60) rfl (by omega) (by omega)) dX11_rank_84 ?_
              refine g_ni (fun v40 ev40 => ?_)
              have gv40 : v40 = vR M 4 b.toNatClampNeg := ev40.trans (congrFun q263 _)
              have tv40 := congrArg Int32.toInt gv40
              obtain ⟨bv40, dv40⟩ := (show rg 0 10 v40 from (by rw [ev40]; exact hI 263 b.toNatClampNeg))
              refine g_iadd C dX11_rank_85 ?_
              refine g_ni (fun v41 ev41 => ?_)
              try have fv41 := fadd rfl rfl ev41 (by omega) (by omega)
              refine g_iload_n C 2 dX11_rank_86 rfl ?_
              refine g_iast C (by decide) (ce_m_marks ad cs _ _) (by rw [sI_k]; rfl) (fin' (n := 600) rfl (by omega) (by omega)) dX11_rank_87 ?_
              have nb := ixn (x := b) (by omega)
              have nv40 := ixn (x := v40) (by omega)
              have nv41 := ixn (x := v41) (by omega)
              have iv41 : v41.toNatClampNeg = 10 * b.toNatClampNeg + v40.toNatClampNeg := by omega
              refine g_nm (fun M42 hM42 => ?_)
              have hI : IR M42 := by rw [hM42]; exact hI.st (show bR 264 _ _ from ⟨by first | omega | decide, by first | omega | decide⟩)
              have hF : ∀ k i, ¬ (k = 258 ∧ i = 0) ∧ k ≠ 259 ∧ k ≠ 263 ∧ k ≠ 264 → M42 k i = M k i := fun k i hk => by (rw [hM42, sI_at, if_neg (by omega)]; try exact hF k i hk)
              have k0 : M42 258 0 = vR M 0 4 := by rw [hM42, sI_n _ _ _ (by decide)]; try exact k0
              have q259 : M42 259 = M 259 := by rw [hM42, sI_n _ _ _ (by decide)]; try exact q259
              have q263 : M42 263 = M 263 := by rw [hM42, sI_n _ _ _ (by decide)]; try exact q263
              have hV : vR M42 = sI (vR M) 5 v41.toNatClampNeg x := by rw [hM42, vR_a (c := 5) (by decide), hV]
              have hV : vR M42 = sI (vR M) 5 (10 * b.toNatClampNeg + v40.toNatClampNeg) x := sge hV iv41
              refine g_aload_n C 0 dX11_rank_88 rfl ?_
              refine g_get C (.ref (ad 263)) 7 in_X11_rank_11 (List.mem_of_getElem? (i := 2) rfl) (by decide) (ce_model ad cs _ _) rfl (by decide) rfl rfl dX11_rank_89 ?_
              refine g_iload_n C 1 dX11_rank_92 rfl ?_
              refine g_dup2 C dX11_rank_93 rfl rfl ?_
              refine g_iald C (by decide) (ce_m_onIt ad cs _ _) (fin' (n := 60) rfl (by omega) (by omega)) dX11_rank_94 ?_
              refine g_ni (fun v43 ev43 => ?_)
              have gv43 : v43 = vR M 4 b.toNatClampNeg := ev43.trans (congrFun q263 _)
              have tv43 := congrArg Int32.toInt gv43
              obtain ⟨bv43, dv43⟩ := (show rg 0 10 v43 from (by rw [ev43]; exact hI 263 b.toNatClampNeg))
              refine g_iconst C 1 dX11_rank_95 (by decide) ?_
              refine g_iadd C dX11_rank_96 ?_
              refine g_ni (fun v44 ev44 => ?_)
              try have fv44 := fadd rfl (by decide : (1 : Int32).toInt = 1) ev44 (by omega) (by omega)
              refine g_iast C (by decide) (ce_m_onIt ad cs _ _) (by rw [sI_k]; rfl) (fin' (n := 60) rfl (by omega) (by omega)) dX11_rank_97 ?_
              refine g_nm (fun M45 hM45 => ?_)
              have hI : IR M45 := by rw [hM45]; exact hI.st (show bR 263 _ _ from ⟨by first | omega | decide, by first | omega | decide⟩)
              have hF : ∀ k i, ¬ (k = 258 ∧ i = 0) ∧ k ≠ 259 ∧ k ≠ 263 ∧ k ≠ 264 → M45 k i = M k i := fun k i hk => by (rw [hM45, sI_at, if_neg (by omega)]; try exact hF k i hk)
              have k0 : M45 258 0 = vR M 0 4 := by rw [hM45, sI_n _ _ _ (by decide)]; try exact k0
              have q259 : M45 259 = M 259 := by rw [hM45, sI_n _ _ _ (by decide)]; try exact q259
              have hV : vR M45 = sI (sI (vR M) 5 (10 * b.toNatClampNeg + v40.toNatClampNeg) x) 4 b.toNatClampNeg v44 := by rw [hM45, vR_a (c := 4) (by decide), hV]
              refine g_aload_n C 0 dX11_rank_98 rfl ?_
              refine g_get C (.ref (ad 263)) 7 in_X11_rank_11 (List.mem_of_getElem? (i := 2) rfl) (by decide) (ce_model ad cs _ _) rfl (by decide) rfl rfl dX11_rank_99 ?_
              refine g_iload_n C 1 dX11_rank_102 rfl ?_
              refine g_iald C (by decide) (ce_m_onIt ad cs _ _) (fin' (n := 60) rfl (by omega) (by omega)) dX11_rank_103 ?_
              refine g_ni (fun v46 ev46 => ?_)
              have gv46 : v46 = v44 := ev46.trans (by rw [hM45, sI_at, if_pos ⟨rfl, rfl⟩])
              have tv46 := congrArg Int32.toInt gv46
              obtain ⟨bv46, dv46⟩ := (show rg 0 10 v46 from (by rw [ev46]; exact hI 263 b.toNatClampNeg))
              exact g_iret C hr ⟨(by dsimp only [A_rank, hasC, hasB, hasX, hasM, ofS, ofK, bt, ix]; (repeat (first | rw [if_pos (by omega)] | rw [if_neg (by omega)])); rw [hV]; first | done | rfl | (simp only [gv46, ev44, gv43, ev41, gv40, ev39, gv36, gv24, hr18, gv12]; done) | (simp only [gv46, ev44, gv43, ev41, gv40, ev39, gv36, gv24, hr18, gv12]; rfl) | (subst_vars; first | rfl | grind)), hI, hF, hG⟩ dX11_rank_104
            ·
              have f47 := feq rfl (by decide : (1 : Int32).toInt = 1) c37
              refine g_bipush C (-4) dX11_rank_68 (by decide) ?_
              have zr9 : ((-4) : Int32).toInt = (-4) := by decide
              exact g_iret C hr ⟨(by dsimp only [A_rank, hasC, hasB, hasX, hasM, ofS, ofK, bt, ix]; (repeat (first | rw [if_pos (by omega)] | rw [if_neg (by omega)])); first | done | rfl | (simp only [gv36, gv24, hr18, gv12]; done) | (simp only [gv36, gv24, hr18, gv12]; rfl) | (subst_vars; first | rfl | grind)), hI, hF, hG⟩ dX11_rank_70
      ·
        have f48 := feq rfl (by decide : (0 : Int32).toInt = 0) c16
        have pr13 := zo_f hr13 c16
        try dsimp only [hasC, hasB, hasX, hasM, ofS, ofK, bt] at pr13
        refine g_aload_n C 0 dX11_rank_31 rfl ?_
        refine g_iconst C 3 dX11_rank_32 (by decide) ?_
        refine g_callVi C (n := 1) (As := [.int 3]) (st := []) (s_X11_meets l D ad cs _ _ 3 hI ⟨by first | omega | decide, by first | omega | decide⟩) gX11_rank_X11_meets rfl rfl rfl (by decide +kernel) ⟨Nat.le_of_ble_eq_true rfl, Nat.le_of_ble_eq_true rfl⟩ rfl (Nat.le_of_ble_eq_true rfl) ⟨Nat.zero_le _, Nat.zero_le _⟩ (by decide) (ce_model ad cs _ _) rfl rfl dX11_rank_33 (fun r49 M50 L51 hr49 => ?_)
        obtain ⟨hr49, hI, hFr49, hGr49⟩ := hr49
        have hF : ∀ k i, ¬ (k = 258 ∧ i = 0) ∧ k ≠ 259 ∧ k ≠ 263 ∧ k ≠ 264 → M50 k i = M k i := fun k i hk => by (rw [hFr49 k i (by omega)]; try exact hF k i hk)
        have hG : ∀ k i, True → L51 k i = L k i := fun k i hk => by (rw [hGr49 k i trivial]; try exact hG k i hk)
        have hV : vR M50 = meetsV (vR M) 3 := by rw [hr49.2, hV]
        have k0 : M50 258 0 = M50 258 0 := rfl
        have q259 : M50 259 = M50 259 := rfl
        have q263 : M50 263 = M 263 := (funext (fun i => hFr49 263 i (by omega))).trans q263
        have q264 : M50 264 = M 264 := (funext (fun i => hFr49 264 i (by omega))).trans q264
        exact g_iret C hr ⟨(by dsimp only [A_rank, hasC, hasB, hasX, hasM, ofS, ofK, bt, ix]; (repeat (first | rw [if_pos (by omega)] | rw [if_neg (by omega)])); rw [hV]; first | done | rfl | (simp only [gv12]; done) | (simp only [gv12]; rfl) | (subst_vars; first | rfl | grind)), hI, hF, hG⟩ dX11_rank_36
    ·
      have f52 := feq rfl (by decide : (0 : Int32).toInt = 0) c10
      have pr7 := zo_f hr7 c10
      try dsimp only [hasC, hasB, hasX, hasM, ofS, ofK, bt] at pr7
      refine g_iconst C (-1) dX11_rank_16 (by decide) ?_
      have zr9 : ((-1) : Int32).toInt = (-1) := by decide
      exact g_iret C hr ⟨(by dsimp only [A_rank, hasC, hasB, hasX, hasM, ofS, ofK, bt, ix]; (repeat (first | rw [if_pos (by omega)] | rw [if_neg (by omega)])); first | done | rfl | (simp only [ix]; done) | (simp only [ix]; rfl) | (subst_vars; first | rfl | grind)), hI, hF, hG⟩ dX11_rank_17
