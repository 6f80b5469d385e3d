set_option maxHeartbeats 4000000 in
set_option maxRecDepth 100000 in
theorem k_X9_addBallot (l : Launch) (D : va_G) (ad : Nat → Nat) (cs : Nat → ClassId) (M : MI) (L : ML) (x : Int32) (hI : IC M) (hx : 0 ≤ x.toInt ∧ x.toInt < 40) : Cv l yX9_addBallot wsX9_addBallot ({ frames := 1, cells := 0, slots := 0, locals := 23 }) D ad cs [.ref (ad 96), .int x] M L (fun M1 L1 => (∀ ua, ua < (M 1 0).toNatClampNeg → ∀ ub, ub < (M 1 0).toNatClampNeg → M1 (100 + ua) ub = bwK (vC M) ua ub 0 (M 89 x.toNatClampNeg).toNatClampNeg (M (100 + ua) ub)) ∧ IC M1 ∧ (∀ k i, k ≠ 97 ∧ ¬ (100 ≤ k ∧ k < 110) → M1 k i = M k i) ∧ ∀ k i, True → L1 k i = L k i) := by
  refine enter_v RX9 rfl [(0, .ref (ad 96)), (1, .int x)] rfl (Nat.le_of_ble_eq_true rfl) (by decide +kernel) rfl ?_
  intro p e s m below meth c C hr
  have hF : ∀ k i, k ≠ 97 ∧ ¬ (100 ≤ k ∧ k < 110) → M k i = M k i := fun _ _ _ => rfl
  have hG : ∀ k i, True → L k i = L k i := fun _ _ _ => rfl
  have w0 : (vC M 0 0).toInt = (M 1 0).toInt := rfl
  have w1 : (vC M 0 1).toInt = (M 3 0).toInt := rfl
  have w2 : (vC M 0 2).toInt = (M 68 0).toInt := rfl
  have w3 : (vC M 0 3).toInt = (M 81 0).toInt := rfl
  obtain ⟨y0a, y0b⟩ := (show rg 0 10 (M 1 0) from hI 1 0 rfl)
  obtain ⟨y1a, y1b⟩ := (show rg 0 60 (M 3 0) from hI 3 0 rfl)
  obtain ⟨y2a, y2b⟩ := (show rg 0 8 (M 68 0) from hI 68 0 rfl)
  obtain ⟨y3a, y3b⟩ := (show rg 0 20 (M 81 0) from hI 81 0 rfl)
  obtain ⟨hx1, hx2⟩ := hx
  have nx := ixn hx1
  obtain ⟨ly1, ly2⟩ := (show rg 0 59 (M 89 x.toNatClampNeg) from hI 89 _)
  have nly := ixn ly1
  have n02 := ixn y0a
  have q97 : M 97 = M 97 := rfl
  have q100 : ∀ k, 100 ≤ k ∧ k < 110 → M k = M k := fun _ _ => rfl
  have hV : vC M = vC M := rfl
  refine g_aload_n C 0 dX9_addBallot_0 rfl ?_
  refine g_get C (.ref (ad 88)) 0 in_X9_addBallot_9 (List.mem_of_getElem? (i := 1) rfl) (by decide) (ce_ways ad cs _ _) rfl (by decide) rfl rfl dX9_addBallot_1 ?_
  refine g_get C (.ref (ad 1)) 0 in_X9_addBallot_6 (List.mem_of_getElem? (i := 2) rfl) (by decide) (ce_poll ad cs _ _) rfl (by decide) rfl rfl dX9_addBallot_4 ?_
  refine g_get C (.int (M 1 0)) 0 in_X9_addBallot_2 (List.mem_of_getElem? (i := 3) rfl) (by decide) (ce_cand ad cs _ _) rfl (by decide) rfl rfl dX9_addBallot_7 ?_
  refine g_ni (fun v1 ev1 => ?_)
  have gv1 : v1 = vC M 0 0 := ev1
  have tv1 := congrArg Int32.toInt gv1
  obtain ⟨bv1, dv1⟩ := (show rg 0 10 v1 from (by rw [ev1]; exact hI 1 0 rfl))
  refine g_istore_n C [(2, .int v1), (0, .ref (ad 96)), (1, .int x)] dX9_addBallot_10 (by decide) rfl ?_
  refine g_aload_n C 1 dX9_addBallot_11 rfl ?_
  refine g_get C (.ref (ad 88)) 0 in_X9_addBallot_9 (List.mem_of_getElem? (i := 1) rfl) (by decide) (ce_ways ad cs _ _) rfl (by decide) rfl rfl dX9_addBallot_12 ?_
  refine g_iload_n C 2 dX9_addBallot_15 rfl ?_
  refine g_callVi C (n := 1) (As := [.int x]) (st := []) (k_X6_papersOf l D ad cs _ _ x hI ⟨by omega, by omega⟩) gX9_addBallot_X6_papersOf rfl rfl rfl (by decide +kernel) ⟨Nat.le_of_ble_eq_true rfl, Nat.le_of_ble_eq_true rfl⟩ rfl (Nat.le_of_ble_eq_true rfl) ⟨Nat.zero_le _, Nat.zero_le _⟩ (by decide) (ce_poll ad cs _ _) rfl rfl dX9_addBallot_16 (fun r2 M3 L4 hr2 => ?_)
  obtain ⟨hq1, hq2, hr2⟩ := hr2
  obtain rfl := hq1.symm
  obtain rfl := hq2.symm
  have tr2 := congrArg Int32.toInt hr2
  refine g_istore_n C [(3, .int r2), (2, .int v1), (0, .ref (ad 96)), (1, .int x)] dX9_addBallot_19 (by decide) rfl ?_
  refine g_iconst C 0 dX9_addBallot_20 (by decide) ?_
  refine g_istore C [(4, .int 0), (3, .int r2), (2, .int v1), (0, .ref (ad 96)), (1, .int x)] dX9_addBallot_21 (by decide) rfl ?_
  have zy5 : (0 : Int32).toInt = 0 := by decide
  refine g_loop (α := Int32 × MI × ML) (fun a => (11 - a.1.toInt).toNat) (fun a => (0 ≤ a.1.toInt) ∧ (a.1.toInt ≤ (M 1 0).toInt) ∧ (∀ c : Nat, c < a.1.toNatClampNeg → plQ (vC M) (M 89 x.toNatClampNeg).toNatClampNeg c (a.2.1 97 c)) ∧ (∀ a9 : Nat, a9 < (M 1 0).toNatClampNeg → a.2.1 (100 + a9) = M (100 + a9)) ∧ IC a.2.1 ∧ (∀ k i, k ≠ 97 ∧ ¬ (100 ≤ k ∧ k < 110) → a.2.1 k i = M k i) ∧ (∀ k i, True → a.2.2 k i = L k i)) (fun a => a.2.1) (fun a => a.2.2) (fun a => [(4, .int a.1), (3, .int r2), (2, .int v1), (0, .ref (ad 96)), (1, .int x)]) ((0 : Int32), M, L) ⟨by show 0 ≤ (0 : Int32).toInt; omega, by show (0 : Int32).toInt ≤ (M 1 0).toInt; omega, by show ∀ c : Nat, c < (0 : Int32).toNatClampNeg → plQ (vC M) (M 89 x.toNatClampNeg).toNatClampNeg c (M 97 c); intro c hc; exact absurd hc (by show ¬ c < 0; omega), by show ∀ a9 : Nat, a9 < (M 1 0).toNatClampNeg → M (100 + a9) = M (100 + a9); intro a9 _; rfl, hI, hF, hG⟩ rfl rfl rfl ?_
  rintro ⟨x4_23, M_23, L_23⟩ ⟨j23_0, j23_1, j23_2, j23_3, hI, hF, hG⟩ ih_23
  dsimp only at j23_0 j23_1 j23_2 j23_3 hI hF hG ih_23 ⊢
  have hV : vC M_23 = vC M_23 := rfl
  have q97 : M_23 97 = M_23 97 := rfl
  have q100 : ∀ k, 100 ≤ k ∧ k < 110 → M_23 k = M_23 k := fun _ _ => rfl
  have eV : vC M_23 = vC M := vC_fr (fun k hk => funext (fun i => hF k i (by omega)))
  have n_x4_23 := ixn (x := x4_23) (by omega)
  refine g_iload C 0 dX9_addBallot_23 rfl ?_
  refine g_iload_n C 2 dX9_addBallot_25 rfl ?_
  refine g_icmp_ge C 63 dX9_addBallot_26 (by decide) (fun c6 => ?_) (fun c6 => ?_)
  ·
    have f7 := fle rfl rfl c6
    refine g_iconst C 0 dX9_addBallot_63 (by decide) ?_
    refine g_istore C [(4, .int 0), (3, .int r2), (2, .int v1), (0, .ref (ad 96)), (1, .int x)] dX9_addBallot_64 (by decide) rfl ?_
    have zy8 : (0 : Int32).toInt = 0 := by decide
    have e23 : x4_23.toNatClampNeg = (M 1 0).toNatClampNeg := by omega
    rw [e23] at j23_2
    refine g_loop (α := Int32 × MI × ML) (fun a => (11 - a.1.toInt).toNat) (fun a => (0 ≤ a.1.toInt) ∧ (a.1.toInt ≤ (M 1 0).toInt) ∧ (GR M a.2.1 100 (M 1 0).toNatClampNeg (fun ua ub => ua < a.1.toNatClampNeg) (fun ua ub => bwK (vC M) ua ub 0 (M 89 x.toNatClampNeg).toNatClampNeg (M (100 + ua) ub))) ∧ (∀ c : Nat, c < (M 1 0).toNatClampNeg → plQ (vC M) (M 89 x.toNatClampNeg).toNatClampNeg c (a.2.1 97 c)) ∧ IC a.2.1 ∧ (∀ k i, k ≠ 97 ∧ ¬ (100 ≤ k ∧ k < 110) → a.2.1 k i = M k i) ∧ (∀ k i, True → a.2.2 k i = L k i)) (fun a => a.2.1) (fun a => a.2.2) (fun a => [(4, .int a.1), (3, .int r2), (2, .int v1), (0, .ref (ad 96)), (1, .int x)]) ((0 : Int32), M_23, L_23) ⟨by show 0 ≤ (0 : Int32).toInt; omega, by show (0 : Int32).toInt ≤ (M 1 0).toInt; omega, by show GR M M_23 100 (M 1 0).toNatClampNeg (fun ua ub => ua < (0 : Int32).toNatClampNeg) (fun ua ub => bwK (vC M) ua ub 0 (M 89 x.toNatClampNeg).toNatClampNeg (M (100 + ua) ub)); exact GR_0 (fun ua ub _ _ => by show ¬ ua < 0; omega) j23_3, by show ∀ c : Nat, c < (M 1 0).toNatClampNeg → plQ (vC M) (M 89 x.toNatClampNeg).toNatClampNeg c (M_23 97 c); exact j23_2, hI, hF, hG⟩ rfl rfl rfl ?_
    rintro ⟨x4_66, M_66, L_66⟩ ⟨j66_0, j66_1, j66_2, j66_3, hI, hF, hG⟩ ih_66
    dsimp only at j66_0 j66_1 j66_2 j66_3 hI hF hG ih_66 ⊢
    have hV : vC M_66 = vC M_66 := rfl
    have q97 : M_66 97 = M_66 97 := rfl
    have q100 : ∀ k, 100 ≤ k ∧ k < 110 → M_66 k = M_66 k := fun _ _ => rfl
    have n_x4_66 := ixn (x := x4_66) (by omega)
    refine g_iload C 0 dX9_addBallot_66 rfl ?_
    refine g_iload_n C 2 dX9_addBallot_68 rfl ?_
    refine g_icmp_ge C 128 dX9_addBallot_69 (by decide) (fun c9 => ?_) (fun c9 => ?_)
    ·
      have f10 := fle rfl rfl c9
      exact g_vret C hr ⟨(fun ua ha ub hb => (j66_2 ua ha ub hb).1 (by omega)), hI, hF, hG⟩ dX9_addBallot_128
    ·
      have f11 := fnle rfl rfl c9
      refine g_iconst C 0 dX9_addBallot_72 (by decide) ?_
      refine g_istore C [(5, .int 0), (4, .int x4_66), (3, .int r2), (2, .int v1), (0, .ref (ad 96)), (1, .int x)] dX9_addBallot_73 (by decide) rfl ?_
      have zy12 : (0 : Int32).toInt = 0 := by decide
      refine g_loop (α := Int32 × MI × ML) (fun a => (11 - a.1.toInt).toNat) (fun a => (0 ≤ a.1.toInt) ∧ (a.1.toInt ≤ (M 1 0).toInt) ∧ (GR M a.2.1 100 (M 1 0).toNatClampNeg (fun ua ub => ua < x4_66.toNatClampNeg ∨ (ua = x4_66.toNatClampNeg ∧ ub < a.1.toNatClampNeg)) (fun ua ub => bwK (vC M) ua ub 0 (M 89 x.toNatClampNeg).toNatClampNeg (M (100 + ua) ub))) ∧ (∀ c : Nat, c < (M 1 0).toNatClampNeg → plQ (vC M) (M 89 x.toNatClampNeg).toNatClampNeg c (a.2.1 97 c)) ∧ IC a.2.1 ∧ (∀ k i, k ≠ 97 ∧ ¬ (100 ≤ k ∧ k < 110) → a.2.1 k i = M k i) ∧ (∀ k i, True → a.2.2 k i = L k i)) (fun a => a.2.1) (fun a => a.2.2) (fun a => [(5, .int a.1), (4, .int x4_66), (3, .int r2), (2, .int v1), (0, .ref (ad 96)), (1, .int x)]) ((0 : Int32), M_66, L_66) ⟨by show 0 ≤ (0 : Int32).toInt; omega, by show (0 : Int32).toInt ≤ (M 1 0).toInt; omega, by show GR M M_66 100 (M 1 0).toNatClampNeg (fun ua ub => ua < x4_66.toNatClampNeg ∨ (ua = x4_66.toNatClampNeg ∧ ub < (0 : Int32).toNatClampNeg)) (fun ua ub => bwK (vC M) ua ub 0 (M 89 x.toNatClampNeg).toNatClampNeg (M (100 + ua) ub)); exact GR_congr j66_2 (fun ua ub _ _ => by rw [show (0 : Int32).toNatClampNeg = 0 by decide]; omega), by show ∀ c : Nat, c < (M 1 0).toNatClampNeg → plQ (vC M) (M 89 x.toNatClampNeg).toNatClampNeg c (M_66 97 c); exact j66_3, hI, hF, hG⟩ rfl rfl rfl ?_
      rintro ⟨x5_75, M_75, L_75⟩ ⟨j75_0, j75_1, j75_2, j75_3, hI, hF, hG⟩ ih_75
      dsimp only at j75_0 j75_1 j75_2 j75_3 hI hF hG ih_75 ⊢
      have hV : vC M_75 = vC M_75 := rfl
      have q97 : M_75 97 = M_75 97 := rfl
      have q100 : ∀ k, 100 ≤ k ∧ k < 110 → M_75 k = M_75 k := fun _ _ => rfl
      have n_x5_75 := ixn (x := x5_75) (by omega)
      refine g_iload C 0 dX9_addBallot_75 rfl ?_
      refine g_iload_n C 3 dX9_addBallot_77 rfl ?_
      refine g_icmp_ge C 122 dX9_addBallot_78 (by decide) (fun c13 => ?_) (fun c13 => ?_)
      ·
        have f14 := fle rfl rfl c13
        obtain ⟨v15, ev15⟩ : ∃ y : Int32, y = x4_66 + 1 := ⟨_, rfl⟩
        try have fv15 := fadd rfl (by decide : (1 : Int32).toInt = 1) ev15 (by omega) (by omega)
        refine g_iinc C 1 v15 [(4, .int v15), (5, .int x5_75), (3, .int r2), (2, .int v1), (0, .ref (ad 96)), (1, .int x)] dX9_addBallot_122 rfl (by rw [ev15]; rfl) (by decide) rfl ?_
        refine g_goto C 66 dX9_addBallot_125 (by decide) ?_
        refine g_lv [0, 2, 3, 4, 5] [(4, .int v15), (3, .int r2), (2, .int v1), (0, .ref (ad 96)), (1, .int x)] rfl ?_
        have nv := ixn (x := v15) (by omega)
        have iv : v15.toNatClampNeg = x4_66.toNatClampNeg + 1 := by omega
        exact ih_66 (v15, M_75, L_75) ⟨by show 0 ≤ v15.toInt; omega, by show v15.toInt ≤ (M 1 0).toInt; omega, by show GR M M_75 100 (M 1 0).toNatClampNeg (fun ua ub => ua < v15.toNatClampNeg) (fun ua ub => bwK (vC M) ua ub 0 (M 89 x.toNatClampNeg).toNatClampNeg (M (100 + ua) ub)); exact GR_congr j75_2 (fun ua ub _ _ => by omega), by show ∀ c : Nat, c < (M 1 0).toNatClampNeg → plQ (vC M) (M 89 x.toNatClampNeg).toNatClampNeg c (M_75 97 c); exact j75_3, hI, hF, hG⟩ (by show (11 - v15.toInt).toNat < (11 - x4_66.toInt).toNat; omega)
      ·
        have f16 := fnle rfl rfl c13
        refine g_aload_n C 4 dX9_addBallot_81 rfl ?_
        refine g_get C (.ref (ad 98)) 2 in_X9_addBallot_9 (List.mem_of_getElem? (i := 7) rfl) (by decide) (ce_ways ad cs _ _) rfl (by decide) rfl rfl dX9_addBallot_82 ?_
        refine g_iload C 1 dX9_addBallot_85 rfl ?_
        have hi17 : vp_in x4_66 10 := (fin' (n := 10) rfl (by omega) (by omega))
        have nhi17 := tn hi17
        have mhi17 := ixn (x := x4_66) (by omega)
        refine g_aald C (by decide) (ce_waheadm ad cs _ _) rfl hi17 dX9_addBallot_87 ?_
        refine g_iload C 0 dX9_addBallot_88 rfl ?_
        refine g_dup2 C dX9_addBallot_90 rfl rfl ?_
        have nx5_75 := ixn (x := x5_75) (by omega)
        refine g_iald C (by omega) (ce_wahead ad cs _ _ nhi17) (fin' (n := 10) rfl (by omega) (by omega)) dX9_addBallot_91 ?_
        refine g_ni (fun v18 ev18 => ?_)
        have gv18 := ev18.trans (congrFun (q100 _ (by omega)) _)
        have tv18 := congrArg Int32.toInt gv18
        refine g_aload_n C 4 dX9_addBallot_92 rfl ?_
        refine g_get C (.ref (ad 97)) 1 in_X9_addBallot_9 (List.mem_of_getElem? (i := 4) rfl) (by decide) (ce_ways ad cs _ _) rfl (by decide) rfl rfl dX9_addBallot_93 ?_
        refine g_iload C 1 dX9_addBallot_96 rfl ?_
        have nx4_66 := ixn (x := x4_66) (by omega)
        refine g_iald C (by decide) (ce_wplaces ad cs _ _) (fin' (n := 10) rfl (by omega) (by omega)) dX9_addBallot_98 ?_
        refine g_ni (fun v19 ev19 => ?_)
        have gv19 : v19 = M_75 97 x4_66.toNatClampNeg := ev19.trans (congrFun q97 _)
        have tv19 := congrArg Int32.toInt gv19
        refine g_aload_n C 4 dX9_addBallot_99 rfl ?_
        refine g_get C (.ref (ad 97)) 1 in_X9_addBallot_9 (List.mem_of_getElem? (i := 4) rfl) (by decide) (ce_ways ad cs _ _) rfl (by decide) rfl rfl dX9_addBallot_100 ?_
        refine g_iload C 0 dX9_addBallot_103 rfl ?_
        have nx5_75 := ixn (x := x5_75) (by omega)
        refine g_iald C (by decide) (ce_wplaces ad cs _ _) (fin' (n := 10) rfl (by omega) (by omega)) dX9_addBallot_105 ?_
        refine g_ni (fun v20 ev20 => ?_)
        have gv20 : v20 = M_75 97 x5_75.toNatClampNeg := ev20.trans (congrFun q97 _)
        have tv20 := congrArg Int32.toInt gv20
        refine g_icmp_ge C 113 dX9_addBallot_106 (by decide) (fun c21 => ?_) (fun c21 => ?_)
        ·
          have f22 := fle rfl rfl c21
          refine g_iconst C 0 dX9_addBallot_113 (by decide) ?_
          refine g_iadd C dX9_addBallot_114 ?_
          refine g_ni (fun v23 ev23 => ?_)
          try have fv23 := fadd rfl (by decide : (0 : Int32).toInt = 0) ev23 (by omega) (by omega)
          have nx5_75 := ixn (x := x5_75) (by omega)
          refine g_iast C (by omega) (ce_wahead ad cs _ _ nhi17) (by rw [sI_k]; exact (ce_wahead ad cs _ _ nhi17)) (fin' (n := 10) rfl (by omega) (by omega)) dX9_addBallot_115 ?_
          refine g_nm (fun M24 hM24 => ?_)
          have hI : IC M24 := by rw [hM24]; exact hI.st (bC_free (by omega) (by omega) (by omega) (by omega) (by omega) (by omega) (by omega))
          have hF : ∀ k i, k ≠ 97 ∧ ¬ (100 ≤ k ∧ k < 110) → M24 k i = M k i := fun k i hk => by (rw [hM24, sI_at, if_neg (by omega)]; try exact hF k i hk)
          have q97 : M24 97 = M_75 97 := by rw [hM24, sI_n _ _ _ (by omega)]; try exact q97
          have hV : vC M24 = vC M_75 := by rw [hM24, vC_z (by omega), hV]
          obtain ⟨v25, ev25⟩ : ∃ y : Int32, y = x5_75 + 1 := ⟨_, rfl⟩
          try have fv25 := fadd rfl (by decide : (1 : Int32).toInt = 1) ev25 (by omega) (by omega)
          refine g_iinc C 0 v25 [(5, .int v25), (4, .int x4_66), (3, .int r2), (2, .int v1), (0, .ref (ad 96)), (1, .int x)] dX9_addBallot_116 rfl (by rw [ev25]; rfl) (by decide) rfl ?_
          refine g_goto C 75 dX9_addBallot_119 (by decide) ?_
          have nv := ixn (x := v25) (by omega)
          have iv : v25.toNatClampNeg = x5_75.toNatClampNeg + 1 := by omega
          have qx := j75_3 x4_66.toNatClampNeg (by omega)
          have qy := j75_3 x5_75.toNatClampNeg (by omega)
          have qa := plQ_ah qx qy
          have ov := (j75_2 x4_66.toNatClampNeg (by omega) x5_75.toNatClampNeg (by omega)).2 (by omega)
          have hgr : GR M M24 100 (M 1 0).toNatClampNeg (fun ua ub => ua < x4_66.toNatClampNeg ∨ (ua = x4_66.toNatClampNeg ∧ ub < x5_75.toNatClampNeg + 1)) (fun ua ub => bwK (vC M) ua ub 0 (M 89 x.toNatClampNeg).toNatClampNeg (M (100 + ua) ub)) := by
            refine GR_step (x := x4_66.toNatClampNeg) (y := x5_75.toNatClampNeg) j75_2 hM24 ?_ (fun ua ub _ _ => by omega)
            show _ = bwK (vC M) x4_66.toNatClampNeg x5_75.toNatClampNeg 0 (M 89 x.toNatClampNeg).toNatClampNeg (M (100 + x4_66.toNatClampNeg) x5_75.toNatClampNeg)
            unfold bwK
            rw [← ov]
            first | (rw [if_pos (qa.mp (by omega))]; simp only [ev23, gv20, gv19, gv18, hr2, gv1]; done) | (rw [if_neg (fun h9 => absurd (qa.mpr h9) (by omega))]; simp only [ev23, gv20, gv19, gv18, hr2, gv1, Int32.add_zero]; done)
          exact ih_75 (v25, M24, L_75) ⟨by show 0 ≤ v25.toInt; omega, by show v25.toInt ≤ (M 1 0).toInt; omega, by show GR M M24 100 (M 1 0).toNatClampNeg (fun ua ub => ua < x4_66.toNatClampNeg ∨ (ua = x4_66.toNatClampNeg ∧ ub < v25.toNatClampNeg)) (fun ua ub => bwK (vC M) ua ub 0 (M 89 x.toNatClampNeg).toNatClampNeg (M (100 + ua) ub)); rw [iv]; exact hgr, by show ∀ c : Nat, c < (M 1 0).toNatClampNeg → plQ (vC M) (M 89 x.toNatClampNeg).toNatClampNeg c (M24 97 c); rw [q97]; exact j75_3, hI, hF, hG⟩ (by show (11 - v25.toInt).toNat < (11 - x5_75.toInt).toNat; omega)
        ·
          have f26 := fnle rfl rfl c21
          refine g_iload_n C 2 dX9_addBallot_109 rfl ?_
          refine g_goto C 114 dX9_addBallot_110 (by decide) ?_
          refine g_iadd C dX9_addBallot_114 ?_
          refine g_ni (fun v27 ev27 => ?_)
          try have fv27 := fadd rfl rfl ev27 (by omega) (by omega)
          have nx5_75 := ixn (x := x5_75) (by omega)
          refine g_iast C (by omega) (ce_wahead ad cs _ _ nhi17) (by rw [sI_k]; exact (ce_wahead ad cs _ _ nhi17)) (fin' (n := 10) rfl (by omega) (by omega)) dX9_addBallot_115 ?_
          refine g_nm (fun M28 hM28 => ?_)
          have hI : IC M28 := by rw [hM28]; exact hI.st (bC_free (by omega) (by omega) (by omega) (by omega) (by omega) (by omega) (by omega))
          have hF : ∀ k i, k ≠ 97 ∧ ¬ (100 ≤ k ∧ k < 110) → M28 k i = M k i := fun k i hk => by (rw [hM28, sI_at, if_neg (by omega)]; try exact hF k i hk)
          have q97 : M28 97 = M_75 97 := by rw [hM28, sI_n _ _ _ (by omega)]; try exact q97
          have hV : vC M28 = vC M_75 := by rw [hM28, vC_z (by omega), hV]
          obtain ⟨v29, ev29⟩ : ∃ y : Int32, y = x5_75 + 1 := ⟨_, rfl⟩
          try have fv29 := fadd rfl (by decide : (1 : Int32).toInt = 1) ev29 (by omega) (by omega)
          refine g_iinc C 0 v29 [(5, .int v29), (4, .int x4_66), (3, .int r2), (2, .int v1), (0, .ref (ad 96)), (1, .int x)] dX9_addBallot_116 rfl (by rw [ev29]; rfl) (by decide) rfl ?_
          refine g_goto C 75 dX9_addBallot_119 (by decide) ?_
          have nv := ixn (x := v29) (by omega)
          have iv : v29.toNatClampNeg = x5_75.toNatClampNeg + 1 := by omega
          have qx := j75_3 x4_66.toNatClampNeg (by omega)
          have qy := j75_3 x5_75.toNatClampNeg (by omega)
          have qa := plQ_ah qx qy
          have ov := (j75_2 x4_66.toNatClampNeg (by omega) x5_75.toNatClampNeg (by omega)).2 (by omega)
          have hgr : GR M M28 100 (M 1 0).toNatClampNeg (fun ua ub => ua < x4_66.toNatClampNeg ∨ (ua = x4_66.toNatClampNeg ∧ ub < x5_75.toNatClampNeg + 1)) (fun ua ub => bwK (vC M) ua ub 0 (M 89 x.toNatClampNeg).toNatClampNeg (M (100 + ua) ub)) := by
            refine GR_step (x := x4_66.toNatClampNeg) (y := x5_75.toNatClampNeg) j75_2 hM28 ?_ (fun ua ub _ _ => by omega)
            show _ = bwK (vC M) x4_66.toNatClampNeg x5_75.toNatClampNeg 0 (M 89 x.toNatClampNeg).toNatClampNeg (M (100 + x4_66.toNatClampNeg) x5_75.toNatClampNeg)
            unfold bwK
            rw [← ov]
            first | (rw [if_pos (qa.mp (by omega))]; simp only [ev27, gv20, gv19, gv18, hr2, gv1]; done) | (rw [if_neg (fun h9 => absurd (qa.mpr h9) (by omega))]; simp only [ev27, gv20, gv19, gv18, hr2, gv1, Int32.add_zero]; done)
          exact ih_75 (v29, M28, L_75) ⟨by show 0 ≤ v29.toInt; omega, by show v29.toInt ≤ (M 1 0).toInt; omega, by show GR M M28 100 (M 1 0).toNatClampNeg (fun ua ub => ua < x4_66.toNatClampNeg ∨ (ua = x4_66.toNatClampNeg ∧ ub < v29.toNatClampNeg)) (fun ua ub => bwK (vC M) ua ub 0 (M 89 x.toNatClampNeg).toNatClampNeg (M (100 + ua) ub)); rw [iv]; exact hgr, by show ∀ c : Nat, c < (M 1 0).toNatClampNeg → plQ (vC M) (M 89 x.toNatClampNeg).toNatClampNeg c (M28 97 c); rw [q97]; exact j75_3, hI, hF, hG⟩ (by show (11 - v29.toInt).toNat < (11 - x5_75.toInt).toNat; omega)
  ·
    have f30 := fnle rfl rfl c6
    refine g_aload_n C 3 dX9_addBallot_29 rfl ?_
    refine g_get C (.ref (ad 97)) 1 in_X9_addBallot_9 (List.mem_of_getElem? (i := 4) rfl) (by decide) (ce_ways ad cs _ _) rfl (by decide) rfl rfl dX9_addBallot_30 ?_
    refine g_iload C 0 dX9_addBallot_33 rfl ?_
    refine g_aload_n C 3 dX9_addBallot_35 rfl ?_
    refine g_get C (.ref (ad 88)) 0 in_X9_addBallot_9 (List.mem_of_getElem? (i := 1) rfl) (by decide) (ce_ways ad cs _ _) rfl (by decide) rfl rfl dX9_addBallot_36 ?_
    refine g_get C (.ref (ad 3)) 1 in_X9_addBallot_6 (List.mem_of_getElem? (i := 5) rfl) (by decide) (ce_poll ad cs _ _) rfl (by decide) rfl rfl dX9_addBallot_39 ?_
    refine g_aload_n C 3 dX9_addBallot_42 rfl ?_
    refine g_get C (.ref (ad 88)) 0 in_X9_addBallot_9 (List.mem_of_getElem? (i := 1) rfl) (by decide) (ce_ways ad cs _ _) rfl (by decide) rfl rfl dX9_addBallot_43 ?_
    refine g_get C (.ref (ad 89)) 2 in_X9_addBallot_6 (List.mem_of_getElem? (i := 6) rfl) (by decide) (ce_poll ad cs _ _) rfl (by decide) rfl rfl dX9_addBallot_46 ?_
    refine g_iload_n C 4 dX9_addBallot_49 rfl ?_
    have nx := ixn (x := x) (by omega)
    refine g_iald C (by decide) (ce_plying ad cs _ _) (fin' (n := 40) rfl (by omega) (by omega)) dX9_addBallot_50 ?_
    refine g_ni (fun v31 ev31 => ?_)
    have gv31 : v31 = M 89 x.toNatClampNeg := ev31.trans (hF 89 x.toNatClampNeg (by omega))
    have tv31 := congrArg Int32.toInt gv31
    obtain ⟨bv31, dv31⟩ := (show rg 0 59 v31 from (by rw [ev31]; exact hI 89 x.toNatClampNeg))
    refine g_iload C 0 dX9_addBallot_51 rfl ?_
    refine g_callVi C (n := 2) (As := [.int v31, .int x4_23]) (st := [.int x4_23, .ref (ad 97)]) (v_X0_placeOf l D ad cs _ _ v31 x4_23 hI ⟨by omega, by omega⟩) gX9_addBallot_X0_placeOf rfl rfl rfl (by decide +kernel) ⟨Nat.le_of_ble_eq_true rfl, Nat.le_of_ble_eq_true rfl⟩ rfl (Nat.le_of_ble_eq_true rfl) ⟨Nat.zero_le _, Nat.zero_le _⟩ (by decide) (ce_ball ad cs _ _) rfl rfl dX9_addBallot_53 (fun r32 M33 L34 hr32 => ?_)
    obtain ⟨hq1, hq2, hr32⟩ := hr32
    obtain rfl := hq1.symm
    obtain rfl := hq2.symm
    rw [eV] at hr32
    have hq9 : plQ (vC M) (M 89 x.toNatClampNeg).toNatClampNeg x4_23.toNatClampNeg r32 := by
      unfold plQ plN
      rw [of_ix (x := x4_23) (by omega)]
      rw [gv31] at hr32
      rcases hr32 with h9 | h9
      · exact Or.inl h9
      · exact Or.inr ⟨congrArg Int32.toInt h9.1, h9.2⟩
    have nx4_23 := ixn (x := x4_23) (by omega)
    refine g_iast C (by decide) (ce_wplaces ad cs _ _) (by rw [sI_k]; rfl) (fin' (n := 10) rfl (by omega) (by omega)) dX9_addBallot_56 ?_
    refine g_nm (fun M35 hM35 => ?_)
    have hI : IC M35 := by rw [hM35]; exact hI.st (bC_free (by decide) (by decide) (by decide) (by decide) (by decide) (by decide) (by decide))
    have hF : ∀ k i, k ≠ 97 ∧ ¬ (100 ≤ k ∧ k < 110) → M35 k i = M k i := fun k i hk => by (rw [hM35, sI_at, if_neg (by omega)]; try exact hF k i hk)
    have q100 : ∀ k, 100 ≤ k ∧ k < 110 → M35 k = M_23 k := fun k hk => by rw [hM35, sI_n _ _ _ (by omega)]; try exact q100 k hk
    have hV : vC M35 = vC M_23 := by rw [hM35, vC_z (by decide), hV]
    obtain ⟨v36, ev36⟩ : ∃ y : Int32, y = x4_23 + 1 := ⟨_, rfl⟩
    try have fv36 := fadd rfl (by decide : (1 : Int32).toInt = 1) ev36 (by omega) (by omega)
    refine g_iinc C 0 v36 [(4, .int v36), (3, .int r2), (2, .int v1), (0, .ref (ad 96)), (1, .int x)] dX9_addBallot_57 rfl (by rw [ev36]; rfl) (by decide) rfl ?_
    refine g_goto C 23 dX9_addBallot_60 (by decide) ?_
    have nv := ixn (x := v36) (by omega)
    have iv : v36.toNatClampNeg = x4_23.toNatClampNeg + 1 := by omega
    have hall : ∀ c : Nat, c < x4_23.toNatClampNeg + 1 → plQ (vC M) (M 89 x.toNatClampNeg).toNatClampNeg c (M35 97 c) := by
      intro c hc
      rw [hM35, sI_at]
      by_cases e9 : c = x4_23.toNatClampNeg
      · rw [if_pos ⟨rfl, e9⟩, e9]; exact hq9
      · rw [if_neg (fun h => e9 h.2)]; exact j23_2 c (by omega)
    have hga : ∀ a9 : Nat, a9 < (M 1 0).toNatClampNeg → M35 (100 + a9) = M (100 + a9) := fun a9 ha9 => by rw [hM35, sI_n _ _ _ (by omega)]; exact j23_3 a9 ha9
    exact ih_23 (v36, M35, L_23) ⟨by show 0 ≤ v36.toInt; omega, by show v36.toInt ≤ (M 1 0).toInt; omega, by show ∀ c : Nat, c < v36.toNatClampNeg → plQ (vC M) (M 89 x.toNatClampNeg).toNatClampNeg c (M35 97 c); rw [iv]; exact hall, by show ∀ a9 : Nat, a9 < (M 1 0).toNatClampNeg → M35 (100 + a9) = M (100 + a9); exact hga, hI, hF, hG⟩ (by show (11 - v36.toInt).toNat < (11 - x4_23.toInt).toNat; omega)
set_option maxHeartbeats 4000000 in
set_option maxRecDepth 100000 in
theorem k_X9_compareAll (l : Launch) (D : va_G) (ad : Nat → Nat) (cs : Nat → ClassId) (M : MI) (L : ML)  (hI : IC M) : Cv l yX9_compareAll wsX9_compareAll ({ frames := 2, cells := 0, slots := 0, locals := 48 }) D ad cs [.ref (ad 96)] M L (fun M1 L1 => (∀ ua, ua < (M 1 0).toNatClampNeg → ∀ ub, ub < (M 1 0).toNatClampNeg → M1 (100 + ua) ub = foK (bwK (vC M) ua ub) (M 89) (M 88 3).toNatClampNeg 0) ∧ IC M1 ∧ (∀ k i, k ≠ 97 ∧ ¬ (100 ≤ k ∧ k < 110) → M1 k i = M k i) ∧ ∀ k i, True → L1 k i = L k i) := by
  refine enter_v RX9 rfl [(0, .ref (ad 96))] rfl (Nat.le_of_ble_eq_true rfl) (by decide +kernel) rfl ?_
  intro p e s m below meth c C hr
  have hF : ∀ k i, k ≠ 97 ∧ ¬ (100 ≤ k ∧ k < 110) → M k i = M k i := fun _ _ _ => rfl
  have hG : ∀ k i, True → L k i = L k i := fun _ _ _ => rfl
  have w0 : (vC M 0 0).toInt = (M 1 0).toInt := rfl
  have w1 : (vC M 0 1).toInt = (M 3 0).toInt := rfl
  have w2 : (vC M 0 2).toInt = (M 68 0).toInt := rfl
  have w3 : (vC M 0 3).toInt = (M 81 0).toInt := rfl
  obtain ⟨y0a, y0b⟩ := (show rg 0 10 (M 1 0) from hI 1 0 rfl)
  obtain ⟨y1a, y1b⟩ := (show rg 0 60 (M 3 0) from hI 3 0 rfl)
  obtain ⟨y2a, y2b⟩ := (show rg 0 8 (M 68 0) from hI 68 0 rfl)
  obtain ⟨y3a, y3b⟩ := (show rg 0 20 (M 81 0) from hI 81 0 rfl)
  have hI0 := hI
  obtain ⟨ma, mb⟩ := (show rg 0 40 (M 88 3) from (hI 88 3).1 rfl)
  have nm := ixn ma
  have n02 := ixn y0a
  have q97 : M 97 = M 97 := rfl
  have q100 : ∀ k, 100 ≤ k ∧ k < 110 → M k = M k := fun _ _ => rfl
  have hV : vC M = vC M := rfl
  refine g_iconst C 0 dX9_compareAll_0 (by decide) ?_
  refine g_istore_n C [(1, .int 0), (0, .ref (ad 96))] dX9_compareAll_1 (by decide) rfl ?_
  have zy1 : (0 : Int32).toInt = 0 := by decide
  refine g_loop (α := Int32 × MI × ML) (fun a => (11 - a.1.toInt).toNat) (fun a => (0 ≤ a.1.toInt) ∧ (a.1.toInt ≤ 10) ∧ (GR M a.2.1 100 10 (fun ua ub => ua < a.1.toNatClampNeg) (fun _ _ => 0)) ∧ IC a.2.1 ∧ (∀ k i, k ≠ 97 ∧ ¬ (100 ≤ k ∧ k < 110) → a.2.1 k i = M k i) ∧ (∀ k i, True → a.2.2 k i = L k i)) (fun a => a.2.1) (fun a => a.2.2) (fun a => [(1, .int a.1), (0, .ref (ad 96))]) ((0 : Int32), M, L) ⟨by show 0 ≤ (0 : Int32).toInt; omega, by show (0 : Int32).toInt ≤ 10; omega, by show GR M M 100 10 (fun ua ub => ua < (0 : Int32).toNatClampNeg) (fun _ _ => 0); exact GR_0 (fun ua ub _ _ => by show ¬ ua < 0; omega) (fun _ _ => rfl), hI, hF, hG⟩ rfl rfl rfl ?_
  rintro ⟨x1_2, M_2, L_2⟩ ⟨j2_0, j2_1, j2_2, hI, hF, hG⟩ ih_2
  dsimp only at j2_0 j2_1 j2_2 hI hF hG ih_2 ⊢
  have hV : vC M_2 = vC M_2 := rfl
  have q97 : M_2 97 = M_2 97 := rfl
  have q100 : ∀ k, 100 ≤ k ∧ k < 110 → M_2 k = M_2 k := fun _ _ => rfl
  have n_x1_2 := ixn (x := x1_2) (by omega)
  refine g_iload_n C 0 dX9_compareAll_2 rfl ?_
  refine g_bipush C 10 dX9_compareAll_3 (by decide) ?_
  refine g_icmp_ge C 37 dX9_compareAll_5 (by decide) (fun c2 => ?_) (fun c2 => ?_)
  ·
    have f3 := fle (by decide : (10 : Int32).toInt = 10) rfl c2
    refine g_iconst C 0 dX9_compareAll_37 (by decide) ?_
    refine g_istore_n C [(1, .int 0), (0, .ref (ad 96))] dX9_compareAll_38 (by decide) rfl ?_
    have zy4 : (0 : Int32).toInt = 0 := by decide
    refine g_loop (α := Int32 × MI × ML) (fun a => (41 - a.1.toInt).toNat) (fun a => (0 ≤ a.1.toInt) ∧ (a.1.toInt ≤ (M 88 3).toInt) ∧ (∀ ua, ua < (M 1 0).toNatClampNeg → ∀ ub, ub < (M 1 0).toNatClampNeg → a.2.1 (100 + ua) ub = foK (bwK (vC M) ua ub) (M 89) a.1.toNatClampNeg 0) ∧ IC a.2.1 ∧ (∀ k i, k ≠ 97 ∧ ¬ (100 ≤ k ∧ k < 110) → a.2.1 k i = M k i) ∧ (∀ k i, True → a.2.2 k i = L k i)) (fun a => a.2.1) (fun a => a.2.2) (fun a => [(1, .int a.1), (0, .ref (ad 96))]) ((0 : Int32), M_2, L_2) ⟨by show 0 ≤ (0 : Int32).toInt; omega, by show (0 : Int32).toInt ≤ (M 88 3).toInt; omega, by show ∀ ua, ua < (M 1 0).toNatClampNeg → ∀ ub, ub < (M 1 0).toNatClampNeg → M_2 (100 + ua) ub = foK (bwK (vC M) ua ub) (M 89) (0 : Int32).toNatClampNeg 0; intro ua ha ub hb; exact (j2_2 ua (by omega) ub (by omega)).1 (by omega), hI, hF, hG⟩ rfl rfl rfl ?_
    rintro ⟨x1_39, M_39, L_39⟩ ⟨j39_0, j39_1, j39_2, hI, hF, hG⟩ ih_39
    dsimp only at j39_0 j39_1 j39_2 hI hF hG ih_39 ⊢
    have hV : vC M_39 = vC M_39 := rfl
    have q97 : M_39 97 = M_39 97 := rfl
    have q100 : ∀ k, 100 ≤ k ∧ k < 110 → M_39 k = M_39 k := fun _ _ => rfl
    have n_x1_39 := ixn (x := x1_39) (by omega)
    have eV : vC M_39 = vC M := vC_fr (fun k hk => funext (fun i => hF k i (by omega)))
    refine g_iload_n C 0 dX9_compareAll_39 rfl ?_
    refine g_aload_n C 1 dX9_compareAll_40 rfl ?_
    refine g_get C (.ref (ad 88)) 0 in_X9_compareAll_9 (List.mem_of_getElem? (i := 2) rfl) (by decide) (ce_ways ad cs _ _) rfl (by decide) rfl rfl dX9_compareAll_41 ?_
    refine g_get C (.int (M_39 88 3)) 3 in_X9_compareAll_6 (List.mem_of_getElem? (i := 3) rfl) (by decide) (ce_poll ad cs _ _) rfl (by decide) rfl rfl dX9_compareAll_44 ?_
    refine g_ni (fun v5 ev5 => ?_)
    have gv5 : v5 = M 88 3 := ev5.trans (hF 88 3 (by omega))
    have tv5 := congrArg Int32.toInt gv5
    obtain ⟨bv5, dv5⟩ := (show rg 0 40 v5 from (by rw [ev5]; exact (hI 88 3).1 rfl))
    refine g_icmp_ge C 61 dX9_compareAll_47 (by decide) (fun c6 => ?_) (fun c6 => ?_)
    ·
      have f7 := fle rfl rfl c6
      exact g_vret C hr ⟨(by rw [show (M 88 3).toNatClampNeg = x1_39.toNatClampNeg by omega]; exact j39_2), hI, hF, hG⟩ dX9_compareAll_61
    ·
      have f8 := fnle rfl rfl c6
      refine g_aload_n C 1 dX9_compareAll_50 rfl ?_
      refine g_iload_n C 0 dX9_compareAll_51 rfl ?_
      have hF0 := hF
      refine g_callVv C (n := 1) (As := [.int x1_39]) (st := []) (k_X9_addBallot l D ad cs _ _ x1_39 hI ⟨by omega, by omega⟩) gX9_compareAll_X9_addBallot rfl rfl rfl (by decide +kernel) ⟨Nat.le_of_ble_eq_true rfl, Nat.le_of_ble_eq_true rfl⟩ rfl (Nat.le_of_ble_eq_true rfl) ⟨Nat.zero_le _, Nat.zero_le _⟩ (by decide) (ce_ways ad cs _ _) rfl rfl dX9_compareAll_52 (fun M10 L11 hr9 => ?_)
      obtain ⟨hr9, hI, hFr9, hGr9⟩ := hr9
      have hF : ∀ k i, k ≠ 97 ∧ ¬ (100 ≤ k ∧ k < 110) → M10 k i = M k i := fun k i hk => by (rw [hFr9 k i (by omega)]; try exact hF k i hk)
      have hG : ∀ k i, True → L11 k i = L k i := fun k i hk => by (rw [hGr9 k i trivial]; try exact hG k i hk)
      have hV : vC M10 = vC M_39 := by rw [vC_fr (fun k hk => funext (fun i => hFr9 k i (by omega))), hV]
      have q100 : ∀ k, 100 ≤ k ∧ k < 110 → M10 k = M10 k := fun _ _ => rfl
      have q97 : M10 97 = M10 97 := rfl
      have hal : ∀ ua, ua < (M 1 0).toNatClampNeg → ∀ ub, ub < (M 1 0).toNatClampNeg → M10 (100 + ua) ub = foK (bwK (vC M) ua ub) (M 89) (x1_39.toNatClampNeg + 1) 0 := by
        intro ua ha ub hb
        rw [hr9 ua (by rw [show M_39 1 0 = M 1 0 from hF0 1 0 (by omega)]; exact ha) ub (by rw [show M_39 1 0 = M 1 0 from hF0 1 0 (by omega)]; exact hb), eV, show M_39 89 = M 89 from funext (fun i => hF0 89 i (by omega)), j39_2 ua ha ub hb]
        rfl
      obtain ⟨v12, ev12⟩ : ∃ y : Int32, y = x1_39 + 1 := ⟨_, rfl⟩
      try have fv12 := fadd rfl (by decide : (1 : Int32).toInt = 1) ev12 (by omega) (by omega)
      refine g_iinc C 0 v12 [(1, .int v12), (0, .ref (ad 96))] dX9_compareAll_55 rfl (by rw [ev12]; rfl) (by decide) rfl ?_
      refine g_goto C 39 dX9_compareAll_58 (by decide) ?_
      have nv := ixn (x := v12) (by omega)
      have iv : v12.toNatClampNeg = x1_39.toNatClampNeg + 1 := by omega
      exact ih_39 (v12, M10, L11) ⟨by show 0 ≤ v12.toInt; omega, by show v12.toInt ≤ (M 88 3).toInt; omega, by show ∀ ua, ua < (M 1 0).toNatClampNeg → ∀ ub, ub < (M 1 0).toNatClampNeg → M10 (100 + ua) ub = foK (bwK (vC M) ua ub) (M 89) v12.toNatClampNeg 0; rw [iv]; exact hal, hI, hF, hG⟩ (by show (41 - v12.toInt).toNat < (41 - x1_39.toInt).toNat; omega)
  ·
    have f13 := fnle (by decide : (10 : Int32).toInt = 10) rfl c2
    refine g_iconst C 0 dX9_compareAll_8 (by decide) ?_
    refine g_istore_n C [(2, .int 0), (1, .int x1_2), (0, .ref (ad 96))] dX9_compareAll_9 (by decide) rfl ?_
    have zy14 : (0 : Int32).toInt = 0 := by decide
    refine g_loop (α := Int32 × MI × ML) (fun a => (11 - a.1.toInt).toNat) (fun a => (0 ≤ a.1.toInt) ∧ (a.1.toInt ≤ 10) ∧ (GR M a.2.1 100 10 (fun ua ub => ua < x1_2.toNatClampNeg ∨ (ua = x1_2.toNatClampNeg ∧ ub < a.1.toNatClampNeg)) (fun _ _ => 0)) ∧ IC a.2.1 ∧ (∀ k i, k ≠ 97 ∧ ¬ (100 ≤ k ∧ k < 110) → a.2.1 k i = M k i) ∧ (∀ k i, True → a.2.2 k i = L k i)) (fun a => a.2.1) (fun a => a.2.2) (fun a => [(2, .int a.1), (1, .int x1_2), (0, .ref (ad 96))]) ((0 : Int32), M_2, L_2) ⟨by show 0 ≤ (0 : Int32).toInt; omega, by show (0 : Int32).toInt ≤ 10; omega, by show GR M M_2 100 10 (fun ua ub => ua < x1_2.toNatClampNeg ∨ (ua = x1_2.toNatClampNeg ∧ ub < (0 : Int32).toNatClampNeg)) (fun _ _ => 0); exact GR_congr j2_2 (fun ua ub _ _ => by rw [show (0 : Int32).toNatClampNeg = 0 by decide]; omega), hI, hF, hG⟩ rfl rfl rfl ?_
    rintro ⟨x2_10, M_10, L_10⟩ ⟨j10_0, j10_1, j10_2, hI, hF, hG⟩ ih_10
    dsimp only at j10_0 j10_1 j10_2 hI hF hG ih_10 ⊢
    have hV : vC M_10 = vC M_10 := rfl
    have q97 : M_10 97 = M_10 97 := rfl
    have q100 : ∀ k, 100 ≤ k ∧ k < 110 → M_10 k = M_10 k := fun _ _ => rfl
    have n_x2_10 := ixn (x := x2_10) (by omega)
    refine g_iload_n C 0 dX9_compareAll_10 rfl ?_
    refine g_bipush C 10 dX9_compareAll_11 (by decide) ?_
    refine g_icmp_ge C 31 dX9_compareAll_13 (by decide) (fun c15 => ?_) (fun c15 => ?_)
    ·
      have f16 := fle (by decide : (10 : Int32).toInt = 10) rfl c15
      obtain ⟨v17, ev17⟩ : ∃ y : Int32, y = x1_2 + 1 := ⟨_, rfl⟩
      try have fv17 := fadd rfl (by decide : (1 : Int32).toInt = 1) ev17 (by omega) (by omega)
      refine g_iinc C 1 v17 [(1, .int v17), (2, .int x2_10), (0, .ref (ad 96))] dX9_compareAll_31 rfl (by rw [ev17]; rfl) (by decide) rfl ?_
      refine g_goto C 2 dX9_compareAll_34 (by decide) ?_
      refine g_lv [0, 2] [(1, .int v17), (0, .ref (ad 96))] rfl ?_
      have nv := ixn (x := v17) (by omega)
      have iv : v17.toNatClampNeg = x1_2.toNatClampNeg + 1 := by omega
      exact ih_2 (v17, M_10, L_10) ⟨by show 0 ≤ v17.toInt; omega, by show v17.toInt ≤ 10; omega, by show GR M M_10 100 10 (fun ua ub => ua < v17.toNatClampNeg) (fun _ _ => 0); exact GR_congr j10_2 (fun ua ub _ _ => by omega), hI, hF, hG⟩ (by show (11 - v17.toInt).toNat < (11 - x1_2.toInt).toNat; omega)
    ·
      have f18 := fnle (by decide : (10 : Int32).toInt = 10) rfl c15
      refine g_aload_n C 2 dX9_compareAll_16 rfl ?_
      refine g_get C (.ref (ad 98)) 2 in_X9_compareAll_9 (List.mem_of_getElem? (i := 1) rfl) (by decide) (ce_ways ad cs _ _) rfl (by decide) rfl rfl dX9_compareAll_17 ?_
      refine g_iload_n C 1 dX9_compareAll_20 rfl ?_
      have hi19 : vp_in x1_2 10 := (fin' (n := 10) rfl (by omega) (by omega))
      have nhi19 := tn hi19
      have mhi19 := ixn (x := x1_2) (by omega)
      refine g_aald C (by decide) (ce_waheadm ad cs _ _) rfl hi19 dX9_compareAll_21 ?_
      refine g_iload_n C 0 dX9_compareAll_22 rfl ?_
      refine g_iconst C 0 dX9_compareAll_23 (by decide) ?_
      have nx2_10 := ixn (x := x2_10) (by omega)
      refine g_iast C (by omega) (ce_wahead ad cs _ _ nhi19) (by rw [sI_k]; exact (ce_wahead ad cs _ _ nhi19)) (fin' (n := 10) rfl (by omega) (by omega)) dX9_compareAll_24 ?_
      refine g_nm (fun M20 hM20 => ?_)
      have zy21 : (0 : Int32).toInt = 0 := by decide
      have hI : IC M20 := by rw [hM20]; exact hI.st (bC_free (by omega) (by omega) (by omega) (by omega) (by omega) (by omega) (by omega))
      have hF : ∀ k i, k ≠ 97 ∧ ¬ (100 ≤ k ∧ k < 110) → M20 k i = M k i := fun k i hk => by (rw [hM20, sI_at, if_neg (by omega)]; try exact hF k i hk)
      have q97 : M20 97 = M_10 97 := by rw [hM20, sI_n _ _ _ (by omega)]; try exact q97
      have hV : vC M20 = vC M_10 := by rw [hM20, vC_z (by omega), hV]
      obtain ⟨v22, ev22⟩ : ∃ y : Int32, y = x2_10 + 1 := ⟨_, rfl⟩
      try have fv22 := fadd rfl (by decide : (1 : Int32).toInt = 1) ev22 (by omega) (by omega)
      refine g_iinc C 0 v22 [(2, .int v22), (1, .int x1_2), (0, .ref (ad 96))] dX9_compareAll_25 rfl (by rw [ev22]; rfl) (by decide) rfl ?_
      refine g_goto C 10 dX9_compareAll_28 (by decide) ?_
      have nv := ixn (x := v22) (by omega)
      have iv : v22.toNatClampNeg = x2_10.toNatClampNeg + 1 := by omega
      have hgr : GR M M20 100 10 (fun ua ub => ua < x1_2.toNatClampNeg ∨ (ua = x1_2.toNatClampNeg ∧ ub < x2_10.toNatClampNeg + 1)) (fun _ _ => 0) := by
        refine GR_step (x := x1_2.toNatClampNeg) (y := x2_10.toNatClampNeg) j10_2 hM20 ?_ (fun ua ub _ _ => by omega)
        rfl
      exact ih_10 (v22, M20, L_10) ⟨by show 0 ≤ v22.toInt; omega, by show v22.toInt ≤ 10; omega, by show GR M M20 100 10 (fun ua ub => ua < x1_2.toNatClampNeg ∨ (ua = x1_2.toNatClampNeg ∧ ub < v22.toNatClampNeg)) (fun _ _ => 0); rw [iv]; exact hgr, hI, hF, hG⟩ (by show (11 - v22.toInt).toNat < (11 - x2_10.toInt).toNat; omega)
set_option maxHeartbeats 4000000 in
set_option maxRecDepth 100000 in
theorem k_X9_beginWays (l : Launch) (D : va_G) (ad : Nat → Nat) (cs : Nat → ClassId) (M : MI) (L : ML)  (hI : IC M) : Cv l yX9_beginWays wsX9_beginWays ({ frames := 0, cells := 0, slots := 0, locals := 0 }) D ad cs [.ref (ad 96)] M L (fun M1 L1 => (∀ ua, ua < (M 1 0).toNatClampNeg → ∀ ub, ub < (M 1 0).toNatClampNeg → M1 (110 + ua) ub = if (M (100 + ub) ua).toInt < (M (100 + ua) ub).toInt then M (100 + ua) ub else 0) ∧ IC M1 ∧ (∀ k i, ¬ (110 ≤ k ∧ k < 120) → M1 k i = M k i) ∧ ∀ k i, True → L1 k i = L k i) := by
  refine enter_v RX9 rfl [(0, .ref (ad 96))] rfl (Nat.le_of_ble_eq_true rfl) (by decide +kernel) rfl ?_
  intro p e s m below meth c C hr
  have hF : ∀ k i, ¬ (110 ≤ k ∧ k < 120) → M k i = M k i := fun _ _ _ => rfl
  have hG : ∀ k i, True → L k i = L k i := fun _ _ _ => rfl
  have w0 : (vC M 0 0).toInt = (M 1 0).toInt := rfl
  have w1 : (vC M 0 1).toInt = (M 3 0).toInt := rfl
  have w2 : (vC M 0 2).toInt = (M 68 0).toInt := rfl
  have w3 : (vC M 0 3).toInt = (M 81 0).toInt := rfl
  obtain ⟨y0a, y0b⟩ := (show rg 0 10 (M 1 0) from hI 1 0 rfl)
  obtain ⟨y1a, y1b⟩ := (show rg 0 60 (M 3 0) from hI 3 0 rfl)
  obtain ⟨y2a, y2b⟩ := (show rg 0 8 (M 68 0) from hI 68 0 rfl)
  obtain ⟨y3a, y3b⟩ := (show rg 0 20 (M 81 0) from hI 81 0 rfl)
  have n02 := ixn y0a
  have q110 : ∀ k, 110 ≤ k ∧ k < 120 → M k = M k := fun _ _ => rfl
  have hV : vC M = vC M := rfl
  refine g_aload_n C 0 dX9_beginWays_0 rfl ?_
  refine g_get C (.ref (ad 88)) 0 in_X9_beginWays_9 (List.mem_of_getElem? (i := 1) rfl) (by decide) (ce_ways ad cs _ _) rfl (by decide) rfl rfl dX9_beginWays_1 ?_
  refine g_get C (.ref (ad 1)) 0 in_X9_beginWays_6 (List.mem_of_getElem? (i := 2) rfl) (by decide) (ce_poll ad cs _ _) rfl (by decide) rfl rfl dX9_beginWays_4 ?_
  refine g_get C (.int (M 1 0)) 0 in_X9_beginWays_2 (List.mem_of_getElem? (i := 3) rfl) (by decide) (ce_cand ad cs _ _) rfl (by decide) rfl rfl dX9_beginWays_7 ?_
  refine g_ni (fun v1 ev1 => ?_)
  have gv1 : v1 = vC M 0 0 := ev1
  have tv1 := congrArg Int32.toInt gv1
  obtain ⟨bv1, dv1⟩ := (show rg 0 10 v1 from (by rw [ev1]; exact hI 1 0 rfl))
  refine g_istore_n C [(1, .int v1), (0, .ref (ad 96))] dX9_beginWays_10 (by decide) rfl ?_
  refine g_iconst C 0 dX9_beginWays_11 (by decide) ?_
  refine g_istore_n C [(2, .int 0), (1, .int v1), (0, .ref (ad 96))] dX9_beginWays_12 (by decide) rfl ?_
  have zy2 : (0 : Int32).toInt = 0 := by decide
  refine g_loop (α := Int32 × MI × ML) (fun a => (11 - a.1.toInt).toNat) (fun a => (0 ≤ a.1.toInt) ∧ (a.1.toInt ≤ (M 1 0).toInt) ∧ (GR M a.2.1 110 (M 1 0).toNatClampNeg (fun ua ub => ua < a.1.toNatClampNeg) (fun ua ub => if (M (100 + ub) ua).toInt < (M (100 + ua) ub).toInt then M (100 + ua) ub else 0)) ∧ IC a.2.1 ∧ (∀ k i, ¬ (110 ≤ k ∧ k < 120) → a.2.1 k i = M k i) ∧ (∀ k i, True → a.2.2 k i = L k i)) (fun a => a.2.1) (fun a => a.2.2) (fun a => [(2, .int a.1), (1, .int v1), (0, .ref (ad 96))]) ((0 : Int32), M, L) ⟨by show 0 ≤ (0 : Int32).toInt; omega, by show (0 : Int32).toInt ≤ (M 1 0).toInt; omega, by show GR M M 110 (M 1 0).toNatClampNeg (fun ua ub => ua < (0 : Int32).toNatClampNeg) (fun ua ub => if (M (100 + ub) ua).toInt < (M (100 + ua) ub).toInt then M (100 + ua) ub else 0); exact GR_0 (fun ua ub _ _ => by show ¬ ua < 0; omega) (fun _ _ => rfl), hI, hF, hG⟩ rfl rfl rfl ?_
  rintro ⟨x2_13, M_13, L_13⟩ ⟨j13_0, j13_1, j13_2, hI, hF, hG⟩ ih_13
  dsimp only at j13_0 j13_1 j13_2 hI hF hG ih_13 ⊢
  have hV : vC M_13 = vC M_13 := rfl
  have q110 : ∀ k, 110 ≤ k ∧ k < 120 → M_13 k = M_13 k := fun _ _ => rfl
  have n_x2_13 := ixn (x := x2_13) (by omega)
  refine g_iload_n C 0 dX9_beginWays_13 rfl ?_
  refine g_iload_n C 1 dX9_beginWays_14 rfl ?_
  refine g_icmp_ge C 76 dX9_beginWays_15 (by decide) (fun c3 => ?_) (fun c3 => ?_)
  ·
    have f4 := fle rfl rfl c3
    exact g_vret C hr ⟨(fun ua ha ub hb => (j13_2 ua ha ub hb).1 (by omega)), hI, hF, hG⟩ dX9_beginWays_76
  ·
    have f5 := fnle rfl rfl c3
    refine g_iconst C 0 dX9_beginWays_18 (by decide) ?_
    refine g_istore_n C [(3, .int 0), (2, .int x2_13), (1, .int v1), (0, .ref (ad 96))] dX9_beginWays_19 (by decide) rfl ?_
    have zy6 : (0 : Int32).toInt = 0 := by decide
    refine g_loop (α := Int32 × MI × ML) (fun a => (11 - a.1.toInt).toNat) (fun a => (0 ≤ a.1.toInt) ∧ (a.1.toInt ≤ (M 1 0).toInt) ∧ (GR M a.2.1 110 (M 1 0).toNatClampNeg (fun ua ub => ua < x2_13.toNatClampNeg ∨ (ua = x2_13.toNatClampNeg ∧ ub < a.1.toNatClampNeg)) (fun ua ub => if (M (100 + ub) ua).toInt < (M (100 + ua) ub).toInt then M (100 + ua) ub else 0)) ∧ IC a.2.1 ∧ (∀ k i, ¬ (110 ≤ k ∧ k < 120) → a.2.1 k i = M k i) ∧ (∀ k i, True → a.2.2 k i = L k i)) (fun a => a.2.1) (fun a => a.2.2) (fun a => [(3, .int a.1), (2, .int x2_13), (1, .int v1), (0, .ref (ad 96))]) ((0 : Int32), M_13, L_13) ⟨by show 0 ≤ (0 : Int32).toInt; omega, by show (0 : Int32).toInt ≤ (M 1 0).toInt; omega, by show GR M M_13 110 (M 1 0).toNatClampNeg (fun ua ub => ua < x2_13.toNatClampNeg ∨ (ua = x2_13.toNatClampNeg ∧ ub < (0 : Int32).toNatClampNeg)) (fun ua ub => if (M (100 + ub) ua).toInt < (M (100 + ua) ub).toInt then M (100 + ua) ub else 0); exact GR_congr j13_2 (fun ua ub _ _ => by rw [show (0 : Int32).toNatClampNeg = 0 by decide]; omega), hI, hF, hG⟩ rfl rfl rfl ?_
    rintro ⟨x3_20, M_20, L_20⟩ ⟨j20_0, j20_1, j20_2, hI, hF, hG⟩ ih_20
    dsimp only at j20_0 j20_1 j20_2 hI hF hG ih_20 ⊢
    have hV : vC M_20 = vC M_20 := rfl
    have q110 : ∀ k, 110 ≤ k ∧ k < 120 → M_20 k = M_20 k := fun _ _ => rfl
    have n_x3_20 := ixn (x := x3_20) (by omega)
    refine g_iload_n C 0 dX9_beginWays_20 rfl ?_
    refine g_iload_n C 2 dX9_beginWays_21 rfl ?_
    refine g_icmp_ge C 70 dX9_beginWays_22 (by decide) (fun c7 => ?_) (fun c7 => ?_)
    ·
      have f8 := fle rfl rfl c7
      obtain ⟨v9, ev9⟩ : ∃ y : Int32, y = x2_13 + 1 := ⟨_, rfl⟩
      try have fv9 := fadd rfl (by decide : (1 : Int32).toInt = 1) ev9 (by omega) (by omega)
      refine g_iinc C 1 v9 [(2, .int v9), (3, .int x3_20), (1, .int v1), (0, .ref (ad 96))] dX9_beginWays_70 rfl (by rw [ev9]; rfl) (by decide) rfl ?_
      refine g_goto C 13 dX9_beginWays_73 (by decide) ?_
      refine g_lv [0, 2, 3] [(2, .int v9), (1, .int v1), (0, .ref (ad 96))] rfl ?_
      have nv := ixn (x := v9) (by omega)
      have iv : v9.toNatClampNeg = x2_13.toNatClampNeg + 1 := by omega
      exact ih_13 (v9, M_20, L_20) ⟨by show 0 ≤ v9.toInt; omega, by show v9.toInt ≤ (M 1 0).toInt; omega, by show GR M M_20 110 (M 1 0).toNatClampNeg (fun ua ub => ua < v9.toNatClampNeg) (fun ua ub => if (M (100 + ub) ua).toInt < (M (100 + ua) ub).toInt then M (100 + ua) ub else 0); exact GR_congr j20_2 (fun ua ub _ _ => by omega), hI, hF, hG⟩ (by show (11 - v9.toInt).toNat < (11 - x2_13.toInt).toNat; omega)
    ·
      have f10 := fnle rfl rfl c7
      refine g_aload_n C 3 dX9_beginWays_25 rfl ?_
      refine g_get C (.ref (ad 99)) 3 in_X9_beginWays_9 (List.mem_of_getElem? (i := 4) rfl) (by decide) (ce_ways ad cs _ _) rfl (by decide) rfl rfl dX9_beginWays_26 ?_
      refine g_iload_n C 1 dX9_beginWays_29 rfl ?_
      have hi11 : vp_in x2_13 10 := (fin' (n := 10) rfl (by omega) (by omega))
      have nhi11 := tn hi11
      have mhi11 := ixn (x := x2_13) (by omega)
      refine g_aald C (by decide) (ce_wwaym ad cs _ _) rfl hi11 dX9_beginWays_30 ?_
      refine g_iload_n C 0 dX9_beginWays_31 rfl ?_
      refine g_aload_n C 3 dX9_beginWays_32 rfl ?_
      refine g_get C (.ref (ad 98)) 2 in_X9_beginWays_9 (List.mem_of_getElem? (i := 5) rfl) (by decide) (ce_ways ad cs _ _) rfl (by decide) rfl rfl dX9_beginWays_33 ?_
      refine g_iload_n C 1 dX9_beginWays_36 rfl ?_
      have hi12 : vp_in x2_13 10 := (fin' (n := 10) rfl (by omega) (by omega))
      have nhi12 := tn hi12
      have mhi12 := ixn (x := x2_13) (by omega)
      refine g_aald C (by decide) (ce_waheadm ad cs _ _) rfl hi12 dX9_beginWays_37 ?_
      refine g_iload_n C 0 dX9_beginWays_38 rfl ?_
      have nx3_20 := ixn (x := x3_20) (by omega)
      refine g_iald C (by omega) (ce_wahead ad cs _ _ nhi12) (fin' (n := 10) rfl (by omega) (by omega)) dX9_beginWays_39 ?_
      refine g_ni (fun v13 ev13 => ?_)
      have gv13 := ev13.trans (hF (100 + x2_13.toNatClampNeg) x3_20.toNatClampNeg (by omega))
      have tv13 := congrArg Int32.toInt gv13
      refine g_aload_n C 3 dX9_beginWays_40 rfl ?_
      refine g_get C (.ref (ad 98)) 2 in_X9_beginWays_9 (List.mem_of_getElem? (i := 5) rfl) (by decide) (ce_ways ad cs _ _) rfl (by decide) rfl rfl dX9_beginWays_41 ?_
      refine g_iload_n C 0 dX9_beginWays_44 rfl ?_
      have hi14 : vp_in x3_20 10 := (fin' (n := 10) rfl (by omega) (by omega))
      have nhi14 := tn hi14
      have mhi14 := ixn (x := x3_20) (by omega)
      refine g_aald C (by decide) (ce_waheadm ad cs _ _) rfl hi14 dX9_beginWays_45 ?_
      refine g_iload_n C 1 dX9_beginWays_46 rfl ?_
      have nx2_13 := ixn (x := x2_13) (by omega)
      refine g_iald C (by omega) (ce_wahead ad cs _ _ nhi14) (fin' (n := 10) rfl (by omega) (by omega)) dX9_beginWays_47 ?_
      refine g_ni (fun v15 ev15 => ?_)
      have gv15 := ev15.trans (hF (100 + x3_20.toNatClampNeg) x2_13.toNatClampNeg (by omega))
      have tv15 := congrArg Int32.toInt gv15
      refine g_icmp_le C 62 dX9_beginWays_48 (by decide) (fun c16 => ?_) (fun c16 => ?_)
      ·
        have f17 := fle rfl rfl c16
        refine g_iconst C 0 dX9_beginWays_62 (by decide) ?_
        have nx3_20 := ixn (x := x3_20) (by omega)
        refine g_iast C (by omega) (ce_wway ad cs _ _ nhi11) (by rw [sI_k]; exact (ce_wway ad cs _ _ nhi11)) (fin' (n := 10) rfl (by omega) (by omega)) dX9_beginWays_63 ?_
        refine g_nm (fun M18 hM18 => ?_)
        have zy19 : (0 : Int32).toInt = 0 := by decide
        have hI : IC M18 := by rw [hM18]; exact hI.st (bC_free (by omega) (by omega) (by omega) (by omega) (by omega) (by omega) (by omega))
        have hF : ∀ k i, ¬ (110 ≤ k ∧ k < 120) → M18 k i = M k i := fun k i hk => by (rw [hM18, sI_at, if_neg (by omega)]; try exact hF k i hk)
        have hV : vC M18 = vC M_20 := by rw [hM18, vC_z (by omega), hV]
        obtain ⟨v20, ev20⟩ : ∃ y : Int32, y = x3_20 + 1 := ⟨_, rfl⟩
        try have fv20 := fadd rfl (by decide : (1 : Int32).toInt = 1) ev20 (by omega) (by omega)
        refine g_iinc C 0 v20 [(3, .int v20), (2, .int x2_13), (1, .int v1), (0, .ref (ad 96))] dX9_beginWays_64 rfl (by rw [ev20]; rfl) (by decide) rfl ?_
        refine g_goto C 20 dX9_beginWays_67 (by decide) ?_
        have nv := ixn (x := v20) (by omega)
        have iv : v20.toNatClampNeg = x3_20.toNatClampNeg + 1 := by omega
        have hgr : GR M M18 110 (M 1 0).toNatClampNeg (fun ua ub => ua < x2_13.toNatClampNeg ∨ (ua = x2_13.toNatClampNeg ∧ ub < x3_20.toNatClampNeg + 1)) (fun ua ub => if (M (100 + ub) ua).toInt < (M (100 + ua) ub).toInt then M (100 + ua) ub else 0) := by
          refine GR_step (x := x2_13.toNatClampNeg) (y := x3_20.toNatClampNeg) j20_2 hM18 ?_ (fun ua ub _ _ => by omega)
          show _ = if (M (100 + x3_20.toNatClampNeg) x2_13.toNatClampNeg).toInt < (M (100 + x2_13.toNatClampNeg) x3_20.toNatClampNeg).toInt then M (100 + x2_13.toNatClampNeg) x3_20.toNatClampNeg else 0
          first | (rw [if_pos (by omega)]; simp only [gv15, gv13, gv1]; done) | (rw [if_neg (by omega)])
        exact ih_20 (v20, M18, L_20) ⟨by show 0 ≤ v20.toInt; omega, by show v20.toInt ≤ (M 1 0).toInt; omega, by show GR M M18 110 (M 1 0).toNatClampNeg (fun ua ub => ua < x2_13.toNatClampNeg ∨ (ua = x2_13.toNatClampNeg ∧ ub < v20.toNatClampNeg)) (fun ua ub => if (M (100 + ub) ua).toInt < (M (100 + ua) ub).toInt then M (100 + ua) ub else 0); rw [iv]; exact hgr, hI, hF, hG⟩ (by show (11 - v20.toInt).toNat < (11 - x3_20.toInt).toNat; omega)
      ·
        have f21 := fnle rfl rfl c16
        refine g_aload_n C 3 dX9_beginWays_51 rfl ?_
        refine g_get C (.ref (ad 98)) 2 in_X9_beginWays_9 (List.mem_of_getElem? (i := 5) rfl) (by decide) (ce_ways ad cs _ _) rfl (by decide) rfl rfl dX9_beginWays_52 ?_
        refine g_iload_n C 1 dX9_beginWays_55 rfl ?_
        have hi22 : vp_in x2_13 10 := (fin' (n := 10) rfl (by omega) (by omega))
        have nhi22 := tn hi22
        have mhi22 := ixn (x := x2_13) (by omega)
        refine g_aald C (by decide) (ce_waheadm ad cs _ _) rfl hi22 dX9_beginWays_56 ?_
        refine g_iload_n C 0 dX9_beginWays_57 rfl ?_
        have nx3_20 := ixn (x := x3_20) (by omega)
        refine g_iald C (by omega) (ce_wahead ad cs _ _ nhi22) (fin' (n := 10) rfl (by omega) (by omega)) dX9_beginWays_58 ?_
        refine g_ni (fun v23 ev23 => ?_)
        have gv23 := ev23.trans (hF (100 + x2_13.toNatClampNeg) x3_20.toNatClampNeg (by omega))
        have tv23 := congrArg Int32.toInt gv23
        refine g_goto C 63 dX9_beginWays_59 (by decide) ?_
        have nx3_20 := ixn (x := x3_20) (by omega)
        refine g_iast C (by omega) (ce_wway ad cs _ _ nhi11) (by rw [sI_k]; exact (ce_wway ad cs _ _ nhi11)) (fin' (n := 10) rfl (by omega) (by omega)) dX9_beginWays_63 ?_
        refine g_nm (fun M24 hM24 => ?_)
        have hI : IC M24 := by rw [hM24]; exact hI.st (bC_free (by omega) (by omega) (by omega) (by omega) (by omega) (by omega) (by omega))
        have hF : ∀ k i, ¬ (110 ≤ k ∧ k < 120) → M24 k i = M k i := fun k i hk => by (rw [hM24, sI_at, if_neg (by omega)]; try exact hF k i hk)
        have hV : vC M24 = vC M_20 := by rw [hM24, vC_z (by omega), hV]
        obtain ⟨v25, ev25⟩ : ∃ y : Int32, y = x3_20 + 1 := ⟨_, rfl⟩
        try have fv25 := fadd rfl (by decide : (1 : Int32).toInt = 1) ev25 (by omega) (by omega)
        refine g_iinc C 0 v25 [(3, .int v25), (2, .int x2_13), (1, .int v1), (0, .ref (ad 96))] dX9_beginWays_64 rfl (by rw [ev25]; rfl) (by decide) rfl ?_
        refine g_goto C 20 dX9_beginWays_67 (by decide) ?_
        have nv := ixn (x := v25) (by omega)
        have iv : v25.toNatClampNeg = x3_20.toNatClampNeg + 1 := by omega
        have hgr : GR M M24 110 (M 1 0).toNatClampNeg (fun ua ub => ua < x2_13.toNatClampNeg ∨ (ua = x2_13.toNatClampNeg ∧ ub < x3_20.toNatClampNeg + 1)) (fun ua ub => if (M (100 + ub) ua).toInt < (M (100 + ua) ub).toInt then M (100 + ua) ub else 0) := by
          refine GR_step (x := x2_13.toNatClampNeg) (y := x3_20.toNatClampNeg) j20_2 hM24 ?_ (fun ua ub _ _ => by omega)
          show _ = if (M (100 + x3_20.toNatClampNeg) x2_13.toNatClampNeg).toInt < (M (100 + x2_13.toNatClampNeg) x3_20.toNatClampNeg).toInt then M (100 + x2_13.toNatClampNeg) x3_20.toNatClampNeg else 0
          first | (rw [if_pos (by omega)]; simp only [gv23, gv15, gv13, gv1]; done) | (rw [if_neg (by omega)])
        exact ih_20 (v25, M24, L_20) ⟨by show 0 ≤ v25.toInt; omega, by show v25.toInt ≤ (M 1 0).toInt; omega, by show GR M M24 110 (M 1 0).toNatClampNeg (fun ua ub => ua < x2_13.toNatClampNeg ∨ (ua = x2_13.toNatClampNeg ∧ ub < v25.toNatClampNeg)) (fun ua ub => if (M (100 + ub) ua).toInt < (M (100 + ua) ub).toInt then M (100 + ua) ub else 0); rw [iv]; exact hgr, hI, hF, hG⟩ (by show (11 - v25.toInt).toNat < (11 - x3_20.toInt).toNat; omega)
