set_option maxHeartbeats 4000000 in
set_option maxRecDepth 100000 in
theorem v_X4_begin (l : Launch) (D : va_G) (ad : Nat → Nat) (cs : Nat → ClassId) (M : MI) (L : ML) (x : Int32) (hI : IC M) (hm : hasM (vC M) x) (hN : NOv (vC M)) : Ci l yX4_begin wsX4_begin ({ frames := 1, cells := 0, slots := 0, locals := 21 }) D ad cs [.ref (ad 81), .int x] M L (fun r M1 L1 => (vC M1 = startV (vC M) x ∧ r = startV (vC M) x 13 (x.toNatClampNeg)) ∧ IC M1 ∧ (∀ k i, k ≠ 83 ∧ k ≠ 87 → M1 k i = M k i) ∧ ∀ k i, True → L1 k i = L k i) := by
  refine enter_i RX4 rfl [(0, .ref (ad 81)), (1, .int x)] rfl (Nat.le_of_ble_eq_true rfl) (by decide +kernel) rfl ?_
  intro p e s m below meth c C hr
  have hF : ∀ k i, k ≠ 83 ∧ k ≠ 87 → M k i = M k i := fun _ _ _ => rfl
  have hG : ∀ k i, True → L k i = L k i := fun _ _ _ => rfl
  have w0 : (vC M 0 0).toInt = (M 1 0).toInt := rfl
  have w1 : (vC M 0 1).toInt = (M 3 0).toInt := rfl
  have w2 : (vC M 0 2).toInt = (M 68 0).toInt := rfl
  have w3 : (vC M 0 3).toInt = (M 81 0).toInt := rfl
  obtain ⟨y0a, y0b⟩ := (show rg 0 10 (M 1 0) from hI 1 0 rfl)
  obtain ⟨y1a, y1b⟩ := (show rg 0 60 (M 3 0) from hI 3 0 rfl)
  obtain ⟨y2a, y2b⟩ := (show rg 0 8 (M 68 0) from hI 68 0 rfl)
  obtain ⟨y3a, y3b⟩ := (show rg 0 20 (M 81 0) from hI 81 0 rfl)
  obtain ⟨hm1, hm2⟩ := hm
  have q83 : M 83 = M 83 := rfl
  have q87 : M 87 = M 87 := rfl
  have hV : vC M = vC M := rfl
  refine g_iconst C 0 dX4_begin_0 (by decide) ?_
  refine g_istore_n C [(2, .int 0), (0, .ref (ad 81)), (1, .int x)] dX4_begin_1 (by decide) rfl ?_
  refine g_iload_n C 2 dX4_begin_2 rfl ?_
  refine g_istore_n C [(3, .int x), (2, .int 0), (0, .ref (ad 81)), (1, .int x)] dX4_begin_3 (by decide) rfl ?_
  have zy1 : (0 : Int32).toInt = 0 := by decide
  refine g_loop (α := Int32 × Int32 × MI × ML) (fun a => (20 - a.1.toInt).toNat) (fun a => (0 ≤ a.1.toInt) ∧ ((a.2.1.toInt = -9 ∧ a.1.toInt ≤ x.toInt + 1) ∨ (0 ≤ a.2.1.toInt ∧ a.2.1.toInt + a.1.toInt ≤ x.toInt)) ∧ (a.2.2.1 83 = M 83) ∧ (vC a.2.2.1 = vC M) ∧ (∀ j : Nat, j < a.1.toNatClampNeg → 0 ≤ (a.2.2.1 87 j).toInt ∧ (a.2.2.1 87 j).toInt < (vC M 0 3).toInt ∧ (vC M 13 (a.2.2.1 87 j).toNatClampNeg).toInt = 0) ∧ (∀ j : Nat, j + 1 < a.1.toNatClampNeg → vC M 12 (a.2.2.1 87 j).toNatClampNeg = a.2.2.1 87 (j + 1)) ∧ ((a.1.toNatClampNeg = 0 → a.2.1 = x) ∧ (0 < a.1.toNatClampNeg → a.2.2.1 87 0 = x ∧ vC M 12 (a.2.2.1 87 (a.1.toNatClampNeg - 1)).toNatClampNeg = a.2.1)) ∧ IC a.2.2.1 ∧ (∀ k i, k ≠ 83 ∧ k ≠ 87 → a.2.2.1 k i = M k i) ∧ (∀ k i, True → a.2.2.2 k i = L k i)) (fun a => a.2.2.1) (fun a => a.2.2.2) (fun a => [(3, .int a.2.1), (2, .int a.1), (0, .ref (ad 81)), (1, .int x)]) ((0 : Int32), x, M, L) ⟨by show 0 ≤ (0 : Int32).toInt; omega, by show (x.toInt = -9 ∧ (0 : Int32).toInt ≤ x.toInt + 1) ∨ (0 ≤ x.toInt ∧ x.toInt + (0 : Int32).toInt ≤ x.toInt); omega, by show M 83 = M 83; rfl, by show vC M = vC M; rfl, by show ∀ j : Nat, j < (0 : Int32).toNatClampNeg → 0 ≤ (M 87 j).toInt ∧ (M 87 j).toInt < (vC M 0 3).toInt ∧ (vC M 13 (M 87 j).toNatClampNeg).toInt = 0; intro j hj; exact absurd hj (by show ¬ j < 0; omega), by show ∀ j : Nat, j + 1 < (0 : Int32).toNatClampNeg → vC M 12 (M 87 j).toNatClampNeg = M 87 (j + 1); intro j hj; exact absurd hj (by show ¬ j + 1 < 0; omega), by show ((0 : Int32).toNatClampNeg = 0 → x = x) ∧ (0 < (0 : Int32).toNatClampNeg → M 87 0 = x ∧ vC M 12 (M 87 ((0 : Int32).toNatClampNeg - 1)).toNatClampNeg = x); exact ⟨fun _ => rfl, fun h => absurd h (by decide)⟩, hI, hF, hG⟩ rfl rfl rfl ?_
  rintro ⟨x2_4, x3_4, M_4, L_4⟩ ⟨j4_0, j4_1, j4_2, j4_3, j4_4, j4_5, j4_6, hI, hF, hG⟩ ih_4
  dsimp only at j4_0 j4_1 j4_2 j4_3 j4_4 j4_5 j4_6 hI hF hG ih_4 ⊢
  have hV : vC M_4 = vC M_4 := rfl
  have q83 : M_4 83 = M_4 83 := rfl
  have q87 : M_4 87 = M_4 87 := rfl
  have q83 : M_4 83 = M 83 := j4_2
  have n2 := ixn (x := x2_4) (by omega)
  have h20 : (vC M 0 3).toInt ≤ 20 := by omega
  refine g_iload_n C 1 dX4_begin_4 rfl ?_
  refine g_bipush C 20 dX4_begin_5 (by decide) ?_
  refine g_icmp_ge C 47 dX4_begin_7 (by decide) (fun c2 => ?_) (fun c2 => ?_)
  ·
    have f3 := fle (by decide : (20 : Int32).toInt = 20) rfl c2
    refine g_aload_n C 2 dX4_begin_47 rfl ?_
    refine g_iload_n C 0 dX4_begin_48 rfl ?_
    refine g_callVi C (n := 1) (As := [.int x3_4]) (st := []) (c_X4_has l D ad cs _ _ x3_4 ) gX4_begin_X4_has rfl rfl rfl (by decide +kernel) ⟨Nat.le_of_ble_eq_true rfl, Nat.le_of_ble_eq_true rfl⟩ rfl (Nat.le_of_ble_eq_true rfl) ⟨Nat.zero_le _, Nat.zero_le _⟩ (by decide) (ce_meth ad cs _ _) rfl rfl dX4_begin_49 (fun r4 M5 L6 hr4 => ?_)
    obtain ⟨hq1, hq2, hr4⟩ := hr4
    obtain rfl := hq1.symm
    obtain rfl := hq2.symm
    have hr4 := zo_has hr4
    rw [show M_4 81 0 = M 81 0 from hF 81 0 (by omega)] at hr4
    obtain ⟨bar4, bbr4⟩ := zo_b hr4
    refine g_if_eq C 69 dX4_begin_52 (by decide) (fun c7 => ?_) (fun c7 => ?_)
    ·
      have f8 := feq rfl (by decide : (0 : Int32).toInt = 0) c7
      have pr4 := zo_f hr4 c7
      try dsimp only [hasC, hasB, hasX, hasM, ofS, ofK, bt] at pr4
      refine g_iconst C 0 dX4_begin_69 (by decide) ?_
      refine g_istore C [(4, .int 0), (3, .int x3_4), (2, .int x2_4), (0, .ref (ad 81)), (1, .int x)] dX4_begin_70 (by decide) rfl ?_
      have hst : x3_4.toInt = -9 ∨ (vC M 13 x3_4.toNatClampNeg).toInt ≠ 0 := by omega
      have hM4 : M_4 83 = vC M 13 := j4_2
      refine g_iload_n C 2 dX4_begin_72 rfl ?_
      refine g_iconst C 1 dX4_begin_73 (by decide) ?_
      refine g_isub C dX4_begin_74 ?_
      refine g_ni (fun v9 ev9 => ?_)
      try have fv9 := fsub rfl (by decide : (1 : Int32).toInt = 1) ev9 (by omega) (by omega)
      refine g_istore C [(5, .int v9), (4, .int 0), (3, .int x3_4), (2, .int x2_4), (0, .ref (ad 81)), (1, .int x)] dX4_begin_75 (by decide) rfl ?_
      have zy10 : (0 : Int32).toInt = 0 := by decide
      refine g_loop (α := Int32 × Int32 × MI × ML) (fun a => (a.1.toInt + 1).toNat) (fun a => (-1 ≤ a.1.toInt) ∧ (a.1.toInt + 1 ≤ x2_4.toInt) ∧ (a.2.2.1 87 = M_4 87) ∧ ((0 ≤ a.1.toInt → a.2.2.1 83 = stB (vC M) 20 (vC M 12 (M_4 87 a.1.toNatClampNeg).toNatClampNeg) (vC M 13)) ∧ (a.1.toInt = -1 → a.2.2.1 83 = stB (vC M) 20 x (vC M 13))) ∧ (∀ c, c ≠ 13 → vC a.2.2.1 c = vC M c) ∧ (a.2.1.toInt = 0 ∨ a.2.1.toInt = 1) ∧ (0 ≤ a.1.toInt → (a.2.1.toInt = 1 ↔ ((vC M 12 (M_4 87 a.1.toNatClampNeg).toNatClampNeg).toInt ≠ -9 ∧ (stB (vC M) 20 (vC M 12 (M_4 87 a.1.toNatClampNeg).toNatClampNeg) (vC M 13) (vC M 12 (M_4 87 a.1.toNatClampNeg).toNatClampNeg).toNatClampNeg).toInt = 2))) ∧ IC a.2.2.1 ∧ (∀ k i, k ≠ 83 ∧ k ≠ 87 → a.2.2.1 k i = M k i) ∧ (∀ k i, True → a.2.2.2 k i = L k i)) (fun a => a.2.2.1) (fun a => a.2.2.2) (fun a => [(5, .int a.1), (4, .int a.2.1), (3, .int x3_4), (2, .int x2_4), (0, .ref (ad 81)), (1, .int x)]) (v9, (0 : Int32), M_4, L_4) ⟨by show -1 ≤ v9.toInt; omega, by show v9.toInt + 1 ≤ x2_4.toInt; omega, by show M_4 87 = M_4 87; rfl, by show (0 ≤ v9.toInt → M_4 83 = stB (vC M) 20 (vC M 12 (M_4 87 v9.toNatClampNeg).toNatClampNeg) (vC M 13)) ∧ (v9.toInt = -1 → M_4 83 = stB (vC M) 20 x (vC M 13)); exact ⟨fun h => by rw [hM4, show v9.toNatClampNeg = x2_4.toNatClampNeg - 1 by (have := ixn h; omega), (j4_6.2 (by omega)).2, stB_stop hst], fun h => by rw [hM4, ← j4_6.1 (by omega), stB_stop hst]⟩, by show ∀ c, c ≠ 13 → vC M_4 c = vC M c; intro c _; rw [j4_3], by show (0 : Int32).toInt = 0 ∨ (0 : Int32).toInt = 1; omega, by show 0 ≤ v9.toInt → ((0 : Int32).toInt = 1 ↔ ((vC M 12 (M_4 87 v9.toNatClampNeg).toNatClampNeg).toInt ≠ -9 ∧ (stB (vC M) 20 (vC M 12 (M_4 87 v9.toNatClampNeg).toNatClampNeg) (vC M 13) (vC M 12 (M_4 87 v9.toNatClampNeg).toNatClampNeg).toNatClampNeg).toInt = 2)); intro h; have nk := ixn h; rw [show v9.toNatClampNeg = x2_4.toNatClampNeg - 1 by omega, (j4_6.2 (by omega)).2, stB_stop hst]; omega, hI, hF, hG⟩ rfl rfl rfl ?_
      rintro ⟨x5_77, x4_77, M_77, L_77⟩ ⟨j77_0, j77_1, j77_2, j77_3, j77_4, j77_5, j77_6, hI, hF, hG⟩ ih_77
      dsimp only at j77_0 j77_1 j77_2 j77_3 j77_4 j77_5 j77_6 hI hF hG ih_77 ⊢
      have hV : vC M_77 = vC M_77 := rfl
      have q83 : M_77 83 = M_77 83 := rfl
      have q87 : M_77 87 = M_77 87 := rfl
      have q87 : M_77 87 = M_4 87 := j77_2
      refine g_iload C 0 dX4_begin_77 rfl ?_
      refine g_if_lt C 139 dX4_begin_79 (by decide) (fun c11 => ?_) (fun c11 => ?_)
      ·
        have f12 := fl rfl (by decide : (0 : Int32).toInt = 0) c11
        refine g_aload_n C 4 dX4_begin_139 rfl ?_
        refine g_get C (.ref (ad 83)) 2 in_X4_begin_4 (List.mem_of_getElem? (i := 1) rfl) (by decide) (ce_meth ad cs _ _) rfl (by decide) rfl rfl dX4_begin_140 ?_
        refine g_iload_n C 5 dX4_begin_143 rfl ?_
        have nx := ixn (x := x) (by omega)
        refine g_iald C (by decide) (ce_mbegun ad cs _ _) (fin' (n := 20) rfl (by omega) (by omega)) dX4_begin_144 ?_
        refine g_ni (fun v13 ev13 => ?_)
        have gv13 : v13 = M_77 83 x.toNatClampNeg := ev13.trans (congrFun q83 _)
        have tv13 := congrArg Int32.toInt gv13
        have hS : M_77 83 = stB (vC M) 20 x (vC M 13) := j77_3.2 (by omega)
        exact g_iret C hr ⟨⟨by (funext c i; by_cases e9 : c = 13; (subst e9; show M_77 83 i = stB (vC M) 20 x (vC M 13) i; rw [hS]); (rw [j77_4 c e9]; unfold startV; rw [if_neg e9])), by (rw [gv13, hS]; rfl)⟩, hI, hF, hG⟩ dX4_begin_145
      ·
        have f14 := fnl rfl (by decide : (0 : Int32).toInt = 0) c11
        have n5 := ixn (x := x5_77) (by omega)
        obtain ⟨cj1, cj2, cj3⟩ := j4_4 x5_77.toNatClampNeg (by omega)
        have ncj := ixn cj1
        have hn9 := hN (M_4 87 x5_77.toNatClampNeg).toNatClampNeg (by omega)
        have hB9 := j77_3.1 (by omega)
        have hf9 := j77_6 (by omega)
        refine g_iload C 1 dX4_begin_82 rfl ?_
        refine g_if_ne C 104 dX4_begin_84 (by decide) (fun c15 => ?_) (fun c15 => ?_)
        ·
          have f16 := fne rfl (by decide : (0 : Int32).toInt = 0) c15
          refine g_iconst C 1 dX4_begin_104 (by decide) ?_
          refine g_goto C 109 dX4_begin_105 (by decide) ?_
          refine g_istore C [(4, .int 1), (5, .int x5_77), (3, .int x3_4), (2, .int x2_4), (0, .ref (ad 81)), (1, .int x)] dX4_begin_109 (by decide) rfl ?_
          refine g_aload_n C 4 dX4_begin_111 rfl ?_
          refine g_get C (.ref (ad 83)) 2 in_X4_begin_4 (List.mem_of_getElem? (i := 1) rfl) (by decide) (ce_meth ad cs _ _) rfl (by decide) rfl rfl dX4_begin_112 ?_
          refine g_aload_n C 4 dX4_begin_115 rfl ?_
          refine g_get C (.ref (ad 87)) 6 in_X4_begin_4 (List.mem_of_getElem? (i := 2) rfl) (by decide) (ce_meth ad cs _ _) rfl (by decide) rfl rfl dX4_begin_116 ?_
          refine g_iload C 1 dX4_begin_119 rfl ?_
          have nx5_77 := ixn (x := x5_77) (by omega)
          refine g_iald C (by decide) (ce_mchain ad cs _ _) (fin' (n := 20) rfl (by omega) (by omega)) dX4_begin_121 ?_
          refine g_ni (fun v17 ev17 => ?_)
          have gv17 : v17 = M_4 87 x5_77.toNatClampNeg := ev17.trans (congrFun q87 _)
          have tv17 := congrArg Int32.toInt gv17
          obtain ⟨bv17, dv17⟩ := (show rg 0 19 v17 from (by rw [ev17]; exact hI 87 x5_77.toNatClampNeg))
          subst gv17
          refine g_iload C 0 dX4_begin_122 rfl ?_
          refine g_if_eq C 131 dX4_begin_124 (by decide) (fun c18 => absurd c18 (by decide)) (fun _ => ?_)
          refine g_iconst C 2 dX4_begin_127 (by decide) ?_
          refine g_goto C 132 dX4_begin_128 (by decide) ?_
          have n_M_4_87_x5_77_toNatClampNeg_ := ixn (x := (M_4 87 x5_77.toNatClampNeg)) (by omega)
          refine g_iast C (by decide) (ce_mbegun ad cs _ _) (by rw [sI_k]; rfl) (fin' (n := 20) rfl (by omega) (by omega)) dX4_begin_132 ?_
          refine g_nm (fun M19 hM19 => ?_)
          have zy20 : (2 : Int32).toInt = 2 := by decide
          have hI : IC M19 := by rw [hM19]; exact hI.st (bC_free (by decide) (by decide) (by decide) (by decide) (by decide) (by decide) (by decide))
          have hF : ∀ k i, k ≠ 83 ∧ k ≠ 87 → M19 k i = M k i := fun k i hk => by (rw [hM19, sI_at, if_neg (by omega)]; try exact hF k i hk)
          have q87 : M19 87 = M_4 87 := by rw [hM19, sI_n _ _ _ (by decide)]; try exact q87
          have hV : vC M19 = sI (vC M_77) 13 (((M_4 87 x5_77.toNatClampNeg)).toNatClampNeg) 2 := by rw [hM19, vC_a (c := 13) (by decide), hV]
          obtain ⟨v21, ev21⟩ : ∃ y : Int32, y = x5_77 + (-1) := ⟨_, rfl⟩
          try have fv21 := fadd rfl (by decide : ((-1) : Int32).toInt = (-1)) ev21 (by omega) (by omega)
          refine g_iinc C 1 v21 [(5, .int v21), (4, .int 1), (3, .int x3_4), (2, .int x2_4), (0, .ref (ad 81)), (1, .int x)] dX4_begin_133 rfl (by rw [ev21]; rfl) (by decide) rfl ?_
          refine g_goto C 77 dX4_begin_136 (by decide) ?_
          have zy22 : (1 : Int32).toInt = 1 := by decide
          have hup : M19 83 = stB (vC M) 20 (M_4 87 x5_77.toNatClampNeg) (vC M 13) := by
            rw [hM19, sI_k, q83, hB9, stB_step hN h20 cj1 cj2 cj3]
            congr 1
            first | rw [if_pos (by omega)] | rw [if_neg (by omega)]
          have hv9 : (stB (vC M) 20 (M_4 87 x5_77.toNatClampNeg) (vC M 13) (M_4 87 x5_77.toNatClampNeg).toNatClampNeg).toInt = 2 := by rw [← hup, hM19, sI_at, if_pos ⟨rfl, rfl⟩]; decide
          exact ih_77 (v21, 1, M19, L_77) ⟨by show -1 ≤ v21.toInt; omega, by show v21.toInt + 1 ≤ x2_4.toInt; omega, by show M19 87 = M_4 87; exact q87, by show (0 ≤ v21.toInt → M19 83 = stB (vC M) 20 (vC M 12 (M_4 87 v21.toNatClampNeg).toNatClampNeg) (vC M 13)) ∧ (v21.toInt = -1 → M19 83 = stB (vC M) 20 x (vC M 13)); exact ⟨fun h => by (have nk := ixn h; rw [hup]; rw [j4_5 _ (by omega), show v21.toNatClampNeg + 1 = x5_77.toNatClampNeg by omega]), fun h => by rw [hup, show x5_77.toNatClampNeg = 0 by omega, (j4_6.2 (by omega)).1]⟩, by show ∀ c, c ≠ 13 → vC M19 c = vC M c; intro c hc; rw [hV, sI_n _ _ _ hc]; exact j77_4 c hc, by show (1 : Int32).toInt = 0 ∨ (1 : Int32).toInt = 1; omega, by show 0 ≤ v21.toInt → ((1 : Int32).toInt = 1 ↔ ((vC M 12 (M_4 87 v21.toNatClampNeg).toNatClampNeg).toInt ≠ -9 ∧ (stB (vC M) 20 (vC M 12 (M_4 87 v21.toNatClampNeg).toNatClampNeg) (vC M 13) (vC M 12 (M_4 87 v21.toNatClampNeg).toNatClampNeg).toNatClampNeg).toInt = 2)); intro h; have nk := ixn h; rw [j4_5 _ (by omega), show v21.toNatClampNeg + 1 = x5_77.toNatClampNeg by omega]; omega, hI, hF, hG⟩ (by show (v21.toInt + 1).toNat < (x5_77.toInt + 1).toNat; omega)
        ·
          have f23 := feq rfl (by decide : (0 : Int32).toInt = 0) c15
          refine g_aload_n C 4 dX4_begin_87 rfl ?_
          refine g_get C (.ref (ad 82)) 1 in_X4_begin_4 (List.mem_of_getElem? (i := 4) rfl) (by decide) (ce_meth ad cs _ _) rfl (by decide) rfl rfl dX4_begin_88 ?_
          refine g_aload_n C 4 dX4_begin_91 rfl ?_
          refine g_get C (.ref (ad 87)) 6 in_X4_begin_4 (List.mem_of_getElem? (i := 2) rfl) (by decide) (ce_meth ad cs _ _) rfl (by decide) rfl rfl dX4_begin_92 ?_
          refine g_iload C 0 dX4_begin_95 rfl ?_
          have nx5_77 := ixn (x := x5_77) (by omega)
          refine g_iald C (by decide) (ce_mchain ad cs _ _) (fin' (n := 20) rfl (by omega) (by omega)) dX4_begin_97 ?_
          refine g_ni (fun v24 ev24 => ?_)
          have gv24 : v24 = M_4 87 x5_77.toNatClampNeg := ev24.trans (congrFun q87 _)
          have tv24 := congrArg Int32.toInt gv24
          obtain ⟨bv24, dv24⟩ := (show rg 0 19 v24 from (by rw [ev24]; exact hI 87 x5_77.toNatClampNeg))
          subst gv24
          have n_M_4_87_x5_77_toNatClampNeg_ := ixn (x := (M_4 87 x5_77.toNatClampNeg)) (by omega)
          refine g_iald C (by decide) (ce_mkind ad cs _ _) (fin' (n := 20) rfl (by omega) (by omega)) dX4_begin_98 ?_
          refine g_ni (fun v25 ev25 => ?_)
          have gv25 : v25 = vC M 9 (((M_4 87 x5_77.toNatClampNeg)).toNatClampNeg) := ev25.trans (hF 82 (((M_4 87 x5_77.toNatClampNeg)).toNatClampNeg) (by omega))
          have tv25 := congrArg Int32.toInt gv25
          refine g_bipush C 8 dX4_begin_99 (by decide) ?_
          refine g_icmp_ne C 108 dX4_begin_101 (by decide) (fun c26 => ?_) (fun c26 => ?_)
          ·
            have f27 := fne rfl (by decide : (8 : Int32).toInt = 8) c26
            refine g_iconst C 0 dX4_begin_108 (by decide) ?_
            refine g_istore C [(4, .int 0), (5, .int x5_77), (3, .int x3_4), (2, .int x2_4), (0, .ref (ad 81)), (1, .int x)] dX4_begin_109 (by decide) rfl ?_
            refine g_aload_n C 4 dX4_begin_111 rfl ?_
            refine g_get C (.ref (ad 83)) 2 in_X4_begin_4 (List.mem_of_getElem? (i := 1) rfl) (by decide) (ce_meth ad cs _ _) rfl (by decide) rfl rfl dX4_begin_112 ?_
            refine g_aload_n C 4 dX4_begin_115 rfl ?_
            refine g_get C (.ref (ad 87)) 6 in_X4_begin_4 (List.mem_of_getElem? (i := 2) rfl) (by decide) (ce_meth ad cs _ _) rfl (by decide) rfl rfl dX4_begin_116 ?_
            refine g_iload C 1 dX4_begin_119 rfl ?_
            have nx5_77 := ixn (x := x5_77) (by omega)
            refine g_iald C (by decide) (ce_mchain ad cs _ _) (fin' (n := 20) rfl (by omega) (by omega)) dX4_begin_121 ?_
            refine g_ni (fun v28 ev28 => ?_)
            have gv28 : v28 = M_4 87 x5_77.toNatClampNeg := ev28.trans (congrFun q87 _)
            have tv28 := congrArg Int32.toInt gv28
            obtain ⟨bv28, dv28⟩ := (show rg 0 19 v28 from (by rw [ev28]; exact hI 87 x5_77.toNatClampNeg))
            subst gv28
            refine g_iload C 0 dX4_begin_122 rfl ?_
            refine g_if_eq C 131 dX4_begin_124 (by decide) (fun _ => ?_) (fun c29 => absurd c29 (by decide))
            refine g_iconst C 1 dX4_begin_131 (by decide) ?_
            have n_M_4_87_x5_77_toNatClampNeg_ := ixn (x := (M_4 87 x5_77.toNatClampNeg)) (by omega)
            refine g_iast C (by decide) (ce_mbegun ad cs _ _) (by rw [sI_k]; rfl) (fin' (n := 20) rfl (by omega) (by omega)) dX4_begin_132 ?_
            refine g_nm (fun M30 hM30 => ?_)
            have zy31 : (1 : Int32).toInt = 1 := by decide
            have hI : IC M30 := by rw [hM30]; exact hI.st (bC_free (by decide) (by decide) (by decide) (by decide) (by decide) (by decide) (by decide))
            have hF : ∀ k i, k ≠ 83 ∧ k ≠ 87 → M30 k i = M k i := fun k i hk => by (rw [hM30, sI_at, if_neg (by omega)]; try exact hF k i hk)
            have q87 : M30 87 = M_4 87 := by rw [hM30, sI_n _ _ _ (by decide)]; try exact q87
            have hV : vC M30 = sI (vC M_77) 13 (((M_4 87 x5_77.toNatClampNeg)).toNatClampNeg) 1 := by rw [hM30, vC_a (c := 13) (by decide), hV]
            obtain ⟨v32, ev32⟩ : ∃ y : Int32, y = x5_77 + (-1) := ⟨_, rfl⟩
            try have fv32 := fadd rfl (by decide : ((-1) : Int32).toInt = (-1)) ev32 (by omega) (by omega)
            refine g_iinc C 1 v32 [(5, .int v32), (4, .int 0), (3, .int x3_4), (2, .int x2_4), (0, .ref (ad 81)), (1, .int x)] dX4_begin_133 rfl (by rw [ev32]; rfl) (by decide) rfl ?_
            refine g_goto C 77 dX4_begin_136 (by decide) ?_
            have zy33 : (0 : Int32).toInt = 0 := by decide
            have hup : M30 83 = stB (vC M) 20 (M_4 87 x5_77.toNatClampNeg) (vC M 13) := by
              rw [hM30, sI_k, q83, hB9, stB_step hN h20 cj1 cj2 cj3]
              congr 1
              first | rw [if_pos (by omega)] | rw [if_neg (by omega)]
            have hv9 : (stB (vC M) 20 (M_4 87 x5_77.toNatClampNeg) (vC M 13) (M_4 87 x5_77.toNatClampNeg).toNatClampNeg).toInt = 1 := by rw [← hup, hM30, sI_at, if_pos ⟨rfl, rfl⟩]; decide
            exact ih_77 (v32, 0, M30, L_77) ⟨by show -1 ≤ v32.toInt; omega, by show v32.toInt + 1 ≤ x2_4.toInt; omega, by show M30 87 = M_4 87; exact q87, by show (0 ≤ v32.toInt → M30 83 = stB (vC M) 20 (vC M 12 (M_4 87 v32.toNatClampNeg).toNatClampNeg) (vC M 13)) ∧ (v32.toInt = -1 → M30 83 = stB (vC M) 20 x (vC M 13)); exact ⟨fun h => by (have nk := ixn h; rw [hup]; rw [j4_5 _ (by omega), show v32.toNatClampNeg + 1 = x5_77.toNatClampNeg by omega]), fun h => by rw [hup, show x5_77.toNatClampNeg = 0 by omega, (j4_6.2 (by omega)).1]⟩, by show ∀ c, c ≠ 13 → vC M30 c = vC M c; intro c hc; rw [hV, sI_n _ _ _ hc]; exact j77_4 c hc, by show (0 : Int32).toInt = 0 ∨ (0 : Int32).toInt = 1; omega, by show 0 ≤ v32.toInt → ((0 : Int32).toInt = 1 ↔ ((vC M 12 (M_4 87 v32.toNatClampNeg).toNatClampNeg).toInt ≠ -9 ∧ (stB (vC M) 20 (vC M 12 (M_4 87 v32.toNatClampNeg).toNatClampNeg) (vC M 13) (vC M 12 (M_4 87 v32.toNatClampNeg).toNatClampNeg).toNatClampNeg).toInt = 2)); intro h; have nk := ixn h; rw [j4_5 _ (by omega), show v32.toNatClampNeg + 1 = x5_77.toNatClampNeg by omega]; omega, hI, hF, hG⟩ (by show (v32.toInt + 1).toNat < (x5_77.toInt + 1).toNat; omega)
          ·
            have f34 := feq rfl (by decide : (8 : Int32).toInt = 8) c26
            refine g_iconst C 1 dX4_begin_104 (by decide) ?_
            refine g_goto C 109 dX4_begin_105 (by decide) ?_
            refine g_istore C [(4, .int 1), (5, .int x5_77), (3, .int x3_4), (2, .int x2_4), (0, .ref (ad 81)), (1, .int x)] dX4_begin_109 (by decide) rfl ?_
            refine g_aload_n C 4 dX4_begin_111 rfl ?_
            refine g_get C (.ref (ad 83)) 2 in_X4_begin_4 (List.mem_of_getElem? (i := 1) rfl) (by decide) (ce_meth ad cs _ _) rfl (by decide) rfl rfl dX4_begin_112 ?_
            refine g_aload_n C 4 dX4_begin_115 rfl ?_
            refine g_get C (.ref (ad 87)) 6 in_X4_begin_4 (List.mem_of_getElem? (i := 2) rfl) (by decide) (ce_meth ad cs _ _) rfl (by decide) rfl rfl dX4_begin_116 ?_
            refine g_iload C 1 dX4_begin_119 rfl ?_
            have nx5_77 := ixn (x := x5_77) (by omega)
            refine g_iald C (by decide) (ce_mchain ad cs _ _) (fin' (n := 20) rfl (by omega) (by omega)) dX4_begin_121 ?_
            refine g_ni (fun v35 ev35 => ?_)
            have gv35 : v35 = M_4 87 x5_77.toNatClampNeg := ev35.trans (congrFun q87 _)
            have tv35 := congrArg Int32.toInt gv35
            obtain ⟨bv35, dv35⟩ := (show rg 0 19 v35 from (by rw [ev35]; exact hI 87 x5_77.toNatClampNeg))
            subst gv35
            refine g_iload C 0 dX4_begin_122 rfl ?_
            refine g_if_eq C 131 dX4_begin_124 (by decide) (fun c36 => absurd c36 (by decide)) (fun _ => ?_)
            refine g_iconst C 2 dX4_begin_127 (by decide) ?_
            refine g_goto C 132 dX4_begin_128 (by decide) ?_
            have n_M_4_87_x5_77_toNatClampNeg_ := ixn (x := (M_4 87 x5_77.toNatClampNeg)) (by omega)
            refine g_iast C (by decide) (ce_mbegun ad cs _ _) (by rw [sI_k]; rfl) (fin' (n := 20) rfl (by omega) (by omega)) dX4_begin_132 ?_
            refine g_nm (fun M37 hM37 => ?_)
            have zy38 : (2 : Int32).toInt = 2 := by decide
            have hI : IC M37 := by rw [hM37]; exact hI.st (bC_free (by decide) (by decide) (by decide) (by decide) (by decide) (by decide) (by decide))
            have hF : ∀ k i, k ≠ 83 ∧ k ≠ 87 → M37 k i = M k i := fun k i hk => by (rw [hM37, sI_at, if_neg (by omega)]; try exact hF k i hk)
            have q87 : M37 87 = M_4 87 := by rw [hM37, sI_n _ _ _ (by decide)]; try exact q87
            have hV : vC M37 = sI (vC M_77) 13 (((M_4 87 x5_77.toNatClampNeg)).toNatClampNeg) 2 := by rw [hM37, vC_a (c := 13) (by decide), hV]
            obtain ⟨v39, ev39⟩ : ∃ y : Int32, y = x5_77 + (-1) := ⟨_, rfl⟩
            try have fv39 := fadd rfl (by decide : ((-1) : Int32).toInt = (-1)) ev39 (by omega) (by omega)
            refine g_iinc C 1 v39 [(5, .int v39), (4, .int 1), (3, .int x3_4), (2, .int x2_4), (0, .ref (ad 81)), (1, .int x)] dX4_begin_133 rfl (by rw [ev39]; rfl) (by decide) rfl ?_
            refine g_goto C 77 dX4_begin_136 (by decide) ?_
            have zy40 : (1 : Int32).toInt = 1 := by decide
            have hup : M37 83 = stB (vC M) 20 (M_4 87 x5_77.toNatClampNeg) (vC M 13) := by
              rw [hM37, sI_k, q83, hB9, stB_step hN h20 cj1 cj2 cj3]
              congr 1
              first | rw [if_pos (by omega)] | rw [if_neg (by omega)]
            have hv9 : (stB (vC M) 20 (M_4 87 x5_77.toNatClampNeg) (vC M 13) (M_4 87 x5_77.toNatClampNeg).toNatClampNeg).toInt = 2 := by rw [← hup, hM37, sI_at, if_pos ⟨rfl, rfl⟩]; decide
            exact ih_77 (v39, 1, M37, L_77) ⟨by show -1 ≤ v39.toInt; omega, by show v39.toInt + 1 ≤ x2_4.toInt; omega, by show M37 87 = M_4 87; exact q87, by show (0 ≤ v39.toInt → M37 83 = stB (vC M) 20 (vC M 12 (M_4 87 v39.toNatClampNeg).toNatClampNeg) (vC M 13)) ∧ (v39.toInt = -1 → M37 83 = stB (vC M) 20 x (vC M 13)); exact ⟨fun h => by (have nk := ixn h; rw [hup]; rw [j4_5 _ (by omega), show v39.toNatClampNeg + 1 = x5_77.toNatClampNeg by omega]), fun h => by rw [hup, show x5_77.toNatClampNeg = 0 by omega, (j4_6.2 (by omega)).1]⟩, by show ∀ c, c ≠ 13 → vC M37 c = vC M c; intro c hc; rw [hV, sI_n _ _ _ hc]; exact j77_4 c hc, by show (1 : Int32).toInt = 0 ∨ (1 : Int32).toInt = 1; omega, by show 0 ≤ v39.toInt → ((1 : Int32).toInt = 1 ↔ ((vC M 12 (M_4 87 v39.toNatClampNeg).toNatClampNeg).toInt ≠ -9 ∧ (stB (vC M) 20 (vC M 12 (M_4 87 v39.toNatClampNeg).toNatClampNeg) (vC M 13) (vC M 12 (M_4 87 v39.toNatClampNeg).toNatClampNeg).toNatClampNeg).toInt = 2)); intro h; have nk := ixn h; rw [j4_5 _ (by omega), show v39.toNatClampNeg + 1 = x5_77.toNatClampNeg by omega]; omega, hI, hF, hG⟩ (by show (v39.toInt + 1).toNat < (x5_77.toInt + 1).toNat; omega)
    ·
      have f41 := fne rfl (by decide : (0 : Int32).toInt = 0) c7
      have pr4 := zo_t hr4 c7
      try dsimp only [hasC, hasB, hasX, hasM, ofS, ofK, bt] at pr4
      exfalso; omega
  ·
    have f42 := fnle (by decide : (20 : Int32).toInt = 20) rfl c2
    refine g_aload_n C 2 dX4_begin_10 rfl ?_
    refine g_iload_n C 0 dX4_begin_11 rfl ?_
    refine g_callVi C (n := 1) (As := [.int x3_4]) (st := []) (c_X4_has l D ad cs _ _ x3_4 ) gX4_begin_X4_has rfl rfl rfl (by decide +kernel) ⟨Nat.le_of_ble_eq_true rfl, Nat.le_of_ble_eq_true rfl⟩ rfl (Nat.le_of_ble_eq_true rfl) ⟨Nat.zero_le _, Nat.zero_le _⟩ (by decide) (ce_meth ad cs _ _) rfl rfl dX4_begin_12 (fun r43 M44 L45 hr43 => ?_)
    obtain ⟨hq1, hq2, hr43⟩ := hr43
    obtain rfl := hq1.symm
    obtain rfl := hq2.symm
    have hr43 := zo_has hr43
    rw [show M_4 81 0 = M 81 0 from hF 81 0 (by omega)] at hr43
    obtain ⟨bar43, bbr43⟩ := zo_b hr43
    refine g_if_eq C 47 dX4_begin_15 (by decide) (fun c46 => ?_) (fun c46 => ?_)
    ·
      have f47 := feq rfl (by decide : (0 : Int32).toInt = 0) c46
      have pr43 := zo_f hr43 c46
      try dsimp only [hasC, hasB, hasX, hasM, ofS, ofK, bt] at pr43
      refine g_aload_n C 2 dX4_begin_47 rfl ?_
      refine g_iload_n C 0 dX4_begin_48 rfl ?_
      refine g_callVi C (n := 1) (As := [.int x3_4]) (st := []) (c_X4_has l D ad cs _ _ x3_4 ) gX4_begin_X4_has rfl rfl rfl (by decide +kernel) ⟨Nat.le_of_ble_eq_true rfl, Nat.le_of_ble_eq_true rfl⟩ rfl (Nat.le_of_ble_eq_true rfl) ⟨Nat.zero_le _, Nat.zero_le _⟩ (by decide) (ce_meth ad cs _ _) rfl rfl dX4_begin_49 (fun r48 M49 L50 hr48 => ?_)
      obtain ⟨hq1, hq2, hr48⟩ := hr48
      obtain rfl := hq1.symm
      obtain rfl := hq2.symm
      have hr48 := zo_has hr48
      rw [show M_4 81 0 = M 81 0 from hF 81 0 (by omega)] at hr48
      obtain ⟨bar48, bbr48⟩ := zo_b hr48
      refine g_if_eq C 69 dX4_begin_52 (by decide) (fun c51 => ?_) (fun c51 => ?_)
      ·
        have f52 := feq rfl (by decide : (0 : Int32).toInt = 0) c51
        have pr48 := zo_f hr48 c51
        try dsimp only [hasC, hasB, hasX, hasM, ofS, ofK, bt] at pr48
        refine g_iconst C 0 dX4_begin_69 (by decide) ?_
        refine g_istore C [(4, .int 0), (3, .int x3_4), (2, .int x2_4), (0, .ref (ad 81)), (1, .int x)] dX4_begin_70 (by decide) rfl ?_
        have hst : x3_4.toInt = -9 ∨ (vC M 13 x3_4.toNatClampNeg).toInt ≠ 0 := by omega
        have hM4 : M_4 83 = vC M 13 := j4_2
        refine g_iload_n C 2 dX4_begin_72 rfl ?_
        refine g_iconst C 1 dX4_begin_73 (by decide) ?_
        refine g_isub C dX4_begin_74 ?_
        refine g_ni (fun v53 ev53 => ?_)
        try have fv53 := fsub rfl (by decide : (1 : Int32).toInt = 1) ev53 (by omega) (by omega)
        refine g_istore C [(5, .int v53), (4, .int 0), (3, .int x3_4), (2, .int x2_4), (0, .ref (ad 81)), (1, .int x)] dX4_begin_75 (by decide) rfl ?_
        have zy54 : (0 : Int32).toInt = 0 := by decide
        refine g_loop (α := Int32 × Int32 × MI × ML) (fun a => (a.1.toInt + 1).toNat) (fun a => (-1 ≤ a.1.toInt) ∧ (a.1.toInt + 1 ≤ x2_4.toInt) ∧ (a.2.2.1 87 = M_4 87) ∧ ((0 ≤ a.1.toInt → a.2.2.1 83 = stB (vC M) 20 (vC M 12 (M_4 87 a.1.toNatClampNeg).toNatClampNeg) (vC M 13)) ∧ (a.1.toInt = -1 → a.2.2.1 83 = stB (vC M) 20 x (vC M 13))) ∧ (∀ c, c ≠ 13 → vC a.2.2.1 c = vC M c) ∧ (a.2.1.toInt = 0 ∨ a.2.1.toInt = 1) ∧ (0 ≤ a.1.toInt → (a.2.1.toInt = 1 ↔ ((vC M 12 (M_4 87 a.1.toNatClampNeg).toNatClampNeg).toInt ≠ -9 ∧ (stB (vC M) 20 (vC M 12 (M_4 87 a.1.toNatClampNeg).toNatClampNeg) (vC M 13) (vC M 12 (M_4 87 a.1.toNatClampNeg).toNatClampNeg).toNatClampNeg).toInt = 2))) ∧ IC a.2.2.1 ∧ (∀ k i, k ≠ 83 ∧ k ≠ 87 → a.2.2.1 k i = M k i) ∧ (∀ k i, True → a.2.2.2 k i = L k i)) (fun a => a.2.2.1) (fun a => a.2.2.2) (fun a => [(5, .int a.1), (4, .int a.2.1), (3, .int x3_4), (2, .int x2_4), (0, .ref (ad 81)), (1, .int x)]) (v53, (0 : Int32), M_4, L_4) ⟨by show -1 ≤ v53.toInt; omega, by show v53.toInt + 1 ≤ x2_4.toInt; omega, by show M_4 87 = M_4 87; rfl, by show (0 ≤ v53.toInt → M_4 83 = stB (vC M) 20 (vC M 12 (M_4 87 v53.toNatClampNeg).toNatClampNeg) (vC M 13)) ∧ (v53.toInt = -1 → M_4 83 = stB (vC M) 20 x (vC M 13)); exact ⟨fun h => by rw [hM4, show v53.toNatClampNeg = x2_4.toNatClampNeg - 1 by (have := ixn h; omega), (j4_6.2 (by omega)).2, stB_stop hst], fun h => by rw [hM4, ← j4_6.1 (by omega), stB_stop hst]⟩, by show ∀ c, c ≠ 13 → vC M_4 c = vC M c; intro c _; rw [j4_3], by show (0 : Int32).toInt = 0 ∨ (0 : Int32).toInt = 1; omega, by show 0 ≤ v53.toInt → ((0 : Int32).toInt = 1 ↔ ((vC M 12 (M_4 87 v53.toNatClampNeg).toNatClampNeg).toInt ≠ -9 ∧ (stB (vC M) 20 (vC M 12 (M_4 87 v53.toNatClampNeg).toNatClampNeg) (vC M 13) (vC M 12 (M_4 87 v53.toNatClampNeg).toNatClampNeg).toNatClampNeg).toInt = 2)); intro h; have nk := ixn h; rw [show v53.toNatClampNeg = x2_4.toNatClampNeg - 1 by omega, (j4_6.2 (by omega)).2, stB_stop hst]; omega, hI, hF, hG⟩ rfl rfl rfl ?_
        rintro ⟨x5_77, x4_77, M_77, L_77⟩ ⟨j77_0, j77_1, j77_2, j77_3, j77_4, j77_5, j77_6, hI, hF, hG⟩ ih_77
        dsimp only at j77_0 j77_1 j77_2 j77_3 j77_4 j77_5 j77_6 hI hF hG ih_77 ⊢
        have hV : vC M_77 = vC M_77 := rfl
        have q83 : M_77 83 = M_77 83 := rfl
        have q87 : M_77 87 = M_77 87 := rfl
        have q87 : M_77 87 = M_4 87 := j77_2
        refine g_iload C 0 dX4_begin_77 rfl ?_
        refine g_if_lt C 139 dX4_begin_79 (by decide) (fun c55 => ?_) (fun c55 => ?_)
        ·
          have f56 := fl rfl (by decide : (0 : Int32).toInt = 0) c55
          refine g_aload_n C 4 dX4_begin_139 rfl ?_
          refine g_get C (.ref (ad 83)) 2 in_X4_begin_4 (List.mem_of_getElem? (i := 1) rfl) (by decide) (ce_meth ad cs _ _) rfl (by decide) rfl rfl dX4_begin_140 ?_
          refine g_iload_n C 5 dX4_begin_143 rfl ?_
          have nx := ixn (x := x) (by omega)
          refine g_iald C (by decide) (ce_mbegun ad cs _ _) (fin' (n := 20) rfl (by omega) (by omega)) dX4_begin_144 ?_
          refine g_ni (fun v57 ev57 => ?_)
          have gv57 : v57 = M_77 83 x.toNatClampNeg := ev57.trans (congrFun q83 _)
          have tv57 := congrArg Int32.toInt gv57
          have hS : M_77 83 = stB (vC M) 20 x (vC M 13) := j77_3.2 (by omega)
          exact g_iret C hr ⟨⟨by (funext c i; by_cases e9 : c = 13; (subst e9; show M_77 83 i = stB (vC M) 20 x (vC M 13) i; rw [hS]); (rw [j77_4 c e9]; unfold startV; rw [if_neg e9])), by (rw [gv57, hS]; rfl)⟩, hI, hF, hG⟩ dX4_begin_145
        ·
          have f58 := fnl rfl (by decide : (0 : Int32).toInt = 0) c55
          have n5 := ixn (x := x5_77) (by omega)
          obtain ⟨cj1, cj2, cj3⟩ := j4_4 x5_77.toNatClampNeg (by omega)
          have ncj := ixn cj1
          have hn9 := hN (M_4 87 x5_77.toNatClampNeg).toNatClampNeg (by omega)
          have hB9 := j77_3.1 (by omega)
          have hf9 := j77_6 (by omega)
          refine g_iload C 1 dX4_begin_82 rfl ?_
          refine g_if_ne C 104 dX4_begin_84 (by decide) (fun c59 => ?_) (fun c59 => ?_)
          ·
            have f60 := fne rfl (by decide : (0 : Int32).toInt = 0) c59
            refine g_iconst C 1 dX4_begin_104 (by decide) ?_
            refine g_goto C 109 dX4_begin_105 (by decide) ?_
            refine g_istore C [(4, .int 1), (5, .int x5_77), (3, .int x3_4), (2, .int x2_4), (0, .ref (ad 81)), (1, .int x)] dX4_begin_109 (by decide) rfl ?_
            refine g_aload_n C 4 dX4_begin_111 rfl ?_
            refine g_get C (.ref (ad 83)) 2 in_X4_begin_4 (List.mem_of_getElem? (i := 1) rfl) (by decide) (ce_meth ad cs _ _) rfl (by decide) rfl rfl dX4_begin_112 ?_
            refine g_aload_n C 4 dX4_begin_115 rfl ?_
            refine g_get C (.ref (ad 87)) 6 in_X4_begin_4 (List.mem_of_getElem? (i := 2) rfl) (by decide) (ce_meth ad cs _ _) rfl (by decide) rfl rfl dX4_begin_116 ?_
            refine g_iload C 1 dX4_begin_119 rfl ?_
            have nx5_77 := ixn (x := x5_77) (by omega)
            refine g_iald C (by decide) (ce_mchain ad cs _ _) (fin' (n := 20) rfl (by omega) (by omega)) dX4_begin_121 ?_
            refine g_ni (fun v61 ev61 => ?_)
            have gv61 : v61 = M_4 87 x5_77.toNatClampNeg := ev61.trans (congrFun q87 _)
            have tv61 := congrArg Int32.toInt gv61
            obtain ⟨bv61, dv61⟩ := (show rg 0 19 v61 from (by rw [ev61]; exact hI 87 x5_77.toNatClampNeg))
            subst gv61
            refine g_iload C 0 dX4_begin_122 rfl ?_
            refine g_if_eq C 131 dX4_begin_124 (by decide) (fun c62 => absurd c62 (by decide)) (fun _ => ?_)
            refine g_iconst C 2 dX4_begin_127 (by decide) ?_
            refine g_goto C 132 dX4_begin_128 (by decide) ?_
            have n_M_4_87_x5_77_toNatClampNeg_ := ixn (x := (M_4 87 x5_77.toNatClampNeg)) (by omega)
            refine g_iast C (by decide) (ce_mbegun ad cs _ _) (by rw [sI_k]; rfl) (fin' (n := 20) rfl (by omega) (by omega)) dX4_begin_132 ?_
            refine g_nm (fun M63 hM63 => ?_)
            have zy64 : (2 : Int32).toInt = 2 := by decide
            have hI : IC M63 := by rw [hM63]; exact hI.st (bC_free (by decide) (by decide) (by decide) (by decide) (by decide) (by decide) (by decide))
            have hF : ∀ k i, k ≠ 83 ∧ k ≠ 87 → M63 k i = M k i := fun k i hk => by (rw [hM63, sI_at, if_neg (by omega)]; try exact hF k i hk)
            have q87 : M63 87 = M_4 87 := by rw [hM63, sI_n _ _ _ (by decide)]; try exact q87
            have hV : vC M63 = sI (vC M_77) 13 (((M_4 87 x5_77.toNatClampNeg)).toNatClampNeg) 2 := by rw [hM63, vC_a (c := 13) (by decide), hV]
            obtain ⟨v65, ev65⟩ : ∃ y : Int32, y = x5_77 + (-1) := ⟨_, rfl⟩
            try have fv65 := fadd rfl (by decide : ((-1) : Int32).toInt = (-1)) ev65 (by omega) (by omega)
            refine g_iinc C 1 v65 [(5, .int v65), (4, .int 1), (3, .int x3_4), (2, .int x2_4), (0, .ref (ad 81)), (1, .int x)] dX4_begin_133 rfl (by rw [ev65]; rfl) (by decide) rfl ?_
            refine g_goto C 77 dX4_begin_136 (by decide) ?_
            have zy66 : (1 : Int32).toInt = 1 := by decide
            have hup : M63 83 = stB (vC M) 20 (M_4 87 x5_77.toNatClampNeg) (vC M 13) := by
              rw [hM63, sI_k, q83, hB9, stB_step hN h20 cj1 cj2 cj3]
              congr 1
              first | rw [if_pos (by omega)] | rw [if_neg (by omega)]
            have hv9 : (stB (vC M) 20 (M_4 87 x5_77.toNatClampNeg) (vC M 13) (M_4 87 x5_77.toNatClampNeg).toNatClampNeg).toInt = 2 := by rw [← hup, hM63, sI_at, if_pos ⟨rfl, rfl⟩]; decide
            exact ih_77 (v65, 1, M63, L_77) ⟨by show -1 ≤ v65.toInt; omega, by show v65.toInt + 1 ≤ x2_4.toInt; omega, by show M63 87 = M_4 87; exact q87, by show (0 ≤ v65.toInt → M63 83 = stB (vC M) 20 (vC M 12 (M_4 87 v65.toNatClampNeg).toNatClampNeg) (vC M 13)) ∧ (v65.toInt = -1 → M63 83 = stB (vC M) 20 x (vC M 13)); exact ⟨fun h => by (have nk := ixn h; rw [hup]; rw [j4_5 _ (by omega), show v65.toNatClampNeg + 1 = x5_77.toNatClampNeg by omega]), fun h => by rw [hup, show x5_77.toNatClampNeg = 0 by omega, (j4_6.2 (by omega)).1]⟩, by show ∀ c, c ≠ 13 → vC M63 c = vC M c; intro c hc; rw [hV, sI_n _ _ _ hc]; exact j77_4 c hc, by show (1 : Int32).toInt = 0 ∨ (1 : Int32).toInt = 1; omega, by show 0 ≤ v65.toInt → ((1 : Int32).toInt = 1 ↔ ((vC M 12 (M_4 87 v65.toNatClampNeg).toNatClampNeg).toInt ≠ -9 ∧ (stB (vC M) 20 (vC M 12 (M_4 87 v65.toNatClampNeg).toNatClampNeg) (vC M 13) (vC M 12 (M_4 87 v65.toNatClampNeg).toNatClampNeg).toNatClampNeg).toInt = 2)); intro h; have nk := ixn h; rw [j4_5 _ (by omega), show v65.toNatClampNeg + 1 = x5_77.toNatClampNeg by omega]; omega, hI, hF, hG⟩ (by show (v65.toInt + 1).toNat < (x5_77.toInt + 1).toNat; omega)
          ·
            have f67 := feq rfl (by decide : (0 : Int32).toInt = 0) c59
            refine g_aload_n C 4 dX4_begin_87 rfl ?_
            refine g_get C (.ref (ad 82)) 1 in_X4_begin_4 (List.mem_of_getElem? (i := 4) rfl) (by decide) (ce_meth ad cs _ _) rfl (by decide) rfl rfl dX4_begin_88 ?_
            refine g_aload_n C 4 dX4_begin_91 rfl ?_
            refine g_get C (.ref (ad 87)) 6 in_X4_begin_4 (List.mem_of_getElem? (i := 2) rfl) (by decide) (ce_meth ad cs _ _) rfl (by decide) rfl rfl dX4_begin_92 ?_
            refine g_iload C 0 dX4_begin_95 rfl ?_
            have nx5_77 := ixn (x := x5_77) (by omega)
            refine g_iald C (by decide) (ce_mchain ad cs _ _) (fin' (n := 20) rfl (by omega) (by omega)) dX4_begin_97 ?_
            refine g_ni (fun v68 ev68 => ?_)
            have gv68 : v68 = M_4 87 x5_77.toNatClampNeg := ev68.trans (congrFun q87 _)
            have tv68 := congrArg Int32.toInt gv68
            obtain ⟨bv68, dv68⟩ := (show rg 0 19 v68 from (by rw [ev68]; exact hI 87 x5_77.toNatClampNeg))
            subst gv68
            have n_M_4_87_x5_77_toNatClampNeg_ := ixn (x := (M_4 87 x5_77.toNatClampNeg)) (by omega)
            refine g_iald C (by decide) (ce_mkind ad cs _ _) (fin' (n := 20) rfl (by omega) (by omega)) dX4_begin_98 ?_
            refine g_ni (fun v69 ev69 => ?_)
            have gv69 : v69 = vC M 9 (((M_4 87 x5_77.toNatClampNeg)).toNatClampNeg) := ev69.trans (hF 82 (((M_4 87 x5_77.toNatClampNeg)).toNatClampNeg) (by omega))
            have tv69 := congrArg Int32.toInt gv69
            refine g_bipush C 8 dX4_begin_99 (by decide) ?_
            refine g_icmp_ne C 108 dX4_begin_101 (by decide) (fun c70 => ?_) (fun c70 => ?_)
            ·
              have f71 := fne rfl (by decide : (8 : Int32).toInt = 8) c70
              refine g_iconst C 0 dX4_begin_108 (by decide) ?_
              refine g_istore C [(4, .int 0), (5, .int x5_77), (3, .int x3_4), (2, .int x2_4), (0, .ref (ad 81)), (1, .int x)] dX4_begin_109 (by decide) rfl ?_
              refine g_aload_n C 4 dX4_begin_111 rfl ?_
              refine g_get C (.ref (ad 83)) 2 in_X4_begin_4 (List.mem_of_getElem? (i := 1) rfl) (by decide) (ce_meth ad cs _ _) rfl (by decide) rfl rfl dX4_begin_112 ?_
              refine g_aload_n C 4 dX4_begin_115 rfl ?_
              refine g_get C (.ref (ad 87)) 6 in_X4_begin_4 (List.mem_of_getElem? (i := 2) rfl) (by decide) (ce_meth ad cs _ _) rfl (by decide) rfl rfl dX4_begin_116 ?_
              refine g_iload C 1 dX4_begin_119 rfl ?_
              have nx5_77 := ixn (x := x5_77) (by omega)
              refine g_iald C (by decide) (ce_mchain ad cs _ _) (fin' (n := 20) rfl (by omega) (by omega)) dX4_begin_121 ?_
              refine g_ni (fun v72 ev72 => ?_)
              have gv72 : v72 = M_4 87 x5_77.toNatClampNeg := ev72.trans (congrFun q87 _)
              have tv72 := congrArg Int32.toInt gv72
              obtain ⟨bv72, dv72⟩ := (show rg 0 19 v72 from (by rw [ev72]; exact hI 87 x5_77.toNatClampNeg))
              subst gv72
              refine g_iload C 0 dX4_begin_122 rfl ?_
              refine g_if_eq C 131 dX4_begin_124 (by decide) (fun _ => ?_) (fun c73 => absurd c73 (by decide))
              refine g_iconst C 1 dX4_begin_131 (by decide) ?_
              have n_M_4_87_x5_77_toNatClampNeg_ := ixn (x := (M_4 87 x5_77.toNatClampNeg)) (by omega)
              refine g_iast C (by decide) (ce_mbegun ad cs _ _) (by rw [sI_k]; rfl) (fin' (n := 20) rfl (by omega) (by omega)) dX4_begin_132 ?_
              refine g_nm (fun M74 hM74 => ?_)
              have zy75 : (1 : Int32).toInt = 1 := by decide
              have hI : IC M74 := by rw [hM74]; exact hI.st (bC_free (by decide) (by decide) (by decide) (by decide) (by decide) (by decide) (by decide))
              have hF : ∀ k i, k ≠ 83 ∧ k ≠ 87 → M74 k i = M k i := fun k i hk => by (rw [hM74, sI_at, if_neg (by omega)]; try exact hF k i hk)
              have q87 : M74 87 = M_4 87 := by rw [hM74, sI_n _ _ _ (by decide)]; try exact q87
              have hV : vC M74 = sI (vC M_77) 13 (((M_4 87 x5_77.toNatClampNeg)).toNatClampNeg) 1 := by rw [hM74, vC_a (c := 13) (by decide), hV]
              obtain ⟨v76, ev76⟩ : ∃ y : Int32, y = x5_77 + (-1) := ⟨_, rfl⟩
              try have fv76 := fadd rfl (by decide : ((-1) : Int32).toInt = (-1)) ev76 (by omega) (by omega)
              refine g_iinc C 1 v76 [(5, .int v76), (4, .int 0), (3, .int x3_4), (2, .int x2_4), (0, .ref (ad 81)), (1, .int x)] dX4_begin_133 rfl (by rw [ev76]; rfl) (by decide) rfl ?_
              refine g_goto C 77 dX4_begin_136 (by decide) ?_
              have zy77 : (0 : Int32).toInt = 0 := by decide
              have hup : M74 83 = stB (vC M) 20 (M_4 87 x5_77.toNatClampNeg) (vC M 13) := by
                rw [hM74, sI_k, q83, hB9, stB_step hN h20 cj1 cj2 cj3]
                congr 1
                first | rw [if_pos (by omega)] | rw [if_neg (by omega)]
              have hv9 : (stB (vC M) 20 (M_4 87 x5_77.toNatClampNeg) (vC M 13) (M_4 87 x5_77.toNatClampNeg).toNatClampNeg).toInt = 1 := by rw [← hup, hM74, sI_at, if_pos ⟨rfl, rfl⟩]; decide
              exact ih_77 (v76, 0, M74, L_77) ⟨by show -1 ≤ v76.toInt; omega, by show v76.toInt + 1 ≤ x2_4.toInt; omega, by show M74 87 = M_4 87; exact q87, by show (0 ≤ v76.toInt → M74 83 = stB (vC M) 20 (vC M 12 (M_4 87 v76.toNatClampNeg).toNatClampNeg) (vC M 13)) ∧ (v76.toInt = -1 → M74 83 = stB (vC M) 20 x (vC M 13)); exact ⟨fun h => by (have nk := ixn h; rw [hup]; rw [j4_5 _ (by omega), show v76.toNatClampNeg + 1 = x5_77.toNatClampNeg by omega]), fun h => by rw [hup, show x5_77.toNatClampNeg = 0 by omega, (j4_6.2 (by omega)).1]⟩, by show ∀ c, c ≠ 13 → vC M74 c = vC M c; intro c hc; rw [hV, sI_n _ _ _ hc]; exact j77_4 c hc, by show (0 : Int32).toInt = 0 ∨ (0 : Int32).toInt = 1; omega, by show 0 ≤ v76.toInt → ((0 : Int32).toInt = 1 ↔ ((vC M 12 (M_4 87 v76.toNatClampNeg).toNatClampNeg).toInt ≠ -9 ∧ (stB (vC M) 20 (vC M 12 (M_4 87 v76.toNatClampNeg).toNatClampNeg) (vC M 13) (vC M 12 (M_4 87 v76.toNatClampNeg).toNatClampNeg).toNatClampNeg).toInt = 2)); intro h; have nk := ixn h; rw [j4_5 _ (by omega), show v76.toNatClampNeg + 1 = x5_77.toNatClampNeg by omega]; omega, hI, hF, hG⟩ (by show (v76.toInt + 1).toNat < (x5_77.toInt + 1).toNat; omega)
            ·
              have f78 := feq rfl (by decide : (8 : Int32).toInt = 8) c70
              refine g_iconst C 1 dX4_begin_104 (by decide) ?_
              refine g_goto C 109 dX4_begin_105 (by decide) ?_
              refine g_istore C [(4, .int 1), (5, .int x5_77), (3, .int x3_4), (2, .int x2_4), (0, .ref (ad 81)), (1, .int x)] dX4_begin_109 (by decide) rfl ?_
              refine g_aload_n C 4 dX4_begin_111 rfl ?_
              refine g_get C (.ref (ad 83)) 2 in_X4_begin_4 (List.mem_of_getElem? (i := 1) rfl) (by decide) (ce_meth ad cs _ _) rfl (by decide) rfl rfl dX4_begin_112 ?_
              refine g_aload_n C 4 dX4_begin_115 rfl ?_
              refine g_get C (.ref (ad 87)) 6 in_X4_begin_4 (List.mem_of_getElem? (i := 2) rfl) (by decide) (ce_meth ad cs _ _) rfl (by decide) rfl rfl dX4_begin_116 ?_
              refine g_iload C 1 dX4_begin_119 rfl ?_
              have nx5_77 := ixn (x := x5_77) (by omega)
              refine g_iald C (by decide) (ce_mchain ad cs _ _) (fin' (n := 20) rfl (by omega) (by omega)) dX4_begin_121 ?_
              refine g_ni (fun v79 ev79 => ?_)
              have gv79 : v79 = M_4 87 x5_77.toNatClampNeg := ev79.trans (congrFun q87 _)
              have tv79 := congrArg Int32.toInt gv79
              obtain ⟨bv79, dv79⟩ := (show rg 0 19 v79 from (by rw [ev79]; exact hI 87 x5_77.toNatClampNeg))
              subst gv79
              refine g_iload C 0 dX4_begin_122 rfl ?_
              refine g_if_eq C 131 dX4_begin_124 (by decide) (fun c80 => absurd c80 (by decide)) (fun _ => ?_)
              refine g_iconst C 2 dX4_begin_127 (by decide) ?_
              refine g_goto C 132 dX4_begin_128 (by decide) ?_
              have n_M_4_87_x5_77_toNatClampNeg_ := ixn (x := (M_4 87 x5_77.toNatClampNeg)) (by omega)
              refine g_iast C (by decide) (ce_mbegun ad cs _ _) (by rw [sI_k]; rfl) (fin' (n := 20) rfl (by omega) (by omega)) dX4_begin_132 ?_
              refine g_nm (fun M81 hM81 => ?_)
              have zy82 : (2 : Int32).toInt = 2 := by decide
              have hI : IC M81 := by rw [hM81]; exact hI.st (bC_free (by decide) (by decide) (by decide) (by decide) (by decide) (by decide) (by decide))
              have hF : ∀ k i, k ≠ 83 ∧ k ≠ 87 → M81 k i = M k i := fun k i hk => by (rw [hM81, sI_at, if_neg (by omega)]; try exact hF k i hk)
              have q87 : M81 87 = M_4 87 := by rw [hM81, sI_n _ _ _ (by decide)]; try exact q87
              have hV : vC M81 = sI (vC M_77) 13 (((M_4 87 x5_77.toNatClampNeg)).toNatClampNeg) 2 := by rw [hM81, vC_a (c := 13) (by decide), hV]
              obtain ⟨v83, ev83⟩ : ∃ y : Int32, y = x5_77 + (-1) := ⟨_, rfl⟩
              try have fv83 := fadd rfl (by decide : ((-1) : Int32).toInt = (-1)) ev83 (by omega) (by omega)
              refine g_iinc C 1 v83 [(5, .int v83), (4, .int 1), (3, .int x3_4), (2, .int x2_4), (0, .ref (ad 81)), (1, .int x)] dX4_begin_133 rfl (by rw [ev83]; rfl) (by decide) rfl ?_
              refine g_goto C 77 dX4_begin_136 (by decide) ?_
              have zy84 : (1 : Int32).toInt = 1 := by decide
              have hup : M81 83 = stB (vC M) 20 (M_4 87 x5_77.toNatClampNeg) (vC M 13) := by
                rw [hM81, sI_k, q83, hB9, stB_step hN h20 cj1 cj2 cj3]
                congr 1
                first | rw [if_pos (by omega)] | rw [if_neg (by omega)]
              have hv9 : (stB (vC M) 20 (M_4 87 x5_77.toNatClampNeg) (vC M 13) (M_4 87 x5_77.toNatClampNeg).toNatClampNeg).toInt = 2 := by rw [← hup, hM81, sI_at, if_pos ⟨rfl, rfl⟩]; decide
              exact ih_77 (v83, 1, M81, L_77) ⟨by show -1 ≤ v83.toInt; omega, by show v83.toInt + 1 ≤ x2_4.toInt; omega, by show M81 87 = M_4 87; exact q87, by show (0 ≤ v83.toInt → M81 83 = stB (vC M) 20 (vC M 12 (M_4 87 v83.toNatClampNeg).toNatClampNeg) (vC M 13)) ∧ (v83.toInt = -1 → M81 83 = stB (vC M) 20 x (vC M 13)); exact ⟨fun h => by (have nk := ixn h; rw [hup]; rw [j4_5 _ (by omega), show v83.toNatClampNeg + 1 = x5_77.toNatClampNeg by omega]), fun h => by rw [hup, show x5_77.toNatClampNeg = 0 by omega, (j4_6.2 (by omega)).1]⟩, by show ∀ c, c ≠ 13 → vC M81 c = vC M c; intro c hc; rw [hV, sI_n _ _ _ hc]; exact j77_4 c hc, by show (1 : Int32).toInt = 0 ∨ (1 : Int32).toInt = 1; omega, by show 0 ≤ v83.toInt → ((1 : Int32).toInt = 1 ↔ ((vC M 12 (M_4 87 v83.toNatClampNeg).toNatClampNeg).toInt ≠ -9 ∧ (stB (vC M) 20 (vC M 12 (M_4 87 v83.toNatClampNeg).toNatClampNeg) (vC M 13) (vC M 12 (M_4 87 v83.toNatClampNeg).toNatClampNeg).toNatClampNeg).toInt = 2)); intro h; have nk := ixn h; rw [j4_5 _ (by omega), show v83.toNatClampNeg + 1 = x5_77.toNatClampNeg by omega]; omega, hI, hF, hG⟩ (by show (v83.toInt + 1).toNat < (x5_77.toInt + 1).toNat; omega)
      ·
        have f85 := fne rfl (by decide : (0 : Int32).toInt = 0) c51
        have pr48 := zo_t hr48 c51
        try dsimp only [hasC, hasB, hasX, hasM, ofS, ofK, bt] at pr48
        exfalso; omega
    ·
      have f86 := fne rfl (by decide : (0 : Int32).toInt = 0) c46
      have pr43 := zo_t hr43 c46
      try dsimp only [hasC, hasB, hasX, hasM, ofS, ofK, bt] at pr43
      have n3 := ixn (x := x3_4) (by omega)
      have hn9 := hN x3_4.toNatClampNeg (by omega)
      refine g_aload_n C 2 dX4_begin_18 rfl ?_
      refine g_get C (.ref (ad 83)) 2 in_X4_begin_4 (List.mem_of_getElem? (i := 1) rfl) (by decide) (ce_meth ad cs _ _) rfl (by decide) rfl rfl dX4_begin_19 ?_
      refine g_iload_n C 0 dX4_begin_22 rfl ?_
      have nx3_4 := ixn (x := x3_4) (by omega)
      refine g_iald C (by decide) (ce_mbegun ad cs _ _) (fin' (n := 20) rfl (by omega) (by omega)) dX4_begin_23 ?_
      refine g_ni (fun v87 ev87 => ?_)
      have gv87 : v87 = vC M 13 x3_4.toNatClampNeg := ev87.trans (congrFun q83 _)
      have tv87 := congrArg Int32.toInt gv87
      refine g_if_ne C 47 dX4_begin_24 (by decide) (fun c88 => ?_) (fun c88 => ?_)
      ·
        have f89 := fne rfl (by decide : (0 : Int32).toInt = 0) c88
        refine g_aload_n C 2 dX4_begin_47 rfl ?_
        refine g_iload_n C 0 dX4_begin_48 rfl ?_
        refine g_callVi C (n := 1) (As := [.int x3_4]) (st := []) (c_X4_has l D ad cs _ _ x3_4 ) gX4_begin_X4_has rfl rfl rfl (by decide +kernel) ⟨Nat.le_of_ble_eq_true rfl, Nat.le_of_ble_eq_true rfl⟩ rfl (Nat.le_of_ble_eq_true rfl) ⟨Nat.zero_le _, Nat.zero_le _⟩ (by decide) (ce_meth ad cs _ _) rfl rfl dX4_begin_49 (fun r90 M91 L92 hr90 => ?_)
        obtain ⟨hq1, hq2, hr90⟩ := hr90
        obtain rfl := hq1.symm
        obtain rfl := hq2.symm
        have hr90 := zo_has hr90
        rw [show M_4 81 0 = M 81 0 from hF 81 0 (by omega)] at hr90
        obtain ⟨bar90, bbr90⟩ := zo_b hr90
        refine g_if_eq C 69 dX4_begin_52 (by decide) (fun c93 => ?_) (fun c93 => ?_)
        ·
          have f94 := feq rfl (by decide : (0 : Int32).toInt = 0) c93
          have pr90 := zo_f hr90 c93
          try dsimp only [hasC, hasB, hasX, hasM, ofS, ofK, bt] at pr90
          exfalso; omega
        ·
          have f95 := fne rfl (by decide : (0 : Int32).toInt = 0) c93
          have pr90 := zo_t hr90 c93
          try dsimp only [hasC, hasB, hasX, hasM, ofS, ofK, bt] at pr90
          have n3b := ixn (x := x3_4) (by omega)
          refine g_aload_n C 2 dX4_begin_55 rfl ?_
          refine g_get C (.ref (ad 83)) 2 in_X4_begin_4 (List.mem_of_getElem? (i := 1) rfl) (by decide) (ce_meth ad cs _ _) rfl (by decide) rfl rfl dX4_begin_56 ?_
          refine g_iload_n C 0 dX4_begin_59 rfl ?_
          have nx3_4 := ixn (x := x3_4) (by omega)
          refine g_iald C (by decide) (ce_mbegun ad cs _ _) (fin' (n := 20) rfl (by omega) (by omega)) dX4_begin_60 ?_
          refine g_ni (fun v96 ev96 => ?_)
          have gv96 : v96 = vC M 13 x3_4.toNatClampNeg := ev96.trans (congrFun q83 _)
          have tv96 := congrArg Int32.toInt gv96
          refine g_iconst C 2 dX4_begin_61 (by decide) ?_
          refine g_icmp_ne C 69 dX4_begin_62 (by decide) (fun c97 => ?_) (fun c97 => ?_)
          ·
            have f98 := fne rfl (by decide : (2 : Int32).toInt = 2) c97
            refine g_iconst C 0 dX4_begin_69 (by decide) ?_
            refine g_istore C [(4, .int 0), (3, .int x3_4), (2, .int x2_4), (0, .ref (ad 81)), (1, .int x)] dX4_begin_70 (by decide) rfl ?_
            have hst : x3_4.toInt = -9 ∨ (vC M 13 x3_4.toNatClampNeg).toInt ≠ 0 := by omega
            have hM4 : M_4 83 = vC M 13 := j4_2
            refine g_iload_n C 2 dX4_begin_72 rfl ?_
            refine g_iconst C 1 dX4_begin_73 (by decide) ?_
            refine g_isub C dX4_begin_74 ?_
            refine g_ni (fun v99 ev99 => ?_)
            try have fv99 := fsub rfl (by decide : (1 : Int32).toInt = 1) ev99 (by omega) (by omega)
            refine g_istore C [(5, .int v99), (4, .int 0), (3, .int x3_4), (2, .int x2_4), (0, .ref (ad 81)), (1, .int x)] dX4_begin_75 (by decide) rfl ?_
            have zy100 : (0 : Int32).toInt = 0 := by decide
            refine g_loop (α := Int32 × Int32 × MI × ML) (fun a => (a.1.toInt + 1).toNat) (fun a => (-1 ≤ a.1.toInt) ∧ (a.1.toInt + 1 ≤ x2_4.toInt) ∧ (a.2.2.1 87 = M_4 87) ∧ ((0 ≤ a.1.toInt → a.2.2.1 83 = stB (vC M) 20 (vC M 12 (M_4 87 a.1.toNatClampNeg).toNatClampNeg) (vC M 13)) ∧ (a.1.toInt = -1 → a.2.2.1 83 = stB (vC M) 20 x (vC M 13))) ∧ (∀ c, c ≠ 13 → vC a.2.2.1 c = vC M c) ∧ (a.2.1.toInt = 0 ∨ a.2.1.toInt = 1) ∧ (0 ≤ a.1.toInt → (a.2.1.toInt = 1 ↔ ((vC M 12 (M_4 87 a.1.toNatClampNeg).toNatClampNeg).toInt ≠ -9 ∧ (stB (vC M) 20 (vC M 12 (M_4 87 a.1.toNatClampNeg).toNatClampNeg) (vC M 13) (vC M 12 (M_4 87 a.1.toNatClampNeg).toNatClampNeg).toNatClampNeg).toInt = 2))) ∧ IC a.2.2.1 ∧ (∀ k i, k ≠ 83 ∧ k ≠ 87 → a.2.2.1 k i = M k i) ∧ (∀ k i, True → a.2.2.2 k i = L k i)) (fun a => a.2.2.1) (fun a => a.2.2.2) (fun a => [(5, .int a.1), (4, .int a.2.1), (3, .int x3_4), (2, .int x2_4), (0, .ref (ad 81)), (1, .int x)]) (v99, (0 : Int32), M_4, L_4) ⟨by show -1 ≤ v99.toInt; omega, by show v99.toInt + 1 ≤ x2_4.toInt; omega, by show M_4 87 = M_4 87; rfl, by show (0 ≤ v99.toInt → M_4 83 = stB (vC M) 20 (vC M 12 (M_4 87 v99.toNatClampNeg).toNatClampNeg) (vC M 13)) ∧ (v99.toInt = -1 → M_4 83 = stB (vC M) 20 x (vC M 13)); exact ⟨fun h => by rw [hM4, show v99.toNatClampNeg = x2_4.toNatClampNeg - 1 by (have := ixn h; omega), (j4_6.2 (by omega)).2, stB_stop hst], fun h => by rw [hM4, ← j4_6.1 (by omega), stB_stop hst]⟩, by show ∀ c, c ≠ 13 → vC M_4 c = vC M c; intro c _; rw [j4_3], by show (0 : Int32).toInt = 0 ∨ (0 : Int32).toInt = 1; omega, by show 0 ≤ v99.toInt → ((0 : Int32).toInt = 1 ↔ ((vC M 12 (M_4 87 v99.toNatClampNeg).toNatClampNeg).toInt ≠ -9 ∧ (stB (vC M) 20 (vC M 12 (M_4 87 v99.toNatClampNeg).toNatClampNeg) (vC M 13) (vC M 12 (M_4 87 v99.toNatClampNeg).toNatClampNeg).toNatClampNeg).toInt = 2)); intro h; have nk := ixn h; rw [show v99.toNatClampNeg = x2_4.toNatClampNeg - 1 by omega, (j4_6.2 (by omega)).2, stB_stop hst]; omega, hI, hF, hG⟩ rfl rfl rfl ?_
            rintro ⟨x5_77, x4_77, M_77, L_77⟩ ⟨j77_0, j77_1, j77_2, j77_3, j77_4, j77_5, j77_6, hI, hF, hG⟩ ih_77
            dsimp only at j77_0 j77_1 j77_2 j77_3 j77_4 j77_5 j77_6 hI hF hG ih_77 ⊢
            have hV : vC M_77 = vC M_77 := rfl
            have q83 : M_77 83 = M_77 83 := rfl
            have q87 : M_77 87 = M_77 87 := rfl
            have q87 : M_77 87 = M_4 87 := j77_2
            refine g_iload C 0 dX4_begin_77 rfl ?_
            refine g_if_lt C 139 dX4_begin_79 (by decide) (fun c101 => ?_) (fun c101 => ?_)
            ·
              have f102 := fl rfl (by decide : (0 : Int32).toInt = 0) c101
              refine g_aload_n C 4 dX4_begin_139 rfl ?_
              refine g_get C (.ref (ad 83)) 2 in_X4_begin_4 (List.mem_of_getElem? (i := 1) rfl) (by decide) (ce_meth ad cs _ _) rfl (by decide) rfl rfl dX4_begin_140 ?_
              refine g_iload_n C 5 dX4_begin_143 rfl ?_
              have nx := ixn (x := x) (by omega)
              refine g_iald C (by decide) (ce_mbegun ad cs _ _) (fin' (n := 20) rfl (by omega) (by omega)) dX4_begin_144 ?_
              refine g_ni (fun v103 ev103 => ?_)
              have gv103 : v103 = M_77 83 x.toNatClampNeg := ev103.trans (congrFun q83 _)
              have tv103 := congrArg Int32.toInt gv103
              have hS : M_77 83 = stB (vC M) 20 x (vC M 13) := j77_3.2 (by omega)
              exact g_iret C hr ⟨⟨by (funext c i; by_cases e9 : c = 13; (subst e9; show M_77 83 i = stB (vC M) 20 x (vC M 13) i; rw [hS]); (rw [j77_4 c e9]; unfold startV; rw [if_neg e9])), by (rw [gv103, hS]; rfl)⟩, hI, hF, hG⟩ dX4_begin_145
            ·
              have f104 := fnl rfl (by decide : (0 : Int32).toInt = 0) c101
              have n5 := ixn (x := x5_77) (by omega)
              obtain ⟨cj1, cj2, cj3⟩ := j4_4 x5_77.toNatClampNeg (by omega)
              have ncj := ixn cj1
              have hn9 := hN (M_4 87 x5_77.toNatClampNeg).toNatClampNeg (by omega)
              have hB9 := j77_3.1 (by omega)
              have hf9 := j77_6 (by omega)
              refine g_iload C 1 dX4_begin_82 rfl ?_
              refine g_if_ne C 104 dX4_begin_84 (by decide) (fun c105 => ?_) (fun c105 => ?_)
              ·
                have f106 := fne rfl (by decide : (0 : Int32).toInt = 0) c105
                refine g_iconst C 1 dX4_begin_104 (by decide) ?_
                refine g_goto C 109 dX4_begin_105 (by decide) ?_
                refine g_istore C [(4, .int 1), (5, .int x5_77), (3, .int x3_4), (2, .int x2_4), (0, .ref (ad 81)), (1, .int x)] dX4_begin_109 (by decide) rfl ?_
                refine g_aload_n C 4 dX4_begin_111 rfl ?_
                refine g_get C (.ref (ad 83)) 2 in_X4_begin_4 (List.mem_of_getElem? (i := 1) rfl) (by decide) (ce_meth ad cs _ _) rfl (by decide) rfl rfl dX4_begin_112 ?_
                refine g_aload_n C 4 dX4_begin_115 rfl ?_
                refine g_get C (.ref (ad 87)) 6 in_X4_begin_4 (List.mem_of_getElem? (i := 2) rfl) (by decide) (ce_meth ad cs _ _) rfl (by decide) rfl rfl dX4_begin_116 ?_
                refine g_iload C 1 dX4_begin_119 rfl ?_
                have nx5_77 := ixn (x := x5_77) (by omega)
                refine g_iald C (by decide) (ce_mchain ad cs _ _) (fin' (n := 20) rfl (by omega) (by omega)) dX4_begin_121 ?_
                refine g_ni (fun v107 ev107 => ?_)
                have gv107 : v107 = M_4 87 x5_77.toNatClampNeg := ev107.trans (congrFun q87 _)
                have tv107 := congrArg Int32.toInt gv107
                obtain ⟨bv107, dv107⟩ := (show rg 0 19 v107 from (by rw [ev107]; exact hI 87 x5_77.toNatClampNeg))
                subst gv107
                refine g_iload C 0 dX4_begin_122 rfl ?_
                refine g_if_eq C 131 dX4_begin_124 (by decide) (fun c108 => absurd c108 (by decide)) (fun _ => ?_)
                refine g_iconst C 2 dX4_begin_127 (by decide) ?_
                refine g_goto C 132 dX4_begin_128 (by decide) ?_
                have n_M_4_87_x5_77_toNatClampNeg_ := ixn (x := (M_4 87 x5_77.toNatClampNeg)) (by omega)
                refine g_iast C (by decide) (ce_mbegun ad cs _ _) (by rw [sI_k]; rfl) (fin' (n := 20) rfl (by omega) (by omega)) dX4_begin_132 ?_
                refine g_nm (fun M109 hM109 => ?_)
                have zy110 : (2 : Int32).toInt = 2 := by decide
                have hI : IC M109 := by rw [hM109]; exact hI.st (bC_free (by decide) (by decide) (by decide) (by decide) (by decide) (by decide) (by decide))
                have hF : ∀ k i, k ≠ 83 ∧ k ≠ 87 → M109 k i = M k i := fun k i hk => by (rw [hM109, sI_at, if_neg (by omega)]; try exact hF k i hk)
                have q87 : M109 87 = M_4 87 := by rw [hM109, sI_n _ _ _ (by decide)]; try exact q87
                have hV : vC M109 = sI (vC M_77) 13 (((M_4 87 x5_77.toNatClampNeg)).toNatClampNeg) 2 := by rw [hM109, vC_a (c := 13) (by decide), hV]
                obtain ⟨v111, ev111⟩ : ∃ y : Int32, y = x5_77 + (-1) := ⟨_, rfl⟩
                try have fv111 := fadd rfl (by decide : ((-1) : Int32).toInt = (-1)) ev111 (by omega) (by omega)
                refine g_iinc C 1 v111 [(5, .int v111), (4, .int 1), (3, .int x3_4), (2, .int x2_4), (0, .ref (ad 81)), (1, .int x)] dX4_begin_133 rfl (by rw [ev111]; rfl) (by decide) rfl ?_
                refine g_goto C 77 dX4_begin_136 (by decide) ?_
                have zy112 : (1 : Int32).toInt = 1 := by decide
                have hup : M109 83 = stB (vC M) 20 (M_4 87 x5_77.toNatClampNeg) (vC M 13) := by
                  rw [hM109, sI_k, q83, hB9, stB_step hN h20 cj1 cj2 cj3]
                  congr 1
                  first | rw [if_pos (by omega)] | rw [if_neg (by omega)]
                have hv9 : (stB (vC M) 20 (M_4 87 x5_77.toNatClampNeg) (vC M 13) (M_4 87 x5_77.toNatClampNeg).toNatClampNeg).toInt = 2 := by rw [← hup, hM109, sI_at, if_pos ⟨rfl, rfl⟩]; decide
                exact ih_77 (v111, 1, M109, L_77) ⟨by show -1 ≤ v111.toInt; omega, by show v111.toInt + 1 ≤ x2_4.toInt; omega, by show M109 87 = M_4 87; exact q87, by show (0 ≤ v111.toInt → M109 83 = stB (vC M) 20 (vC M 12 (M_4 87 v111.toNatClampNeg).toNatClampNeg) (vC M 13)) ∧ (v111.toInt = -1 → M109 83 = stB (vC M) 20 x (vC M 13)); exact ⟨fun h => by (have nk := ixn h; rw [hup]; rw [j4_5 _ (by omega), show v111.toNatClampNeg + 1 = x5_77.toNatClampNeg by omega]), fun h => by rw [hup, show x5_77.toNatClampNeg = 0 by omega, (j4_6.2 (by omega)).1]⟩, by show ∀ c, c ≠ 13 → vC M109 c = vC M c; intro c hc; rw [hV, sI_n _ _ _ hc]; exact j77_4 c hc, by show (1 : Int32).toInt = 0 ∨ (1 : Int32).toInt = 1; omega, by show 0 ≤ v111.toInt → ((1 : Int32).toInt = 1 ↔ ((vC M 12 (M_4 87 v111.toNatClampNeg).toNatClampNeg).toInt ≠ -9 ∧ (stB (vC M) 20 (vC M 12 (M_4 87 v111.toNatClampNeg).toNatClampNeg) (vC M 13) (vC M 12 (M_4 87 v111.toNatClampNeg).toNatClampNeg).toNatClampNeg).toInt = 2)); intro h; have nk := ixn h; rw [j4_5 _ (by omega), show v111.toNatClampNeg + 1 = x5_77.toNatClampNeg by omega]; omega, hI, hF, hG⟩ (by show (v111.toInt + 1).toNat < (x5_77.toInt + 1).toNat; omega)
              ·
                have f113 := feq rfl (by decide : (0 : Int32).toInt = 0) c105
                refine g_aload_n C 4 dX4_begin_87 rfl ?_
                refine g_get C (.ref (ad 82)) 1 in_X4_begin_4 (List.mem_of_getElem? (i := 4) rfl) (by decide) (ce_meth ad cs _ _) rfl (by decide) rfl rfl dX4_begin_88 ?_
                refine g_aload_n C 4 dX4_begin_91 rfl ?_
                refine g_get C (.ref (ad 87)) 6 in_X4_begin_4 (List.mem_of_getElem? (i := 2) rfl) (by decide) (ce_meth ad cs _ _) rfl (by decide) rfl rfl dX4_begin_92 ?_
                refine g_iload C 0 dX4_begin_95 rfl ?_
                have nx5_77 := ixn (x := x5_77) (by omega)
                refine g_iald C (by decide) (ce_mchain ad cs _ _) (fin' (n := 20) rfl (by omega) (by omega)) dX4_begin_97 ?_
                refine g_ni (fun v114 ev114 => ?_)
                have gv114 : v114 = M_4 87 x5_77.toNatClampNeg := ev114.trans (congrFun q87 _)
                have tv114 := congrArg Int32.toInt gv114
                obtain ⟨bv114, dv114⟩ := (show rg 0 19 v114 from (by rw [ev114]; exact hI 87 x5_77.toNatClampNeg))
                subst gv114
                have n_M_4_87_x5_77_toNatClampNeg_ := ixn (x := (M_4 87 x5_77.toNatClampNeg)) (by omega)
                refine g_iald C (by decide) (ce_mkind ad cs _ _) (fin' (n := 20) rfl (by omega) (by omega)) dX4_begin_98 ?_
                refine g_ni (fun v115 ev115 => ?_)
                have gv115 : v115 = vC M 9 (((M_4 87 x5_77.toNatClampNeg)).toNatClampNeg) := ev115.trans (hF 82 (((M_4 87 x5_77.toNatClampNeg)).toNatClampNeg) (by omega))
                have tv115 := congrArg Int32.toInt gv115
                refine g_bipush C 8 dX4_begin_99 (by decide) ?_
                refine g_icmp_ne C 108 dX4_begin_101 (by decide) (fun c116 => ?_) (fun c116 => ?_)
                ·
                  have f117 := fne rfl (by decide : (8 : Int32).toInt = 8) c116
                  refine g_iconst C 0 dX4_begin_108 (by decide) ?_
                  refine g_istore C [(4, .int 0), (5, .int x5_77), (3, .int x3_4), (2, .int x2_4), (0, .ref (ad 81)), (1, .int x)] dX4_begin_109 (by decide) rfl ?_
                  refine g_aload_n C 4 dX4_begin_111 rfl ?_
                  refine g_get C (.ref (ad 83)) 2 in_X4_begin_4 (List.mem_of_getElem? (i := 1) rfl) (by decide) (ce_meth ad cs _ _) rfl (by decide) rfl rfl dX4_begin_112 ?_
                  refine g_aload_n C 4 dX4_begin_115 rfl ?_
                  refine g_get C (.ref (ad 87)) 6 in_X4_begin_4 (List.mem_of_getElem? (i := 2) rfl) (by decide) (ce_meth ad cs _ _) rfl (by decide) rfl rfl dX4_begin_116 ?_
                  refine g_iload C 1 dX4_begin_119 rfl ?_
                  have nx5_77 := ixn (x := x5_77) (by omega)
                  refine g_iald C (by decide) (ce_mchain ad cs _ _) (fin' (n := 20) rfl (by omega) (by omega)) dX4_begin_121 ?_
                  refine g_ni (fun v118 ev118 => ?_)
                  have gv118 : v118 = M_4 87 x5_77.toNatClampNeg := ev118.trans (congrFun q87 _)
                  have tv118 := congrArg Int32.toInt gv118
                  obtain ⟨bv118, dv118⟩ := (show rg 0 19 v118 from (by rw [ev118]; exact hI 87 x5_77.toNatClampNeg))
                  subst gv118
                  refine g_iload C 0 dX4_begin_122 rfl ?_
                  refine g_if_eq C 131 dX4_begin_124 (by decide) (fun _ => ?_) (fun c119 => absurd c119 (by decide))
                  refine g_iconst C 1 dX4_begin_131 (by decide) ?_
                  have n_M_4_87_x5_77_toNatClampNeg_ := ixn (x := (M_4 87 x5_77.toNatClampNeg)) (by omega)
                  refine g_iast C (by decide) (ce_mbegun ad cs _ _) (by rw [sI_k]; rfl) (fin' (n := 20) rfl (by omega) (by omega)) dX4_begin_132 ?_
                  refine g_nm (fun M120 hM120 => ?_)
                  have zy121 : (1 : Int32).toInt = 1 := by decide
                  have hI : IC M120 := by rw [hM120]; exact hI.st (bC_free (by decide) (by decide) (by decide) (by decide) (by decide) (by decide) (by decide))
                  have hF : ∀ k i, k ≠ 83 ∧ k ≠ 87 → M120 k i = M k i := fun k i hk => by (rw [hM120, sI_at, if_neg (by omega)]; try exact hF k i hk)
                  have q87 : M120 87 = M_4 87 := by rw [hM120, sI_n _ _ _ (by decide)]; try exact q87
                  have hV : vC M120 = sI (vC M_77) 13 (((M_4 87 x5_77.toNatClampNeg)).toNatClampNeg) 1 := by rw [hM120, vC_a (c := 13) (by decide), hV]
                  obtain ⟨v122, ev122⟩ : ∃ y : Int32, y = x5_77 + (-1) := ⟨_, rfl⟩
                  try have fv122 := fadd rfl (by decide : ((-1) : Int32).toInt = (-1)) ev122 (by omega) (by omega)
                  refine g_iinc C 1 v122 [(5, .int v122), (4, .int 0), (3, .int x3_4), (2, .int x2_4), (0, .ref (ad 81)), (1, .int x)] dX4_begin_133 rfl (by rw [ev122]; rfl) (by decide) rfl ?_
                  refine g_goto C 77 dX4_begin_136 (by decide) ?_
                  have zy123 : (0 : Int32).toInt = 0 := by decide
                  have hup : M120 83 = stB (vC M) 20 (M_4 87 x5_77.toNatClampNeg) (vC M 13) := by
                    rw [hM120, sI_k, q83, hB9, stB_step hN h20 cj1 cj2 cj3]
                    congr 1
                    first | rw [if_pos (by omega)] | rw [if_neg (by omega)]
                  have hv9 : (stB (vC M) 20 (M_4 87 x5_77.toNatClampNeg) (vC M 13) (M_4 87 x5_77.toNatClampNeg).toNatClampNeg).toInt = 1 := by rw [← hup, hM120, sI_at, if_pos ⟨rfl, rfl⟩]; decide
                  exact ih_77 (v122, 0, M120, L_77) ⟨by show -1 ≤ v122.toInt; omega, by show v122.toInt + 1 ≤ x2_4.toInt; omega, by show M120 87 = M_4 87; exact q87, by show (0 ≤ v122.toInt → M120 83 = stB (vC M) 20 (vC M 12 (M_4 87 v122.toNatClampNeg).toNatClampNeg) (vC M 13)) ∧ (v122.toInt = -1 → M120 83 = stB (vC M) 20 x (vC M 13)); exact ⟨fun h => by (have nk := ixn h; rw [hup]; rw [j4_5 _ (by omega), show v122.toNatClampNeg + 1 = x5_77.toNatClampNeg by omega]), fun h => by rw [hup, show x5_77.toNatClampNeg = 0 by omega, (j4_6.2 (by omega)).1]⟩, by show ∀ c, c ≠ 13 → vC M120 c = vC M c; intro c hc; rw [hV, sI_n _ _ _ hc]; exact j77_4 c hc, by show (0 : Int32).toInt = 0 ∨ (0 : Int32).toInt = 1; omega, by show 0 ≤ v122.toInt → ((0 : Int32).toInt = 1 ↔ ((vC M 12 (M_4 87 v122.toNatClampNeg).toNatClampNeg).toInt ≠ -9 ∧ (stB (vC M) 20 (vC M 12 (M_4 87 v122.toNatClampNeg).toNatClampNeg) (vC M 13) (vC M 12 (M_4 87 v122.toNatClampNeg).toNatClampNeg).toNatClampNeg).toInt = 2)); intro h; have nk := ixn h; rw [j4_5 _ (by omega), show v122.toNatClampNeg + 1 = x5_77.toNatClampNeg by omega]; omega, hI, hF, hG⟩ (by show (v122.toInt + 1).toNat < (x5_77.toInt + 1).toNat; omega)
                ·
                  have f124 := feq rfl (by decide : (8 : Int32).toInt = 8) c116
                  refine g_iconst C 1 dX4_begin_104 (by decide) ?_
                  refine g_goto C 109 dX4_begin_105 (by decide) ?_
                  refine g_istore C [(4, .int 1), (5, .int x5_77), (3, .int x3_4), (2, .int x2_4), (0, .ref (ad 81)), (1, .int x)] dX4_begin_109 (by decide) rfl ?_
                  refine g_aload_n C 4 dX4_begin_111 rfl ?_
                  refine g_get C (.ref (ad 83)) 2 in_X4_begin_4 (List.mem_of_getElem? (i := 1) rfl) (by decide) (ce_meth ad cs _ _) rfl (by decide) rfl rfl dX4_begin_112 ?_
                  refine g_aload_n C 4 dX4_begin_115 rfl ?_
                  refine g_get C (.ref (ad 87)) 6 in_X4_begin_4 (List.mem_of_getElem? (i := 2) rfl) (by decide) (ce_meth ad cs _ _) rfl (by decide) rfl rfl dX4_begin_116 ?_
                  refine g_iload C 1 dX4_begin_119 rfl ?_
                  have nx5_77 := ixn (x := x5_77) (by omega)
                  refine g_iald C (by decide) (ce_mchain ad cs _ _) (fin' (n := 20) rfl (by omega) (by omega)) dX4_begin_121 ?_
                  refine g_ni (fun v125 ev125 => ?_)
                  have gv125 : v125 = M_4 87 x5_77.toNatClampNeg := ev125.trans (congrFun q87 _)
                  have tv125 := congrArg Int32.toInt gv125
                  obtain ⟨bv125, dv125⟩ := (show rg 0 19 v125 from (by rw [ev125]; exact hI 87 x5_77.toNatClampNeg))
                  subst gv125
                  refine g_iload C 0 dX4_begin_122 rfl ?_
                  refine g_if_eq C 131 dX4_begin_124 (by decide) (fun c126 => absurd c126 (by decide)) (fun _ => ?_)
                  refine g_iconst C 2 dX4_begin_127 (by decide) ?_
                  refine g_goto C 132 dX4_begin_128 (by decide) ?_
                  have n_M_4_87_x5_77_toNatClampNeg_ := ixn (x := (M_4 87 x5_77.toNatClampNeg)) (by omega)
                  refine g_iast C (by decide) (ce_mbegun ad cs _ _) (by rw [sI_k]; rfl) (fin' (n := 20) rfl (by omega) (by omega)) dX4_begin_132 ?_
                  refine g_nm (fun M127 hM127 => ?_)
                  have zy128 : (2 : Int32).toInt = 2 := by decide
                  have hI : IC M127 := by rw [hM127]; exact hI.st (bC_free (by decide) (by decide) (by decide) (by decide) (by decide) (by decide) (by decide))
                  have hF : ∀ k i, k ≠ 83 ∧ k ≠ 87 → M127 k i = M k i := fun k i hk => by (rw [hM127, sI_at, if_neg (by omega)]; try exact hF k i hk)
                  have q87 : M127 87 = M_4 87 := by rw [hM127, sI_n _ _ _ (by decide)]; try exact q87
                  have hV : vC M127 = sI (vC M_77) 13 (((M_4 87 x5_77.toNatClampNeg)).toNatClampNeg) 2 := by rw [hM127, vC_a (c := 13) (by decide), hV]
                  obtain ⟨v129, ev129⟩ : ∃ y : Int32, y = x5_77 + (-1) := ⟨_, rfl⟩
                  try have fv129 := fadd rfl (by decide : ((-1) : Int32).toInt = (-1)) ev129 (by omega) (by omega)
                  refine g_iinc C 1 v129 [(5, .int v129), (4, .int 1), (3, .int x3_4), (2, .int x2_4), (0, .ref (ad 81)), (1, .int x)] dX4_begin_133 rfl (by rw [ev129]; rfl) (by decide) rfl ?_
                  refine g_goto C 77 dX4_begin_136 (by decide) ?_
                  have zy130 : (1 : Int32).toInt = 1 := by decide
                  have hup : M127 83 = stB (vC M) 20 (M_4 87 x5_77.toNatClampNeg) (vC M 13) := by
                    rw [hM127, sI_k, q83, hB9, stB_step hN h20 cj1 cj2 cj3]
                    congr 1
                    first | rw [if_pos (by omega)] | rw [if_neg (by omega)]
                  have hv9 : (stB (vC M) 20 (M_4 87 x5_77.toNatClampNeg) (vC M 13) (M_4 87 x5_77.toNatClampNeg).toNatClampNeg).toInt = 2 := by rw [← hup, hM127, sI_at, if_pos ⟨rfl, rfl⟩]; decide
                  exact ih_77 (v129, 1, M127, L_77) ⟨by show -1 ≤ v129.toInt; omega, by show v129.toInt + 1 ≤ x2_4.toInt; omega, by show M127 87 = M_4 87; exact q87, by show (0 ≤ v129.toInt → M127 83 = stB (vC M) 20 (vC M 12 (M_4 87 v129.toNatClampNeg).toNatClampNeg) (vC M 13)) ∧ (v129.toInt = -1 → M127 83 = stB (vC M) 20 x (vC M 13)); exact ⟨fun h => by (have nk := ixn h; rw [hup]; rw [j4_5 _ (by omega), show v129.toNatClampNeg + 1 = x5_77.toNatClampNeg by omega]), fun h => by rw [hup, show x5_77.toNatClampNeg = 0 by omega, (j4_6.2 (by omega)).1]⟩, by show ∀ c, c ≠ 13 → vC M127 c = vC M c; intro c hc; rw [hV, sI_n _ _ _ hc]; exact j77_4 c hc, by show (1 : Int32).toInt = 0 ∨ (1 : Int32).toInt = 1; omega, by show 0 ≤ v129.toInt → ((1 : Int32).toInt = 1 ↔ ((vC M 12 (M_4 87 v129.toNatClampNeg).toNatClampNeg).toInt ≠ -9 ∧ (stB (vC M) 20 (vC M 12 (M_4 87 v129.toNatClampNeg).toNatClampNeg) (vC M 13) (vC M 12 (M_4 87 v129.toNatClampNeg).toNatClampNeg).toNatClampNeg).toInt = 2)); intro h; have nk := ixn h; rw [j4_5 _ (by omega), show v129.toNatClampNeg + 1 = x5_77.toNatClampNeg by omega]; omega, hI, hF, hG⟩ (by show (v129.toInt + 1).toNat < (x5_77.toInt + 1).toNat; omega)
          ·
            have f131 := feq rfl (by decide : (2 : Int32).toInt = 2) c97
            refine g_iconst C 1 dX4_begin_65 (by decide) ?_
            refine g_goto C 70 dX4_begin_66 (by decide) ?_
            refine g_istore C [(4, .int 1), (3, .int x3_4), (2, .int x2_4), (0, .ref (ad 81)), (1, .int x)] dX4_begin_70 (by decide) rfl ?_
            have hst : x3_4.toInt = -9 ∨ (vC M 13 x3_4.toNatClampNeg).toInt ≠ 0 := by omega
            have hM4 : M_4 83 = vC M 13 := j4_2
            refine g_iload_n C 2 dX4_begin_72 rfl ?_
            refine g_iconst C 1 dX4_begin_73 (by decide) ?_
            refine g_isub C dX4_begin_74 ?_
            refine g_ni (fun v132 ev132 => ?_)
            try have fv132 := fsub rfl (by decide : (1 : Int32).toInt = 1) ev132 (by omega) (by omega)
            refine g_istore C [(5, .int v132), (4, .int 1), (3, .int x3_4), (2, .int x2_4), (0, .ref (ad 81)), (1, .int x)] dX4_begin_75 (by decide) rfl ?_
            have zy133 : (1 : Int32).toInt = 1 := by decide
            refine g_loop (α := Int32 × Int32 × MI × ML) (fun a => (a.1.toInt + 1).toNat) (fun a => (-1 ≤ a.1.toInt) ∧ (a.1.toInt + 1 ≤ x2_4.toInt) ∧ (a.2.2.1 87 = M_4 87) ∧ ((0 ≤ a.1.toInt → a.2.2.1 83 = stB (vC M) 20 (vC M 12 (M_4 87 a.1.toNatClampNeg).toNatClampNeg) (vC M 13)) ∧ (a.1.toInt = -1 → a.2.2.1 83 = stB (vC M) 20 x (vC M 13))) ∧ (∀ c, c ≠ 13 → vC a.2.2.1 c = vC M c) ∧ (a.2.1.toInt = 0 ∨ a.2.1.toInt = 1) ∧ (0 ≤ a.1.toInt → (a.2.1.toInt = 1 ↔ ((vC M 12 (M_4 87 a.1.toNatClampNeg).toNatClampNeg).toInt ≠ -9 ∧ (stB (vC M) 20 (vC M 12 (M_4 87 a.1.toNatClampNeg).toNatClampNeg) (vC M 13) (vC M 12 (M_4 87 a.1.toNatClampNeg).toNatClampNeg).toNatClampNeg).toInt = 2))) ∧ IC a.2.2.1 ∧ (∀ k i, k ≠ 83 ∧ k ≠ 87 → a.2.2.1 k i = M k i) ∧ (∀ k i, True → a.2.2.2 k i = L k i)) (fun a => a.2.2.1) (fun a => a.2.2.2) (fun a => [(5, .int a.1), (4, .int a.2.1), (3, .int x3_4), (2, .int x2_4), (0, .ref (ad 81)), (1, .int x)]) (v132, (1 : Int32), M_4, L_4) ⟨by show -1 ≤ v132.toInt; omega, by show v132.toInt + 1 ≤ x2_4.toInt; omega, by show M_4 87 = M_4 87; rfl, by show (0 ≤ v132.toInt → M_4 83 = stB (vC M) 20 (vC M 12 (M_4 87 v132.toNatClampNeg).toNatClampNeg) (vC M 13)) ∧ (v132.toInt = -1 → M_4 83 = stB (vC M) 20 x (vC M 13)); exact ⟨fun h => by rw [hM4, show v132.toNatClampNeg = x2_4.toNatClampNeg - 1 by (have := ixn h; omega), (j4_6.2 (by omega)).2, stB_stop hst], fun h => by rw [hM4, ← j4_6.1 (by omega), stB_stop hst]⟩, by show ∀ c, c ≠ 13 → vC M_4 c = vC M c; intro c _; rw [j4_3], by show (1 : Int32).toInt = 0 ∨ (1 : Int32).toInt = 1; omega, by show 0 ≤ v132.toInt → ((1 : Int32).toInt = 1 ↔ ((vC M 12 (M_4 87 v132.toNatClampNeg).toNatClampNeg).toInt ≠ -9 ∧ (stB (vC M) 20 (vC M 12 (M_4 87 v132.toNatClampNeg).toNatClampNeg) (vC M 13) (vC M 12 (M_4 87 v132.toNatClampNeg).toNatClampNeg).toNatClampNeg).toInt = 2)); intro h; have nk := ixn h; rw [show v132.toNatClampNeg = x2_4.toNatClampNeg - 1 by omega, (j4_6.2 (by omega)).2, stB_stop hst]; omega, hI, hF, hG⟩ rfl rfl rfl ?_
            rintro ⟨x5_77, x4_77, M_77, L_77⟩ ⟨j77_0, j77_1, j77_2, j77_3, j77_4, j77_5, j77_6, hI, hF, hG⟩ ih_77
            dsimp only at j77_0 j77_1 j77_2 j77_3 j77_4 j77_5 j77_6 hI hF hG ih_77 ⊢
            have hV : vC M_77 = vC M_77 := rfl
            have q83 : M_77 83 = M_77 83 := rfl
            have q87 : M_77 87 = M_77 87 := rfl
            have q87 : M_77 87 = M_4 87 := j77_2
            refine g_iload C 0 dX4_begin_77 rfl ?_
            refine g_if_lt C 139 dX4_begin_79 (by decide) (fun c134 => ?_) (fun c134 => ?_)
            ·
              have f135 := fl rfl (by decide : (0 : Int32).toInt = 0) c134
              refine g_aload_n C 4 dX4_begin_139 rfl ?_
              refine g_get C (.ref (ad 83)) 2 in_X4_begin_4 (List.mem_of_getElem? (i := 1) rfl) (by decide) (ce_meth ad cs _ _) rfl (by decide) rfl rfl dX4_begin_140 ?_
              refine g_iload_n C 5 dX4_begin_143 rfl ?_
              have nx := ixn (x := x) (by omega)
              refine g_iald C (by decide) (ce_mbegun ad cs _ _) (fin' (n := 20) rfl (by omega) (by omega)) dX4_begin_144 ?_
              refine g_ni (fun v136 ev136 => ?_)
              have gv136 : v136 = M_77 83 x.toNatClampNeg := ev136.trans (congrFun q83 _)
              have tv136 := congrArg Int32.toInt gv136
              have hS : M_77 83 = stB (vC M) 20 x (vC M 13) := j77_3.2 (by omega)
              exact g_iret C hr ⟨⟨by (funext c i; by_cases e9 : c = 13; (subst e9; show M_77 83 i = stB (vC M) 20 x (vC M 13) i; rw [hS]); (rw [j77_4 c e9]; unfold startV; rw [if_neg e9])), by (rw [gv136, hS]; rfl)⟩, hI, hF, hG⟩ dX4_begin_145
            ·
              have f137 := fnl rfl (by decide : (0 : Int32).toInt = 0) c134
              have n5 := ixn (x := x5_77) (by omega)
              obtain ⟨cj1, cj2, cj3⟩ := j4_4 x5_77.toNatClampNeg (by omega)
              have ncj := ixn cj1
              have hn9 := hN (M_4 87 x5_77.toNatClampNeg).toNatClampNeg (by omega)
              have hB9 := j77_3.1 (by omega)
              have hf9 := j77_6 (by omega)
              refine g_iload C 1 dX4_begin_82 rfl ?_
              refine g_if_ne C 104 dX4_begin_84 (by decide) (fun c138 => ?_) (fun c138 => ?_)
              ·
                have f139 := fne rfl (by decide : (0 : Int32).toInt = 0) c138
                refine g_iconst C 1 dX4_begin_104 (by decide) ?_
                refine g_goto C 109 dX4_begin_105 (by decide) ?_
                refine g_istore C [(4, .int 1), (5, .int x5_77), (3, .int x3_4), (2, .int x2_4), (0, .ref (ad 81)), (1, .int x)] dX4_begin_109 (by decide) rfl ?_
                refine g_aload_n C 4 dX4_begin_111 rfl ?_
                refine g_get C (.ref (ad 83)) 2 in_X4_begin_4 (List.mem_of_getElem? (i := 1) rfl) (by decide) (ce_meth ad cs _ _) rfl (by decide) rfl rfl dX4_begin_112 ?_
                refine g_aload_n C 4 dX4_begin_115 rfl ?_
                refine g_get C (.ref (ad 87)) 6 in_X4_begin_4 (List.mem_of_getElem? (i := 2) rfl) (by decide) (ce_meth ad cs _ _) rfl (by decide) rfl rfl dX4_begin_116 ?_
                refine g_iload C 1 dX4_begin_119 rfl ?_
                have nx5_77 := ixn (x := x5_77) (by omega)
                refine g_iald C (by decide) (ce_mchain ad cs _ _) (fin' (n := 20) rfl (by omega) (by omega)) dX4_begin_121 ?_
                refine g_ni (fun v140 ev140 => ?_)
                have gv140 : v140 = M_4 87 x5_77.toNatClampNeg := ev140.trans (congrFun q87 _)
                have tv140 := congrArg Int32.toInt gv140
                obtain ⟨bv140, dv140⟩ := (show rg 0 19 v140 from (by rw [ev140]; exact hI 87 x5_77.toNatClampNeg))
                subst gv140
                refine g_iload C 0 dX4_begin_122 rfl ?_
                refine g_if_eq C 131 dX4_begin_124 (by decide) (fun c141 => absurd c141 (by decide)) (fun _ => ?_)
                refine g_iconst C 2 dX4_begin_127 (by decide) ?_
                refine g_goto C 132 dX4_begin_128 (by decide) ?_
                have n_M_4_87_x5_77_toNatClampNeg_ := ixn (x := (M_4 87 x5_77.toNatClampNeg)) (by omega)
                refine g_iast C (by decide) (ce_mbegun ad cs _ _) (by rw [sI_k]; rfl) (fin' (n := 20) rfl (by omega) (by omega)) dX4_begin_132 ?_
                refine g_nm (fun M142 hM142 => ?_)
                have zy143 : (2 : Int32).toInt = 2 := by decide
                have hI : IC M142 := by rw [hM142]; exact hI.st (bC_free (by decide) (by decide) (by decide) (by decide) (by decide) (by decide) (by decide))
                have hF : ∀ k i, k ≠ 83 ∧ k ≠ 87 → M142 k i = M k i := fun k i hk => by (rw [hM142, sI_at, if_neg (by omega)]; try exact hF k i hk)
                have q87 : M142 87 = M_4 87 := by rw [hM142, sI_n _ _ _ (by decide)]; try exact q87
                have hV : vC M142 = sI (vC M_77) 13 (((M_4 87 x5_77.toNatClampNeg)).toNatClampNeg) 2 := by rw [hM142, vC_a (c := 13) (by decide), hV]
                obtain ⟨v144, ev144⟩ : ∃ y : Int32, y = x5_77 + (-1) := ⟨_, rfl⟩
                try have fv144 := fadd rfl (by decide : ((-1) : Int32).toInt = (-1)) ev144 (by omega) (by omega)
                refine g_iinc C 1 v144 [(5, .int v144), (4, .int 1), (3, .int x3_4), (2, .int x2_4), (0, .ref (ad 81)), (1, .int x)] dX4_begin_133 rfl (by rw [ev144]; rfl) (by decide) rfl ?_
                refine g_goto C 77 dX4_begin_136 (by decide) ?_
                have zy145 : (1 : Int32).toInt = 1 := by decide
                have hup : M142 83 = stB (vC M) 20 (M_4 87 x5_77.toNatClampNeg) (vC M 13) := by
                  rw [hM142, sI_k, q83, hB9, stB_step hN h20 cj1 cj2 cj3]
                  congr 1
                  first | rw [if_pos (by omega)] | rw [if_neg (by omega)]
                have hv9 : (stB (vC M) 20 (M_4 87 x5_77.toNatClampNeg) (vC M 13) (M_4 87 x5_77.toNatClampNeg).toNatClampNeg).toInt = 2 := by rw [← hup, hM142, sI_at, if_pos ⟨rfl, rfl⟩]; decide
                exact ih_77 (v144, 1, M142, L_77) ⟨by show -1 ≤ v144.toInt; omega, by show v144.toInt + 1 ≤ x2_4.toInt; omega, by show M142 87 = M_4 87; exact q87, by show (0 ≤ v144.toInt → M142 83 = stB (vC M) 20 (vC M 12 (M_4 87 v144.toNatClampNeg).toNatClampNeg) (vC M 13)) ∧ (v144.toInt = -1 → M142 83 = stB (vC M) 20 x (vC M 13)); exact ⟨fun h => by (have nk := ixn h; rw [hup]; rw [j4_5 _ (by omega), show v144.toNatClampNeg + 1 = x5_77.toNatClampNeg by omega]), fun h => by rw [hup, show x5_77.toNatClampNeg = 0 by omega, (j4_6.2 (by omega)).1]⟩, by show ∀ c, c ≠ 13 → vC M142 c = vC M c; intro c hc; rw [hV, sI_n _ _ _ hc]; exact j77_4 c hc, by show (1 : Int32).toInt = 0 ∨ (1 : Int32).toInt = 1; omega, by show 0 ≤ v144.toInt → ((1 : Int32).toInt = 1 ↔ ((vC M 12 (M_4 87 v144.toNatClampNeg).toNatClampNeg).toInt ≠ -9 ∧ (stB (vC M) 20 (vC M 12 (M_4 87 v144.toNatClampNeg).toNatClampNeg) (vC M 13) (vC M 12 (M_4 87 v144.toNatClampNeg).toNatClampNeg).toNatClampNeg).toInt = 2)); intro h; have nk := ixn h; rw [j4_5 _ (by omega), show v144.toNatClampNeg + 1 = x5_77.toNatClampNeg by omega]; omega, hI, hF, hG⟩ (by show (v144.toInt + 1).toNat < (x5_77.toInt + 1).toNat; omega)
              ·
                have f146 := feq rfl (by decide : (0 : Int32).toInt = 0) c138
                refine g_aload_n C 4 dX4_begin_87 rfl ?_
                refine g_get C (.ref (ad 82)) 1 in_X4_begin_4 (List.mem_of_getElem? (i := 4) rfl) (by decide) (ce_meth ad cs _ _) rfl (by decide) rfl rfl dX4_begin_88 ?_
                refine g_aload_n C 4 dX4_begin_91 rfl ?_
                refine g_get C (.ref (ad 87)) 6 in_X4_begin_4 (List.mem_of_getElem? (i := 2) rfl) (by decide) (ce_meth ad cs _ _) rfl (by decide) rfl rfl dX4_begin_92 ?_
                refine g_iload C 0 dX4_begin_95 rfl ?_
                have nx5_77 := ixn (x := x5_77) (by omega)
                refine g_iald C (by decide) (ce_mchain ad cs _ _) (fin' (n := 20) rfl (by omega) (by omega)) dX4_begin_97 ?_
                refine g_ni (fun v147 ev147 => ?_)
                have gv147 : v147 = M_4 87 x5_77.toNatClampNeg := ev147.trans (congrFun q87 _)
                have tv147 := congrArg Int32.toInt gv147
                obtain ⟨bv147, dv147⟩ := (show rg 0 19 v147 from (by rw [ev147]; exact hI 87 x5_77.toNatClampNeg))
                subst gv147
                have n_M_4_87_x5_77_toNatClampNeg_ := ixn (x := (M_4 87 x5_77.toNatClampNeg)) (by omega)
                refine g_iald C (by decide) (ce_mkind ad cs _ _) (fin' (n := 20) rfl (by omega) (by omega)) dX4_begin_98 ?_
                refine g_ni (fun v148 ev148 => ?_)
                have gv148 : v148 = vC M 9 (((M_4 87 x5_77.toNatClampNeg)).toNatClampNeg) := ev148.trans (hF 82 (((M_4 87 x5_77.toNatClampNeg)).toNatClampNeg) (by omega))
                have tv148 := congrArg Int32.toInt gv148
                refine g_bipush C 8 dX4_begin_99 (by decide) ?_
                refine g_icmp_ne C 108 dX4_begin_101 (by decide) (fun c149 => ?_) (fun c149 => ?_)
                ·
                  have f150 := fne rfl (by decide : (8 : Int32).toInt = 8) c149
                  refine g_iconst C 0 dX4_begin_108 (by decide) ?_
                  refine g_istore C [(4, .int 0), (5, .int x5_77), (3, .int x3_4), (2, .int x2_4), (0, .ref (ad 81)), (1, .int x)] dX4_begin_109 (by decide) rfl ?_
                  refine g_aload_n C 4 dX4_begin_111 rfl ?_
                  refine g_get C (.ref (ad 83)) 2 in_X4_begin_4 (List.mem_of_getElem? (i := 1) rfl) (by decide) (ce_meth ad cs _ _) rfl (by decide) rfl rfl dX4_begin_112 ?_
                  refine g_aload_n C 4 dX4_begin_115 rfl ?_
                  refine g_get C (.ref (ad 87)) 6 in_X4_begin_4 (List.mem_of_getElem? (i := 2) rfl) (by decide) (ce_meth ad cs _ _) rfl (by decide) rfl rfl dX4_begin_116 ?_
                  refine g_iload C 1 dX4_begin_119 rfl ?_
                  have nx5_77 := ixn (x := x5_77) (by omega)
                  refine g_iald C (by decide) (ce_mchain ad cs _ _) (fin' (n := 20) rfl (by omega) (by omega)) dX4_begin_121 ?_
                  refine g_ni (fun v151 ev151 => ?_)
                  have gv151 : v151 = M_4 87 x5_77.toNatClampNeg := ev151.trans (congrFun q87 _)
                  have tv151 := congrArg Int32.toInt gv151
                  obtain ⟨bv151, dv151⟩ := (show rg 0 19 v151 from (by rw [ev151]; exact hI 87 x5_77.toNatClampNeg))
                  subst gv151
                  refine g_iload C 0 dX4_begin_122 rfl ?_
                  refine g_if_eq C 131 dX4_begin_124 (by decide) (fun _ => ?_) (fun c152 => absurd c152 (by decide))
                  refine g_iconst C 1 dX4_begin_131 (by decide) ?_
                  have n_M_4_87_x5_77_toNatClampNeg_ := ixn (x := (M_4 87 x5_77.toNatClampNeg)) (by omega)
                  refine g_iast C (by decide) (ce_mbegun ad cs _ _) (by rw [sI_k]; rfl) (fin' (n := 20) rfl (by omega) (by omega)) dX4_begin_132 ?_
                  refine g_nm (fun M153 hM153 => ?_)
                  have zy154 : (1 : Int32).toInt = 1 := by decide
                  have hI : IC M153 := by rw [hM153]; exact hI.st (bC_free (by decide) (by decide) (by decide) (by decide) (by decide) (by decide) (by decide))
                  have hF : ∀ k i, k ≠ 83 ∧ k ≠ 87 → M153 k i = M k i := fun k i hk => by (rw [hM153, sI_at, if_neg (by omega)]; try exact hF k i hk)
                  have q87 : M153 87 = M_4 87 := by rw [hM153, sI_n _ _ _ (by decide)]; try exact q87
                  have hV : vC M153 = sI (vC M_77) 13 (((M_4 87 x5_77.toNatClampNeg)).toNatClampNeg) 1 := by rw [hM153, vC_a (c := 13) (by decide), hV]
                  obtain ⟨v155, ev155⟩ : ∃ y : Int32, y = x5_77 + (-1) := ⟨_, rfl⟩
                  try have fv155 := fadd rfl (by decide : ((-1) : Int32).toInt = (-1)) ev155 (by omega) (by omega)
                  refine g_iinc C 1 v155 [(5, .int v155), (4, .int 0), (3, .int x3_4), (2, .int x2_4), (0, .ref (ad 81)), (1, .int x)] dX4_begin_133 rfl (by rw [ev155]; rfl) (by decide) rfl ?_
                  refine g_goto C 77 dX4_begin_136 (by decide) ?_
                  have zy156 : (0 : Int32).toInt = 0 := by decide
                  have hup : M153 83 = stB (vC M) 20 (M_4 87 x5_77.toNatClampNeg) (vC M 13) := by
                    rw [hM153, sI_k, q83, hB9, stB_step hN h20 cj1 cj2 cj3]
                    congr 1
                    first | rw [if_pos (by omega)] | rw [if_neg (by omega)]
                  have hv9 : (stB (vC M) 20 (M_4 87 x5_77.toNatClampNeg) (vC M 13) (M_4 87 x5_77.toNatClampNeg).toNatClampNeg).toInt = 1 := by rw [← hup, hM153, sI_at, if_pos ⟨rfl, rfl⟩]; decide
                  exact ih_77 (v155, 0, M153, L_77) ⟨by show -1 ≤ v155.toInt; omega, by show v155.toInt + 1 ≤ x2_4.toInt; omega, by show M153 87 = M_4 87; exact q87, by show (0 ≤ v155.toInt → M153 83 = stB (vC M) 20 (vC M 12 (M_4 87 v155.toNatClampNeg).toNatClampNeg) (vC M 13)) ∧ (v155.toInt = -1 → M153 83 = stB (vC M) 20 x (vC M 13)); exact ⟨fun h => by (have nk := ixn h; rw [hup]; rw [j4_5 _ (by omega), show v155.toNatClampNeg + 1 = x5_77.toNatClampNeg by omega]), fun h => by rw [hup, show x5_77.toNatClampNeg = 0 by omega, (j4_6.2 (by omega)).1]⟩, by show ∀ c, c ≠ 13 → vC M153 c = vC M c; intro c hc; rw [hV, sI_n _ _ _ hc]; exact j77_4 c hc, by show (0 : Int32).toInt = 0 ∨ (0 : Int32).toInt = 1; omega, by show 0 ≤ v155.toInt → ((0 : Int32).toInt = 1 ↔ ((vC M 12 (M_4 87 v155.toNatClampNeg).toNatClampNeg).toInt ≠ -9 ∧ (stB (vC M) 20 (vC M 12 (M_4 87 v155.toNatClampNeg).toNatClampNeg) (vC M 13) (vC M 12 (M_4 87 v155.toNatClampNeg).toNatClampNeg).toNatClampNeg).toInt = 2)); intro h; have nk := ixn h; rw [j4_5 _ (by omega), show v155.toNatClampNeg + 1 = x5_77.toNatClampNeg by omega]; omega, hI, hF, hG⟩ (by show (v155.toInt + 1).toNat < (x5_77.toInt + 1).toNat; omega)
                ·
                  have f157 := feq rfl (by decide : (8 : Int32).toInt = 8) c149
                  refine g_iconst C 1 dX4_begin_104 (by decide) ?_
                  refine g_goto C 109 dX4_begin_105 (by decide) ?_
                  refine g_istore C [(4, .int 1), (5, .int x5_77), (3, .int x3_4), (2, .int x2_4), (0, .ref (ad 81)), (1, .int x)] dX4_begin_109 (by decide) rfl ?_
                  refine g_aload_n C 4 dX4_begin_111 rfl ?_
                  refine g_get C (.ref (ad 83)) 2 in_X4_begin_4 (List.mem_of_getElem? (i := 1) rfl) (by decide) (ce_meth ad cs _ _) rfl (by decide) rfl rfl dX4_begin_112 ?_
                  refine g_aload_n C 4 dX4_begin_115 rfl ?_
                  refine g_get C (.ref (ad 87)) 6 in_X4_begin_4 (List.mem_of_getElem? (i := 2) rfl) (by decide) (ce_meth ad cs _ _) rfl (by decide) rfl rfl dX4_begin_116 ?_
                  refine g_iload C 1 dX4_begin_119 rfl ?_
                  have nx5_77 := ixn (x := x5_77) (by omega)
                  refine g_iald C (by decide) (ce_mchain ad cs _ _) (fin' (n := 20) rfl (by omega) (by omega)) dX4_begin_121 ?_
                  refine g_ni (fun v158 ev158 => ?_)
                  have gv158 : v158 = M_4 87 x5_77.toNatClampNeg := ev158.trans (congrFun q87 _)
                  have tv158 := congrArg Int32.toInt gv158
                  obtain ⟨bv158, dv158⟩ := (show rg 0 19 v158 from (by rw [ev158]; exact hI 87 x5_77.toNatClampNeg))
                  subst gv158
                  refine g_iload C 0 dX4_begin_122 rfl ?_
                  refine g_if_eq C 131 dX4_begin_124 (by decide) (fun c159 => absurd c159 (by decide)) (fun _ => ?_)
                  refine g_iconst C 2 dX4_begin_127 (by decide) ?_
                  refine g_goto C 132 dX4_begin_128 (by decide) ?_
                  have n_M_4_87_x5_77_toNatClampNeg_ := ixn (x := (M_4 87 x5_77.toNatClampNeg)) (by omega)
                  refine g_iast C (by decide) (ce_mbegun ad cs _ _) (by rw [sI_k]; rfl) (fin' (n := 20) rfl (by omega) (by omega)) dX4_begin_132 ?_
                  refine g_nm (fun M160 hM160 => ?_)
                  have zy161 : (2 : Int32).toInt = 2 := by decide
                  have hI : IC M160 := by rw [hM160]; exact hI.st (bC_free (by decide) (by decide) (by decide) (by decide) (by decide) (by decide) (by decide))
                  have hF : ∀ k i, k ≠ 83 ∧ k ≠ 87 → M160 k i = M k i := fun k i hk => by (rw [hM160, sI_at, if_neg (by omega)]; try exact hF k i hk)
                  have q87 : M160 87 = M_4 87 := by rw [hM160, sI_n _ _ _ (by decide)]; try exact q87
                  have hV : vC M160 = sI (vC M_77) 13 (((M_4 87 x5_77.toNatClampNeg)).toNatClampNeg) 2 := by rw [hM160, vC_a (c := 13) (by decide), hV]
                  obtain ⟨v162, ev162⟩ : ∃ y : Int32, y = x5_77 + (-1) := ⟨_, rfl⟩
                  try have fv162 := fadd rfl (by decide : ((-1) : Int32).toInt = (-1)) ev162 (by omega) (by omega)
                  refine g_iinc C 1 v162 [(5, .int v162), (4, .int 1), (3, .int x3_4), (2, .int x2_4), (0, .ref (ad 81)), (1, .int x)] dX4_begin_133 rfl (by rw [ev162]; rfl) (by decide) rfl ?_
                  refine g_goto C 77 dX4_begin_136 (by decide) ?_
                  have zy163 : (1 : Int32).toInt = 1 := by decide
                  have hup : M160 83 = stB (vC M) 20 (M_4 87 x5_77.toNatClampNeg) (vC M 13) := by
                    rw [hM160, sI_k, q83, hB9, stB_step hN h20 cj1 cj2 cj3]
                    congr 1
                    first | rw [if_pos (by omega)] | rw [if_neg (by omega)]
                  have hv9 : (stB (vC M) 20 (M_4 87 x5_77.toNatClampNeg) (vC M 13) (M_4 87 x5_77.toNatClampNeg).toNatClampNeg).toInt = 2 := by rw [← hup, hM160, sI_at, if_pos ⟨rfl, rfl⟩]; decide
                  exact ih_77 (v162, 1, M160, L_77) ⟨by show -1 ≤ v162.toInt; omega, by show v162.toInt + 1 ≤ x2_4.toInt; omega, by show M160 87 = M_4 87; exact q87, by show (0 ≤ v162.toInt → M160 83 = stB (vC M) 20 (vC M 12 (M_4 87 v162.toNatClampNeg).toNatClampNeg) (vC M 13)) ∧ (v162.toInt = -1 → M160 83 = stB (vC M) 20 x (vC M 13)); exact ⟨fun h => by (have nk := ixn h; rw [hup]; rw [j4_5 _ (by omega), show v162.toNatClampNeg + 1 = x5_77.toNatClampNeg by omega]), fun h => by rw [hup, show x5_77.toNatClampNeg = 0 by omega, (j4_6.2 (by omega)).1]⟩, by show ∀ c, c ≠ 13 → vC M160 c = vC M c; intro c hc; rw [hV, sI_n _ _ _ hc]; exact j77_4 c hc, by show (1 : Int32).toInt = 0 ∨ (1 : Int32).toInt = 1; omega, by show 0 ≤ v162.toInt → ((1 : Int32).toInt = 1 ↔ ((vC M 12 (M_4 87 v162.toNatClampNeg).toNatClampNeg).toInt ≠ -9 ∧ (stB (vC M) 20 (vC M 12 (M_4 87 v162.toNatClampNeg).toNatClampNeg) (vC M 13) (vC M 12 (M_4 87 v162.toNatClampNeg).toNatClampNeg).toNatClampNeg).toInt = 2)); intro h; have nk := ixn h; rw [j4_5 _ (by omega), show v162.toNatClampNeg + 1 = x5_77.toNatClampNeg by omega]; omega, hI, hF, hG⟩ (by show (v162.toInt + 1).toNat < (x5_77.toInt + 1).toNat; omega)
      ·
        have f164 := feq rfl (by decide : (0 : Int32).toInt = 0) c88
        refine g_aload_n C 2 dX4_begin_27 rfl ?_
        refine g_get C (.ref (ad 87)) 6 in_X4_begin_4 (List.mem_of_getElem? (i := 2) rfl) (by decide) (ce_meth ad cs _ _) rfl (by decide) rfl rfl dX4_begin_28 ?_
        refine g_iload_n C 1 dX4_begin_31 rfl ?_
        refine g_iload_n C 0 dX4_begin_32 rfl ?_
        have nx2_4 := ixn (x := x2_4) (by omega)
        refine g_iast C (by decide) (ce_mchain ad cs _ _) (by rw [sI_k]; rfl) (fin' (n := 20) rfl (by omega) (by omega)) dX4_begin_33 ?_
        refine g_nm (fun M165 hM165 => ?_)
        have hI : IC M165 := by rw [hM165]; exact hI.st ⟨by first | omega | decide, by first | omega | decide⟩
        have hF : ∀ k i, k ≠ 83 ∧ k ≠ 87 → M165 k i = M k i := fun k i hk => by (rw [hM165, sI_at, if_neg (by omega)]; try exact hF k i hk)
        have q83 : M165 83 = M 83 := by rw [hM165, sI_n _ _ _ (by decide)]; try exact q83
        have hV : vC M165 = vC M_4 := by rw [hM165, vC_z (by decide), hV]
        obtain ⟨v166, ev166⟩ : ∃ y : Int32, y = x2_4 + 1 := ⟨_, rfl⟩
        try have fv166 := fadd rfl (by decide : (1 : Int32).toInt = 1) ev166 (by omega) (by omega)
        refine g_iinc C 1 v166 [(2, .int v166), (3, .int x3_4), (0, .ref (ad 81)), (1, .int x)] dX4_begin_34 rfl (by rw [ev166]; rfl) (by decide) rfl ?_
        refine g_aload_n C 2 dX4_begin_37 rfl ?_
        refine g_get C (.ref (ad 84)) 3 in_X4_begin_4 (List.mem_of_getElem? (i := 3) rfl) (by decide) (ce_meth ad cs _ _) rfl (by decide) rfl rfl dX4_begin_38 ?_
        refine g_iload_n C 1 dX4_begin_41 rfl ?_
        have nx3_4 := ixn (x := x3_4) (by omega)
        refine g_iald C (by decide) (ce_mneed ad cs _ _) (fin' (n := 20) rfl (by omega) (by omega)) dX4_begin_42 ?_
        refine g_ni (fun v167 ev167 => ?_)
        have gv167 : v167 = vC M 12 x3_4.toNatClampNeg := ev167.trans (hF 84 x3_4.toNatClampNeg (by omega))
        have tv167 := congrArg Int32.toInt gv167
        refine g_istore_n C [(3, .int v167), (2, .int v166), (0, .ref (ad 81)), (1, .int x)] dX4_begin_43 (by decide) rfl ?_
        refine g_goto C 4 dX4_begin_44 (by decide) ?_
        have nn := ixn (x := v166) (by omega)
        have inn : v166.toNatClampNeg = x2_4.toNatClampNeg + 1 := by omega
        have hrow : ∀ j : Nat, M165 87 j = if j = x2_4.toNatClampNeg then x3_4 else M_4 87 j := by
          intro j
          rw [hM165, sI_at]
          by_cases e9 : j = x2_4.toNatClampNeg
          · rw [if_pos ⟨rfl, e9⟩, if_pos e9]
          · rw [if_neg (fun h => e9 h.2), if_neg e9]
        have hrn : M165 87 x2_4.toNatClampNeg = x3_4 := by rw [hrow, if_pos rfl]
        have hro : ∀ j : Nat, j < x2_4.toNatClampNeg → M165 87 j = M_4 87 j := fun j hj => by rw [hrow, if_neg (by omega)]
        exact ih_4 (v166, v167, M165, L_4) ⟨by show 0 ≤ v166.toInt; omega, by show (v167.toInt = -9 ∧ v166.toInt ≤ x.toInt + 1) ∨ (0 ≤ v167.toInt ∧ v167.toInt + v166.toInt ≤ x.toInt); omega, by show M165 83 = M 83; exact q83, by show vC M165 = vC M; rw [hV, j4_3], by show ∀ j : Nat, j < v166.toNatClampNeg → 0 ≤ (M165 87 j).toInt ∧ (M165 87 j).toInt < (vC M 0 3).toInt ∧ (vC M 13 (M165 87 j).toNatClampNeg).toInt = 0; intro j hj; by_cases e9 : j = x2_4.toNatClampNeg; (rw [e9, hrn]; exact ⟨by omega, by omega, by omega⟩); (rw [hro j (by omega)]; exact j4_4 j (by omega)), by show ∀ j : Nat, j + 1 < v166.toNatClampNeg → vC M 12 (M165 87 j).toNatClampNeg = M165 87 (j + 1); intro j hj; by_cases e9 : j + 1 = x2_4.toNatClampNeg; (rw [hro j (by omega), e9, hrn, ← (j4_6.2 (by omega)).2]; congr 3; omega); (rw [hro j (by omega), hro (j + 1) (by omega)]; exact j4_5 j (by omega)), by show (v166.toNatClampNeg = 0 → v167 = x) ∧ (0 < v166.toNatClampNeg → M165 87 0 = x ∧ vC M 12 (M165 87 (v166.toNatClampNeg - 1)).toNatClampNeg = v167); refine ⟨fun h => absurd h (by omega), fun _ => ⟨?_, ?_⟩⟩; (by_cases e9 : x2_4.toNatClampNeg = 0; (rw [e9] at hrn; rw [hrn]; exact j4_6.1 e9); (rw [hro 0 (by omega)]; exact (j4_6.2 (by omega)).1)); (rw [show v166.toNatClampNeg - 1 = x2_4.toNatClampNeg by omega, hrn]; simp only [gv167, gv87]), hI, hF, hG⟩ (by show (20 - v166.toInt).toNat < (20 - x2_4.toInt).toNat; omega)
set_option maxHeartbeats 4000000 in
set_option maxRecDepth 100000 in
theorem v_X10_start (l : Launch) (D : va_G) (ad : Nat → Nat) (cs : Nat → ClassId) (M : MI) (L : ML) (x : Int32) (hI : IC M) (hN : NOv (vC M)) : Ci l yX10_start wsX10_start ({ frames := 2, cells := 0, slots := 0, locals := 46 }) D ad cs [.ref (ad 0), .int x] M L (fun r M1 L1 => (A_start (vC M) x = (r, vC M1)) ∧ IC M1 ∧ (∀ k i, k ≠ 83 ∧ k ≠ 87 → M1 k i = M k i) ∧ ∀ k i, True → L1 k i = L k i) := by
  refine enter_i RX10 rfl [(0, .ref (ad 0)), (1, .int x)] rfl (Nat.le_of_ble_eq_true rfl) (by decide +kernel) rfl ?_
  intro p e s m below meth c C hr
  have hF : ∀ k i, k ≠ 83 ∧ k ≠ 87 → M k i = M k i := fun _ _ _ => rfl
  have hG : ∀ k i, True → L k i = L k i := fun _ _ _ => rfl
  have w0 : (vC M 0 0).toInt = (M 1 0).toInt := rfl
  have w1 : (vC M 0 1).toInt = (M 3 0).toInt := rfl
  have w2 : (vC M 0 2).toInt = (M 68 0).toInt := rfl
  have w3 : (vC M 0 3).toInt = (M 81 0).toInt := rfl
  obtain ⟨y0a, y0b⟩ := (show rg 0 10 (M 1 0) from hI 1 0 rfl)
  obtain ⟨y1a, y1b⟩ := (show rg 0 60 (M 3 0) from hI 3 0 rfl)
  obtain ⟨y2a, y2b⟩ := (show rg 0 8 (M 68 0) from hI 68 0 rfl)
  obtain ⟨y3a, y3b⟩ := (show rg 0 20 (M 81 0) from hI 81 0 rfl)
  have q83 : M 83 = M 83 := rfl
  have q87 : M 87 = M 87 := rfl
  have hV : vC M = vC M := rfl
  refine g_aload_n C 0 dX10_start_0 rfl ?_
  refine g_get C (.ref (ad 81)) 3 in_X10_start_10 (List.mem_of_getElem? (i := 1) rfl) (by decide) (ce_house ad cs _ _) rfl (by decide) rfl rfl dX10_start_1 ?_
  refine g_iload_n C 1 dX10_start_4 rfl ?_
  refine g_callVi C (n := 1) (As := [.int x]) (st := []) (c_X4_has l D ad cs _ _ x ) gX10_start_X4_has rfl rfl rfl (by decide +kernel) ⟨Nat.le_of_ble_eq_true rfl, Nat.le_of_ble_eq_true rfl⟩ rfl (Nat.le_of_ble_eq_true rfl) ⟨Nat.zero_le _, Nat.zero_le _⟩ (by decide) (ce_meth ad cs _ _) rfl rfl dX10_start_5 (fun r1 M2 L3 hr1 => ?_)
  obtain ⟨hq1, hq2, hr1⟩ := hr1
  obtain rfl := hq1.symm
  obtain rfl := hq2.symm
  have hr1 := zo_has hr1
  obtain ⟨bar1, bbr1⟩ := zo_b hr1
  refine g_if_eq C 22 dX10_start_8 (by decide) (fun c4 => ?_) (fun c4 => ?_)
  ·
    have f5 := feq rfl (by decide : (0 : Int32).toInt = 0) c4
    have pr1 := zo_f hr1 c4
    try dsimp only [hasC, hasB, hasX, hasM, ofS, ofK, bt] at pr1
    refine g_iconst C (-1) dX10_start_22 (by decide) ?_
    have zr9 : ((-1) : Int32).toInt = (-1) := by decide
    exact g_iret C hr ⟨(by dsimp only [A_start, hasC, hasB, hasX, hasM, ofS, ofK, bt, ix]; (repeat (first | rw [if_pos (by omega)] | rw [if_neg (by omega)])); first | done | rfl | (simp only [ix]; done) | (simp only [ix]; rfl) | (subst_vars; first | rfl | grind)), hI, hF, hG⟩ dX10_start_23
  ·
    have f6 := fne rfl (by decide : (0 : Int32).toInt = 0) c4
    have pr1 := zo_t hr1 c4
    try dsimp only [hasC, hasB, hasX, hasM, ofS, ofK, bt] at pr1
    refine g_aload_n C 0 dX10_start_11 rfl ?_
    refine g_get C (.ref (ad 81)) 3 in_X10_start_10 (List.mem_of_getElem? (i := 1) rfl) (by decide) (ce_house ad cs _ _) rfl (by decide) rfl rfl dX10_start_12 ?_
    refine g_iload_n C 1 dX10_start_15 rfl ?_
    refine g_callVi C (n := 1) (As := [.int x]) (st := []) (v_X4_begin l D ad cs _ _ x hI ⟨by omega, by omega⟩ hN) gX10_start_X4_begin rfl rfl rfl (by decide +kernel) ⟨Nat.le_of_ble_eq_true rfl, Nat.le_of_ble_eq_true rfl⟩ rfl (Nat.le_of_ble_eq_true rfl) ⟨Nat.zero_le _, Nat.zero_le _⟩ (by decide) (ce_meth ad cs _ _) rfl rfl dX10_start_16 (fun r7 M8 L9 hr7 => ?_)
    obtain ⟨hr7, hI, hFr7, hGr7⟩ := hr7
    have hF : ∀ k i, k ≠ 83 ∧ k ≠ 87 → M8 k i = M k i := fun k i hk => by (rw [hFr7 k i (by omega)]; try exact hF k i hk)
    have hG : ∀ k i, True → L9 k i = L k i := fun k i hk => by (rw [hGr7 k i trivial]; try exact hG k i hk)
    have hV : vC M8 = startV (vC M) x := by rw [hr7.1, hV]
    have q83 : M8 83 = M8 83 := rfl
    have q87 : M8 87 = M8 87 := rfl
    obtain ⟨hr7v, hr7⟩ := hr7
    have tr7 := congrArg Int32.toInt hr7
    refine g_goto C 23 dX10_start_19 (by decide) ?_
    exact g_iret C hr ⟨(by dsimp only [A_start, hasM]; rw [if_pos (by omega), hV, hr7]), hI, hF, hG⟩ dX10_start_23
