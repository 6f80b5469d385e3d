set_option maxHeartbeats 4000000 in
set_option maxRecDepth 100000 in
theorem v_X4_firstNotFailed (l : Launch) (D : va_G) (ad : Nat → Nat) (cs : Nat → ClassId) (M : MI) (L : ML) (x : Int32) (hI : IC M) : Ci l yX4_firstNotFailed wsX4_firstNotFailed ({ frames := 0, cells := 0, slots := 0, locals := 0 }) D ad cs [.ref (ad 81), .int x] M L (fun r M1 L1 => M1 = M ∧ L1 = L ∧ (r = bestF (vC M) (vC M 13) x ((vC M 0 3).toNatClampNeg) ∧ (r.toInt = -9 ∨ (0 ≤ r.toInt ∧ r.toInt < (vC M 0 3).toInt)))) := by
  refine enter_i RX4 rfl [(0, .ref (ad 81)), (1, .int x)] rfl (Nat.le_of_ble_eq_true rfl) (by decide +kernel) rfl ?_
  intro p e s m below meth c C hr
  have hF : ∀ k i, True → M k i = M k i := fun _ _ _ => rfl
  have hG : ∀ k i, True → L k i = L k i := fun _ _ _ => rfl
  have w0 : (vC M 0 0).toInt = (M 1 0).toInt := rfl
  have w1 : (vC M 0 1).toInt = (M 3 0).toInt := rfl
  have w2 : (vC M 0 2).toInt = (M 68 0).toInt := rfl
  have w3 : (vC M 0 3).toInt = (M 81 0).toInt := rfl
  obtain ⟨y0a, y0b⟩ := (show rg 0 10 (M 1 0) from hI 1 0 rfl)
  obtain ⟨y1a, y1b⟩ := (show rg 0 60 (M 3 0) from hI 3 0 rfl)
  obtain ⟨y2a, y2b⟩ := (show rg 0 8 (M 68 0) from hI 68 0 rfl)
  obtain ⟨y3a, y3b⟩ := (show rg 0 20 (M 81 0) from hI 81 0 rfl)
  have n03 := ixn (x := vC M 0 3) (by omega)
  refine g_bipush C (-9) dX4_firstNotFailed_0 (by decide) ?_
  refine g_istore_n C [(2, .int ((-9))), (0, .ref (ad 81)), (1, .int x)] dX4_firstNotFailed_2 (by decide) rfl ?_
  refine g_iconst C 0 dX4_firstNotFailed_3 (by decide) ?_
  refine g_istore_n C [(3, .int 0), (2, .int ((-9))), (0, .ref (ad 81)), (1, .int x)] dX4_firstNotFailed_4 (by decide) rfl ?_
  have zy1 : (0 : Int32).toInt = 0 := by decide
  have zy2 : ((-9) : Int32).toInt = (-9) := by decide
  refine g_loop (α := Int32 × Int32 × MI × ML) (fun a => (21 - a.1.toInt).toNat) (fun a => (0 ≤ a.1.toInt) ∧ (a.1.toInt ≤ (vC M 0 3).toInt) ∧ (a.2.1 = bestF (vC M) (vC M 13) x (a.1.toNatClampNeg)) ∧ (a.2.1.toInt = -9 ∨ (0 ≤ a.2.1.toInt ∧ a.2.1.toInt < a.1.toInt)) ∧ IC a.2.2.1 ∧ (∀ k i, True → a.2.2.1 k i = M k i) ∧ (∀ k i, True → a.2.2.2 k i = L k i)) (fun a => a.2.2.1) (fun a => a.2.2.2) (fun a => [(3, .int a.1), (2, .int a.2.1), (0, .ref (ad 81)), (1, .int x)]) ((0 : Int32), (-9 : Int32), M, L) ⟨by show 0 ≤ (0 : Int32).toInt; omega, by show (0 : Int32).toInt ≤ (vC M 0 3).toInt; omega, by show (-9 : Int32) = bestF (vC M) (vC M 13) x ((0 : Int32).toNatClampNeg); rfl, by show (-9 : Int32).toInt = -9 ∨ (0 ≤ (-9 : Int32).toInt ∧ (-9 : Int32).toInt < (0 : Int32).toInt); omega, hI, hF, hG⟩ rfl rfl rfl ?_
  rintro ⟨x3_5, x2_5, M_5, L_5⟩ ⟨j5_0, j5_1, j5_2, j5_3, hI, hF, hG⟩ ih_5
  dsimp only at j5_0 j5_1 j5_2 j5_3 hI hF hG ih_5 ⊢
  have n3 := ixn (x := x3_5) (by omega)
  refine g_iload_n C 0 dX4_firstNotFailed_5 rfl ?_
  refine g_aload_n C 2 dX4_firstNotFailed_6 rfl ?_
  refine g_get C (.int (M_5 81 0)) 0 in_X4_firstNotFailed_4 (List.mem_of_getElem? (i := 1) rfl) (by decide) (ce_meth ad cs _ _) rfl (by decide) rfl rfl dX4_firstNotFailed_7 ?_
  refine g_ni (fun v3 ev3 => ?_)
  have gv3 : v3 = vC M 0 3 := ev3.trans (hF 81 0 trivial)
  have tv3 := congrArg Int32.toInt gv3
  obtain ⟨bv3, dv3⟩ := (show rg 0 20 v3 from (by rw [ev3]; exact hI 81 0 rfl))
  refine g_icmp_ge C 78 dX4_firstNotFailed_10 (by decide) (fun c4 => ?_) (fun c4 => ?_)
  ·
    have f5 := fle rfl rfl c4
    refine g_iload_n C 1 dX4_firstNotFailed_78 rfl ?_
    exact g_iret C hr ⟨funext (fun k => funext (fun i => hF k i trivial)), funext (fun k => funext (fun i => hG k i trivial)), ⟨by rw [j5_2, show x3_5.toNatClampNeg = (vC M 0 3).toNatClampNeg by omega], by omega⟩⟩ dX4_firstNotFailed_79
  ·
    have f6 := fnle rfl rfl c4
    refine g_aload_n C 2 dX4_firstNotFailed_13 rfl ?_
    refine g_get C (.ref (ad 86)) 5 in_X4_firstNotFailed_4 (List.mem_of_getElem? (i := 2) rfl) (by decide) (ce_meth ad cs _ _) rfl (by decide) rfl rfl dX4_firstNotFailed_14 ?_
    refine g_iload_n C 0 dX4_firstNotFailed_17 rfl ?_
    have nx3_5 := ixn (x := x3_5) (by omega)
    refine g_iald C (by decide) (ce_mmarks ad cs _ _) (fin' (n := 20) rfl (by omega) (by omega)) dX4_firstNotFailed_18 ?_
    refine g_ni (fun v7 ev7 => ?_)
    have gv7 : v7 = vC M 11 x3_5.toNatClampNeg := ev7.trans (hF 86 x3_5.toNatClampNeg trivial)
    have tv7 := congrArg Int32.toInt gv7
    refine g_iload_n C 3 dX4_firstNotFailed_19 rfl ?_
    refine g_ishr C dX4_firstNotFailed_20 ?_
    refine g_ni (fun v8 ev8 => ?_)
    refine g_iconst C 1 dX4_firstNotFailed_21 (by decide) ?_
    refine g_iand C dX4_firstNotFailed_22 ?_
    refine g_ni (fun v9 ev9 => ?_)
    refine g_iconst C 1 dX4_firstNotFailed_23 (by decide) ?_
    have tb9 : v9.toInt = ((vC M 11 x3_5.toNatClampNeg >>> (x &&& 31)) &&& 1).toInt := by simp only [ev9, ev8, gv7, gv3]
    refine g_icmp_ne C 41 dX4_firstNotFailed_24 (by decide) (fun c10 => ?_) (fun c10 => ?_)
    ·
      have f11 := fne rfl (by decide : (1 : Int32).toInt = 1) c10
      refine g_iconst C 0 dX4_firstNotFailed_41 (by decide) ?_
      refine g_istore C [(4, .int 0), (3, .int x3_5), (2, .int x2_5), (0, .ref (ad 81)), (1, .int x)] dX4_firstNotFailed_42 (by decide) rfl ?_
      refine g_iload C 0 dX4_firstNotFailed_44 rfl ?_
      refine g_if_eq C 72 dX4_firstNotFailed_46 (by decide) (fun _ => ?_) (fun c12 => absurd c12 (by decide))
      obtain ⟨v13, ev13⟩ : ∃ y : Int32, y = x3_5 + 1 := ⟨_, rfl⟩
      try have fv13 := fadd rfl (by decide : (1 : Int32).toInt = 1) ev13 (by omega) (by omega)
      refine g_iinc C 1 v13 [(3, .int v13), (4, .int 0), (2, .int x2_5), (0, .ref (ad 81)), (1, .int x)] dX4_firstNotFailed_72 rfl (by rw [ev13]; rfl) (by decide) rfl ?_
      refine g_goto C 5 dX4_firstNotFailed_75 (by decide) ?_
      refine g_lv [0, 2, 3, 4] [(3, .int v13), (2, .int x2_5), (0, .ref (ad 81)), (1, .int x)] rfl ?_
      have nv := ixn (x := v13) (by omega)
      have iv : v13.toNatClampNeg = x3_5.toNatClampNeg + 1 := by omega
      exact ih_5 (v13, x2_5, M_5, L_5) ⟨by show 0 ≤ v13.toInt; omega, by show v13.toInt ≤ (vC M 0 3).toInt; omega, by show x2_5 = bestF (vC M) (vC M 13) x (v13.toNatClampNeg); rw [iv]; show _ = (if ((vC M 11 x3_5.toNatClampNeg >>> (x &&& 31)) &&& 1).toInt = 1 ∧ (vC M 13 x3_5.toNatClampNeg).toInt ≠ 2 ∧ ((bestF (vC M) (vC M 13) x x3_5.toNatClampNeg).toInt = -9 ∨ (vC M 10 (bestF (vC M) (vC M 13) x x3_5.toNatClampNeg).toNatClampNeg).toInt < (vC M 10 x3_5.toNatClampNeg).toInt) then Int32.ofNat x3_5.toNatClampNeg else bestF (vC M) (vC M 13) x x3_5.toNatClampNeg); rw [← j5_2]; first | rw [if_pos (by omega), of_ix (by omega)] | rw [if_neg (by omega)], by show x2_5.toInt = -9 ∨ (0 ≤ x2_5.toInt ∧ x2_5.toInt < v13.toInt); omega, hI, hF, hG⟩ (by show (21 - v13.toInt).toNat < (21 - x3_5.toInt).toNat; omega)
    ·
      have f14 := feq rfl (by decide : (1 : Int32).toInt = 1) c10
      refine g_aload_n C 2 dX4_firstNotFailed_27 rfl ?_
      refine g_get C (.ref (ad 83)) 2 in_X4_firstNotFailed_4 (List.mem_of_getElem? (i := 3) rfl) (by decide) (ce_meth ad cs _ _) rfl (by decide) rfl rfl dX4_firstNotFailed_28 ?_
      refine g_iload_n C 0 dX4_firstNotFailed_31 rfl ?_
      have nx3_5 := ixn (x := x3_5) (by omega)
      refine g_iald C (by decide) (ce_mbegun ad cs _ _) (fin' (n := 20) rfl (by omega) (by omega)) dX4_firstNotFailed_32 ?_
      refine g_ni (fun v15 ev15 => ?_)
      have gv15 : v15 = vC M 13 x3_5.toNatClampNeg := ev15.trans (hF 83 x3_5.toNatClampNeg trivial)
      have tv15 := congrArg Int32.toInt gv15
      refine g_iconst C 2 dX4_firstNotFailed_33 (by decide) ?_
      refine g_icmp_eq C 41 dX4_firstNotFailed_34 (by decide) (fun c16 => ?_) (fun c16 => ?_)
      ·
        have f17 := feq rfl (by decide : (2 : Int32).toInt = 2) c16
        refine g_iconst C 0 dX4_firstNotFailed_41 (by decide) ?_
        refine g_istore C [(4, .int 0), (3, .int x3_5), (2, .int x2_5), (0, .ref (ad 81)), (1, .int x)] dX4_firstNotFailed_42 (by decide) rfl ?_
        refine g_iload C 0 dX4_firstNotFailed_44 rfl ?_
        refine g_if_eq C 72 dX4_firstNotFailed_46 (by decide) (fun _ => ?_) (fun c18 => absurd c18 (by decide))
        obtain ⟨v19, ev19⟩ : ∃ y : Int32, y = x3_5 + 1 := ⟨_, rfl⟩
        try have fv19 := fadd rfl (by decide : (1 : Int32).toInt = 1) ev19 (by omega) (by omega)
        refine g_iinc C 1 v19 [(3, .int v19), (4, .int 0), (2, .int x2_5), (0, .ref (ad 81)), (1, .int x)] dX4_firstNotFailed_72 rfl (by rw [ev19]; rfl) (by decide) rfl ?_
        refine g_goto C 5 dX4_firstNotFailed_75 (by decide) ?_
        refine g_lv [0, 2, 3, 4] [(3, .int v19), (2, .int x2_5), (0, .ref (ad 81)), (1, .int x)] rfl ?_
        have nv := ixn (x := v19) (by omega)
        have iv : v19.toNatClampNeg = x3_5.toNatClampNeg + 1 := by omega
        exact ih_5 (v19, x2_5, M_5, L_5) ⟨by show 0 ≤ v19.toInt; omega, by show v19.toInt ≤ (vC M 0 3).toInt; omega, by show x2_5 = bestF (vC M) (vC M 13) x (v19.toNatClampNeg); rw [iv]; show _ = (if ((vC M 11 x3_5.toNatClampNeg >>> (x &&& 31)) &&& 1).toInt = 1 ∧ (vC M 13 x3_5.toNatClampNeg).toInt ≠ 2 ∧ ((bestF (vC M) (vC M 13) x x3_5.toNatClampNeg).toInt = -9 ∨ (vC M 10 (bestF (vC M) (vC M 13) x x3_5.toNatClampNeg).toNatClampNeg).toInt < (vC M 10 x3_5.toNatClampNeg).toInt) then Int32.ofNat x3_5.toNatClampNeg else bestF (vC M) (vC M 13) x x3_5.toNatClampNeg); rw [← j5_2]; first | rw [if_pos (by omega), of_ix (by omega)] | rw [if_neg (by omega)], by show x2_5.toInt = -9 ∨ (0 ≤ x2_5.toInt ∧ x2_5.toInt < v19.toInt); omega, hI, hF, hG⟩ (by show (21 - v19.toInt).toNat < (21 - x3_5.toInt).toNat; omega)
      ·
        have f20 := fne rfl (by decide : (2 : Int32).toInt = 2) c16
        refine g_iconst C 1 dX4_firstNotFailed_37 (by decide) ?_
        refine g_goto C 42 dX4_firstNotFailed_38 (by decide) ?_
        refine g_istore C [(4, .int 1), (3, .int x3_5), (2, .int x2_5), (0, .ref (ad 81)), (1, .int x)] dX4_firstNotFailed_42 (by decide) rfl ?_
        refine g_iload C 0 dX4_firstNotFailed_44 rfl ?_
        refine g_if_eq C 72 dX4_firstNotFailed_46 (by decide) (fun c21 => absurd c21 (by decide)) (fun _ => ?_)
        refine g_iload_n C 2 dX4_firstNotFailed_49 rfl ?_
        refine g_bipush C (-9) dX4_firstNotFailed_50 (by decide) ?_
        refine g_icmp_eq C 70 dX4_firstNotFailed_52 (by decide) (fun c22 => ?_) (fun c22 => ?_)
        ·
          have f23 := feq rfl (by decide : ((-9) : Int32).toInt = (-9)) c22
          refine g_iload_n C 1 dX4_firstNotFailed_70 rfl ?_
          refine g_istore_n C [(2, .int x3_5), (4, .int 1), (3, .int x3_5), (0, .ref (ad 81)), (1, .int x)] dX4_firstNotFailed_71 (by decide) rfl ?_
          obtain ⟨v24, ev24⟩ : ∃ y : Int32, y = x3_5 + 1 := ⟨_, rfl⟩
          try have fv24 := fadd rfl (by decide : (1 : Int32).toInt = 1) ev24 (by omega) (by omega)
          refine g_iinc C 2 v24 [(3, .int v24), (2, .int x3_5), (4, .int 1), (0, .ref (ad 81)), (1, .int x)] dX4_firstNotFailed_72 rfl (by rw [ev24]; rfl) (by decide) rfl ?_
          refine g_goto C 5 dX4_firstNotFailed_75 (by decide) ?_
          refine g_lv [0, 1, 3, 4] [(3, .int v24), (2, .int x3_5), (0, .ref (ad 81)), (1, .int x)] rfl ?_
          have nv := ixn (x := v24) (by omega)
          have iv : v24.toNatClampNeg = x3_5.toNatClampNeg + 1 := by omega
          exact ih_5 (v24, x3_5, M_5, L_5) ⟨by show 0 ≤ v24.toInt; omega, by show v24.toInt ≤ (vC M 0 3).toInt; omega, by show x3_5 = bestF (vC M) (vC M 13) x (v24.toNatClampNeg); rw [iv]; show _ = (if ((vC M 11 x3_5.toNatClampNeg >>> (x &&& 31)) &&& 1).toInt = 1 ∧ (vC M 13 x3_5.toNatClampNeg).toInt ≠ 2 ∧ ((bestF (vC M) (vC M 13) x x3_5.toNatClampNeg).toInt = -9 ∨ (vC M 10 (bestF (vC M) (vC M 13) x x3_5.toNatClampNeg).toNatClampNeg).toInt < (vC M 10 x3_5.toNatClampNeg).toInt) then Int32.ofNat x3_5.toNatClampNeg else bestF (vC M) (vC M 13) x x3_5.toNatClampNeg); rw [← j5_2]; first | rw [if_pos (by omega), of_ix (by omega)] | rw [if_neg (by omega)], by show x3_5.toInt = -9 ∨ (0 ≤ x3_5.toInt ∧ x3_5.toInt < v24.toInt); omega, hI, hF, hG⟩ (by show (21 - v24.toInt).toNat < (21 - x3_5.toInt).toNat; omega)
        ·
          have f25 := fne rfl (by decide : ((-9) : Int32).toInt = (-9)) c22
          refine g_aload_n C 3 dX4_firstNotFailed_55 rfl ?_
          refine g_get C (.ref (ad 85)) 4 in_X4_firstNotFailed_4 (List.mem_of_getElem? (i := 4) rfl) (by decide) (ce_meth ad cs _ _) rfl (by decide) rfl rfl dX4_firstNotFailed_56 ?_
          refine g_iload_n C 1 dX4_firstNotFailed_59 rfl ?_
          have nx3_5 := ixn (x := x3_5) (by omega)
          refine g_iald C (by decide) (ce_mrank ad cs _ _) (fin' (n := 20) rfl (by omega) (by omega)) dX4_firstNotFailed_60 ?_
          refine g_ni (fun v26 ev26 => ?_)
          have gv26 : v26 = vC M 10 x3_5.toNatClampNeg := ev26.trans (hF 85 x3_5.toNatClampNeg trivial)
          have tv26 := congrArg Int32.toInt gv26
          refine g_aload_n C 3 dX4_firstNotFailed_61 rfl ?_
          refine g_get C (.ref (ad 85)) 4 in_X4_firstNotFailed_4 (List.mem_of_getElem? (i := 4) rfl) (by decide) (ce_meth ad cs _ _) rfl (by decide) rfl rfl dX4_firstNotFailed_62 ?_
          refine g_iload_n C 2 dX4_firstNotFailed_65 rfl ?_
          have nx2_5 := ixn (x := x2_5) (by omega)
          refine g_iald C (by decide) (ce_mrank ad cs _ _) (fin' (n := 20) rfl (by omega) (by omega)) dX4_firstNotFailed_66 ?_
          refine g_ni (fun v27 ev27 => ?_)
          have gv27 : v27 = vC M 10 x2_5.toNatClampNeg := ev27.trans (hF 85 x2_5.toNatClampNeg trivial)
          have tv27 := congrArg Int32.toInt gv27
          refine g_icmp_le C 72 dX4_firstNotFailed_67 (by decide) (fun c28 => ?_) (fun c28 => ?_)
          ·
            have f29 := fle rfl rfl c28
            obtain ⟨v30, ev30⟩ : ∃ y : Int32, y = x3_5 + 1 := ⟨_, rfl⟩
            try have fv30 := fadd rfl (by decide : (1 : Int32).toInt = 1) ev30 (by omega) (by omega)
            refine g_iinc C 1 v30 [(3, .int v30), (4, .int 1), (2, .int x2_5), (0, .ref (ad 81)), (1, .int x)] dX4_firstNotFailed_72 rfl (by rw [ev30]; rfl) (by decide) rfl ?_
            refine g_goto C 5 dX4_firstNotFailed_75 (by decide) ?_
            refine g_lv [0, 2, 3, 4] [(3, .int v30), (2, .int x2_5), (0, .ref (ad 81)), (1, .int x)] rfl ?_
            have nv := ixn (x := v30) (by omega)
            have iv : v30.toNatClampNeg = x3_5.toNatClampNeg + 1 := by omega
            exact ih_5 (v30, x2_5, M_5, L_5) ⟨by show 0 ≤ v30.toInt; omega, by show v30.toInt ≤ (vC M 0 3).toInt; omega, by show x2_5 = bestF (vC M) (vC M 13) x (v30.toNatClampNeg); rw [iv]; show _ = (if ((vC M 11 x3_5.toNatClampNeg >>> (x &&& 31)) &&& 1).toInt = 1 ∧ (vC M 13 x3_5.toNatClampNeg).toInt ≠ 2 ∧ ((bestF (vC M) (vC M 13) x x3_5.toNatClampNeg).toInt = -9 ∨ (vC M 10 (bestF (vC M) (vC M 13) x x3_5.toNatClampNeg).toNatClampNeg).toInt < (vC M 10 x3_5.toNatClampNeg).toInt) then Int32.ofNat x3_5.toNatClampNeg else bestF (vC M) (vC M 13) x x3_5.toNatClampNeg); rw [← j5_2]; first | rw [if_pos (by omega), of_ix (by omega)] | rw [if_neg (by omega)], by show x2_5.toInt = -9 ∨ (0 ≤ x2_5.toInt ∧ x2_5.toInt < v30.toInt); omega, hI, hF, hG⟩ (by show (21 - v30.toInt).toNat < (21 - x3_5.toInt).toNat; omega)
          ·
            have f31 := fnle rfl rfl c28
            refine g_iload_n C 1 dX4_firstNotFailed_70 rfl ?_
            refine g_istore_n C [(2, .int x3_5), (4, .int 1), (3, .int x3_5), (0, .ref (ad 81)), (1, .int x)] dX4_firstNotFailed_71 (by decide) rfl ?_
            obtain ⟨v32, ev32⟩ : ∃ y : Int32, y = x3_5 + 1 := ⟨_, rfl⟩
            try have fv32 := fadd rfl (by decide : (1 : Int32).toInt = 1) ev32 (by omega) (by omega)
            refine g_iinc C 2 v32 [(3, .int v32), (2, .int x3_5), (4, .int 1), (0, .ref (ad 81)), (1, .int x)] dX4_firstNotFailed_72 rfl (by rw [ev32]; rfl) (by decide) rfl ?_
            refine g_goto C 5 dX4_firstNotFailed_75 (by decide) ?_
            refine g_lv [0, 1, 3, 4] [(3, .int v32), (2, .int x3_5), (0, .ref (ad 81)), (1, .int x)] rfl ?_
            have nv := ixn (x := v32) (by omega)
            have iv : v32.toNatClampNeg = x3_5.toNatClampNeg + 1 := by omega
            exact ih_5 (v32, x3_5, M_5, L_5) ⟨by show 0 ≤ v32.toInt; omega, by show v32.toInt ≤ (vC M 0 3).toInt; omega, by show x3_5 = bestF (vC M) (vC M 13) x (v32.toNatClampNeg); rw [iv]; show _ = (if ((vC M 11 x3_5.toNatClampNeg >>> (x &&& 31)) &&& 1).toInt = 1 ∧ (vC M 13 x3_5.toNatClampNeg).toInt ≠ 2 ∧ ((bestF (vC M) (vC M 13) x x3_5.toNatClampNeg).toInt = -9 ∨ (vC M 10 (bestF (vC M) (vC M 13) x x3_5.toNatClampNeg).toNatClampNeg).toInt < (vC M 10 x3_5.toNatClampNeg).toInt) then Int32.ofNat x3_5.toNatClampNeg else bestF (vC M) (vC M 13) x x3_5.toNatClampNeg); rw [← j5_2]; first | rw [if_pos (by omega), of_ix (by omega)] | rw [if_neg (by omega)], by show x3_5.toInt = -9 ∨ (0 ≤ x3_5.toInt ∧ x3_5.toInt < v32.toInt); omega, hI, hF, hG⟩ (by show (21 - v32.toInt).toNat < (21 - x3_5.toInt).toNat; omega)
set_option maxHeartbeats 4000000 in
set_option maxRecDepth 100000 in
theorem v_X4_firstToStart (l : Launch) (D : va_G) (ad : Nat → Nat) (cs : Nat → ClassId) (M : MI) (L : ML) (x : Int32) (hI : IC M) (hN : NOv (vC M)) : Ci l yX4_firstToStart wsX4_firstToStart ({ frames := 2, cells := 0, slots := 0, locals := 46 }) D ad cs [.ref (ad 81), .int x] M L (fun r M1 L1 => (r = (findF (vC M) x ((vC M 0 3).toNatClampNeg) (vC M 13)).1 ∧ vC M1 = (fun k => if k = 13 then (findF (vC M) x ((vC M 0 3).toNatClampNeg) (vC M 13)).2 else vC M k)) ∧ IC M1 ∧ (∀ k i, k ≠ 83 ∧ k ≠ 87 → M1 k i = M k i) ∧ ∀ k i, True → L1 k i = L k i) := by
  refine enter_i RX4 rfl [(0, .ref (ad 81)), (1, .int x)] rfl (Nat.le_of_ble_eq_true rfl) (by decide +kernel) rfl ?_
  intro p e s m below meth c C hr
  have hF : ∀ k i, k ≠ 83 ∧ k ≠ 87 → M k i = M k i := fun _ _ _ => rfl
  have hG : ∀ k i, True → L k i = L k i := fun _ _ _ => rfl
  have w0 : (vC M 0 0).toInt = (M 1 0).toInt := rfl
  have w1 : (vC M 0 1).toInt = (M 3 0).toInt := rfl
  have w2 : (vC M 0 2).toInt = (M 68 0).toInt := rfl
  have w3 : (vC M 0 3).toInt = (M 81 0).toInt := rfl
  obtain ⟨y0a, y0b⟩ := (show rg 0 10 (M 1 0) from hI 1 0 rfl)
  obtain ⟨y1a, y1b⟩ := (show rg 0 60 (M 3 0) from hI 3 0 rfl)
  obtain ⟨y2a, y2b⟩ := (show rg 0 8 (M 68 0) from hI 68 0 rfl)
  obtain ⟨y3a, y3b⟩ := (show rg 0 20 (M 81 0) from hI 81 0 rfl)
  have n03 := ixn (x := vC M 0 3) (by omega)
  have q83 : M 83 = M 83 := rfl
  have q87 : M 87 = M 87 := rfl
  have hV : vC M = vC M := rfl
  refine g_iconst C 0 dX4_firstToStart_0 (by decide) ?_
  refine g_istore_n C [(2, .int 0), (0, .ref (ad 81)), (1, .int x)] dX4_firstToStart_1 (by decide) rfl ?_
  have zy1 : (0 : Int32).toInt = 0 := by decide
  refine g_loop (α := Int32 × MI × ML) (fun a => (21 - a.1.toInt).toNat) (fun a => (0 ≤ a.1.toInt) ∧ (a.1.toInt ≤ (vC M 0 3).toInt) ∧ (∀ c, c ≠ 13 → vC a.2.1 c = vC M c) ∧ (findF (vC M) x ((vC M 0 3).toNatClampNeg - a.1.toNatClampNeg) (vC a.2.1 13) = findF (vC M) x (vC M 0 3).toNatClampNeg (vC M 13)) ∧ IC a.2.1 ∧ (∀ k i, k ≠ 83 ∧ k ≠ 87 → a.2.1 k i = M k i) ∧ (∀ k i, True → a.2.2 k i = L k i)) (fun a => a.2.1) (fun a => a.2.2) (fun a => [(2, .int a.1), (0, .ref (ad 81)), (1, .int x)]) ((0 : Int32), M, L) ⟨by show 0 ≤ (0 : Int32).toInt; omega, by show (0 : Int32).toInt ≤ (vC M 0 3).toInt; omega, by show ∀ c, c ≠ 13 → vC M c = vC M c; intro c _; rfl, by show findF (vC M) x ((vC M 0 3).toNatClampNeg - (0 : Int32).toNatClampNeg) (vC M 13) = findF (vC M) x (vC M 0 3).toNatClampNeg (vC M 13); rfl, hI, hF, hG⟩ rfl rfl rfl ?_
  rintro ⟨x2_2, M_2, L_2⟩ ⟨j2_0, j2_1, j2_2, j2_3, hI, hF, hG⟩ ih_2
  dsimp only at j2_0 j2_1 j2_2 j2_3 hI hF hG ih_2 ⊢
  have hV : vC M_2 = vC M_2 := rfl
  have q83 : M_2 83 = M_2 83 := rfl
  have q87 : M_2 87 = M_2 87 := rfl
  have n2 := ixn (x := x2_2) (by omega)
  have hv0 : ∀ c, c ≠ 13 → vC M_2 c = vC M c := j2_2
  have hN5 : NOv (vC M_2) := by (unfold NOv; rw [hv0 0 (by decide), hv0 12 (by decide)]; exact hN)
  have w03 : (M_2 81 0).toInt = (vC M 0 3).toInt := by rw [hF 81 0 (by omega)]; rfl
  have hst9 : ∀ f m B, stB (vC M_2) f m B = stB (vC M) f m B := fun f m B => stB_ext (hv0 12 (by decide)) (hv0 9 (by decide)) f m B
  refine g_iload_n C 0 dX4_firstToStart_2 rfl ?_
  refine g_aload_n C 1 dX4_firstToStart_3 rfl ?_
  refine g_get C (.int (M_2 81 0)) 0 in_X4_firstToStart_4 (List.mem_of_getElem? (i := 1) rfl) (by decide) (ce_meth ad cs _ _) rfl (by decide) rfl rfl dX4_firstToStart_4 ?_
  refine g_ni (fun v2 ev2 => ?_)
  have gv2 : v2 = vC M 0 3 := ev2.trans (hF 81 0 (by omega))
  have tv2 := congrArg Int32.toInt gv2
  obtain ⟨bv2, dv2⟩ := (show rg 0 20 v2 from (by rw [ev2]; exact hI 81 0 rfl))
  refine g_icmp_ge C 39 dX4_firstToStart_7 (by decide) (fun c3 => ?_) (fun c3 => ?_)
  ·
    have f4 := fle rfl rfl c3
    refine g_bipush C (-9) dX4_firstToStart_39 (by decide) ?_
    have fs9 : findF (vC M) x (vC M 0 3).toNatClampNeg (vC M 13) = (-9, vC M_2 13) := by rw [← j2_3, show (vC M 0 3).toNatClampNeg - x2_2.toNatClampNeg = 0 by omega]; rfl
    have zr9 : ((-9) : Int32).toInt = (-9) := by decide
    exact g_iret C hr ⟨⟨by rw [fs9], by funext c; by_cases e9 : c = 13; (rw [if_pos e9, e9, fs9]); (rw [if_neg e9, hv0 c e9])⟩, hI, hF, hG⟩ dX4_firstToStart_41
  ·
    have f5 := fnle rfl rfl c3
    refine g_aload_n C 1 dX4_firstToStart_10 rfl ?_
    refine g_iload_n C 2 dX4_firstToStart_11 rfl ?_
    refine g_callVi C (n := 1) (As := [.int x]) (st := []) (v_X4_firstNotFailed l D ad cs _ _ x hI ) gX4_firstToStart_X4_firstNotFailed rfl rfl rfl (by decide +kernel) ⟨Nat.le_of_ble_eq_true rfl, Nat.le_of_ble_eq_true rfl⟩ rfl (Nat.le_of_ble_eq_true rfl) ⟨Nat.zero_le _, Nat.zero_le _⟩ (by decide) (ce_meth ad cs _ _) rfl rfl dX4_firstToStart_12 (fun r6 M7 L8 hr6 => ?_)
    obtain ⟨hq1, hq2, hr6⟩ := hr6
    obtain rfl := hq1.symm
    obtain rfl := hq2.symm
    obtain ⟨hr6, hrr6⟩ := hr6
    rw [bestF_ext (hv0 10 (by decide)) (hv0 11 (by decide)), hv0 0 (by decide)] at hr6
    rw [hv0 0 (by decide)] at hrr6
    have fs9 := findF_s (V := vC M) (x := x) (n := (vC M 0 3).toNatClampNeg) (k := x2_2.toNatClampNeg) (B := vC M_2 13) (by omega)
    rw [← hr6, j2_3] at fs9
    refine g_istore_n C [(3, .int r6), (2, .int x2_2), (0, .ref (ad 81)), (1, .int x)] dX4_firstToStart_15 (by decide) rfl ?_
    refine g_iload_n C 0 dX4_firstToStart_16 rfl ?_
    refine g_bipush C (-9) dX4_firstToStart_17 (by decide) ?_
    refine g_icmp_eq C 31 dX4_firstToStart_19 (by decide) (fun c9 => ?_) (fun c9 => ?_)
    ·
      have f10 := feq rfl (by decide : ((-9) : Int32).toInt = (-9)) c9
      refine g_iload_n C 0 dX4_firstToStart_31 rfl ?_
      rw [if_pos (by omega)] at fs9
      have e99 : r6 = -9 := Int32.toInt_inj.mp (by rw [show (-9 : Int32).toInt = -9 by decide]; omega)
      rw [← e99] at fs9
      exact g_iret C hr ⟨⟨by rw [fs9], by funext c; by_cases e9 : c = 13; (rw [if_pos e9, e9, fs9]); (rw [if_neg e9, hv0 c e9])⟩, hI, hF, hG⟩ dX4_firstToStart_32
    ·
      have f11 := fne rfl (by decide : ((-9) : Int32).toInt = (-9)) c9
      refine g_aload_n C 2 dX4_firstToStart_22 rfl ?_
      refine g_iload_n C 0 dX4_firstToStart_23 rfl ?_
      refine g_callVi C (n := 1) (As := [.int r6]) (st := []) (v_X4_begin l D ad cs _ _ r6 hI ⟨by omega, by rw [hv0 0 (by decide)]; omega⟩ hN5) gX4_firstToStart_X4_begin rfl rfl rfl (by decide +kernel) ⟨Nat.le_of_ble_eq_true rfl, Nat.le_of_ble_eq_true rfl⟩ rfl (Nat.le_of_ble_eq_true rfl) ⟨Nat.zero_le _, Nat.zero_le _⟩ (by decide) (ce_meth ad cs _ _) rfl rfl dX4_firstToStart_24 (fun r12 M13 L14 hr12 => ?_)
      obtain ⟨hr12, hI, hFr12, hGr12⟩ := hr12
      have hF : ∀ k i, k ≠ 83 ∧ k ≠ 87 → M13 k i = M k i := fun k i hk => by (rw [hFr12 k i (by omega)]; try exact hF k i hk)
      have hG : ∀ k i, True → L14 k i = L k i := fun k i hk => by (rw [hGr12 k i trivial]; try exact hG k i hk)
      have hV : vC M13 = startV (vC M_2) r6 := by rw [hr12.1, hV]
      have q83 : M13 83 = M13 83 := rfl
      have q87 : M13 87 = M13 87 := rfl
      obtain ⟨hr12v, hr12⟩ := hr12
      have hr1 : r12.toInt = (stB (vC M) 20 r6 (vC M_2 13) r6.toNatClampNeg).toInt := by rw [hr12]; show (stB (vC M_2) 20 r6 (vC M_2 13) r6.toNatClampNeg).toInt = _; rw [hst9]
      have hB1 : vC M13 13 = stB (vC M) 20 r6 (vC M_2 13) := by rw [hr12v]; show stB (vC M_2) 20 r6 (vC M_2 13) = _; rw [hst9]
      have hc1 : ∀ c, c ≠ 13 → vC M13 c = vC M c := fun c hc => by rw [hr12v]; unfold startV; rw [if_neg hc, hv0 c hc]
      refine g_iconst C 1 dX4_firstToStart_27 (by decide) ?_
      refine g_icmp_ne C 33 dX4_firstToStart_28 (by decide) (fun c15 => ?_) (fun c15 => ?_)
      ·
        have f16 := fne rfl (by decide : (1 : Int32).toInt = 1) c15
        obtain ⟨v17, ev17⟩ : ∃ y : Int32, y = x2_2 + 1 := ⟨_, rfl⟩
        try have fv17 := fadd rfl (by decide : (1 : Int32).toInt = 1) ev17 (by omega) (by omega)
        refine g_iinc C 1 v17 [(2, .int v17), (3, .int r6), (0, .ref (ad 81)), (1, .int x)] dX4_firstToStart_33 rfl (by rw [ev17]; rfl) (by decide) rfl ?_
        refine g_goto C 2 dX4_firstToStart_36 (by decide) ?_
        refine g_lv [0, 2, 3] [(2, .int v17), (0, .ref (ad 81)), (1, .int x)] rfl ?_
        have nv := ixn (x := v17) (by omega)
        have iv : v17.toNatClampNeg = x2_2.toNatClampNeg + 1 := by omega
        rw [if_neg (by omega), if_neg (by omega)] at fs9
        exact ih_2 (v17, M13, L14) ⟨by show 0 ≤ v17.toInt; omega, by show v17.toInt ≤ (vC M 0 3).toInt; omega, by show ∀ c, c ≠ 13 → vC M13 c = vC M c; exact hc1, by show findF (vC M) x ((vC M 0 3).toNatClampNeg - v17.toNatClampNeg) (vC M13 13) = findF (vC M) x (vC M 0 3).toNatClampNeg (vC M 13); rw [hB1, iv]; exact fs9.symm, hI, hF, hG⟩ (by show (21 - v17.toInt).toNat < (21 - x2_2.toInt).toNat; omega)
      ·
        have f18 := feq rfl (by decide : (1 : Int32).toInt = 1) c15
        refine g_iload_n C 0 dX4_firstToStart_31 rfl ?_
        rw [if_neg (by omega), if_pos (by omega)] at fs9
        exact g_iret C hr ⟨⟨by rw [fs9], by funext c; by_cases e9 : c = 13; (rw [if_pos e9, e9, fs9]; exact hB1); (rw [if_neg e9, hc1 c e9])⟩, hI, hF, hG⟩ dX4_firstToStart_32
set_option maxHeartbeats 4000000 in
set_option maxRecDepth 100000 in
theorem v_X10_find (l : Launch) (D : va_G) (ad : Nat → Nat) (cs : Nat → ClassId) (M : MI) (L : ML) (x : Int32) (hI : IC M) (hN : NOv (vC M)) : Ci l yX10_find wsX10_find ({ frames := 3, cells := 0, slots := 0, locals := 69 }) D ad cs [.ref (ad 0), .int x] M L (fun r M1 L1 => (A_find (vC M) x = (r, vC M1)) ∧ IC M1 ∧ (∀ k i, k ≠ 83 ∧ k ≠ 87 → M1 k i = M k i) ∧ ∀ k i, True → L1 k i = L k i) := by
  refine enter_i RX10 rfl [(0, .ref (ad 0)), (1, .int x)] rfl (Nat.le_of_ble_eq_true rfl) (by decide +kernel) rfl ?_
  intro p e s m below meth c C hr
  have hF : ∀ k i, k ≠ 83 ∧ k ≠ 87 → M k i = M k i := fun _ _ _ => rfl
  have hG : ∀ k i, True → L k i = L k i := fun _ _ _ => rfl
  have w0 : (vC M 0 0).toInt = (M 1 0).toInt := rfl
  have w1 : (vC M 0 1).toInt = (M 3 0).toInt := rfl
  have w2 : (vC M 0 2).toInt = (M 68 0).toInt := rfl
  have w3 : (vC M 0 3).toInt = (M 81 0).toInt := rfl
  obtain ⟨y0a, y0b⟩ := (show rg 0 10 (M 1 0) from hI 1 0 rfl)
  obtain ⟨y1a, y1b⟩ := (show rg 0 60 (M 3 0) from hI 3 0 rfl)
  obtain ⟨y2a, y2b⟩ := (show rg 0 8 (M 68 0) from hI 68 0 rfl)
  obtain ⟨y3a, y3b⟩ := (show rg 0 20 (M 81 0) from hI 81 0 rfl)
  have q83 : M 83 = M 83 := rfl
  have q87 : M 87 = M 87 := rfl
  have hV : vC M = vC M := rfl
  refine g_iload_n C 1 dX10_find_0 rfl ?_
  refine g_if_lt C 10 dX10_find_1 (by decide) (fun c1 => ?_) (fun c1 => ?_)
  ·
    have f2 := fl rfl (by decide : (0 : Int32).toInt = 0) c1
    refine g_iconst C (-1) dX10_find_10 (by decide) ?_
    refine g_goto C 22 dX10_find_11 (by decide) ?_
    have zr9 : ((-1) : Int32).toInt = (-1) := by decide
    exact g_iret C hr ⟨(by dsimp only [A_find, hasC, hasB, hasX, hasM, ofS, ofK, bt, ix]; (repeat (first | rw [if_pos (by omega)] | rw [if_neg (by omega)])); first | done | rfl | (simp only [ix]; done) | (simp only [ix]; rfl) | (subst_vars; first | rfl | grind)), hI, hF, hG⟩ dX10_find_22
  ·
    have f3 := fnl rfl (by decide : (0 : Int32).toInt = 0) c1
    refine g_iload_n C 1 dX10_find_4 rfl ?_
    refine g_bipush C 8 dX10_find_5 (by decide) ?_
    refine g_icmp_lt C 14 dX10_find_7 (by decide) (fun c4 => ?_) (fun c4 => ?_)
    ·
      have f5 := fl rfl (by decide : (8 : Int32).toInt = 8) c4
      refine g_aload_n C 0 dX10_find_14 rfl ?_
      refine g_get C (.ref (ad 81)) 3 in_X10_find_10 (List.mem_of_getElem? (i := 1) rfl) (by decide) (ce_house ad cs _ _) rfl (by decide) rfl rfl dX10_find_15 ?_
      refine g_iload_n C 1 dX10_find_18 rfl ?_
      refine g_callVi C (n := 1) (As := [.int x]) (st := []) (v_X4_firstToStart l D ad cs _ _ x hI hN) gX10_find_X4_firstToStart rfl rfl rfl (by decide +kernel) ⟨Nat.le_of_ble_eq_true rfl, Nat.le_of_ble_eq_true rfl⟩ rfl (Nat.le_of_ble_eq_true rfl) ⟨Nat.zero_le _, Nat.zero_le _⟩ (by decide) (ce_meth ad cs _ _) rfl rfl dX10_find_19 (fun r6 M7 L8 hr6 => ?_)
      obtain ⟨hr6, hI, hFr6, hGr6⟩ := hr6
      have hF : ∀ k i, k ≠ 83 ∧ k ≠ 87 → M7 k i = M k i := fun k i hk => by (rw [hFr6 k i (by omega)]; try exact hF k i hk)
      have hG : ∀ k i, True → L8 k i = L k i := fun k i hk => by (rw [hGr6 k i trivial]; try exact hG k i hk)
      have q83 : M7 83 = M7 83 := rfl
      have q87 : M7 87 = M7 87 := rfl
      exact g_iret C hr ⟨(by dsimp only [A_find, bt]; rw [if_pos (by omega), hr6.1, hr6.2]), hI, hF, hG⟩ dX10_find_22
    ·
      have f9 := fnl rfl (by decide : (8 : Int32).toInt = 8) c4
      refine g_iconst C (-1) dX10_find_10 (by decide) ?_
      refine g_goto C 22 dX10_find_11 (by decide) ?_
      have zr9 : ((-1) : Int32).toInt = (-1) := by decide
      exact g_iret C hr ⟨(by dsimp only [A_find, hasC, hasB, hasX, hasM, ofS, ofK, bt, ix]; (repeat (first | rw [if_pos (by omega)] | rw [if_neg (by omega)])); first | done | rfl | (simp only [ix]; done) | (simp only [ix]; rfl) | (subst_vars; first | rfl | grind)), hI, hF, hG⟩ dX10_find_22
