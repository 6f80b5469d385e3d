set_option maxHeartbeats 4000000 in
set_option maxRecDepth 100000 in
theorem k_X9_isUnbeaten (l : Launch) (D : va_G) (ad : Nat → Nat) (cs : Nat → ClassId) (M : MI) (L : ML) (x : Int32) (hI : IC M) (hx : 0 ≤ x.toInt ∧ x.toInt < 10) : Ci l yX9_isUnbeaten wsX9_isUnbeaten ({ frames := 0, cells := 0, slots := 0, locals := 0 }) D ad cs [.ref (ad 96), .int x] M L (fun r M1 L1 => M1 = M ∧ L1 = L ∧ (zo r (unb (M 90) (wC M) (M 1 0).toNatClampNeg x.toNatClampNeg))) := by
  refine enter_i RX9 rfl [(0, .ref (ad 96)), (1, .int x)] rfl (Nat.le_of_ble_eq_true rfl) (by decide +kernel) rfl ?_
  intro p e s m below meth c C hr
  have hF : ∀ k i, True → M k i = M k i := fun _ _ _ => rfl
  have hG : ∀ k i, True → L k i = L k i := fun _ _ _ => rfl
  have w0 : (vC M 0 0).toInt = (M 1 0).toInt := rfl
  have w1 : (vC M 0 1).toInt = (M 3 0).toInt := rfl
  have w2 : (vC M 0 2).toInt = (M 68 0).toInt := rfl
  have w3 : (vC M 0 3).toInt = (M 81 0).toInt := rfl
  obtain ⟨y0a, y0b⟩ := (show rg 0 10 (M 1 0) from hI 1 0 rfl)
  obtain ⟨y1a, y1b⟩ := (show rg 0 60 (M 3 0) from hI 3 0 rfl)
  obtain ⟨y2a, y2b⟩ := (show rg 0 8 (M 68 0) from hI 68 0 rfl)
  obtain ⟨y3a, y3b⟩ := (show rg 0 20 (M 81 0) from hI 81 0 rfl)
  obtain ⟨hx1, hx2⟩ := hx
  have nx := ixn hx1
  have n02 := ixn y0a
  refine g_iconst C 0 dX9_isUnbeaten_0 (by decide) ?_
  refine g_istore_n C [(2, .int 0), (0, .ref (ad 96)), (1, .int x)] dX9_isUnbeaten_1 (by decide) rfl ?_
  have zy1 : (0 : Int32).toInt = 0 := by decide
  refine g_loop (α := Int32 × MI × ML) (fun a => (11 - a.1.toInt).toNat) (fun a => (0 ≤ a.1.toInt) ∧ (a.1.toInt ≤ (M 1 0).toInt) ∧ (∀ y9 : Nat, y9 < a.1.toNatClampNeg → ¬ (M 90 y9).toInt = 0 → ¬ wC M x.toNatClampNeg y9 < wC M y9 x.toNatClampNeg) ∧ IC a.2.1 ∧ (∀ k i, True → a.2.1 k i = M k i) ∧ (∀ k i, True → a.2.2 k i = L k i)) (fun a => a.2.1) (fun a => a.2.2) (fun a => [(2, .int a.1), (0, .ref (ad 96)), (1, .int x)]) ((0 : Int32), M, L) ⟨by show 0 ≤ (0 : Int32).toInt; omega, by show (0 : Int32).toInt ≤ (M 1 0).toInt; omega, by show ∀ y9 : Nat, y9 < (0 : Int32).toNatClampNeg → ¬ (M 90 y9).toInt = 0 → ¬ wC M x.toNatClampNeg y9 < wC M y9 x.toNatClampNeg; intro y9 hy9; exact absurd hy9 (by show ¬ y9 < 0; omega), hI, hF, hG⟩ rfl rfl rfl ?_
  rintro ⟨x2_2, M_2, L_2⟩ ⟨j2_0, j2_1, j2_2, hI, hF, hG⟩ ih_2
  dsimp only at j2_0 j2_1 j2_2 hI hF hG ih_2 ⊢
  have n2 := ixn (x := x2_2) (by omega)
  refine g_iload_n C 0 dX9_isUnbeaten_2 rfl ?_
  refine g_aload_n C 1 dX9_isUnbeaten_3 rfl ?_
  refine g_get C (.ref (ad 88)) 0 in_X9_isUnbeaten_9 (List.mem_of_getElem? (i := 1) rfl) (by decide) (ce_ways ad cs _ _) rfl (by decide) rfl rfl dX9_isUnbeaten_4 ?_
  refine g_get C (.ref (ad 1)) 0 in_X9_isUnbeaten_6 (List.mem_of_getElem? (i := 2) rfl) (by decide) (ce_poll ad cs _ _) rfl (by decide) rfl rfl dX9_isUnbeaten_7 ?_
  refine g_get C (.int (M_2 1 0)) 0 in_X9_isUnbeaten_2 (List.mem_of_getElem? (i := 3) rfl) (by decide) (ce_cand ad cs _ _) rfl (by decide) rfl rfl dX9_isUnbeaten_10 ?_
  refine g_ni (fun v2 ev2 => ?_)
  have gv2 : v2 = vC M 0 0 := ev2.trans (hF 1 0 trivial)
  have tv2 := congrArg Int32.toInt gv2
  obtain ⟨bv2, dv2⟩ := (show rg 0 10 v2 from (by rw [ev2]; exact hI 1 0 rfl))
  refine g_icmp_ge C 55 dX9_isUnbeaten_13 (by decide) (fun c3 => ?_) (fun c3 => ?_)
  ·
    have f4 := fle rfl rfl c3
    refine g_iconst C 1 dX9_isUnbeaten_55 (by decide) ?_
    have zr9 : (1 : Int32).toInt = 1 := by decide
    exact g_zret C hr rfl ⟨funext (fun k => funext (fun i => hF k i trivial)), funext (fun k => funext (fun i => hG k i trivial)), (Or.inl ⟨rfl, fun y9 hy9 hne9 hin9 => j2_2 y9 (by omega) hin9⟩)⟩ dX9_isUnbeaten_56
  ·
    have f5 := fnle rfl rfl c3
    refine g_aload_n C 1 dX9_isUnbeaten_16 rfl ?_
    refine g_get C (.ref (ad 88)) 0 in_X9_isUnbeaten_9 (List.mem_of_getElem? (i := 1) rfl) (by decide) (ce_ways ad cs _ _) rfl (by decide) rfl rfl dX9_isUnbeaten_17 ?_
    refine g_get C (.ref (ad 90)) 5 in_X9_isUnbeaten_6 (List.mem_of_getElem? (i := 4) rfl) (by decide) (ce_poll ad cs _ _) rfl (by decide) rfl rfl dX9_isUnbeaten_20 ?_
    refine g_iload_n C 0 dX9_isUnbeaten_23 rfl ?_
    have nx2_2 := ixn (x := x2_2) (by omega)
    refine g_zald C (by decide) (ce_pin ad cs _ _) (fin' (n := 10) rfl (by omega) (by omega)) dX9_isUnbeaten_24 ?_
    refine g_ni (fun v6 ev6 => ?_)
    have gv6 : v6 = M 90 x2_2.toNatClampNeg := ev6.trans (hF 90 x2_2.toNatClampNeg trivial)
    have tv6 := congrArg Int32.toInt gv6
    refine g_if_eq C 49 dX9_isUnbeaten_25 (by decide) (fun c7 => ?_) (fun c7 => ?_)
    ·
      have f8 := feq rfl (by decide : (0 : Int32).toInt = 0) c7
      obtain ⟨v9, ev9⟩ : ∃ y : Int32, y = x2_2 + 1 := ⟨_, rfl⟩
      try have fv9 := fadd rfl (by decide : (1 : Int32).toInt = 1) ev9 (by omega) (by omega)
      refine g_iinc C 0 v9 [(2, .int v9), (0, .ref (ad 96)), (1, .int x)] dX9_isUnbeaten_49 rfl (by rw [ev9]; rfl) (by decide) rfl ?_
      refine g_goto C 2 dX9_isUnbeaten_52 (by decide) ?_
      have nv := ixn (x := v9) (by omega)
      have iv : v9.toNatClampNeg = x2_2.toNatClampNeg + 1 := by omega
      have hall : ∀ y9 : Nat, y9 < x2_2.toNatClampNeg + 1 → ¬ (M 90 y9).toInt = 0 → ¬ wC M x.toNatClampNeg y9 < wC M y9 x.toNatClampNeg := by
        intro y9 hy9 hin9
        by_cases e9 : y9 = x2_2.toNatClampNeg
        · rw [e9] at hin9 ⊢; unfold wC; omega
        · exact j2_2 y9 (by omega) hin9
      exact ih_2 (v9, M_2, L_2) ⟨by show 0 ≤ v9.toInt; omega, by show v9.toInt ≤ (M 1 0).toInt; omega, by show ∀ y9 : Nat, y9 < v9.toNatClampNeg → ¬ (M 90 y9).toInt = 0 → ¬ wC M x.toNatClampNeg y9 < wC M y9 x.toNatClampNeg; rw [iv]; exact hall, hI, hF, hG⟩ (by show (11 - v9.toInt).toNat < (11 - x2_2.toInt).toNat; omega)
    ·
      have f10 := fne rfl (by decide : (0 : Int32).toInt = 0) c7
      refine g_aload_n C 1 dX9_isUnbeaten_28 rfl ?_
      refine g_get C (.ref (ad 99)) 3 in_X9_isUnbeaten_9 (List.mem_of_getElem? (i := 5) rfl) (by decide) (ce_ways ad cs _ _) rfl (by decide) rfl rfl dX9_isUnbeaten_29 ?_
      refine g_iload_n C 0 dX9_isUnbeaten_32 rfl ?_
      have hi11 : vp_in x2_2 10 := (fin' (n := 10) rfl (by omega) (by omega))
      have nhi11 := tn hi11
      have mhi11 := ixn (x := x2_2) (by omega)
      refine g_aald C (by decide) (ce_wwaym ad cs _ _) rfl hi11 dX9_isUnbeaten_33 ?_
      refine g_iload_n C 2 dX9_isUnbeaten_34 rfl ?_
      have nx := ixn (x := x) (by omega)
      refine g_iald C (by omega) (ce_wway ad cs _ _ nhi11) (fin' (n := 10) rfl (by omega) (by omega)) dX9_isUnbeaten_35 ?_
      refine g_ni (fun v12 ev12 => ?_)
      have gv12 := ev12.trans (hF (110 + x2_2.toNatClampNeg) x.toNatClampNeg trivial)
      have tv12 := congrArg Int32.toInt gv12
      refine g_aload_n C 1 dX9_isUnbeaten_36 rfl ?_
      refine g_get C (.ref (ad 99)) 3 in_X9_isUnbeaten_9 (List.mem_of_getElem? (i := 5) rfl) (by decide) (ce_ways ad cs _ _) rfl (by decide) rfl rfl dX9_isUnbeaten_37 ?_
      refine g_iload_n C 2 dX9_isUnbeaten_40 rfl ?_
      have hi13 : vp_in x 10 := (fin' (n := 10) rfl (by omega) (by omega))
      have nhi13 := tn hi13
      have mhi13 := ixn (x := x) (by omega)
      refine g_aald C (by decide) (ce_wwaym ad cs _ _) rfl hi13 dX9_isUnbeaten_41 ?_
      refine g_iload_n C 0 dX9_isUnbeaten_42 rfl ?_
      have nx2_2 := ixn (x := x2_2) (by omega)
      refine g_iald C (by omega) (ce_wway ad cs _ _ nhi13) (fin' (n := 10) rfl (by omega) (by omega)) dX9_isUnbeaten_43 ?_
      refine g_ni (fun v14 ev14 => ?_)
      have gv14 := ev14.trans (hF (110 + x.toNatClampNeg) x2_2.toNatClampNeg trivial)
      have tv14 := congrArg Int32.toInt gv14
      refine g_icmp_le C 49 dX9_isUnbeaten_44 (by decide) (fun c15 => ?_) (fun c15 => ?_)
      ·
        have f16 := fle rfl rfl c15
        obtain ⟨v17, ev17⟩ : ∃ y : Int32, y = x2_2 + 1 := ⟨_, rfl⟩
        try have fv17 := fadd rfl (by decide : (1 : Int32).toInt = 1) ev17 (by omega) (by omega)
        refine g_iinc C 0 v17 [(2, .int v17), (0, .ref (ad 96)), (1, .int x)] dX9_isUnbeaten_49 rfl (by rw [ev17]; rfl) (by decide) rfl ?_
        refine g_goto C 2 dX9_isUnbeaten_52 (by decide) ?_
        have nv := ixn (x := v17) (by omega)
        have iv : v17.toNatClampNeg = x2_2.toNatClampNeg + 1 := by omega
        have hall : ∀ y9 : Nat, y9 < x2_2.toNatClampNeg + 1 → ¬ (M 90 y9).toInt = 0 → ¬ wC M x.toNatClampNeg y9 < wC M y9 x.toNatClampNeg := by
          intro y9 hy9 hin9
          by_cases e9 : y9 = x2_2.toNatClampNeg
          · rw [e9] at hin9 ⊢; unfold wC; omega
          · exact j2_2 y9 (by omega) hin9
        exact ih_2 (v17, M_2, L_2) ⟨by show 0 ≤ v17.toInt; omega, by show v17.toInt ≤ (M 1 0).toInt; omega, by show ∀ y9 : Nat, y9 < v17.toNatClampNeg → ¬ (M 90 y9).toInt = 0 → ¬ wC M x.toNatClampNeg y9 < wC M y9 x.toNatClampNeg; rw [iv]; exact hall, hI, hF, hG⟩ (by show (11 - v17.toInt).toNat < (11 - x2_2.toInt).toNat; omega)
      ·
        have f18 := fnle rfl rfl c15
        refine g_iconst C 0 dX9_isUnbeaten_47 (by decide) ?_
        have zr9 : (0 : Int32).toInt = 0 := by decide
        exact g_zret C hr rfl ⟨funext (fun k => funext (fun i => hF k i trivial)), funext (fun k => funext (fun i => hG k i trivial)), (Or.inr ⟨rfl, fun q9 => by have h9 := q9 x2_2.toNatClampNeg (by omega) (by intro e9; have e8 : x2_2 = x := Int32.toInt_inj.mp (by omega); subst e8; omega) (by omega); exact h9 (by unfold wC; omega)⟩)⟩ dX9_isUnbeaten_48
set_option maxHeartbeats 4000000 in
set_option maxRecDepth 100000 in
theorem k_X9_firstUnbeaten (l : Launch) (D : va_G) (ad : Nat → Nat) (cs : Nat → ClassId) (M : MI) (L : ML)  (hI : IC M) : Ci l yX9_firstUnbeaten wsX9_firstUnbeaten ({ frames := 1, cells := 0, slots := 0, locals := 22 }) D ad cs [.ref (ad 96)] M L (fun r M1 L1 => M1 = M ∧ L1 = L ∧ ((r.toInt = -9 ∧ ∀ j : Nat, j < (M 1 0).toNatClampNeg → (M 90 (M 2 j).toNatClampNeg).toInt = 0 ∨ ¬ unb (M 90) (wC M) (M 1 0).toNatClampNeg (M 2 j).toNatClampNeg) ∨ (0 ≤ r.toInt ∧ r.toInt < 10 ∧ ¬ (M 90 r.toNatClampNeg).toInt = 0 ∧ fuP (M 2) (M 90) (wC M) (M 1 0).toNatClampNeg r))) := by
  refine enter_i RX9 rfl [(0, .ref (ad 96))] rfl (Nat.le_of_ble_eq_true rfl) (by decide +kernel) rfl ?_
  intro p e s m below meth c C hr
  have hF : ∀ k i, True → M k i = M k i := fun _ _ _ => rfl
  have hG : ∀ k i, True → L k i = L k i := fun _ _ _ => rfl
  have w0 : (vC M 0 0).toInt = (M 1 0).toInt := rfl
  have w1 : (vC M 0 1).toInt = (M 3 0).toInt := rfl
  have w2 : (vC M 0 2).toInt = (M 68 0).toInt := rfl
  have w3 : (vC M 0 3).toInt = (M 81 0).toInt := rfl
  obtain ⟨y0a, y0b⟩ := (show rg 0 10 (M 1 0) from hI 1 0 rfl)
  obtain ⟨y1a, y1b⟩ := (show rg 0 60 (M 3 0) from hI 3 0 rfl)
  obtain ⟨y2a, y2b⟩ := (show rg 0 8 (M 68 0) from hI 68 0 rfl)
  obtain ⟨y3a, y3b⟩ := (show rg 0 20 (M 81 0) from hI 81 0 rfl)
  have hI0 := hI
  have n02 := ixn y0a
  refine g_iconst C 0 dX9_firstUnbeaten_0 (by decide) ?_
  refine g_istore_n C [(1, .int 0), (0, .ref (ad 96))] dX9_firstUnbeaten_1 (by decide) rfl ?_
  have zy1 : (0 : Int32).toInt = 0 := by decide
  refine g_loop (α := Int32 × MI × ML) (fun a => (11 - a.1.toInt).toNat) (fun a => (0 ≤ a.1.toInt) ∧ (a.1.toInt ≤ (M 1 0).toInt) ∧ (∀ j : Nat, j < a.1.toNatClampNeg → (M 90 (M 2 j).toNatClampNeg).toInt = 0 ∨ ¬ unb (M 90) (wC M) (M 1 0).toNatClampNeg (M 2 j).toNatClampNeg) ∧ IC a.2.1 ∧ (∀ k i, True → a.2.1 k i = M k i) ∧ (∀ k i, True → a.2.2 k i = L k i)) (fun a => a.2.1) (fun a => a.2.2) (fun a => [(1, .int a.1), (0, .ref (ad 96))]) ((0 : Int32), M, L) ⟨by show 0 ≤ (0 : Int32).toInt; omega, by show (0 : Int32).toInt ≤ (M 1 0).toInt; omega, by show ∀ j : Nat, j < (0 : Int32).toNatClampNeg → (M 90 (M 2 j).toNatClampNeg).toInt = 0 ∨ ¬ unb (M 90) (wC M) (M 1 0).toNatClampNeg (M 2 j).toNatClampNeg; intro j hj; exact absurd hj (by show ¬ j < 0; omega), hI, hF, hG⟩ rfl rfl rfl ?_
  rintro ⟨x1_2, M_2, L_2⟩ ⟨j2_0, j2_1, j2_2, hI, hF, hG⟩ ih_2
  dsimp only at j2_0 j2_1 j2_2 hI hF hG ih_2 ⊢
  have n1 := ixn (x := x1_2) (by omega)
  have bE : rg 0 9 (M 2 x1_2.toNatClampNeg) := hI0 2 _
  obtain ⟨bE1, bE2⟩ := bE
  have nE := ixn bE1
  have eM : M_2 = M := funext (fun k => funext (fun i => hF k i trivial))
  refine g_iload_n C 0 dX9_firstUnbeaten_2 rfl ?_
  refine g_aload_n C 1 dX9_firstUnbeaten_3 rfl ?_
  refine g_get C (.ref (ad 88)) 0 in_X9_firstUnbeaten_9 (List.mem_of_getElem? (i := 1) rfl) (by decide) (ce_ways ad cs _ _) rfl (by decide) rfl rfl dX9_firstUnbeaten_4 ?_
  refine g_get C (.ref (ad 1)) 0 in_X9_firstUnbeaten_6 (List.mem_of_getElem? (i := 2) rfl) (by decide) (ce_poll ad cs _ _) rfl (by decide) rfl rfl dX9_firstUnbeaten_7 ?_
  refine g_get C (.int (M_2 1 0)) 0 in_X9_firstUnbeaten_2 (List.mem_of_getElem? (i := 3) rfl) (by decide) (ce_cand ad cs _ _) rfl (by decide) rfl rfl dX9_firstUnbeaten_10 ?_
  refine g_ni (fun v2 ev2 => ?_)
  have gv2 : v2 = vC M 0 0 := ev2.trans (hF 1 0 trivial)
  have tv2 := congrArg Int32.toInt gv2
  obtain ⟨bv2, dv2⟩ := (show rg 0 10 v2 from (by rw [ev2]; exact hI 1 0 rfl))
  refine g_icmp_ge C 57 dX9_firstUnbeaten_13 (by decide) (fun c3 => ?_) (fun c3 => ?_)
  ·
    have f4 := fle rfl rfl c3
    refine g_bipush C (-9) dX9_firstUnbeaten_57 (by decide) ?_
    have zr9 : ((-9) : Int32).toInt = (-9) := by decide
    exact g_iret C hr ⟨funext (fun k => funext (fun i => hF k i trivial)), funext (fun k => funext (fun i => hG k i trivial)), (Or.inl ⟨by decide, fun j hj => j2_2 j (by omega)⟩)⟩ dX9_firstUnbeaten_59
  ·
    have f5 := fnle rfl rfl c3
    refine g_aload_n C 1 dX9_firstUnbeaten_16 rfl ?_
    refine g_get C (.ref (ad 88)) 0 in_X9_firstUnbeaten_9 (List.mem_of_getElem? (i := 1) rfl) (by decide) (ce_ways ad cs _ _) rfl (by decide) rfl rfl dX9_firstUnbeaten_17 ?_
    refine g_get C (.ref (ad 1)) 0 in_X9_firstUnbeaten_6 (List.mem_of_getElem? (i := 2) rfl) (by decide) (ce_poll ad cs _ _) rfl (by decide) rfl rfl dX9_firstUnbeaten_20 ?_
    refine g_get C (.ref (ad 2)) 1 in_X9_firstUnbeaten_2 (List.mem_of_getElem? (i := 4) rfl) (by decide) (ce_cand ad cs _ _) rfl (by decide) rfl rfl dX9_firstUnbeaten_23 ?_
    refine g_iload_n C 0 dX9_firstUnbeaten_26 rfl ?_
    have nx1_2 := ixn (x := x1_2) (by omega)
    refine g_iald C (by decide) (ce_crow ad cs _ _) (fin' (n := 10) rfl (by omega) (by omega)) dX9_firstUnbeaten_27 ?_
    refine g_ni (fun v6 ev6 => ?_)
    have gv6 : v6 = vC M 1 x1_2.toNatClampNeg := ev6.trans (hF 2 x1_2.toNatClampNeg trivial)
    have tv6 := congrArg Int32.toInt gv6
    obtain ⟨bv6, dv6⟩ := (show rg 0 9 v6 from (by rw [ev6]; exact hI 2 x1_2.toNatClampNeg))
    have gv6 : v6 = M 2 x1_2.toNatClampNeg := gv6
    subst gv6
    refine g_istore_n C [(2, .int ((M 2 x1_2.toNatClampNeg))), (1, .int x1_2), (0, .ref (ad 96))] dX9_firstUnbeaten_28 (by decide) rfl ?_
    refine g_aload_n C 2 dX9_firstUnbeaten_29 rfl ?_
    refine g_get C (.ref (ad 88)) 0 in_X9_firstUnbeaten_9 (List.mem_of_getElem? (i := 1) rfl) (by decide) (ce_ways ad cs _ _) rfl (by decide) rfl rfl dX9_firstUnbeaten_30 ?_
    refine g_get C (.ref (ad 90)) 5 in_X9_firstUnbeaten_6 (List.mem_of_getElem? (i := 5) rfl) (by decide) (ce_poll ad cs _ _) rfl (by decide) rfl rfl dX9_firstUnbeaten_33 ?_
    refine g_iload_n C 0 dX9_firstUnbeaten_36 rfl ?_
    have n_M_2_x1_2_toNatClampNeg_ := ixn (x := (M 2 x1_2.toNatClampNeg)) (by omega)
    refine g_zald C (by decide) (ce_pin ad cs _ _) (fin' (n := 10) rfl (by omega) (by omega)) dX9_firstUnbeaten_37 ?_
    refine g_ni (fun v7 ev7 => ?_)
    have gv7 : v7 = M 90 (((M 2 x1_2.toNatClampNeg)).toNatClampNeg) := ev7.trans (hF 90 (((M 2 x1_2.toNatClampNeg)).toNatClampNeg) trivial)
    have tv7 := congrArg Int32.toInt gv7
    refine g_if_eq C 51 dX9_firstUnbeaten_38 (by decide) (fun c8 => ?_) (fun c8 => ?_)
    ·
      have f9 := feq rfl (by decide : (0 : Int32).toInt = 0) c8
      obtain ⟨v10, ev10⟩ : ∃ y : Int32, y = x1_2 + 1 := ⟨_, rfl⟩
      try have fv10 := fadd rfl (by decide : (1 : Int32).toInt = 1) ev10 (by omega) (by omega)
      refine g_iinc C 1 v10 [(1, .int v10), (2, .int ((M 2 x1_2.toNatClampNeg))), (0, .ref (ad 96))] dX9_firstUnbeaten_51 rfl (by rw [ev10]; rfl) (by decide) rfl ?_
      refine g_goto C 2 dX9_firstUnbeaten_54 (by decide) ?_
      refine g_lv [0, 2] [(1, .int v10), (0, .ref (ad 96))] rfl ?_
      have nv := ixn (x := v10) (by omega)
      have iv : v10.toNatClampNeg = x1_2.toNatClampNeg + 1 := by omega
      have hth : (M 90 (M 2 x1_2.toNatClampNeg).toNatClampNeg).toInt = 0 ∨ ¬ unb (M 90) (wC M) (M 1 0).toNatClampNeg (M 2 x1_2.toNatClampNeg).toNatClampNeg := by first | exact Or.inl (by omega) | exact Or.inr hub
      have hall : ∀ j : Nat, j < x1_2.toNatClampNeg + 1 → (M 90 (M 2 j).toNatClampNeg).toInt = 0 ∨ ¬ unb (M 90) (wC M) (M 1 0).toNatClampNeg (M 2 j).toNatClampNeg := by
        intro j hj
        by_cases e9 : j = x1_2.toNatClampNeg
        · rw [e9]; exact hth
        · exact j2_2 j (by omega)
      exact ih_2 (v10, M_2, L_2) ⟨by show 0 ≤ v10.toInt; omega, by show v10.toInt ≤ (M 1 0).toInt; omega, by show ∀ j : Nat, j < v10.toNatClampNeg → (M 90 (M 2 j).toNatClampNeg).toInt = 0 ∨ ¬ unb (M 90) (wC M) (M 1 0).toNatClampNeg (M 2 j).toNatClampNeg; rw [iv]; exact hall, hI, hF, hG⟩ (by show (11 - v10.toInt).toNat < (11 - x1_2.toInt).toNat; omega)
    ·
      have f11 := fne rfl (by decide : (0 : Int32).toInt = 0) c8
      refine g_aload_n C 2 dX9_firstUnbeaten_41 rfl ?_
      refine g_iload_n C 0 dX9_firstUnbeaten_42 rfl ?_
      refine g_callVi C (n := 1) (As := [.int ((M 2 x1_2.toNatClampNeg))]) (st := []) (k_X9_isUnbeaten l D ad cs _ _ ((M 2 x1_2.toNatClampNeg)) hI ⟨by omega, by omega⟩) gX9_firstUnbeaten_X9_isUnbeaten rfl rfl rfl (by decide +kernel) ⟨Nat.le_of_ble_eq_true rfl, Nat.le_of_ble_eq_true rfl⟩ rfl (Nat.le_of_ble_eq_true rfl) ⟨Nat.zero_le _, Nat.zero_le _⟩ (by decide) (ce_ways ad cs _ _) rfl rfl dX9_firstUnbeaten_43 (fun r12 M13 L14 hr12 => ?_)
      obtain ⟨hq1, hq2, hr12⟩ := hr12
      obtain rfl := hq1.symm
      obtain rfl := hq2.symm
      rw [eM] at hr12
      obtain ⟨bar12, bbr12⟩ := zo_b hr12
      refine g_if_eq C 51 dX9_firstUnbeaten_46 (by decide) (fun c15 => ?_) (fun c15 => ?_)
      ·
        have f16 := feq rfl (by decide : (0 : Int32).toInt = 0) c15
        have hub := zo_f hr12 c15
        obtain ⟨v17, ev17⟩ : ∃ y : Int32, y = x1_2 + 1 := ⟨_, rfl⟩
        try have fv17 := fadd rfl (by decide : (1 : Int32).toInt = 1) ev17 (by omega) (by omega)
        refine g_iinc C 1 v17 [(1, .int v17), (2, .int ((M 2 x1_2.toNatClampNeg))), (0, .ref (ad 96))] dX9_firstUnbeaten_51 rfl (by rw [ev17]; rfl) (by decide) rfl ?_
        refine g_goto C 2 dX9_firstUnbeaten_54 (by decide) ?_
        refine g_lv [0, 2] [(1, .int v17), (0, .ref (ad 96))] rfl ?_
        have nv := ixn (x := v17) (by omega)
        have iv : v17.toNatClampNeg = x1_2.toNatClampNeg + 1 := by omega
        have hth : (M 90 (M 2 x1_2.toNatClampNeg).toNatClampNeg).toInt = 0 ∨ ¬ unb (M 90) (wC M) (M 1 0).toNatClampNeg (M 2 x1_2.toNatClampNeg).toNatClampNeg := by first | exact Or.inl (by omega) | exact Or.inr hub
        have hall : ∀ j : Nat, j < x1_2.toNatClampNeg + 1 → (M 90 (M 2 j).toNatClampNeg).toInt = 0 ∨ ¬ unb (M 90) (wC M) (M 1 0).toNatClampNeg (M 2 j).toNatClampNeg := by
          intro j hj
          by_cases e9 : j = x1_2.toNatClampNeg
          · rw [e9]; exact hth
          · exact j2_2 j (by omega)
        exact ih_2 (v17, M_2, L_2) ⟨by show 0 ≤ v17.toInt; omega, by show v17.toInt ≤ (M 1 0).toInt; omega, by show ∀ j : Nat, j < v17.toNatClampNeg → (M 90 (M 2 j).toNatClampNeg).toInt = 0 ∨ ¬ unb (M 90) (wC M) (M 1 0).toNatClampNeg (M 2 j).toNatClampNeg; rw [iv]; exact hall, hI, hF, hG⟩ (by show (11 - v17.toInt).toNat < (11 - x1_2.toInt).toNat; omega)
      ·
        have f18 := fne rfl (by decide : (0 : Int32).toInt = 0) c15
        have hub := zo_t hr12 c15
        refine g_iload_n C 0 dX9_firstUnbeaten_49 rfl ?_
        exact g_iret C hr ⟨funext (fun k => funext (fun i => hF k i trivial)), funext (fun k => funext (fun i => hG k i trivial)), (Or.inr ⟨by omega, by omega, by omega, x1_2.toNatClampNeg, by omega, rfl, by omega, hub, j2_2⟩)⟩ dX9_firstUnbeaten_50
set_option maxHeartbeats 4000000 in
set_option maxRecDepth 100000 in
theorem k_X3_fits (l : Launch) (D : va_G) (ad : Nat → Nat) (cs : Nat → ClassId) (M : MI) (L : ML)  (hI : IC M) : Ci l yX3_fits wsX3_fits ({ frames := 0, cells := 0, slots := 0, locals := 0 }) D ad cs [.ref (ad 124)] M L (fun r M1 L1 => M1 = M ∧ L1 = L ∧ (zo r (fitF (L 124 0) (L 124 1)))) := by
  refine enter_i RX3 rfl [(0, .ref (ad 124))] rfl (Nat.le_of_ble_eq_true rfl) (by decide +kernel) rfl ?_
  intro p e s m below meth c C hr
  have hF : ∀ k i, True → M k i = M k i := fun _ _ _ => rfl
  have hG : ∀ k i, True → L k i = L k i := fun _ _ _ => rfl
  have w0 : (vC M 0 0).toInt = (M 1 0).toInt := rfl
  have w1 : (vC M 0 1).toInt = (M 3 0).toInt := rfl
  have w2 : (vC M 0 2).toInt = (M 68 0).toInt := rfl
  have w3 : (vC M 0 3).toInt = (M 81 0).toInt := rfl
  obtain ⟨y0a, y0b⟩ := (show rg 0 10 (M 1 0) from hI 1 0 rfl)
  obtain ⟨y1a, y1b⟩ := (show rg 0 60 (M 3 0) from hI 3 0 rfl)
  obtain ⟨y2a, y2b⟩ := (show rg 0 8 (M 68 0) from hI 68 0 rfl)
  obtain ⟨y3a, y3b⟩ := (show rg 0 20 (M 81 0) from hI 81 0 rfl)
  refine g_aload_n C 0 dX3_fits_0 rfl ?_
  refine g_get C (.long (L 124 0)) 0 in_X3_fits_3 (List.mem_of_getElem? (i := 1) rfl) (by decide) (ce_frac ad cs _ _) rfl (by decide) rfl rfl dX3_fits_1 ?_
  refine g_nl (fun v1 ev1 => ?_)
  have gv1 := ev1
  have tv1 := congrArg Int64.toInt gv1
  refine g_ldc2 C 1000000000 (List.mem_of_getElem? (i := 2) rfl) dX3_fits_4 ?_
  refine g_lcmp C dX3_fits_7 ?_
  refine g_ni (fun v2 ev2 => ?_)
  refine g_if_gt C 26 dX3_fits_8 (by decide) (fun c3 => ?_) (fun c3 => ?_)
  ·
    have f4 := cgt rfl (by decide : (1000000000 : Int64).toInt = 1000000000) ev2 c3
    refine g_iconst C 0 dX3_fits_26 (by decide) ?_
    have zr9 : (0 : Int32).toInt = 0 := by decide
    exact g_zret C hr rfl ⟨rfl, rfl, (by first | exact Or.inl ⟨rfl, by dsimp only [fitF]; omega⟩ | exact Or.inr ⟨rfl, by dsimp only [fitF]; omega⟩)⟩ dX3_fits_27
  ·
    have f5 := cngt rfl (by decide : (1000000000 : Int64).toInt = 1000000000) ev2 c3
    refine g_aload_n C 0 dX3_fits_11 rfl ?_
    refine g_get C (.long (L 124 1)) 1 in_X3_fits_3 (List.mem_of_getElem? (i := 3) rfl) (by decide) (ce_frac ad cs _ _) rfl (by decide) rfl rfl dX3_fits_12 ?_
    refine g_nl (fun v6 ev6 => ?_)
    have gv6 := ev6
    have tv6 := congrArg Int64.toInt gv6
    refine g_ldc2 C 1000000000 (List.mem_of_getElem? (i := 2) rfl) dX3_fits_15 ?_
    refine g_lcmp C dX3_fits_18 ?_
    refine g_ni (fun v7 ev7 => ?_)
    refine g_if_gt C 26 dX3_fits_19 (by decide) (fun c8 => ?_) (fun c8 => ?_)
    ·
      have f9 := cgt rfl (by decide : (1000000000 : Int64).toInt = 1000000000) ev7 c8
      refine g_iconst C 0 dX3_fits_26 (by decide) ?_
      have zr9 : (0 : Int32).toInt = 0 := by decide
      exact g_zret C hr rfl ⟨rfl, rfl, (by first | exact Or.inl ⟨rfl, by dsimp only [fitF]; omega⟩ | exact Or.inr ⟨rfl, by dsimp only [fitF]; omega⟩)⟩ dX3_fits_27
    ·
      have f10 := cngt rfl (by decide : (1000000000 : Int64).toInt = 1000000000) ev7 c8
      refine g_iconst C 1 dX3_fits_22 (by decide) ?_
      refine g_goto C 27 dX3_fits_23 (by decide) ?_
      have zr9 : (1 : Int32).toInt = 1 := by decide
      exact g_zret C hr rfl ⟨rfl, rfl, (by first | exact Or.inl ⟨rfl, by dsimp only [fitF]; omega⟩ | exact Or.inr ⟨rfl, by dsimp only [fitF]; omega⟩)⟩ dX3_fits_27
