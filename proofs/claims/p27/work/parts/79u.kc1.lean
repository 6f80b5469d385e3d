set_option maxHeartbeats 4000000 in
set_option maxRecDepth 100000 in
theorem k_X6_clearTallies (l : Launch) (D : va_G) (ad : Nat → Nat) (cs : Nat → ClassId) (M : MI) (L : ML)  (hI : IC M) : Cv l yX6_clearTallies wsX6_clearTallies ({ frames := 0, cells := 0, slots := 0, locals := 0 }) D ad cs [.ref (ad 88)] M L (fun M1 L1 => (∀ j : Nat, j < 10 → L1 91 j = 0 ∧ L1 92 j = 1) ∧ IC M1 ∧ (∀ k i, True → M1 k i = M k i) ∧ ∀ k i, k ≠ 91 ∧ k ≠ 92 → L1 k i = L k i) := by
  refine enter_v RX6 rfl [(0, .ref (ad 88))] rfl (Nat.le_of_ble_eq_true rfl) (by decide +kernel) rfl ?_
  intro p e s m below meth c C hr
  have hF : ∀ k i, True → M k i = M k i := fun _ _ _ => rfl
  have hG : ∀ k i, k ≠ 91 ∧ k ≠ 92 → L k i = L k i := fun _ _ _ => rfl
  have w0 : (vC M 0 0).toInt = (M 1 0).toInt := rfl
  have w1 : (vC M 0 1).toInt = (M 3 0).toInt := rfl
  have w2 : (vC M 0 2).toInt = (M 68 0).toInt := rfl
  have w3 : (vC M 0 3).toInt = (M 81 0).toInt := rfl
  obtain ⟨y0a, y0b⟩ := (show rg 0 10 (M 1 0) from hI 1 0 rfl)
  obtain ⟨y1a, y1b⟩ := (show rg 0 60 (M 3 0) from hI 3 0 rfl)
  obtain ⟨y2a, y2b⟩ := (show rg 0 8 (M 68 0) from hI 68 0 rfl)
  obtain ⟨y3a, y3b⟩ := (show rg 0 20 (M 81 0) from hI 81 0 rfl)
  have p91 : L 91 = L 91 := rfl
  have p92 : L 92 = L 92 := rfl
  refine g_iconst C 0 dX6_clearTallies_0 (by decide) ?_
  refine g_istore_n C [(1, .int 0), (0, .ref (ad 88))] dX6_clearTallies_1 (by decide) rfl ?_
  have zy1 : (0 : Int32).toInt = 0 := by decide
  refine g_loop (α := Int32 × MI × ML) (fun a => (11 - a.1.toInt).toNat) (fun a => (0 ≤ a.1.toInt) ∧ (a.1.toInt ≤ 10) ∧ (∀ j : Nat, j < a.1.toNatClampNeg → a.2.2 91 j = 0 ∧ a.2.2 92 j = 1) ∧ IC a.2.1 ∧ (∀ k i, True → a.2.1 k i = M k i) ∧ (∀ k i, k ≠ 91 ∧ k ≠ 92 → a.2.2 k i = L k i)) (fun a => a.2.1) (fun a => a.2.2) (fun a => [(1, .int a.1), (0, .ref (ad 88))]) ((0 : Int32), M, L) ⟨by show 0 ≤ (0 : Int32).toInt; omega, by show (0 : Int32).toInt ≤ 10; omega, by show ∀ j : Nat, j < (0 : Int32).toNatClampNeg → L 91 j = 0 ∧ L 92 j = 1; intro j hj; exact absurd hj (by show ¬ j < 0; omega), hI, hF, hG⟩ rfl rfl rfl ?_
  rintro ⟨x1_2, M_2, L_2⟩ ⟨j2_0, j2_1, j2_2, hI, hF, hG⟩ ih_2
  dsimp only at j2_0 j2_1 j2_2 hI hF hG ih_2 ⊢
  have p91 : L_2 91 = L_2 91 := rfl
  have p92 : L_2 92 = L_2 92 := rfl
  have n1 := ixn (x := x1_2) (by omega)
  refine g_iload_n C 0 dX6_clearTallies_2 rfl ?_
  refine g_bipush C 10 dX6_clearTallies_3 (by decide) ?_
  refine g_icmp_ge C 28 dX6_clearTallies_5 (by decide) (fun c2 => ?_) (fun c2 => ?_)
  ·
    have f3 := fle (by decide : (10 : Int32).toInt = 10) rfl c2
    exact g_vret C hr ⟨(fun j hj => j2_2 j (by omega)), hI, hF, hG⟩ dX6_clearTallies_28
  ·
    have f4 := fnle (by decide : (10 : Int32).toInt = 10) rfl c2
    refine g_aload_n C 1 dX6_clearTallies_8 rfl ?_
    refine g_get C (.ref (ad 91)) 6 in_X6_clearTallies_6 (List.mem_of_getElem? (i := 1) rfl) (by decide) (ce_poll ad cs _ _) rfl (by decide) rfl rfl dX6_clearTallies_9 ?_
    refine g_iload_n C 0 dX6_clearTallies_12 rfl ?_
    refine g_lconst C 0 dX6_clearTallies_13 (by decide) ?_
    have nx1_2 := ixn (x := x1_2) (by omega)
    refine g_last C (by decide) (ce_pupper ad cs _ _) (by rw [sJ_k]; rfl) (fin' (n := 10) rfl (by omega) (by omega)) dX6_clearTallies_14 ?_
    refine g_nmL (fun L5 hL5 => ?_)
    have hG : ∀ k i, k ≠ 91 ∧ k ≠ 92 → L5 k i = L k i := fun k i hk => by (rw [hL5, sJ_at, if_neg (by omega)]; try exact hG k i hk)
    have p92 : L5 92 = L_2 92 := by rw [hL5, sJ_n _ _ _ (by decide)]; try exact p92
    refine g_aload_n C 1 dX6_clearTallies_15 rfl ?_
    refine g_get C (.ref (ad 92)) 7 in_X6_clearTallies_6 (List.mem_of_getElem? (i := 2) rfl) (by decide) (ce_poll ad cs _ _) rfl (by decide) rfl rfl dX6_clearTallies_16 ?_
    refine g_iload_n C 0 dX6_clearTallies_19 rfl ?_
    refine g_lconst C 1 dX6_clearTallies_20 (by decide) ?_
    have nx1_2 := ixn (x := x1_2) (by omega)
    refine g_last C (by decide) (ce_plower ad cs _ _) (by rw [sJ_k]; rfl) (fin' (n := 10) rfl (by omega) (by omega)) dX6_clearTallies_21 ?_
    refine g_nmL (fun L6 hL6 => ?_)
    have hG : ∀ k i, k ≠ 91 ∧ k ≠ 92 → L6 k i = L k i := fun k i hk => by (rw [hL6, sJ_at, if_neg (by omega)]; try exact hG k i hk)
    obtain ⟨v7, ev7⟩ : ∃ y : Int32, y = x1_2 + 1 := ⟨_, rfl⟩
    try have fv7 := fadd rfl (by decide : (1 : Int32).toInt = 1) ev7 (by omega) (by omega)
    refine g_iinc C 0 v7 [(1, .int v7), (0, .ref (ad 88))] dX6_clearTallies_22 rfl (by rw [ev7]; rfl) (by decide) rfl ?_
    refine g_goto C 2 dX6_clearTallies_25 (by decide) ?_
    have nv := ixn (x := v7) (by omega)
    have hall : ∀ j : Nat, j < v7.toNatClampNeg → L6 91 j = 0 ∧ L6 92 j = 1 := by
      intro j hj
      rw [hL6, sJ_n _ _ _ (by decide), sJ_at, hL5, sJ_at, sJ_n _ _ _ (by decide)]
      by_cases e9 : j = x1_2.toNatClampNeg
      · rw [if_pos ⟨rfl, e9⟩, if_pos ⟨rfl, e9⟩]; exact ⟨rfl, rfl⟩
      · rw [if_neg (fun h => e9 h.2), if_neg (fun h => e9 h.2)]; exact j2_2 j (by omega)
    exact ih_2 (v7, M_2, L6) ⟨by show 0 ≤ v7.toInt; omega, by show v7.toInt ≤ 10; omega, by show ∀ j : Nat, j < v7.toNatClampNeg → L6 91 j = 0 ∧ L6 92 j = 1; exact hall, hI, hF, hG⟩ (by show (11 - v7.toInt).toNat < (11 - x1_2.toInt).toNat; omega)
set_option maxHeartbeats 4000000 in
set_option maxRecDepth 100000 in
theorem k_X6_papersOf (l : Launch) (D : va_G) (ad : Nat → Nat) (cs : Nat → ClassId) (M : MI) (L : ML) (x : Int32) (hI : IC M) (hx : 0 ≤ x.toInt ∧ x.toInt < 40) : Ci l yX6_papersOf wsX6_papersOf ({ frames := 0, cells := 0, slots := 0, locals := 0 }) D ad cs [.ref (ad 88), .int x] M L (fun r M1 L1 => M1 = M ∧ L1 = L ∧ (r = vC M 3 (M 89 (x.toNatClampNeg)).toNatClampNeg)) := by
  refine enter_i RX6 rfl [(0, .ref (ad 88)), (1, .int x)] rfl (Nat.le_of_ble_eq_true rfl) (by decide +kernel) rfl ?_
  intro p e s m below meth c C hr
  have hF : ∀ k i, True → M k i = M k i := fun _ _ _ => rfl
  have hG : ∀ k i, True → L k i = L k i := fun _ _ _ => rfl
  have w0 : (vC M 0 0).toInt = (M 1 0).toInt := rfl
  have w1 : (vC M 0 1).toInt = (M 3 0).toInt := rfl
  have w2 : (vC M 0 2).toInt = (M 68 0).toInt := rfl
  have w3 : (vC M 0 3).toInt = (M 81 0).toInt := rfl
  obtain ⟨y0a, y0b⟩ := (show rg 0 10 (M 1 0) from hI 1 0 rfl)
  obtain ⟨y1a, y1b⟩ := (show rg 0 60 (M 3 0) from hI 3 0 rfl)
  obtain ⟨y2a, y2b⟩ := (show rg 0 8 (M 68 0) from hI 68 0 rfl)
  obtain ⟨y3a, y3b⟩ := (show rg 0 20 (M 81 0) from hI 81 0 rfl)
  obtain ⟨hx1, hx2⟩ := hx
  have nx := ixn hx1
  obtain ⟨ly1, ly2⟩ := (show rg 0 59 (M 89 x.toNatClampNeg) from hI 89 _)
  have nly := ixn ly1
  refine g_aload_n C 0 dX6_papersOf_0 rfl ?_
  refine g_get C (.ref (ad 3)) 1 in_X6_papersOf_6 (List.mem_of_getElem? (i := 1) rfl) (by decide) (ce_poll ad cs _ _) rfl (by decide) rfl rfl dX6_papersOf_1 ?_
  refine g_get C (.ref (ad 5)) 2 in_X6_papersOf_0 (List.mem_of_getElem? (i := 2) rfl) (by decide) (ce_ball ad cs _ _) rfl (by decide) rfl rfl dX6_papersOf_4 ?_
  refine g_aload_n C 0 dX6_papersOf_7 rfl ?_
  refine g_get C (.ref (ad 89)) 2 in_X6_papersOf_6 (List.mem_of_getElem? (i := 3) rfl) (by decide) (ce_poll ad cs _ _) rfl (by decide) rfl rfl dX6_papersOf_8 ?_
  refine g_iload_n C 1 dX6_papersOf_11 rfl ?_
  have nx := ixn (x := x) (by omega)
  refine g_iald C (by decide) (ce_plying ad cs _ _) (fin' (n := 40) rfl (by omega) (by omega)) dX6_papersOf_12 ?_
  refine g_ni (fun v1 ev1 => ?_)
  have gv1 : v1 = M 89 x.toNatClampNeg := ev1
  have tv1 := congrArg Int32.toInt gv1
  obtain ⟨bv1, dv1⟩ := (show rg 0 59 v1 from (by rw [ev1]; exact hI 89 x.toNatClampNeg))
  have nv1 := ixn (x := v1) (by omega)
  refine g_iald C (by decide) (ce_bpapers ad cs _ _) (fin' (n := 60) rfl (by omega) (by omega)) dX6_papersOf_13 ?_
  refine g_ni (fun v2 ev2 => ?_)
  have gv2 : v2 = vC M 3 v1.toNatClampNeg := ev2
  have tv2 := congrArg Int32.toInt gv2
  exact g_iret C hr ⟨rfl, rfl, (by simp only [gv2, gv1])⟩ dX6_papersOf_14
set_option maxHeartbeats 4000000 in
set_option maxRecDepth 100000 in
theorem k_X6_firstIn (l : Launch) (D : va_G) (ad : Nat → Nat) (cs : Nat → ClassId) (M : MI) (L : ML) (x : Int32) (hI : IC M) (hx : 0 ≤ x.toInt ∧ x.toInt < 40) : Ci l yX6_firstIn wsX6_firstIn ({ frames := 0, cells := 0, slots := 0, locals := 0 }) D ad cs [.ref (ad 88), .int x] M L (fun r M1 L1 => M1 = M ∧ L1 = L ∧ (r = fiV (vC M) (M 90) (M 89 (x.toNatClampNeg)).toNatClampNeg)) := by
  refine enter_i RX6 rfl [(0, .ref (ad 88)), (1, .int x)] rfl (Nat.le_of_ble_eq_true rfl) (by decide +kernel) rfl ?_
  intro p e s m below meth c C hr
  have hF : ∀ k i, True → M k i = M k i := fun _ _ _ => rfl
  have hG : ∀ k i, True → L k i = L k i := fun _ _ _ => rfl
  have w0 : (vC M 0 0).toInt = (M 1 0).toInt := rfl
  have w1 : (vC M 0 1).toInt = (M 3 0).toInt := rfl
  have w2 : (vC M 0 2).toInt = (M 68 0).toInt := rfl
  have w3 : (vC M 0 3).toInt = (M 81 0).toInt := rfl
  obtain ⟨y0a, y0b⟩ := (show rg 0 10 (M 1 0) from hI 1 0 rfl)
  obtain ⟨y1a, y1b⟩ := (show rg 0 60 (M 3 0) from hI 3 0 rfl)
  obtain ⟨y2a, y2b⟩ := (show rg 0 8 (M 68 0) from hI 68 0 rfl)
  obtain ⟨y3a, y3b⟩ := (show rg 0 20 (M 81 0) from hI 81 0 rfl)
  obtain ⟨hx1, hx2⟩ := hx
  have nx := ixn hx1
  obtain ⟨ly1, ly2⟩ := (show rg 0 59 (M 89 x.toNatClampNeg) from hI 89 _)
  have nly := ixn ly1
  obtain ⟨oa, ob⟩ := (show rg 0 10 (vC M 4 (M 89 x.toNatClampNeg).toNatClampNeg) from hI 6 _)
  have no := ixn oa
  refine g_aload_n C 0 dX6_firstIn_0 rfl ?_
  refine g_get C (.ref (ad 89)) 2 in_X6_firstIn_6 (List.mem_of_getElem? (i := 1) rfl) (by decide) (ce_poll ad cs _ _) rfl (by decide) rfl rfl dX6_firstIn_1 ?_
  refine g_iload_n C 1 dX6_firstIn_4 rfl ?_
  have nx := ixn (x := x) (by omega)
  refine g_iald C (by decide) (ce_plying ad cs _ _) (fin' (n := 40) rfl (by omega) (by omega)) dX6_firstIn_5 ?_
  refine g_ni (fun v1 ev1 => ?_)
  have gv1 : v1 = M 89 x.toNatClampNeg := ev1
  have tv1 := congrArg Int32.toInt gv1
  obtain ⟨bv1, dv1⟩ := (show rg 0 59 v1 from (by rw [ev1]; exact hI 89 x.toNatClampNeg))
  subst gv1
  refine g_istore_n C [(2, .int ((M 89 x.toNatClampNeg))), (0, .ref (ad 88)), (1, .int x)] dX6_firstIn_6 (by decide) rfl ?_
  refine g_iconst C 0 dX6_firstIn_7 (by decide) ?_
  refine g_istore_n C [(3, .int 0), (2, .int ((M 89 x.toNatClampNeg))), (0, .ref (ad 88)), (1, .int x)] dX6_firstIn_8 (by decide) rfl ?_
  have zy2 : (0 : Int32).toInt = 0 := by decide
  refine g_loop (α := Int32 × MI × ML) (fun a => (11 - a.1.toInt).toNat) (fun a => (0 ≤ a.1.toInt) ∧ (a.1.toInt ≤ 10) ∧ (fiF (vC M) (M 90) (M 89 x.toNatClampNeg).toNatClampNeg ((vC M 4 (M 89 x.toNatClampNeg).toNatClampNeg).toNatClampNeg - a.1.toNatClampNeg) a.1.toNatClampNeg = fiV (vC M) (M 90) (M 89 x.toNatClampNeg).toNatClampNeg) ∧ IC a.2.1 ∧ (∀ k i, True → a.2.1 k i = M k i) ∧ (∀ k i, True → a.2.2 k i = L k i)) (fun a => a.2.1) (fun a => a.2.2) (fun a => [(3, .int a.1), (2, .int ((M 89 x.toNatClampNeg))), (0, .ref (ad 88)), (1, .int x)]) ((0 : Int32), M, L) ⟨by show 0 ≤ (0 : Int32).toInt; omega, by show (0 : Int32).toInt ≤ 10; omega, by show fiF (vC M) (M 90) (M 89 x.toNatClampNeg).toNatClampNeg ((vC M 4 (M 89 x.toNatClampNeg).toNatClampNeg).toNatClampNeg - (0 : Int32).toNatClampNeg) (0 : Int32).toNatClampNeg = fiV (vC M) (M 90) (M 89 x.toNatClampNeg).toNatClampNeg; rfl, hI, hF, hG⟩ rfl rfl rfl ?_
  rintro ⟨x3_9, M_9, L_9⟩ ⟨j9_0, j9_1, j9_2, hI, hF, hG⟩ ih_9
  dsimp only at j9_0 j9_1 j9_2 hI hF hG ih_9 ⊢
  have n3 := ixn (x := x3_9) (by omega)
  refine g_iload_n C 0 dX6_firstIn_9 rfl ?_
  refine g_aload_n C 2 dX6_firstIn_10 rfl ?_
  refine g_get C (.ref (ad 3)) 1 in_X6_firstIn_6 (List.mem_of_getElem? (i := 2) rfl) (by decide) (ce_poll ad cs _ _) rfl (by decide) rfl rfl dX6_firstIn_11 ?_
  refine g_get C (.ref (ad 6)) 3 in_X6_firstIn_0 (List.mem_of_getElem? (i := 3) rfl) (by decide) (ce_ball ad cs _ _) rfl (by decide) rfl rfl dX6_firstIn_14 ?_
  refine g_iload_n C 1 dX6_firstIn_17 rfl ?_
  have n_M_89_x_toNatClampNeg_ := ixn (x := (M 89 x.toNatClampNeg)) (by omega)
  refine g_iald C (by decide) (ce_bonit ad cs _ _) (fin' (n := 60) rfl (by omega) (by omega)) dX6_firstIn_18 ?_
  refine g_ni (fun v3 ev3 => ?_)
  have gv3 : v3 = vC M 4 (((M 89 x.toNatClampNeg)).toNatClampNeg) := ev3.trans (hF 6 (((M 89 x.toNatClampNeg)).toNatClampNeg) trivial)
  have tv3 := congrArg Int32.toInt gv3
  obtain ⟨bv3, dv3⟩ := (show rg 0 10 v3 from (by rw [ev3]; exact hI 6 (((M 89 x.toNatClampNeg)).toNatClampNeg)))
  refine g_icmp_ge C 54 dX6_firstIn_19 (by decide) (fun c4 => ?_) (fun c4 => ?_)
  ·
    have f5 := fle rfl rfl c4
    refine g_bipush C (-9) dX6_firstIn_54 (by decide) ?_
    have zr9 : ((-9) : Int32).toInt = (-9) := by decide
    exact g_iret C hr ⟨funext (fun k => funext (fun i => hF k i trivial)), funext (fun k => funext (fun i => hG k i trivial)), (by rw [← j9_2, fiF_end (by omega)])⟩ dX6_firstIn_56
  ·
    have f6 := fnle rfl rfl c4
    refine g_aload_n C 2 dX6_firstIn_22 rfl ?_
    refine g_get C (.ref (ad 3)) 1 in_X6_firstIn_6 (List.mem_of_getElem? (i := 2) rfl) (by decide) (ce_poll ad cs _ _) rfl (by decide) rfl rfl dX6_firstIn_23 ?_
    refine g_get C (.ref (ad 7)) 4 in_X6_firstIn_0 (List.mem_of_getElem? (i := 4) rfl) (by decide) (ce_ball ad cs _ _) rfl (by decide) rfl rfl dX6_firstIn_26 ?_
    refine g_iload_n C 1 dX6_firstIn_29 rfl ?_
    have hi7 : vp_in (M 89 x.toNatClampNeg) 60 := (fin' (n := 60) rfl (by omega) (by omega))
    have nhi7 := tn hi7
    have mhi7 := ixn (x := (M 89 x.toNatClampNeg)) (by omega)
    refine g_aald C (by decide) (ce_browm ad cs _ _) rfl hi7 dX6_firstIn_30 ?_
    refine g_iload_n C 0 dX6_firstIn_31 rfl ?_
    have nx3_9 := ixn (x := x3_9) (by omega)
    refine g_iald C (by omega) (ce_brow ad cs _ _ nhi7) (fin' (n := 10) rfl (by omega) (by omega)) dX6_firstIn_32 ?_
    refine g_ni (fun v8 ev8 => ?_)
    have gv8 := ev8.trans (hF (8 + ((M 89 x.toNatClampNeg)).toNatClampNeg) x3_9.toNatClampNeg trivial)
    have gv8 := gv8.trans (vC5 (M := M) (by omega) (by omega)).symm
    have tv8 := congrArg Int32.toInt gv8
    obtain ⟨bv8, dv8⟩ := (show rg 0 9 v8 from (by rw [ev8]; exact hI.row _ (by omega) (by omega)))
    refine g_istore C [(4, .int v8), (3, .int x3_9), (2, .int ((M 89 x.toNatClampNeg))), (0, .ref (ad 88)), (1, .int x)] dX6_firstIn_33 (by decide) rfl ?_
    refine g_aload_n C 3 dX6_firstIn_35 rfl ?_
    refine g_get C (.ref (ad 90)) 5 in_X6_firstIn_6 (List.mem_of_getElem? (i := 5) rfl) (by decide) (ce_poll ad cs _ _) rfl (by decide) rfl rfl dX6_firstIn_36 ?_
    refine g_iload C 0 dX6_firstIn_39 rfl ?_
    have nv8 := ixn (x := v8) (by omega)
    refine g_zald C (by decide) (ce_pin ad cs _ _) (fin' (n := 10) rfl (by omega) (by omega)) dX6_firstIn_41 ?_
    refine g_ni (fun v9 ev9 => ?_)
    have gv9 : v9 = M 90 v8.toNatClampNeg := ev9.trans (hF 90 v8.toNatClampNeg trivial)
    have tv9 := congrArg Int32.toInt gv9
    have tb9 := tv9
    rw [gv8] at tb9
    refine g_if_eq C 48 dX6_firstIn_42 (by decide) (fun c10 => ?_) (fun c10 => ?_)
    ·
      have f11 := feq rfl (by decide : (0 : Int32).toInt = 0) c10
      obtain ⟨v12, ev12⟩ : ∃ y : Int32, y = x3_9 + 1 := ⟨_, rfl⟩
      try have fv12 := fadd rfl (by decide : (1 : Int32).toInt = 1) ev12 (by omega) (by omega)
      refine g_iinc C 1 v12 [(3, .int v12), (4, .int v8), (2, .int ((M 89 x.toNatClampNeg))), (0, .ref (ad 88)), (1, .int x)] dX6_firstIn_48 rfl (by rw [ev12]; rfl) (by decide) rfl ?_
      refine g_goto C 9 dX6_firstIn_51 (by decide) ?_
      refine g_lv [0, 2, 3, 4] [(3, .int v12), (2, .int ((M 89 x.toNatClampNeg))), (0, .ref (ad 88)), (1, .int x)] rfl ?_
      have nv := ixn (x := v12) (by omega)
      have iv : v12.toNatClampNeg = x3_9.toNatClampNeg + 1 := by omega
      exact ih_9 (v12, M_9, L_9) ⟨by show 0 ≤ v12.toInt; omega, by show v12.toInt ≤ 10; omega, by show fiF (vC M) (M 90) (M 89 x.toNatClampNeg).toNatClampNeg ((vC M 4 (M 89 x.toNatClampNeg).toNatClampNeg).toNatClampNeg - v12.toNatClampNeg) v12.toNatClampNeg = fiV (vC M) (M 90) (M 89 x.toNatClampNeg).toNatClampNeg; rw [iv, ← j9_2, fiF_go (k := x3_9.toNatClampNeg) (by omega) (by omega)], hI, hF, hG⟩ (by show (11 - v12.toInt).toNat < (11 - x3_9.toInt).toNat; omega)
    ·
      have f13 := fne rfl (by decide : (0 : Int32).toInt = 0) c10
      refine g_iload C 0 dX6_firstIn_45 rfl ?_
      exact g_iret C hr ⟨funext (fun k => funext (fun i => hF k i trivial)), funext (fun k => funext (fun i => hG k i trivial)), (by rw [← j9_2, fiF_hit (k := x3_9.toNatClampNeg) (by omega) (by omega)]; exact gv8)⟩ dX6_firstIn_47
set_option maxHeartbeats 4000000 in
set_option maxRecDepth 100000 in
theorem k_X6_tallyFirstIn (l : Launch) (D : va_G) (ad : Nat → Nat) (cs : Nat → ClassId) (M : MI) (L : ML)  (hI : IC M) : Cv l yX6_tallyFirstIn wsX6_tallyFirstIn ({ frames := 1, cells := 0, slots := 0, locals := 24 }) D ad cs [.ref (ad 88)] M L (fun M1 L1 => (∀ c, c < 10 → L1 91 c = foK (stF (vC M) (M 90)) (M 89) (M 88 3).toNatClampNeg (fun _ => 0) c ∧ L1 92 c = 1) ∧ IC M1 ∧ (∀ k i, True → M1 k i = M k i) ∧ ∀ k i, k ≠ 91 ∧ k ≠ 92 → L1 k i = L k i) := by
  refine enter_v RX6 rfl [(0, .ref (ad 88))] rfl (Nat.le_of_ble_eq_true rfl) (by decide +kernel) rfl ?_
  intro p e s m below meth c C hr
  have hF : ∀ k i, True → M k i = M k i := fun _ _ _ => rfl
  have hG : ∀ k i, k ≠ 91 ∧ k ≠ 92 → L k i = L k i := fun _ _ _ => rfl
  have w0 : (vC M 0 0).toInt = (M 1 0).toInt := rfl
  have w1 : (vC M 0 1).toInt = (M 3 0).toInt := rfl
  have w2 : (vC M 0 2).toInt = (M 68 0).toInt := rfl
  have w3 : (vC M 0 3).toInt = (M 81 0).toInt := rfl
  obtain ⟨y0a, y0b⟩ := (show rg 0 10 (M 1 0) from hI 1 0 rfl)
  obtain ⟨y1a, y1b⟩ := (show rg 0 60 (M 3 0) from hI 3 0 rfl)
  obtain ⟨y2a, y2b⟩ := (show rg 0 8 (M 68 0) from hI 68 0 rfl)
  obtain ⟨y3a, y3b⟩ := (show rg 0 20 (M 81 0) from hI 81 0 rfl)
  have hI0 := hI
  obtain ⟨ma, mb⟩ := (show rg 0 40 (M 88 3) from (hI 88 3).1 rfl)
  have nm := ixn ma
  have p91 : L 91 = L 91 := rfl
  have p92 : L 92 = L 92 := rfl
  refine g_aload_n C 0 dX6_tallyFirstIn_0 rfl ?_
  refine g_callVv C (n := 0) (As := []) (st := []) (k_X6_clearTallies l D ad cs _ _  hI ) gX6_tallyFirstIn_X6_clearTallies rfl rfl rfl (by decide +kernel) ⟨Nat.le_of_ble_eq_true rfl, Nat.le_of_ble_eq_true rfl⟩ rfl (Nat.le_of_ble_eq_true rfl) ⟨Nat.zero_le _, Nat.zero_le _⟩ (by decide) (ce_poll ad cs _ _) rfl rfl dX6_tallyFirstIn_1 (fun M2 L3 hr1 => ?_)
  obtain ⟨hr1, hI, hFr1, hGr1⟩ := hr1
  have hF : ∀ k i, True → M2 k i = M k i := fun k i hk => by (rw [hFr1 k i trivial]; try exact hF k i hk)
  have hG : ∀ k i, k ≠ 91 ∧ k ≠ 92 → L3 k i = L k i := fun k i hk => by (rw [hGr1 k i (by omega)]; try exact hG k i hk)
  have p91 : L3 91 = L3 91 := rfl
  have p92 : L3 92 = L3 92 := rfl
  have hnt := hr1
  refine g_iconst C 0 dX6_tallyFirstIn_4 (by decide) ?_
  refine g_istore_n C [(1, .int 0), (0, .ref (ad 88))] dX6_tallyFirstIn_5 (by decide) rfl ?_
  have zy4 : (0 : Int32).toInt = 0 := by decide
  refine g_loop (α := Int32 × MI × ML) (fun a => (41 - a.1.toInt).toNat) (fun a => (0 ≤ a.1.toInt) ∧ (a.1.toInt ≤ (M 88 3).toInt) ∧ (∀ c, c < 10 → a.2.2 91 c = foK (stF (vC M) (M 90)) (M 89) a.1.toNatClampNeg (fun _ => 0) c ∧ a.2.2 92 c = 1) ∧ IC a.2.1 ∧ (∀ k i, True → a.2.1 k i = M k i) ∧ (∀ k i, k ≠ 91 ∧ k ≠ 92 → a.2.2 k i = L k i)) (fun a => a.2.1) (fun a => a.2.2) (fun a => [(1, .int a.1), (0, .ref (ad 88))]) ((0 : Int32), M2, L3) ⟨by show 0 ≤ (0 : Int32).toInt; omega, by show (0 : Int32).toInt ≤ (M 88 3).toInt; omega, by show ∀ c, c < 10 → L3 91 c = foK (stF (vC M) (M 90)) (M 89) (0 : Int32).toNatClampNeg (fun _ => 0) c ∧ L3 92 c = 1; exact hnt, hI, hF, hG⟩ rfl rfl rfl ?_
  rintro ⟨x1_6, M_6, L_6⟩ ⟨j6_0, j6_1, j6_2, hI, hF, hG⟩ ih_6
  dsimp only at j6_0 j6_1 j6_2 hI hF hG ih_6 ⊢
  have p91 : L_6 91 = L_6 91 := rfl
  have p92 : L_6 92 = L_6 92 := rfl
  have n1 := ixn (x := x1_6) (by omega)
  have eM : M_6 = M := funext (fun k => funext (fun i => hF k i trivial))
  refine g_iload_n C 0 dX6_tallyFirstIn_6 rfl ?_
  refine g_aload_n C 1 dX6_tallyFirstIn_7 rfl ?_
  refine g_get C (.int (M_6 88 3)) 3 in_X6_tallyFirstIn_6 (List.mem_of_getElem? (i := 1) rfl) (by decide) (ce_poll ad cs _ _) rfl (by decide) rfl rfl dX6_tallyFirstIn_8 ?_
  refine g_ni (fun v5 ev5 => ?_)
  have gv5 : v5 = M 88 3 := ev5.trans (hF 88 3 trivial)
  have tv5 := congrArg Int32.toInt gv5
  obtain ⟨bv5, dv5⟩ := (show rg 0 40 v5 from (by rw [ev5]; exact (hI 88 3).1 rfl))
  refine g_icmp_ge C 47 dX6_tallyFirstIn_11 (by decide) (fun c6 => ?_) (fun c6 => ?_)
  ·
    have f7 := fle rfl rfl c6
    exact g_vret C hr ⟨(by have e9 : x1_6.toNatClampNeg = (M 88 3).toNatClampNeg := (by omega); rw [e9] at j6_2; exact j6_2), hI, hF, hG⟩ dX6_tallyFirstIn_47
  ·
    have f8 := fnle rfl rfl c6
    refine g_aload_n C 1 dX6_tallyFirstIn_14 rfl ?_
    refine g_iload_n C 0 dX6_tallyFirstIn_15 rfl ?_
    refine g_callVi C (n := 1) (As := [.int x1_6]) (st := []) (k_X6_firstIn l D ad cs _ _ x1_6 hI ⟨by omega, by omega⟩) gX6_tallyFirstIn_X6_firstIn rfl rfl rfl (by decide +kernel) ⟨Nat.le_of_ble_eq_true rfl, Nat.le_of_ble_eq_true rfl⟩ rfl (Nat.le_of_ble_eq_true rfl) ⟨Nat.zero_le _, Nat.zero_le _⟩ (by decide) (ce_poll ad cs _ _) rfl rfl dX6_tallyFirstIn_16 (fun r9 M10 L11 hr9 => ?_)
    obtain ⟨hq1, hq2, hr9⟩ := hr9
    obtain rfl := hq1.symm
    obtain rfl := hq2.symm
    rw [eM] at hr9
    have tr9 := congrArg Int32.toInt hr9
    have fin9 : r9.toInt = -9 ∨ (0 ≤ r9.toInt ∧ r9.toInt ≤ 9) := by rw [hr9]; exact (fiF_in (V := vC M) (vC5b hI0) _ _).elim Or.inl (fun q9 => Or.inr ⟨q9.1, q9.2.1⟩)
    refine g_istore_n C [(2, .int r9), (1, .int x1_6), (0, .ref (ad 88))] dX6_tallyFirstIn_19 (by decide) rfl ?_
    refine g_iload_n C 0 dX6_tallyFirstIn_20 rfl ?_
    refine g_bipush C (-9) dX6_tallyFirstIn_21 (by decide) ?_
    refine g_icmp_eq C 41 dX6_tallyFirstIn_23 (by decide) (fun c12 => ?_) (fun c12 => ?_)
    ·
      have f13 := feq rfl (by decide : ((-9) : Int32).toInt = (-9)) c12
      obtain ⟨v14, ev14⟩ : ∃ y : Int32, y = x1_6 + 1 := ⟨_, rfl⟩
      try have fv14 := fadd rfl (by decide : (1 : Int32).toInt = 1) ev14 (by omega) (by omega)
      refine g_iinc C 1 v14 [(1, .int v14), (2, .int r9), (0, .ref (ad 88))] dX6_tallyFirstIn_41 rfl (by rw [ev14]; rfl) (by decide) rfl ?_
      refine g_goto C 6 dX6_tallyFirstIn_44 (by decide) ?_
      refine g_lv [0, 2] [(1, .int v14), (0, .ref (ad 88))] rfl ?_
      have nv := ixn (x := v14) (by omega)
      have iv : v14.toNatClampNeg = x1_6.toNatClampNeg + 1 := by omega
      have w9 : ∀ c, c < 10 → L_6 91 c = foK (stF (vC M) (M 90)) (M 89) (x1_6.toNatClampNeg + 1) (fun _ => 0) c ∧ L_6 92 c = 1 := by
        intro c hc
        refine ⟨?_, (j6_2 c hc).2⟩
        show _ = stF (vC M) (M 90) x1_6.toNatClampNeg (M 89 x1_6.toNatClampNeg).toNatClampNeg (foK (stF (vC M) (M 90)) (M 89) x1_6.toNatClampNeg (fun _ => 0)) c
        unfold stF
        rw [if_pos (by rw [← hr9]; omega)]
        exact (j6_2 c hc).1
      exact ih_6 (v14, M_6, L_6) ⟨by show 0 ≤ v14.toInt; omega, by show v14.toInt ≤ (M 88 3).toInt; omega, by show ∀ c, c < 10 → L_6 91 c = foK (stF (vC M) (M 90)) (M 89) v14.toNatClampNeg (fun _ => 0) c ∧ L_6 92 c = 1; rw [iv]; exact w9, hI, hF, hG⟩ (by show (41 - v14.toInt).toNat < (41 - x1_6.toInt).toNat; omega)
    ·
      have f15 := fne rfl (by decide : ((-9) : Int32).toInt = (-9)) c12
      refine g_aload_n C 2 dX6_tallyFirstIn_26 rfl ?_
      refine g_get C (.ref (ad 91)) 6 in_X6_tallyFirstIn_6 (List.mem_of_getElem? (i := 2) rfl) (by decide) (ce_poll ad cs _ _) rfl (by decide) rfl rfl dX6_tallyFirstIn_27 ?_
      refine g_iload_n C 0 dX6_tallyFirstIn_30 rfl ?_
      refine g_dup2 C dX6_tallyFirstIn_31 rfl rfl ?_
      have nr9 := ixn (x := r9) (by omega)
      refine g_lald C (by decide) (ce_pupper ad cs _ _) (fin' (n := 10) rfl (by omega) (by omega)) dX6_tallyFirstIn_32 ?_
      refine g_nl (fun v16 ev16 => ?_)
      have gv16 : v16 = L_6 91 r9.toNatClampNeg := ev16.trans (congrFun p91 _)
      have tv16 := congrArg Int64.toInt gv16
      refine g_aload_n C 2 dX6_tallyFirstIn_33 rfl ?_
      refine g_iload_n C 1 dX6_tallyFirstIn_34 rfl ?_
      refine g_callVi C (n := 1) (As := [.int x1_6]) (st := [.long v16, .int r9, .ref (ad 91)]) (k_X6_papersOf l D ad cs _ _ x1_6 hI ⟨by omega, by omega⟩) gX6_tallyFirstIn_X6_papersOf rfl rfl rfl (by decide +kernel) ⟨Nat.le_of_ble_eq_true rfl, Nat.le_of_ble_eq_true rfl⟩ rfl (Nat.le_of_ble_eq_true rfl) ⟨Nat.zero_le _, Nat.zero_le _⟩ (by decide) (ce_poll ad cs _ _) rfl rfl dX6_tallyFirstIn_35 (fun r17 M18 L19 hr17 => ?_)
      obtain ⟨hq1, hq2, hr17⟩ := hr17
      obtain rfl := hq1.symm
      obtain rfl := hq2.symm
      rw [eM] at hr17
      refine g_i2l C dX6_tallyFirstIn_38 ?_
      refine g_nl (fun v20 ev20 => ?_)
      have fv20 := fi2l rfl ev20
      refine g_ladd C dX6_tallyFirstIn_39 ?_
      refine g_nl (fun v21 ev21 => ?_)
      try have fv21 := fladd rfl rfl ev21 (by omega) (by omega)
      have nr9 := ixn (x := r9) (by omega)
      refine g_last C (by decide) (ce_pupper ad cs _ _) (by rw [sJ_k]; rfl) (fin' (n := 10) rfl (by omega) (by omega)) dX6_tallyFirstIn_40 ?_
      refine g_nmL (fun L22 hL22 => ?_)
      have hG : ∀ k i, k ≠ 91 ∧ k ≠ 92 → L22 k i = L k i := fun k i hk => by (rw [hL22, sJ_at, if_neg (by omega)]; try exact hG k i hk)
      have p92 : L22 92 = L_6 92 := by rw [hL22, sJ_n _ _ _ (by decide)]; try exact p92
      obtain ⟨v23, ev23⟩ : ∃ y : Int32, y = x1_6 + 1 := ⟨_, rfl⟩
      try have fv23 := fadd rfl (by decide : (1 : Int32).toInt = 1) ev23 (by omega) (by omega)
      refine g_iinc C 1 v23 [(1, .int v23), (2, .int r9), (0, .ref (ad 88))] dX6_tallyFirstIn_41 rfl (by rw [ev23]; rfl) (by decide) rfl ?_
      refine g_goto C 6 dX6_tallyFirstIn_44 (by decide) ?_
      refine g_lv [0, 2] [(1, .int v23), (0, .ref (ad 88))] rfl ?_
      have nv := ixn (x := v23) (by omega)
      have iv : v23.toNatClampNeg = x1_6.toNatClampNeg + 1 := by omega
      have w9 : ∀ c, c < 10 → L22 91 c = foK (stF (vC M) (M 90)) (M 89) (x1_6.toNatClampNeg + 1) (fun _ => 0) c ∧ L22 92 c = 1 := by
        intro c hc
        refine ⟨?_, by rw [congrFun p92 c]; exact (j6_2 c hc).2⟩
        show _ = stF (vC M) (M 90) x1_6.toNatClampNeg (M 89 x1_6.toNatClampNeg).toNatClampNeg (foK (stF (vC M) (M 90)) (M 89) x1_6.toNatClampNeg (fun _ => 0)) c
        generalize foK (stF (vC M) (M 90)) (M 89) x1_6.toNatClampNeg (fun _ => 0) = U9 at j6_2 ⊢
        unfold stF
        rw [if_neg (by rw [← hr9]; omega), ← hr9, hL22, sJ_at]
        by_cases e9 : c = r9.toNatClampNeg
        · rw [if_pos ⟨rfl, e9⟩, show ∀ (G : Nat → Int64) (v : Int64), vp_updL G r9.toNatClampNeg v c = v from fun G v => if_pos e9, ← (j6_2 r9.toNatClampNeg (by have := ixn (x := r9) (by omega); omega)).1]; simp only [ev21, ev20, hr17, gv16, gv5]
        · rw [if_neg (fun h => e9 h.2), show ∀ (G : Nat → Int64) (v : Int64), vp_updL G r9.toNatClampNeg v c = G c from fun G v => if_neg e9]; exact (j6_2 c hc).1
      exact ih_6 (v23, M_6, L22) ⟨by show 0 ≤ v23.toInt; omega, by show v23.toInt ≤ (M 88 3).toInt; omega, by show ∀ c, c < 10 → L22 91 c = foK (stF (vC M) (M 90)) (M 89) v23.toNatClampNeg (fun _ => 0) c ∧ L22 92 c = 1; rw [iv]; exact w9, hI, hF, hG⟩ (by show (41 - v23.toInt).toNat < (41 - x1_6.toInt).toNat; omega)
