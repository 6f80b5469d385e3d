set_option maxHeartbeats 4000000 in
set_option maxRecDepth 100000 in
theorem k_X6_manyIn (l : Launch) (D : va_G) (ad : Nat → Nat) (cs : Nat → ClassId) (M : MI) (L : ML)  (hI : IC M) : Ci l yX6_manyIn wsX6_manyIn ({ frames := 0, cells := 0, slots := 0, locals := 0 }) D ad cs [.ref (ad 88)] M L (fun r M1 L1 => M1 = M ∧ L1 = L ∧ (r.toInt = (cI (M 90) 10 : Int))) := by
  refine enter_i RX6 rfl [(0, .ref (ad 88))] rfl (Nat.le_of_ble_eq_true rfl) (by decide +kernel) rfl ?_
  intro p e s m below meth c C hr
  have hF : ∀ k i, True → M k i = M k i := fun _ _ _ => rfl
  have hG : ∀ k i, True → L k i = L k i := fun _ _ _ => rfl
  have w0 : (vC M 0 0).toInt = (M 1 0).toInt := rfl
  have w1 : (vC M 0 1).toInt = (M 3 0).toInt := rfl
  have w2 : (vC M 0 2).toInt = (M 68 0).toInt := rfl
  have w3 : (vC M 0 3).toInt = (M 81 0).toInt := rfl
  obtain ⟨y0a, y0b⟩ := (show rg 0 10 (M 1 0) from hI 1 0 rfl)
  obtain ⟨y1a, y1b⟩ := (show rg 0 60 (M 3 0) from hI 3 0 rfl)
  obtain ⟨y2a, y2b⟩ := (show rg 0 8 (M 68 0) from hI 68 0 rfl)
  obtain ⟨y3a, y3b⟩ := (show rg 0 20 (M 81 0) from hI 81 0 rfl)
  refine g_iconst C 0 dX6_manyIn_0 (by decide) ?_
  refine g_istore_n C [(1, .int 0), (0, .ref (ad 88))] dX6_manyIn_1 (by decide) rfl ?_
  refine g_iconst C 0 dX6_manyIn_2 (by decide) ?_
  refine g_istore_n C [(2, .int 0), (1, .int 0), (0, .ref (ad 88))] dX6_manyIn_3 (by decide) rfl ?_
  have zy1 : (0 : Int32).toInt = 0 := by decide
  have zy2 : (0 : Int32).toInt = 0 := by decide
  refine g_loop (α := Int32 × Int32 × MI × ML) (fun a => (11 - a.1.toInt).toNat) (fun a => (0 ≤ a.1.toInt) ∧ (a.1.toInt ≤ 10) ∧ (a.2.1.toInt = (cI (M 90) a.1.toNatClampNeg : Int)) ∧ IC a.2.2.1 ∧ (∀ k i, True → a.2.2.1 k i = M k i) ∧ (∀ k i, True → a.2.2.2 k i = L k i)) (fun a => a.2.2.1) (fun a => a.2.2.2) (fun a => [(2, .int a.1), (1, .int a.2.1), (0, .ref (ad 88))]) ((0 : Int32), (0 : Int32), M, L) ⟨by show 0 ≤ (0 : Int32).toInt; omega, by show (0 : Int32).toInt ≤ 10; omega, by show (0 : Int32).toInt = (cI (M 90) (0 : Int32).toNatClampNeg : Int); rfl, hI, hF, hG⟩ rfl rfl rfl ?_
  rintro ⟨x2_4, x1_4, M_4, L_4⟩ ⟨j4_0, j4_1, j4_2, hI, hF, hG⟩ ih_4
  dsimp only at j4_0 j4_1 j4_2 hI hF hG ih_4 ⊢
  have hle := cI_le (M 90) x2_4.toNatClampNeg
  have n2 := ixn (x := x2_4) (by omega)
  refine g_iload_n C 0 dX6_manyIn_4 rfl ?_
  refine g_bipush C 10 dX6_manyIn_5 (by decide) ?_
  refine g_icmp_ge C 33 dX6_manyIn_7 (by decide) (fun c3 => ?_) (fun c3 => ?_)
  ·
    have f4 := fle (by decide : (10 : Int32).toInt = 10) rfl c3
    refine g_iload_n C 1 dX6_manyIn_33 rfl ?_
    exact g_iret C hr ⟨funext (fun k => funext (fun i => hF k i trivial)), funext (fun k => funext (fun i => hG k i trivial)), (by rw [j4_2, show x2_4.toNatClampNeg = 10 by omega])⟩ dX6_manyIn_34
  ·
    have f5 := fnle (by decide : (10 : Int32).toInt = 10) rfl c3
    refine g_iload_n C 1 dX6_manyIn_10 rfl ?_
    refine g_aload_n C 2 dX6_manyIn_11 rfl ?_
    refine g_get C (.ref (ad 90)) 5 in_X6_manyIn_6 (List.mem_of_getElem? (i := 1) rfl) (by decide) (ce_poll ad cs _ _) rfl (by decide) rfl rfl dX6_manyIn_12 ?_
    refine g_iload_n C 0 dX6_manyIn_15 rfl ?_
    have nx2_4 := ixn (x := x2_4) (by omega)
    refine g_zald C (by decide) (ce_pin ad cs _ _) (fin' (n := 10) rfl (by omega) (by omega)) dX6_manyIn_16 ?_
    refine g_ni (fun v6 ev6 => ?_)
    have gv6 : v6 = M 90 x2_4.toNatClampNeg := ev6.trans (hF 90 x2_4.toNatClampNeg trivial)
    have tv6 := congrArg Int32.toInt gv6
    refine g_if_eq C 24 dX6_manyIn_17 (by decide) (fun c7 => ?_) (fun c7 => ?_)
    ·
      have f8 := feq rfl (by decide : (0 : Int32).toInt = 0) c7
      refine g_iconst C 0 dX6_manyIn_24 (by decide) ?_
      refine g_iadd C dX6_manyIn_25 ?_
      refine g_ni (fun v9 ev9 => ?_)
      try have fv9 := fadd rfl (by decide : (0 : Int32).toInt = 0) ev9 (by omega) (by omega)
      refine g_istore_n C [(1, .int v9), (2, .int x2_4), (0, .ref (ad 88))] dX6_manyIn_26 (by decide) rfl ?_
      obtain ⟨v10, ev10⟩ : ∃ y : Int32, y = x2_4 + 1 := ⟨_, rfl⟩
      try have fv10 := fadd rfl (by decide : (1 : Int32).toInt = 1) ev10 (by omega) (by omega)
      refine g_iinc C 1 v10 [(2, .int v10), (1, .int v9), (0, .ref (ad 88))] dX6_manyIn_27 rfl (by rw [ev10]; rfl) (by decide) rfl ?_
      refine g_goto C 4 dX6_manyIn_30 (by decide) ?_
      have nv := ixn (x := v10) (by omega)
      have iv : v10.toNatClampNeg = x2_4.toNatClampNeg + 1 := by omega
      exact ih_4 (v10, v9, M_4, L_4) ⟨by show 0 ≤ v10.toInt; omega, by show v10.toInt ≤ 10; omega, by show v9.toInt = (cI (M 90) v10.toNatClampNeg : Int); rw [iv]; show _ = ((cI (M 90) x2_4.toNatClampNeg + (if (M 90 x2_4.toNatClampNeg).toInt = 0 then 0 else 1) : Nat) : Int); first | (rw [if_pos (by omega)]; omega) | (rw [if_neg (by omega)]; omega), hI, hF, hG⟩ (by show (11 - v10.toInt).toNat < (11 - x2_4.toInt).toNat; omega)
    ·
      have f11 := fne rfl (by decide : (0 : Int32).toInt = 0) c7
      refine g_iconst C 1 dX6_manyIn_20 (by decide) ?_
      refine g_goto C 25 dX6_manyIn_21 (by decide) ?_
      refine g_iadd C dX6_manyIn_25 ?_
      refine g_ni (fun v12 ev12 => ?_)
      try have fv12 := fadd rfl (by decide : (1 : Int32).toInt = 1) ev12 (by omega) (by omega)
      refine g_istore_n C [(1, .int v12), (2, .int x2_4), (0, .ref (ad 88))] dX6_manyIn_26 (by decide) rfl ?_
      obtain ⟨v13, ev13⟩ : ∃ y : Int32, y = x2_4 + 1 := ⟨_, rfl⟩
      try have fv13 := fadd rfl (by decide : (1 : Int32).toInt = 1) ev13 (by omega) (by omega)
      refine g_iinc C 1 v13 [(2, .int v13), (1, .int v12), (0, .ref (ad 88))] dX6_manyIn_27 rfl (by rw [ev13]; rfl) (by decide) rfl ?_
      refine g_goto C 4 dX6_manyIn_30 (by decide) ?_
      have nv := ixn (x := v13) (by omega)
      have iv : v13.toNatClampNeg = x2_4.toNatClampNeg + 1 := by omega
      exact ih_4 (v13, v12, M_4, L_4) ⟨by show 0 ≤ v13.toInt; omega, by show v13.toInt ≤ 10; omega, by show v12.toInt = (cI (M 90) v13.toNatClampNeg : Int); rw [iv]; show _ = ((cI (M 90) x2_4.toNatClampNeg + (if (M 90 x2_4.toNatClampNeg).toInt = 0 then 0 else 1) : Nat) : Int); first | (rw [if_pos (by omega)]; omega) | (rw [if_neg (by omega)]; omega), hI, hF, hG⟩ (by show (11 - v13.toInt).toNat < (11 - x2_4.toInt).toNat; omega)
set_option maxHeartbeats 4000000 in
set_option maxRecDepth 100000 in
theorem k_X6_allPapers (l : Launch) (D : va_G) (ad : Nat → Nat) (cs : Nat → ClassId) (M : MI) (L : ML)  (hI : IC M) : Ci l yX6_allPapers wsX6_allPapers ({ frames := 1, cells := 0, slots := 0, locals := 21 }) D ad cs [.ref (ad 88)] M L (fun r M1 L1 => M1 = M ∧ L1 = L ∧ (r = foK (fun _ b u => u + vC M 3 b) (M 89) (M 88 3).toNatClampNeg (0 : Int32))) := by
  refine enter_i RX6 rfl [(0, .ref (ad 88))] rfl (Nat.le_of_ble_eq_true rfl) (by decide +kernel) rfl ?_
  intro p e s m below meth c C hr
  have hF : ∀ k i, True → M k i = M k i := fun _ _ _ => rfl
  have hG : ∀ k i, True → L k i = L k i := fun _ _ _ => rfl
  have w0 : (vC M 0 0).toInt = (M 1 0).toInt := rfl
  have w1 : (vC M 0 1).toInt = (M 3 0).toInt := rfl
  have w2 : (vC M 0 2).toInt = (M 68 0).toInt := rfl
  have w3 : (vC M 0 3).toInt = (M 81 0).toInt := rfl
  obtain ⟨y0a, y0b⟩ := (show rg 0 10 (M 1 0) from hI 1 0 rfl)
  obtain ⟨y1a, y1b⟩ := (show rg 0 60 (M 3 0) from hI 3 0 rfl)
  obtain ⟨y2a, y2b⟩ := (show rg 0 8 (M 68 0) from hI 68 0 rfl)
  obtain ⟨y3a, y3b⟩ := (show rg 0 20 (M 81 0) from hI 81 0 rfl)
  obtain ⟨ma, mb⟩ := (show rg 0 40 (M 88 3) from (hI 88 3).1 rfl)
  have nm := ixn ma
  refine g_iconst C 0 dX6_allPapers_0 (by decide) ?_
  refine g_istore_n C [(1, .int 0), (0, .ref (ad 88))] dX6_allPapers_1 (by decide) rfl ?_
  refine g_iconst C 0 dX6_allPapers_2 (by decide) ?_
  refine g_istore_n C [(2, .int 0), (1, .int 0), (0, .ref (ad 88))] dX6_allPapers_3 (by decide) rfl ?_
  have zy1 : (0 : Int32).toInt = 0 := by decide
  have zy2 : (0 : Int32).toInt = 0 := by decide
  refine g_loop (α := Int32 × Int32 × MI × ML) (fun a => (41 - a.1.toInt).toNat) (fun a => (0 ≤ a.1.toInt) ∧ (a.1.toInt ≤ (M 88 3).toInt) ∧ (a.2.1 = foK (fun _ b u => u + vC M 3 b) (M 89) a.1.toNatClampNeg (0 : Int32)) ∧ IC a.2.2.1 ∧ (∀ k i, True → a.2.2.1 k i = M k i) ∧ (∀ k i, True → a.2.2.2 k i = L k i)) (fun a => a.2.2.1) (fun a => a.2.2.2) (fun a => [(2, .int a.1), (1, .int a.2.1), (0, .ref (ad 88))]) ((0 : Int32), (0 : Int32), M, L) ⟨by show 0 ≤ (0 : Int32).toInt; omega, by show (0 : Int32).toInt ≤ (M 88 3).toInt; omega, by show (0 : Int32) = foK (fun _ b u => u + vC M 3 b) (M 89) (0 : Int32).toNatClampNeg (0 : Int32); rfl, hI, hF, hG⟩ rfl rfl rfl ?_
  rintro ⟨x2_4, x1_4, M_4, L_4⟩ ⟨j4_0, j4_1, j4_2, hI, hF, hG⟩ ih_4
  dsimp only at j4_0 j4_1 j4_2 hI hF hG ih_4 ⊢
  have n2 := ixn (x := x2_4) (by omega)
  have eM : M_4 = M := funext (fun k => funext (fun i => hF k i trivial))
  refine g_iload_n C 0 dX6_allPapers_4 rfl ?_
  refine g_aload_n C 2 dX6_allPapers_5 rfl ?_
  refine g_get C (.int (M_4 88 3)) 3 in_X6_allPapers_6 (List.mem_of_getElem? (i := 1) rfl) (by decide) (ce_poll ad cs _ _) rfl (by decide) rfl rfl dX6_allPapers_6 ?_
  refine g_ni (fun v3 ev3 => ?_)
  have gv3 : v3 = M 88 3 := ev3.trans (hF 88 3 trivial)
  have tv3 := congrArg Int32.toInt gv3
  obtain ⟨bv3, dv3⟩ := (show rg 0 40 v3 from (by rw [ev3]; exact (hI 88 3).1 rfl))
  refine g_icmp_ge C 26 dX6_allPapers_9 (by decide) (fun c4 => ?_) (fun c4 => ?_)
  ·
    have f5 := fle rfl rfl c4
    refine g_iload_n C 1 dX6_allPapers_26 rfl ?_
    exact g_iret C hr ⟨funext (fun k => funext (fun i => hF k i trivial)), funext (fun k => funext (fun i => hG k i trivial)), (by rw [j4_2, show x2_4.toNatClampNeg = (M 88 3).toNatClampNeg by omega])⟩ dX6_allPapers_27
  ·
    have f6 := fnle rfl rfl c4
    refine g_iload_n C 1 dX6_allPapers_12 rfl ?_
    refine g_aload_n C 2 dX6_allPapers_13 rfl ?_
    refine g_iload_n C 0 dX6_allPapers_14 rfl ?_
    refine g_callVi C (n := 1) (As := [.int x2_4]) (st := [.int x1_4]) (k_X6_papersOf l D ad cs _ _ x2_4 hI ⟨by omega, by omega⟩) gX6_allPapers_X6_papersOf rfl rfl rfl (by decide +kernel) ⟨Nat.le_of_ble_eq_true rfl, Nat.le_of_ble_eq_true rfl⟩ rfl (Nat.le_of_ble_eq_true rfl) ⟨Nat.zero_le _, Nat.zero_le _⟩ (by decide) (ce_poll ad cs _ _) rfl rfl dX6_allPapers_15 (fun r7 M8 L9 hr7 => ?_)
    obtain ⟨hq1, hq2, hr7⟩ := hr7
    obtain rfl := hq1.symm
    obtain rfl := hq2.symm
    rw [eM] at hr7
    refine g_iadd C dX6_allPapers_18 ?_
    refine g_ni (fun v10 ev10 => ?_)
    try have fv10 := fadd rfl rfl ev10 (by omega) (by omega)
    refine g_istore_n C [(1, .int v10), (2, .int x2_4), (0, .ref (ad 88))] dX6_allPapers_19 (by decide) rfl ?_
    obtain ⟨v11, ev11⟩ : ∃ y : Int32, y = x2_4 + 1 := ⟨_, rfl⟩
    try have fv11 := fadd rfl (by decide : (1 : Int32).toInt = 1) ev11 (by omega) (by omega)
    refine g_iinc C 1 v11 [(2, .int v11), (1, .int v10), (0, .ref (ad 88))] dX6_allPapers_20 rfl (by rw [ev11]; rfl) (by decide) rfl ?_
    refine g_goto C 4 dX6_allPapers_23 (by decide) ?_
    have nv := ixn (x := v11) (by omega)
    have iv : v11.toNatClampNeg = x2_4.toNatClampNeg + 1 := by omega
    exact ih_4 (v11, v10, M_4, L_4) ⟨by show 0 ≤ v11.toInt; omega, by show v11.toInt ≤ (M 88 3).toInt; omega, by show v10 = foK (fun _ b u => u + vC M 3 b) (M 89) v11.toNatClampNeg (0 : Int32); rw [iv]; show _ = foK (fun _ b u => u + vC M 3 b) (M 89) x2_4.toNatClampNeg (0 : Int32) + vC M 3 (M 89 x2_4.toNatClampNeg).toNatClampNeg; rw [← j4_2]; first | done | (simp only [ev10, hr7, gv3]; done) | (simp only [ev10, hr7, gv3]; rfl), hI, hF, hG⟩ (by show (41 - v11.toInt).toNat < (41 - x2_4.toInt).toNat; omega)
set_option maxHeartbeats 4000000 in
set_option maxRecDepth 100000 in
theorem k_X7_note_a (l : Launch) (D : va_G) (ad : Nat → Nat) (cs : Nat → ClassId) (M : MI) (L : ML) (x : Int32) (y : Int32) (hI : IC M) (hr2 : (M 125 2).toInt < 30) : Cv l yX7_note wsX7_note ({ frames := 0, cells := 0, slots := 0, locals := 0 }) D ad cs [.ref (ad 125), .int x, .int y, .ref (ad 88)] M L (fun M1 L1 => ((M1 125 2).toInt = (M 125 2).toInt + 1 ∧ M1 127 = upd (M 127) ((M 125 2).toNatClampNeg) x ∧ M1 128 = upd (M 128) ((M 125 2).toNatClampNeg) y) ∧ IC M1 ∧ (∀ k i, ¬ (k = 125 ∧ i = 2) ∧ k ≠ 127 ∧ k ≠ 128 → M1 k i = M k i) ∧ ∀ k i, ¬ (131 ≤ k ∧ k < 191) → L1 k i = L k i) := by
  refine enter_v RX7 rfl [(0, .ref (ad 125)), (1, .int x), (2, .int y), (3, .ref (ad 88))] rfl (Nat.le_of_ble_eq_true rfl) (by decide +kernel) rfl ?_
  intro p e s m below meth c C hr
  have hF : ∀ k i, ¬ (k = 125 ∧ i = 2) ∧ k ≠ 127 ∧ k ≠ 128 → M k i = M k i := fun _ _ _ => rfl
  have hG : ∀ k i, ¬ (131 ≤ k ∧ k < 191) → L k i = L k i := fun _ _ _ => rfl
  have w0 : (vC M 0 0).toInt = (M 1 0).toInt := rfl
  have w1 : (vC M 0 1).toInt = (M 3 0).toInt := rfl
  have w2 : (vC M 0 2).toInt = (M 68 0).toInt := rfl
  have w3 : (vC M 0 3).toInt = (M 81 0).toInt := rfl
  obtain ⟨y0a, y0b⟩ := (show rg 0 10 (M 1 0) from hI 1 0 rfl)
  obtain ⟨y1a, y1b⟩ := (show rg 0 60 (M 3 0) from hI 3 0 rfl)
  obtain ⟨y2a, y2b⟩ := (show rg 0 8 (M 68 0) from hI 68 0 rfl)
  obtain ⟨y3a, y3b⟩ := (show rg 0 20 (M 81 0) from hI 81 0 rfl)
  obtain ⟨ra, rb⟩ := (show rg 0 30 (M 125 2) from hI 125 2 (Or.inr rfl))
  have k125_2 : M 125 2 = M 125 2 := rfl
  have q127 : M 127 = M 127 := rfl
  have q128 : M 128 = M 128 := rfl
  have hV : vC M = vC M := rfl
  refine g_aload_n C 0 dX7_note_0 rfl ?_
  refine g_get C (.int (M 125 2)) 2 in_X7_note_7 (List.mem_of_getElem? (i := 1) rfl) (by decide) (ce_ra ad cs _ _) rfl (by decide) rfl rfl dX7_note_1 ?_
  refine g_ni (fun v1 ev1 => ?_)
  have gv1 : v1 = M 125 2 := ev1.trans k125_2
  have tv1 := congrArg Int32.toInt gv1
  obtain ⟨bv1, dv1⟩ := (show rg 0 30 v1 from (by rw [ev1]; exact hI 125 2 (Or.inr rfl)))
  refine g_bipush C 30 dX7_note_4 (by decide) ?_
  refine g_icmp_ne C 10 dX7_note_6 (by decide) (fun c2 => ?_) (fun c2 => ?_)
  ·
    have f3 := fne rfl (by decide : (30 : Int32).toInt = 30) c2
    refine g_aload_n C 0 dX7_note_10 rfl ?_
    refine g_get C (.ref (ad 127)) 3 in_X7_note_7 (List.mem_of_getElem? (i := 2) rfl) (by decide) (ce_ra ad cs _ _) rfl (by decide) rfl rfl dX7_note_11 ?_
    refine g_aload_n C 0 dX7_note_14 rfl ?_
    refine g_get C (.int (M 125 2)) 2 in_X7_note_7 (List.mem_of_getElem? (i := 1) rfl) (by decide) (ce_ra ad cs _ _) rfl (by decide) rfl rfl dX7_note_15 ?_
    refine g_ni (fun v4 ev4 => ?_)
    have gv4 : v4 = M 125 2 := ev4.trans k125_2
    have tv4 := congrArg Int32.toInt gv4
    obtain ⟨bv4, dv4⟩ := (show rg 0 30 v4 from (by rw [ev4]; exact hI 125 2 (Or.inr rfl)))
    refine g_iload_n C 1 dX7_note_18 rfl ?_
    have nv4 := ixn (x := v4) (by omega)
    refine g_iast C (by decide) (ce_rahap ad cs _ _) (by rw [sI_k]; rfl) (fin' (n := 30) rfl (by omega) (by omega)) dX7_note_19 ?_
    refine g_nm (fun M5 hM5 => ?_)
    have hI : IC M5 := by rw [hM5]; exact hI.st (bC_free (by decide) (by decide) (by decide) (by decide) (by decide) (by decide) (by decide))
    have hF : ∀ k i, ¬ (k = 125 ∧ i = 2) ∧ k ≠ 127 ∧ k ≠ 128 → M5 k i = M k i := fun k i hk => by (rw [hM5, sI_at, if_neg (by omega)]; try exact hF k i hk)
    have k125_2 : M5 125 2 = M 125 2 := by rw [hM5, sI_n _ _ _ (by decide)]; try exact k125_2
    have q128 : M5 128 = M 128 := by rw [hM5, sI_n _ _ _ (by decide)]; try exact q128
    have hV : vC M5 = vC M := by rw [hM5, vC_z (by decide), hV]
    refine g_aload_n C 0 dX7_note_20 rfl ?_
    refine g_get C (.ref (ad 128)) 4 in_X7_note_7 (List.mem_of_getElem? (i := 3) rfl) (by decide) (ce_ra ad cs _ _) rfl (by decide) rfl rfl dX7_note_21 ?_
    refine g_aload_n C 0 dX7_note_24 rfl ?_
    refine g_get C (.int (M5 125 2)) 2 in_X7_note_7 (List.mem_of_getElem? (i := 1) rfl) (by decide) (ce_ra ad cs _ _) rfl (by decide) rfl rfl dX7_note_25 ?_
    refine g_ni (fun v6 ev6 => ?_)
    have gv6 : v6 = M 125 2 := ev6.trans k125_2
    have tv6 := congrArg Int32.toInt gv6
    obtain ⟨bv6, dv6⟩ := (show rg 0 30 v6 from (by rw [ev6]; exact hI 125 2 (Or.inr rfl)))
    refine g_iload_n C 2 dX7_note_28 rfl ?_
    have nv6 := ixn (x := v6) (by omega)
    refine g_iast C (by decide) (ce_rawhom ad cs _ _) (by rw [sI_k]; rfl) (fin' (n := 30) rfl (by omega) (by omega)) dX7_note_29 ?_
    refine g_nm (fun M7 hM7 => ?_)
    have hI : IC M7 := by rw [hM7]; exact hI.st (bC_free (by decide) (by decide) (by decide) (by decide) (by decide) (by decide) (by decide))
    have hF : ∀ k i, ¬ (k = 125 ∧ i = 2) ∧ k ≠ 127 ∧ k ≠ 128 → M7 k i = M k i := fun k i hk => by (rw [hM7, sI_at, if_neg (by omega)]; try exact hF k i hk)
    have k125_2 : M7 125 2 = M 125 2 := by rw [hM7, sI_n _ _ _ (by decide)]; try exact k125_2
    have hV : vC M7 = vC M := by rw [hM7, vC_z (by decide), hV]
    have aw : M7 127 = upd (M 127) (M 125 2).toNatClampNeg x := by rw [hM7, sI_n _ _ _ (by decide), hM5, sI_k]; simp only [gv6, gv4, gv1]
    have ah : M7 128 = upd (M 128) (M 125 2).toNatClampNeg y := by rw [hM7, sI_k, hM5, sI_n _ _ _ (by decide)]; simp only [gv6, gv4, gv1]
    refine g_iconst C 0 dX7_note_30 (by decide) ?_
    refine g_istore C [(4, .int 0), (0, .ref (ad 125)), (1, .int x), (2, .int y), (3, .ref (ad 88))] dX7_note_31 (by decide) rfl ?_
    have zy8 : (0 : Int32).toInt = 0 := by decide
    refine g_loop (α := Int32 × MI × ML) (fun a => (11 - a.1.toInt).toNat) (fun a => (0 ≤ a.1.toInt) ∧ (a.1.toInt ≤ 10) ∧ (a.2.1 125 2 = M 125 2) ∧ (a.2.1 127 = upd (M 127) (M 125 2).toNatClampNeg x) ∧ (a.2.1 128 = upd (M 128) (M 125 2).toNatClampNeg y) ∧ IC a.2.1 ∧ (∀ k i, ¬ (k = 125 ∧ i = 2) ∧ k ≠ 127 ∧ k ≠ 128 → a.2.1 k i = M k i) ∧ (∀ k i, ¬ (131 ≤ k ∧ k < 191) → a.2.2 k i = L k i)) (fun a => a.2.1) (fun a => a.2.2) (fun a => [(4, .int a.1), (0, .ref (ad 125)), (1, .int x), (2, .int y), (3, .ref (ad 88))]) ((0 : Int32), M7, L) ⟨by show 0 ≤ (0 : Int32).toInt; omega, by show (0 : Int32).toInt ≤ 10; omega, by show M7 125 2 = M 125 2; exact k125_2, by show M7 127 = upd (M 127) (M 125 2).toNatClampNeg x; exact aw, by show M7 128 = upd (M 128) (M 125 2).toNatClampNeg y; exact ah, hI, hF, hG⟩ rfl rfl rfl ?_
    rintro ⟨x4_33, M_33, L_33⟩ ⟨j33_0, j33_1, j33_2, j33_3, j33_4, hI, hF, hG⟩ ih_33
    dsimp only at j33_0 j33_1 j33_2 j33_3 j33_4 hI hF hG ih_33 ⊢
    have k125_2 : M_33 125 2 = M_33 125 2 := rfl
    have hV : vC M_33 = vC M_33 := rfl
    have q127 : M_33 127 = M_33 127 := rfl
    have q128 : M_33 128 = M_33 128 := rfl
    have k2t := congrArg Int32.toInt j33_2
    refine g_iload C 0 dX7_note_33 rfl ?_
    refine g_bipush C 10 dX7_note_35 (by decide) ?_
    refine g_icmp_ge C 84 dX7_note_37 (by decide) (fun c9 => ?_) (fun c9 => ?_)
    ·
      have f10 := fle (by decide : (10 : Int32).toInt = 10) rfl c9
      refine g_aload_n C 1 dX7_note_84 rfl ?_
      refine g_dup C dX7_note_85 rfl ?_
      refine g_get C (.int (M_33 125 2)) 2 in_X7_note_7 (List.mem_of_getElem? (i := 1) rfl) (by decide) (ce_ra ad cs _ _) rfl (by decide) rfl rfl dX7_note_86 ?_
      refine g_ni (fun v11 ev11 => ?_)
      have gv11 : v11 = M_33 125 2 := ev11.trans k125_2
      have tv11 := congrArg Int32.toInt gv11
      obtain ⟨bv11, dv11⟩ := (show rg 0 30 v11 from (by rw [ev11]; exact hI 125 2 (Or.inr rfl)))
      refine g_iconst C 1 dX7_note_89 (by decide) ?_
      refine g_iadd C dX7_note_90 ?_
      refine g_ni (fun v12 ev12 => ?_)
      try have fv12 := fadd rfl (by decide : (1 : Int32).toInt = 1) ev12 (by omega) (by omega)
      refine g_putI C 2 in_X7_note_7 (List.mem_of_getElem? (i := 1) rfl) (by decide) (ce_ra ad cs _ _) rfl (by decide) rfl tyX7 tyX7_ok nmX7 rfl rfl rfl rfl (Nat.le_of_ble_eq_true rfl) (by rw [sI_k]; rfl) dX7_note_91 ?_
      refine g_nm (fun M13 hM13 => ?_)
      have hI : IC M13 := by rw [hM13]; exact hI.st (fun _ => ⟨by first | omega | decide, by first | omega | decide⟩)
      have hF : ∀ k i, ¬ (k = 125 ∧ i = 2) ∧ k ≠ 127 ∧ k ≠ 128 → M13 k i = M k i := fun k i hk => by (rw [hM13, sI_at, if_neg (by omega)]; try exact hF k i hk)
      have k125_2 : M13 125 2 = v12 := by rw [hM13, sI_at, if_pos (by decide)]
      have q127 : M13 127 = M_33 127 := by rw [hM13, sI_n _ _ _ (by decide)]; try exact q127
      have q128 : M13 128 = M_33 128 := by rw [hM13, sI_n _ _ _ (by decide)]; try exact q128
      have hV : vC M13 = vC M_33 := by rw [hM13, vC_z (by decide), hV]
      exact g_vret C hr ⟨⟨by rw [k125_2]; omega, by rw [hM13, sI_n _ _ _ (by decide)]; exact j33_3, by rw [hM13, sI_n _ _ _ (by decide)]; exact j33_4⟩, hI, hF, hG⟩ dX7_note_94
    ·
      have f14 := fnle (by decide : (10 : Int32).toInt = 10) rfl c9
      refine g_aload_n C 1 dX7_note_40 rfl ?_
      refine g_get C (.ref (ad 129)) 5 in_X7_note_7 (List.mem_of_getElem? (i := 4) rfl) (by decide) (ce_ra ad cs _ _) rfl (by decide) rfl rfl dX7_note_41 ?_
      refine g_aload_n C 1 dX7_note_44 rfl ?_
      refine g_get C (.int (M_33 125 2)) 2 in_X7_note_7 (List.mem_of_getElem? (i := 1) rfl) (by decide) (ce_ra ad cs _ _) rfl (by decide) rfl rfl dX7_note_45 ?_
      refine g_ni (fun v15 ev15 => ?_)
      have gv15 : v15 = M_33 125 2 := ev15.trans k125_2
      have tv15 := congrArg Int32.toInt gv15
      obtain ⟨bv15, dv15⟩ := (show rg 0 30 v15 from (by rw [ev15]; exact hI 125 2 (Or.inr rfl)))
      have hi16 : vp_in v15 30 := (fin' (n := 30) rfl (by omega) (by omega))
      have nhi16 := tn hi16
      have mhi16 := ixn (x := v15) (by omega)
      refine g_aald C (by decide) (ce_raupm ad cs _ _) rfl hi16 dX7_note_48 ?_
      refine g_iload C 0 dX7_note_49 rfl ?_
      refine g_aload_n C 4 dX7_note_51 rfl ?_
      refine g_get C (.ref (ad 91)) 6 in_X7_note_6 (List.mem_of_getElem? (i := 5) rfl) (by decide) (ce_poll ad cs _ _) rfl (by decide) rfl rfl dX7_note_52 ?_
      refine g_iload C 0 dX7_note_55 rfl ?_
      have nx4_33 := ixn (x := x4_33) (by omega)
      refine g_lald C (by decide) (ce_pupper ad cs _ _) (fin' (n := 10) rfl (by omega) (by omega)) dX7_note_57 ?_
      refine g_nl (fun v17 ev17 => ?_)
      have gv17 : v17 = L 91 x4_33.toNatClampNeg := ev17.trans (hG 91 _ (by omega))
      have tv17 := congrArg Int64.toInt gv17
      have nx4_33 := ixn (x := x4_33) (by omega)
      refine g_last C (by omega) (ce_raup ad cs _ _ nhi16) (by rw [sJ_k]; exact (ce_raup ad cs _ _ nhi16)) (fin' (n := 10) rfl (by omega) (by omega)) dX7_note_58 ?_
      refine g_nmL (fun L18 hL18 => ?_)
      have hG : ∀ k i, ¬ (131 ≤ k ∧ k < 191) → L18 k i = L k i := fun k i hk => by (rw [hL18, sJ_at, if_neg (by omega)]; try exact hG k i hk)
      refine g_aload_n C 1 dX7_note_59 rfl ?_
      refine g_get C (.ref (ad 130)) 6 in_X7_note_7 (List.mem_of_getElem? (i := 6) rfl) (by decide) (ce_ra ad cs _ _) rfl (by decide) rfl rfl dX7_note_60 ?_
      refine g_aload_n C 1 dX7_note_63 rfl ?_
      refine g_get C (.int (M_33 125 2)) 2 in_X7_note_7 (List.mem_of_getElem? (i := 1) rfl) (by decide) (ce_ra ad cs _ _) rfl (by decide) rfl rfl dX7_note_64 ?_
      refine g_ni (fun v19 ev19 => ?_)
      have gv19 : v19 = M_33 125 2 := ev19.trans k125_2
      have tv19 := congrArg Int32.toInt gv19
      obtain ⟨bv19, dv19⟩ := (show rg 0 30 v19 from (by rw [ev19]; exact hI 125 2 (Or.inr rfl)))
      have hi20 : vp_in v19 30 := (fin' (n := 30) rfl (by omega) (by omega))
      have nhi20 := tn hi20
      have mhi20 := ixn (x := v19) (by omega)
      refine g_aald C (by decide) (ce_ralowm ad cs _ _) rfl hi20 dX7_note_67 ?_
      refine g_iload C 0 dX7_note_68 rfl ?_
      refine g_aload_n C 4 dX7_note_70 rfl ?_
      refine g_get C (.ref (ad 92)) 7 in_X7_note_6 (List.mem_of_getElem? (i := 7) rfl) (by decide) (ce_poll ad cs _ _) rfl (by decide) rfl rfl dX7_note_71 ?_
      refine g_iload C 0 dX7_note_74 rfl ?_
      have nx4_33 := ixn (x := x4_33) (by omega)
      refine g_lald C (by decide) (ce_plower ad cs _ _) (fin' (n := 10) rfl (by omega) (by omega)) dX7_note_76 ?_
      refine g_nl (fun v21 ev21 => ?_)
      have gv21 : v21 = L 92 x4_33.toNatClampNeg := ev21.trans (hG 92 _ (by omega))
      have tv21 := congrArg Int64.toInt gv21
      have nx4_33 := ixn (x := x4_33) (by omega)
      refine g_last C (by omega) (ce_ralow ad cs _ _ nhi20) (by rw [sJ_k]; exact (ce_ralow ad cs _ _ nhi20)) (fin' (n := 10) rfl (by omega) (by omega)) dX7_note_77 ?_
      refine g_nmL (fun L22 hL22 => ?_)
      have hG : ∀ k i, ¬ (131 ≤ k ∧ k < 191) → L22 k i = L k i := fun k i hk => by (rw [hL22, sJ_at, if_neg (by omega)]; try exact hG k i hk)
      obtain ⟨v23, ev23⟩ : ∃ y : Int32, y = x4_33 + 1 := ⟨_, rfl⟩
      try have fv23 := fadd rfl (by decide : (1 : Int32).toInt = 1) ev23 (by omega) (by omega)
      refine g_iinc C 0 v23 [(4, .int v23), (0, .ref (ad 125)), (1, .int x), (2, .int y), (3, .ref (ad 88))] dX7_note_78 rfl (by rw [ev23]; rfl) (by decide) rfl ?_
      refine g_goto C 33 dX7_note_81 (by decide) ?_
      exact ih_33 (v23, M_33, L22) ⟨by show 0 ≤ v23.toInt; omega, by show v23.toInt ≤ 10; omega, by show M_33 125 2 = M 125 2; exact k125_2.trans j33_2, by show M_33 127 = upd (M 127) (M 125 2).toNatClampNeg x; exact j33_3, by show M_33 128 = upd (M 128) (M 125 2).toNatClampNeg y; exact j33_4, hI, hF, hG⟩ (by show (11 - v23.toInt).toNat < (11 - x4_33.toInt).toNat; omega)
  ·
    have f24 := feq rfl (by decide : (30 : Int32).toInt = 30) c2
    exact g_vret C hr ⟨(by exfalso; omega), hI, hF, hG⟩ dX7_note_9
set_option maxHeartbeats 4000000 in
set_option maxRecDepth 100000 in
theorem k_X7_give_a (l : Launch) (D : va_G) (ad : Nat → Nat) (cs : Nat → ClassId) (M : MI) (L : ML) (x : Int32) (hI : IC M) (hg0 : (M 125 0).toInt < 30) : Cv l yX7_give wsX7_give ({ frames := 0, cells := 0, slots := 0, locals := 0 }) D ad cs [.ref (ad 125), .int x] M L (fun M1 L1 => ((M1 125 0).toInt = (M 125 0).toInt + 1 ∧ M1 126 = upd (M 126) ((M 125 0).toNatClampNeg) x) ∧ IC M1 ∧ (∀ k i, ¬ (k = 125 ∧ i = 0) ∧ k ≠ 126 → M1 k i = M k i) ∧ ∀ k i, True → L1 k i = L k i) := by
  refine enter_v RX7 rfl [(0, .ref (ad 125)), (1, .int x)] rfl (Nat.le_of_ble_eq_true rfl) (by decide +kernel) rfl ?_
  intro p e s m below meth c C hr
  have hF : ∀ k i, ¬ (k = 125 ∧ i = 0) ∧ k ≠ 126 → M k i = M k i := fun _ _ _ => rfl
  have hG : ∀ k i, True → L k i = L k i := fun _ _ _ => rfl
  have w0 : (vC M 0 0).toInt = (M 1 0).toInt := rfl
  have w1 : (vC M 0 1).toInt = (M 3 0).toInt := rfl
  have w2 : (vC M 0 2).toInt = (M 68 0).toInt := rfl
  have w3 : (vC M 0 3).toInt = (M 81 0).toInt := rfl
  obtain ⟨y0a, y0b⟩ := (show rg 0 10 (M 1 0) from hI 1 0 rfl)
  obtain ⟨y1a, y1b⟩ := (show rg 0 60 (M 3 0) from hI 3 0 rfl)
  obtain ⟨y2a, y2b⟩ := (show rg 0 8 (M 68 0) from hI 68 0 rfl)
  obtain ⟨y3a, y3b⟩ := (show rg 0 20 (M 81 0) from hI 81 0 rfl)
  obtain ⟨ra, rb⟩ := (show rg 0 30 (M 125 0) from hI 125 0 (Or.inl rfl))
  have k125_0 : M 125 0 = M 125 0 := rfl
  have q126 : M 126 = M 126 := rfl
  have hV : vC M = vC M := rfl
  refine g_aload_n C 0 dX7_give_0 rfl ?_
  refine g_get C (.int (M 125 0)) 0 in_X7_give_7 (List.mem_of_getElem? (i := 1) rfl) (by decide) (ce_ra ad cs _ _) rfl (by decide) rfl rfl dX7_give_1 ?_
  refine g_ni (fun v1 ev1 => ?_)
  have gv1 : v1 = M 125 0 := ev1.trans k125_0
  have tv1 := congrArg Int32.toInt gv1
  obtain ⟨bv1, dv1⟩ := (show rg 0 30 v1 from (by rw [ev1]; exact hI 125 0 (Or.inl rfl)))
  refine g_bipush C 30 dX7_give_4 (by decide) ?_
  refine g_icmp_ge C 29 dX7_give_6 (by decide) (fun c2 => ?_) (fun c2 => ?_)
  ·
    have f3 := fle (by decide : (30 : Int32).toInt = 30) rfl c2
    exact g_vret C hr ⟨(by exfalso; omega), hI, hF, hG⟩ dX7_give_29
  ·
    have f4 := fnle (by decide : (30 : Int32).toInt = 30) rfl c2
    refine g_aload_n C 0 dX7_give_9 rfl ?_
    refine g_get C (.ref (ad 126)) 1 in_X7_give_7 (List.mem_of_getElem? (i := 2) rfl) (by decide) (ce_ra ad cs _ _) rfl (by decide) rfl rfl dX7_give_10 ?_
    refine g_aload_n C 0 dX7_give_13 rfl ?_
    refine g_get C (.int (M 125 0)) 0 in_X7_give_7 (List.mem_of_getElem? (i := 1) rfl) (by decide) (ce_ra ad cs _ _) rfl (by decide) rfl rfl dX7_give_14 ?_
    refine g_ni (fun v5 ev5 => ?_)
    have gv5 : v5 = M 125 0 := ev5.trans k125_0
    have tv5 := congrArg Int32.toInt gv5
    obtain ⟨bv5, dv5⟩ := (show rg 0 30 v5 from (by rw [ev5]; exact hI 125 0 (Or.inl rfl)))
    refine g_iload_n C 1 dX7_give_17 rfl ?_
    have nv5 := ixn (x := v5) (by omega)
    refine g_iast C (by decide) (ce_raseated ad cs _ _) (by rw [sI_k]; rfl) (fin' (n := 30) rfl (by omega) (by omega)) dX7_give_18 ?_
    refine g_nm (fun M6 hM6 => ?_)
    have hI : IC M6 := by rw [hM6]; exact hI.st (bC_free (by decide) (by decide) (by decide) (by decide) (by decide) (by decide) (by decide))
    have hF : ∀ k i, ¬ (k = 125 ∧ i = 0) ∧ k ≠ 126 → M6 k i = M k i := fun k i hk => by (rw [hM6, sI_at, if_neg (by omega)]; try exact hF k i hk)
    have k125_0 : M6 125 0 = M 125 0 := by rw [hM6, sI_n _ _ _ (by decide)]; try exact k125_0
    have hV : vC M6 = vC M := by rw [hM6, vC_z (by decide), hV]
    refine g_aload_n C 0 dX7_give_19 rfl ?_
    refine g_dup C dX7_give_20 rfl ?_
    refine g_get C (.int (M6 125 0)) 0 in_X7_give_7 (List.mem_of_getElem? (i := 1) rfl) (by decide) (ce_ra ad cs _ _) rfl (by decide) rfl rfl dX7_give_21 ?_
    refine g_ni (fun v7 ev7 => ?_)
    have gv7 : v7 = M 125 0 := ev7.trans k125_0
    have tv7 := congrArg Int32.toInt gv7
    obtain ⟨bv7, dv7⟩ := (show rg 0 30 v7 from (by rw [ev7]; exact hI 125 0 (Or.inl rfl)))
    refine g_iconst C 1 dX7_give_24 (by decide) ?_
    refine g_iadd C dX7_give_25 ?_
    refine g_ni (fun v8 ev8 => ?_)
    try have fv8 := fadd rfl (by decide : (1 : Int32).toInt = 1) ev8 (by omega) (by omega)
    refine g_putI C 0 in_X7_give_7 (List.mem_of_getElem? (i := 1) rfl) (by decide) (ce_ra ad cs _ _) rfl (by decide) rfl tyX7 tyX7_ok nmX7 rfl rfl rfl rfl (Nat.le_of_ble_eq_true rfl) (by rw [sI_k]; rfl) dX7_give_26 ?_
    refine g_nm (fun M9 hM9 => ?_)
    have hI : IC M9 := by rw [hM9]; exact hI.st (fun _ => ⟨by first | omega | decide, by first | omega | decide⟩)
    have hF : ∀ k i, ¬ (k = 125 ∧ i = 0) ∧ k ≠ 126 → M9 k i = M k i := fun k i hk => by (rw [hM9, sI_at, if_neg (by omega)]; try exact hF k i hk)
    have k125_0 : M9 125 0 = v8 := by rw [hM9, sI_at, if_pos (by decide)]
    have hV : vC M9 = vC M := by rw [hM9, vC_z (by decide), hV]
    exact g_vret C hr ⟨⟨by rw [k125_0]; omega, by rw [hM9, sI_n _ _ _ (by decide), hM6, sI_k]; simp only [ev8, gv7, gv5, gv1]⟩, hI, hF, hG⟩ dX7_give_29
set_option maxHeartbeats 4000000 in
set_option maxRecDepth 100000 in
theorem k_X7_clear_a (l : Launch) (D : va_G) (ad : Nat → Nat) (cs : Nat → ClassId) (M : MI) (L : ML)  (hI : IC M) : Cv l yX7_clear wsX7_clear ({ frames := 0, cells := 0, slots := 0, locals := 0 }) D ad cs [.ref (ad 125)] M L (fun M1 L1 => (M1 125 0 = 0 ∧ M1 125 2 = 0) ∧ IC M1 ∧ (∀ k i, ¬ (k = 125 ∧ i = 0) ∧ ¬ (k = 125 ∧ i = 2) → M1 k i = M k i) ∧ ∀ k i, True → L1 k i = L k i) := by
  refine enter_v RX7 rfl [(0, .ref (ad 125))] rfl (Nat.le_of_ble_eq_true rfl) (by decide +kernel) rfl ?_
  intro p e s m below meth c C hr
  have hF : ∀ k i, ¬ (k = 125 ∧ i = 0) ∧ ¬ (k = 125 ∧ i = 2) → M k i = M k i := fun _ _ _ => rfl
  have hG : ∀ k i, True → L k i = L k i := fun _ _ _ => rfl
  have w0 : (vC M 0 0).toInt = (M 1 0).toInt := rfl
  have w1 : (vC M 0 1).toInt = (M 3 0).toInt := rfl
  have w2 : (vC M 0 2).toInt = (M 68 0).toInt := rfl
  have w3 : (vC M 0 3).toInt = (M 81 0).toInt := rfl
  obtain ⟨y0a, y0b⟩ := (show rg 0 10 (M 1 0) from hI 1 0 rfl)
  obtain ⟨y1a, y1b⟩ := (show rg 0 60 (M 3 0) from hI 3 0 rfl)
  obtain ⟨y2a, y2b⟩ := (show rg 0 8 (M 68 0) from hI 68 0 rfl)
  obtain ⟨y3a, y3b⟩ := (show rg 0 20 (M 81 0) from hI 81 0 rfl)
  have k125_0 : M 125 0 = M 125 0 := rfl
  have k125_2 : M 125 2 = M 125 2 := rfl
  have hV : vC M = vC M := rfl
  refine g_aload_n C 0 dX7_clear_0 rfl ?_
  refine g_iconst C 0 dX7_clear_1 (by decide) ?_
  refine g_putI C 0 in_X7_clear_7 (List.mem_of_getElem? (i := 1) rfl) (by decide) (ce_ra ad cs _ _) rfl (by decide) rfl tyX7 tyX7_ok nmX7 rfl rfl rfl rfl (Nat.le_of_ble_eq_true rfl) (by rw [sI_k]; rfl) dX7_clear_2 ?_
  refine g_nm (fun M1 hM1 => ?_)
  have zy2 : (0 : Int32).toInt = 0 := by decide
  have hI : IC M1 := by rw [hM1]; exact hI.st (fun _ => ⟨by first | omega | decide, by first | omega | decide⟩)
  have hF : ∀ k i, ¬ (k = 125 ∧ i = 0) ∧ ¬ (k = 125 ∧ i = 2) → M1 k i = M k i := fun k i hk => by (rw [hM1, sI_at, if_neg (by omega)]; try exact hF k i hk)
  have k125_2 : M1 125 2 = M 125 2 := by rw [hM1, sI_at, if_neg (by decide)]; try exact k125_2
  have k125_0 : M1 125 0 = 0 := by rw [hM1, sI_at, if_pos (by decide)]
  have hV : vC M1 = vC M := by rw [hM1, vC_z (by decide), hV]
  refine g_aload_n C 0 dX7_clear_5 rfl ?_
  refine g_iconst C 0 dX7_clear_6 (by decide) ?_
  refine g_putI C 2 in_X7_clear_7 (List.mem_of_getElem? (i := 2) rfl) (by decide) (ce_ra ad cs _ _) rfl (by decide) rfl tyX7 tyX7_ok nmX7 rfl rfl rfl rfl (Nat.le_of_ble_eq_true rfl) (by rw [sI_k]; rfl) dX7_clear_7 ?_
  refine g_nm (fun M3 hM3 => ?_)
  have zy4 : (0 : Int32).toInt = 0 := by decide
  have hI : IC M3 := by rw [hM3]; exact hI.st (fun _ => ⟨by first | omega | decide, by first | omega | decide⟩)
  have hF : ∀ k i, ¬ (k = 125 ∧ i = 0) ∧ ¬ (k = 125 ∧ i = 2) → M3 k i = M k i := fun k i hk => by (rw [hM3, sI_at, if_neg (by omega)]; try exact hF k i hk)
  have k125_0 : M3 125 0 = 0 := by rw [hM3, sI_at, if_neg (by decide)]; try exact k125_0
  have k125_2 : M3 125 2 = 0 := by rw [hM3, sI_at, if_pos (by decide)]
  have hV : vC M3 = vC M := by rw [hM3, vC_z (by decide), hV]
  exact g_vret C hr ⟨⟨k125_0, k125_2⟩, hI, hF, hG⟩ dX7_clear_10
set_option maxHeartbeats 4000000 in
set_option maxRecDepth 100000 in
theorem k_X7_note_b (l : Launch) (D : va_G) (ad : Nat → Nat) (cs : Nat → ClassId) (M : MI) (L : ML) (x : Int32) (y : Int32) (hI : IC M) (hr2 : (M 191 2).toInt < 30) : Cv l yX7_note wsX7_note ({ frames := 0, cells := 0, slots := 0, locals := 0 }) D ad cs [.ref (ad 191), .int x, .int y, .ref (ad 88)] M L (fun M1 L1 => ((M1 191 2).toInt = (M 191 2).toInt + 1 ∧ M1 193 = upd (M 193) ((M 191 2).toNatClampNeg) x ∧ M1 194 = upd (M 194) ((M 191 2).toNatClampNeg) y) ∧ IC M1 ∧ (∀ k i, ¬ (k = 191 ∧ i = 2) ∧ k ≠ 193 ∧ k ≠ 194 → M1 k i = M k i) ∧ ∀ k i, ¬ (197 ≤ k ∧ k < 257) → L1 k i = L k i) := by
  refine enter_v RX7 rfl [(0, .ref (ad 191)), (1, .int x), (2, .int y), (3, .ref (ad 88))] rfl (Nat.le_of_ble_eq_true rfl) (by decide +kernel) rfl ?_
  intro p e s m below meth c C hr
  have hF : ∀ k i, ¬ (k = 191 ∧ i = 2) ∧ k ≠ 193 ∧ k ≠ 194 → M k i = M k i := fun _ _ _ => rfl
  have hG : ∀ k i, ¬ (197 ≤ k ∧ k < 257) → L k i = L k i := fun _ _ _ => rfl
  have w0 : (vC M 0 0).toInt = (M 1 0).toInt := rfl
  have w1 : (vC M 0 1).toInt = (M 3 0).toInt := rfl
  have w2 : (vC M 0 2).toInt = (M 68 0).toInt := rfl
  have w3 : (vC M 0 3).toInt = (M 81 0).toInt := rfl
  obtain ⟨y0a, y0b⟩ := (show rg 0 10 (M 1 0) from hI 1 0 rfl)
  obtain ⟨y1a, y1b⟩ := (show rg 0 60 (M 3 0) from hI 3 0 rfl)
  obtain ⟨y2a, y2b⟩ := (show rg 0 8 (M 68 0) from hI 68 0 rfl)
  obtain ⟨y3a, y3b⟩ := (show rg 0 20 (M 81 0) from hI 81 0 rfl)
  obtain ⟨ra, rb⟩ := (show rg 0 30 (M 191 2) from hI 191 2 (Or.inr rfl))
  have k191_2 : M 191 2 = M 191 2 := rfl
  have q193 : M 193 = M 193 := rfl
  have q194 : M 194 = M 194 := rfl
  have hV : vC M = vC M := rfl
  refine g_aload_n C 0 dX7_note_0 rfl ?_
  refine g_get C (.int (M 191 2)) 2 in_X7_note_7 (List.mem_of_getElem? (i := 1) rfl) (by decide) (ce_rb ad cs _ _) rfl (by decide) rfl rfl dX7_note_1 ?_
  refine g_ni (fun v1 ev1 => ?_)
  have gv1 : v1 = M 191 2 := ev1.trans k191_2
  have tv1 := congrArg Int32.toInt gv1
  obtain ⟨bv1, dv1⟩ := (show rg 0 30 v1 from (by rw [ev1]; exact hI 191 2 (Or.inr rfl)))
  refine g_bipush C 30 dX7_note_4 (by decide) ?_
  refine g_icmp_ne C 10 dX7_note_6 (by decide) (fun c2 => ?_) (fun c2 => ?_)
  ·
    have f3 := fne rfl (by decide : (30 : Int32).toInt = 30) c2
    refine g_aload_n C 0 dX7_note_10 rfl ?_
    refine g_get C (.ref (ad 193)) 3 in_X7_note_7 (List.mem_of_getElem? (i := 2) rfl) (by decide) (ce_rb ad cs _ _) rfl (by decide) rfl rfl dX7_note_11 ?_
    refine g_aload_n C 0 dX7_note_14 rfl ?_
    refine g_get C (.int (M 191 2)) 2 in_X7_note_7 (List.mem_of_getElem? (i := 1) rfl) (by decide) (ce_rb ad cs _ _) rfl (by decide) rfl rfl dX7_note_15 ?_
    refine g_ni (fun v4 ev4 => ?_)
    have gv4 : v4 = M 191 2 := ev4.trans k191_2
    have tv4 := congrArg Int32.toInt gv4
    obtain ⟨bv4, dv4⟩ := (show rg 0 30 v4 from (by rw [ev4]; exact hI 191 2 (Or.inr rfl)))
    refine g_iload_n C 1 dX7_note_18 rfl ?_
    have nv4 := ixn (x := v4) (by omega)
    refine g_iast C (by decide) (ce_rbhap ad cs _ _) (by rw [sI_k]; rfl) (fin' (n := 30) rfl (by omega) (by omega)) dX7_note_19 ?_
    refine g_nm (fun M5 hM5 => ?_)
    have hI : IC M5 := by rw [hM5]; exact hI.st (bC_free (by decide) (by decide) (by decide) (by decide) (by decide) (by decide) (by decide))
    have hF : ∀ k i, ¬ (k = 191 ∧ i = 2) ∧ k ≠ 193 ∧ k ≠ 194 → M5 k i = M k i := fun k i hk => by (rw [hM5, sI_at, if_neg (by omega)]; try exact hF k i hk)
    have k191_2 : M5 191 2 = M 191 2 := by rw [hM5, sI_n _ _ _ (by decide)]; try exact k191_2
    have q194 : M5 194 = M 194 := by rw [hM5, sI_n _ _ _ (by decide)]; try exact q194
    have hV : vC M5 = vC M := by rw [hM5, vC_z (by decide), hV]
    refine g_aload_n C 0 dX7_note_20 rfl ?_
    refine g_get C (.ref (ad 194)) 4 in_X7_note_7 (List.mem_of_getElem? (i := 3) rfl) (by decide) (ce_rb ad cs _ _) rfl (by decide) rfl rfl dX7_note_21 ?_
    refine g_aload_n C 0 dX7_note_24 rfl ?_
    refine g_get C (.int (M5 191 2)) 2 in_X7_note_7 (List.mem_of_getElem? (i := 1) rfl) (by decide) (ce_rb ad cs _ _) rfl (by decide) rfl rfl dX7_note_25 ?_
    refine g_ni (fun v6 ev6 => ?_)
    have gv6 : v6 = M 191 2 := ev6.trans k191_2
    have tv6 := congrArg Int32.toInt gv6
    obtain ⟨bv6, dv6⟩ := (show rg 0 30 v6 from (by rw [ev6]; exact hI 191 2 (Or.inr rfl)))
    refine g_iload_n C 2 dX7_note_28 rfl ?_
    have nv6 := ixn (x := v6) (by omega)
    refine g_iast C (by decide) (ce_rbwhom ad cs _ _) (by rw [sI_k]; rfl) (fin' (n := 30) rfl (by omega) (by omega)) dX7_note_29 ?_
    refine g_nm (fun M7 hM7 => ?_)
    have hI : IC M7 := by rw [hM7]; exact hI.st (bC_free (by decide) (by decide) (by decide) (by decide) (by decide) (by decide) (by decide))
    have hF : ∀ k i, ¬ (k = 191 ∧ i = 2) ∧ k ≠ 193 ∧ k ≠ 194 → M7 k i = M k i := fun k i hk => by (rw [hM7, sI_at, if_neg (by omega)]; try exact hF k i hk)
    have k191_2 : M7 191 2 = M 191 2 := by rw [hM7, sI_n _ _ _ (by decide)]; try exact k191_2
    have hV : vC M7 = vC M := by rw [hM7, vC_z (by decide), hV]
    have aw : M7 193 = upd (M 193) (M 191 2).toNatClampNeg x := by rw [hM7, sI_n _ _ _ (by decide), hM5, sI_k]; simp only [gv6, gv4, gv1]
    have ah : M7 194 = upd (M 194) (M 191 2).toNatClampNeg y := by rw [hM7, sI_k, hM5, sI_n _ _ _ (by decide)]; simp only [gv6, gv4, gv1]
    refine g_iconst C 0 dX7_note_30 (by decide) ?_
    refine g_istore C [(4, .int 0), (0, .ref (ad 191)), (1, .int x), (2, .int y), (3, .ref (ad 88))] dX7_note_31 (by decide) rfl ?_
    have zy8 : (0 : Int32).toInt = 0 := by decide
    refine g_loop (α := Int32 × MI × ML) (fun a => (11 - a.1.toInt).toNat) (fun a => (0 ≤ a.1.toInt) ∧ (a.1.toInt ≤ 10) ∧ (a.2.1 191 2 = M 191 2) ∧ (a.2.1 193 = upd (M 193) (M 191 2).toNatClampNeg x) ∧ (a.2.1 194 = upd (M 194) (M 191 2).toNatClampNeg y) ∧ IC a.2.1 ∧ (∀ k i, ¬ (k = 191 ∧ i = 2) ∧ k ≠ 193 ∧ k ≠ 194 → a.2.1 k i = M k i) ∧ (∀ k i, ¬ (197 ≤ k ∧ k < 257) → a.2.2 k i = L k i)) (fun a => a.2.1) (fun a => a.2.2) (fun a => [(4, .int a.1), (0, .ref (ad 191)), (1, .int x), (2, .int y), (3, .ref (ad 88))]) ((0 : Int32), M7, L) ⟨by show 0 ≤ (0 : Int32).toInt; omega, by show (0 : Int32).toInt ≤ 10; omega, by show M7 191 2 = M 191 2; exact k191_2, by show M7 193 = upd (M 193) (M 191 2).toNatClampNeg x; exact aw, by show M7 194 = upd (M 194) (M 191 2).toNatClampNeg y; exact ah, hI, hF, hG⟩ rfl rfl rfl ?_
    rintro ⟨x4_33, M_33, L_33⟩ ⟨j33_0, j33_1, j33_2, j33_3, j33_4, hI, hF, hG⟩ ih_33
    dsimp only at j33_0 j33_1 j33_2 j33_3 j33_4 hI hF hG ih_33 ⊢
    have k191_2 : M_33 191 2 = M_33 191 2 := rfl
    have hV : vC M_33 = vC M_33 := rfl
    have q193 : M_33 193 = M_33 193 := rfl
    have q194 : M_33 194 = M_33 194 := rfl
    have k2t := congrArg Int32.toInt j33_2
    refine g_iload C 0 dX7_note_33 rfl ?_
    refine g_bipush C 10 dX7_note_35 (by decide) ?_
    refine g_icmp_ge C 84 dX7_note_37 (by decide) (fun c9 => ?_) (fun c9 => ?_)
    ·
      have f10 := fle (by decide : (10 : Int32).toInt = 10) rfl c9
      refine g_aload_n C 1 dX7_note_84 rfl ?_
      refine g_dup C dX7_note_85 rfl ?_
      refine g_get C (.int (M_33 191 2)) 2 in_X7_note_7 (List.mem_of_getElem? (i := 1) rfl) (by decide) (ce_rb ad cs _ _) rfl (by decide) rfl rfl dX7_note_86 ?_
      refine g_ni (fun v11 ev11 => ?_)
      have gv11 : v11 = M_33 191 2 := ev11.trans k191_2
      have tv11 := congrArg Int32.toInt gv11
      obtain ⟨bv11, dv11⟩ := (show rg 0 30 v11 from (by rw [ev11]; exact hI 191 2 (Or.inr rfl)))
      refine g_iconst C 1 dX7_note_89 (by decide) ?_
      refine g_iadd C dX7_note_90 ?_
      refine g_ni (fun v12 ev12 => ?_)
      try have fv12 := fadd rfl (by decide : (1 : Int32).toInt = 1) ev12 (by omega) (by omega)
      refine g_putI C 2 in_X7_note_7 (List.mem_of_getElem? (i := 1) rfl) (by decide) (ce_rb ad cs _ _) rfl (by decide) rfl tyX7 tyX7_ok nmX7 rfl rfl rfl rfl (Nat.le_of_ble_eq_true rfl) (by rw [sI_k]; rfl) dX7_note_91 ?_
      refine g_nm (fun M13 hM13 => ?_)
      have hI : IC M13 := by rw [hM13]; exact hI.st (fun _ => ⟨by first | omega | decide, by first | omega | decide⟩)
      have hF : ∀ k i, ¬ (k = 191 ∧ i = 2) ∧ k ≠ 193 ∧ k ≠ 194 → M13 k i = M k i := fun k i hk => by (rw [hM13, sI_at, if_neg (by omega)]; try exact hF k i hk)
      have k191_2 : M13 191 2 = v12 := by rw [hM13, sI_at, if_pos (by decide)]
      have q193 : M13 193 = M_33 193 := by rw [hM13, sI_n _ _ _ (by decide)]; try exact q193
      have q194 : M13 194 = M_33 194 := by rw [hM13, sI_n _ _ _ (by decide)]; try exact q194
      have hV : vC M13 = vC M_33 := by rw [hM13, vC_z (by decide), hV]
      exact g_vret C hr ⟨⟨by rw [k191_2]; omega, by rw [hM13, sI_n _ _ _ (by decide)]; exact j33_3, by rw [hM13, sI_n _ _ _ (by decide)]; exact j33_4⟩, hI, hF, hG⟩ dX7_note_94
    ·
      have f14 := fnle (by decide : (10 : Int32).toInt = 10) rfl c9
      refine g_aload_n C 1 dX7_note_40 rfl ?_
      refine g_get C (.ref (ad 195)) 5 in_X7_note_7 (List.mem_of_getElem? (i := 4) rfl) (by decide) (ce_rb ad cs _ _) rfl (by decide) rfl rfl dX7_note_41 ?_
      refine g_aload_n C 1 dX7_note_44 rfl ?_
      refine g_get C (.int (M_33 191 2)) 2 in_X7_note_7 (List.mem_of_getElem? (i := 1) rfl) (by decide) (ce_rb ad cs _ _) rfl (by decide) rfl rfl dX7_note_45 ?_
      refine g_ni (fun v15 ev15 => ?_)
      have gv15 : v15 = M_33 191 2 := ev15.trans k191_2
      have tv15 := congrArg Int32.toInt gv15
      obtain ⟨bv15, dv15⟩ := (show rg 0 30 v15 from (by rw [ev15]; exact hI 191 2 (Or.inr rfl)))
      have hi16 : vp_in v15 30 := (fin' (n := 30) rfl (by omega) (by omega))
      have nhi16 := tn hi16
      have mhi16 := ixn (x := v15) (by omega)
      refine g_aald C (by decide) (ce_rbupm ad cs _ _) rfl hi16 dX7_note_48 ?_
      refine g_iload C 0 dX7_note_49 rfl ?_
      refine g_aload_n C 4 dX7_note_51 rfl ?_
      refine g_get C (.ref (ad 91)) 6 in_X7_note_6 (List.mem_of_getElem? (i := 5) rfl) (by decide) (ce_poll ad cs _ _) rfl (by decide) rfl rfl dX7_note_52 ?_
      refine g_iload C 0 dX7_note_55 rfl ?_
      have nx4_33 := ixn (x := x4_33) (by omega)
      refine g_lald C (by decide) (ce_pupper ad cs _ _) (fin' (n := 10) rfl (by omega) (by omega)) dX7_note_57 ?_
      refine g_nl (fun v17 ev17 => ?_)
      have gv17 : v17 = L 91 x4_33.toNatClampNeg := ev17.trans (hG 91 _ (by omega))
      have tv17 := congrArg Int64.toInt gv17
      have nx4_33 := ixn (x := x4_33) (by omega)
      refine g_last C (by omega) (ce_rbup ad cs _ _ nhi16) (by rw [sJ_k]; exact (ce_rbup ad cs _ _ nhi16)) (fin' (n := 10) rfl (by omega) (by omega)) dX7_note_58 ?_
      refine g_nmL (fun L18 hL18 => ?_)
      have hG : ∀ k i, ¬ (197 ≤ k ∧ k < 257) → L18 k i = L k i := fun k i hk => by (rw [hL18, sJ_at, if_neg (by omega)]; try exact hG k i hk)
      refine g_aload_n C 1 dX7_note_59 rfl ?_
      refine g_get C (.ref (ad 196)) 6 in_X7_note_7 (List.mem_of_getElem? (i := 6) rfl) (by decide) (ce_rb ad cs _ _) rfl (by decide) rfl rfl dX7_note_60 ?_
      refine g_aload_n C 1 dX7_note_63 rfl ?_
      refine g_get C (.int (M_33 191 2)) 2 in_X7_note_7 (List.mem_of_getElem? (i := 1) rfl) (by decide) (ce_rb ad cs _ _) rfl (by decide) rfl rfl dX7_note_64 ?_
      refine g_ni (fun v19 ev19 => ?_)
      have gv19 : v19 = M_33 191 2 := ev19.trans k191_2
      have tv19 := congrArg Int32.toInt gv19
      obtain ⟨bv19, dv19⟩ := (show rg 0 30 v19 from (by rw [ev19]; exact hI 191 2 (Or.inr rfl)))
      have hi20 : vp_in v19 30 := (fin' (n := 30) rfl (by omega) (by omega))
      have nhi20 := tn hi20
      have mhi20 := ixn (x := v19) (by omega)
      refine g_aald C (by decide) (ce_rblowm ad cs _ _) rfl hi20 dX7_note_67 ?_
      refine g_iload C 0 dX7_note_68 rfl ?_
      refine g_aload_n C 4 dX7_note_70 rfl ?_
      refine g_get C (.ref (ad 92)) 7 in_X7_note_6 (List.mem_of_getElem? (i := 7) rfl) (by decide) (ce_poll ad cs _ _) rfl (by decide) rfl rfl dX7_note_71 ?_
      refine g_iload C 0 dX7_note_74 rfl ?_
      have nx4_33 := ixn (x := x4_33) (by omega)
      refine g_lald C (by decide) (ce_plower ad cs _ _) (fin' (n := 10) rfl (by omega) (by omega)) dX7_note_76 ?_
      refine g_nl (fun v21 ev21 => ?_)
      have gv21 : v21 = L 92 x4_33.toNatClampNeg := ev21.trans (hG 92 _ (by omega))
      have tv21 := congrArg Int64.toInt gv21
      have nx4_33 := ixn (x := x4_33) (by omega)
      refine g_last C (by omega) (ce_rblow ad cs _ _ nhi20) (by rw [sJ_k]; exact (ce_rblow ad cs _ _ nhi20)) (fin' (n := 10) rfl (by omega) (by omega)) dX7_note_77 ?_
      refine g_nmL (fun L22 hL22 => ?_)
      have hG : ∀ k i, ¬ (197 ≤ k ∧ k < 257) → L22 k i = L k i := fun k i hk => by (rw [hL22, sJ_at, if_neg (by omega)]; try exact hG k i hk)
      obtain ⟨v23, ev23⟩ : ∃ y : Int32, y = x4_33 + 1 := ⟨_, rfl⟩
      try have fv23 := fadd rfl (by decide : (1 : Int32).toInt = 1) ev23 (by omega) (by omega)
      refine g_iinc C 0 v23 [(4, .int v23), (0, .ref (ad 191)), (1, .int x), (2, .int y), (3, .ref (ad 88))] dX7_note_78 rfl (by rw [ev23]; rfl) (by decide) rfl ?_
      refine g_goto C 33 dX7_note_81 (by decide) ?_
      exact ih_33 (v23, M_33, L22) ⟨by show 0 ≤ v23.toInt; omega, by show v23.toInt ≤ 10; omega, by show M_33 191 2 = M 191 2; exact k191_2.trans j33_2, by show M_33 193 = upd (M 193) (M 191 2).toNatClampNeg x; exact j33_3, by show M_33 194 = upd (M 194) (M 191 2).toNatClampNeg y; exact j33_4, hI, hF, hG⟩ (by show (11 - v23.toInt).toNat < (11 - x4_33.toInt).toNat; omega)
  ·
    have f24 := feq rfl (by decide : (30 : Int32).toInt = 30) c2
    exact g_vret C hr ⟨(by exfalso; omega), hI, hF, hG⟩ dX7_note_9
set_option maxHeartbeats 4000000 in
set_option maxRecDepth 100000 in
theorem k_X7_give_b (l : Launch) (D : va_G) (ad : Nat → Nat) (cs : Nat → ClassId) (M : MI) (L : ML) (x : Int32) (hI : IC M) (hg0 : (M 191 0).toInt < 30) : Cv l yX7_give wsX7_give ({ frames := 0, cells := 0, slots := 0, locals := 0 }) D ad cs [.ref (ad 191), .int x] M L (fun M1 L1 => ((M1 191 0).toInt = (M 191 0).toInt + 1 ∧ M1 192 = upd (M 192) ((M 191 0).toNatClampNeg) x) ∧ IC M1 ∧ (∀ k i, ¬ (k = 191 ∧ i = 0) ∧ k ≠ 192 → M1 k i = M k i) ∧ ∀ k i, True → L1 k i = L k i) := by
  refine enter_v RX7 rfl [(0, .ref (ad 191)), (1, .int x)] rfl (Nat.le_of_ble_eq_true rfl) (by decide +kernel) rfl ?_
  intro p e s m below meth c C hr
  have hF : ∀ k i, ¬ (k = 191 ∧ i = 0) ∧ k ≠ 192 → M k i = M k i := fun _ _ _ => rfl
  have hG : ∀ k i, True → L k i = L k i := fun _ _ _ => rfl
  have w0 : (vC M 0 0).toInt = (M 1 0).toInt := rfl
  have w1 : (vC M 0 1).toInt = (M 3 0).toInt := rfl
  have w2 : (vC M 0 2).toInt = (M 68 0).toInt := rfl
  have w3 : (vC M 0 3).toInt = (M 81 0).toInt := rfl
  obtain ⟨y0a, y0b⟩ := (show rg 0 10 (M 1 0) from hI 1 0 rfl)
  obtain ⟨y1a, y1b⟩ := (show rg 0 60 (M 3 0) from hI 3 0 rfl)
  obtain ⟨y2a, y2b⟩ := (show rg 0 8 (M 68 0) from hI 68 0 rfl)
  obtain ⟨y3a, y3b⟩ := (show rg 0 20 (M 81 0) from hI 81 0 rfl)
  obtain ⟨ra, rb⟩ := (show rg 0 30 (M 191 0) from hI 191 0 (Or.inl rfl))
  have k191_0 : M 191 0 = M 191 0 := rfl
  have q192 : M 192 = M 192 := rfl
  have hV : vC M = vC M := rfl
  refine g_aload_n C 0 dX7_give_0 rfl ?_
  refine g_get C (.int (M 191 0)) 0 in_X7_give_7 (List.mem_of_getElem? (i := 1) rfl) (by decide) (ce_rb ad cs _ _) rfl (by decide) rfl rfl dX7_give_1 ?_
  refine g_ni (fun v1 ev1 => ?_)
  have gv1 : v1 = M 191 0 := ev1.trans k191_0
  have tv1 := congrArg Int32.toInt gv1
  obtain ⟨bv1, dv1⟩ := (show rg 0 30 v1 from (by rw [ev1]; exact hI 191 0 (Or.inl rfl)))
  refine g_bipush C 30 dX7_give_4 (by decide) ?_
  refine g_icmp_ge C 29 dX7_give_6 (by decide) (fun c2 => ?_) (fun c2 => ?_)
  ·
    have f3 := fle (by decide : (30 : Int32).toInt = 30) rfl c2
    exact g_vret C hr ⟨(by exfalso; omega), hI, hF, hG⟩ dX7_give_29
  ·
    have f4 := fnle (by decide : (30 : Int32).toInt = 30) rfl c2
    refine g_aload_n C 0 dX7_give_9 rfl ?_
    refine g_get C (.ref (ad 192)) 1 in_X7_give_7 (List.mem_of_getElem? (i := 2) rfl) (by decide) (ce_rb ad cs _ _) rfl (by decide) rfl rfl dX7_give_10 ?_
    refine g_aload_n C 0 dX7_give_13 rfl ?_
    refine g_get C (.int (M 191 0)) 0 in_X7_give_7 (List.mem_of_getElem? (i := 1) rfl) (by decide) (ce_rb ad cs _ _) rfl (by decide) rfl rfl dX7_give_14 ?_
    refine g_ni (fun v5 ev5 => ?_)
    have gv5 : v5 = M 191 0 := ev5.trans k191_0
    have tv5 := congrArg Int32.toInt gv5
    obtain ⟨bv5, dv5⟩ := (show rg 0 30 v5 from (by rw [ev5]; exact hI 191 0 (Or.inl rfl)))
    refine g_iload_n C 1 dX7_give_17 rfl ?_
    have nv5 := ixn (x := v5) (by omega)
    refine g_iast C (by decide) (ce_rbseated ad cs _ _) (by rw [sI_k]; rfl) (fin' (n := 30) rfl (by omega) (by omega)) dX7_give_18 ?_
    refine g_nm (fun M6 hM6 => ?_)
    have hI : IC M6 := by rw [hM6]; exact hI.st (bC_free (by decide) (by decide) (by decide) (by decide) (by decide) (by decide) (by decide))
    have hF : ∀ k i, ¬ (k = 191 ∧ i = 0) ∧ k ≠ 192 → M6 k i = M k i := fun k i hk => by (rw [hM6, sI_at, if_neg (by omega)]; try exact hF k i hk)
    have k191_0 : M6 191 0 = M 191 0 := by rw [hM6, sI_n _ _ _ (by decide)]; try exact k191_0
    have hV : vC M6 = vC M := by rw [hM6, vC_z (by decide), hV]
    refine g_aload_n C 0 dX7_give_19 rfl ?_
    refine g_dup C dX7_give_20 rfl ?_
    refine g_get C (.int (M6 191 0)) 0 in_X7_give_7 (List.mem_of_getElem? (i := 1) rfl) (by decide) (ce_rb ad cs _ _) rfl (by decide) rfl rfl dX7_give_21 ?_
    refine g_ni (fun v7 ev7 => ?_)
    have gv7 : v7 = M 191 0 := ev7.trans k191_0
    have tv7 := congrArg Int32.toInt gv7
    obtain ⟨bv7, dv7⟩ := (show rg 0 30 v7 from (by rw [ev7]; exact hI 191 0 (Or.inl rfl)))
    refine g_iconst C 1 dX7_give_24 (by decide) ?_
    refine g_iadd C dX7_give_25 ?_
    refine g_ni (fun v8 ev8 => ?_)
    try have fv8 := fadd rfl (by decide : (1 : Int32).toInt = 1) ev8 (by omega) (by omega)
    refine g_putI C 0 in_X7_give_7 (List.mem_of_getElem? (i := 1) rfl) (by decide) (ce_rb ad cs _ _) rfl (by decide) rfl tyX7 tyX7_ok nmX7 rfl rfl rfl rfl (Nat.le_of_ble_eq_true rfl) (by rw [sI_k]; rfl) dX7_give_26 ?_
    refine g_nm (fun M9 hM9 => ?_)
    have hI : IC M9 := by rw [hM9]; exact hI.st (fun _ => ⟨by first | omega | decide, by first | omega | decide⟩)
    have hF : ∀ k i, ¬ (k = 191 ∧ i = 0) ∧ k ≠ 192 → M9 k i = M k i := fun k i hk => by (rw [hM9, sI_at, if_neg (by omega)]; try exact hF k i hk)
    have k191_0 : M9 191 0 = v8 := by rw [hM9, sI_at, if_pos (by decide)]
    have hV : vC M9 = vC M := by rw [hM9, vC_z (by decide), hV]
    exact g_vret C hr ⟨⟨by rw [k191_0]; omega, by rw [hM9, sI_n _ _ _ (by decide), hM6, sI_k]; simp only [ev8, gv7, gv5, gv1]⟩, hI, hF, hG⟩ dX7_give_29
set_option maxHeartbeats 4000000 in
set_option maxRecDepth 100000 in
theorem k_X7_clear_b (l : Launch) (D : va_G) (ad : Nat → Nat) (cs : Nat → ClassId) (M : MI) (L : ML)  (hI : IC M) : Cv l yX7_clear wsX7_clear ({ frames := 0, cells := 0, slots := 0, locals := 0 }) D ad cs [.ref (ad 191)] M L (fun M1 L1 => (M1 191 0 = 0 ∧ M1 191 2 = 0) ∧ IC M1 ∧ (∀ k i, ¬ (k = 191 ∧ i = 0) ∧ ¬ (k = 191 ∧ i = 2) → M1 k i = M k i) ∧ ∀ k i, True → L1 k i = L k i) := by
  refine enter_v RX7 rfl [(0, .ref (ad 191))] rfl (Nat.le_of_ble_eq_true rfl) (by decide +kernel) rfl ?_
  intro p e s m below meth c C hr
  have hF : ∀ k i, ¬ (k = 191 ∧ i = 0) ∧ ¬ (k = 191 ∧ i = 2) → M k i = M k i := fun _ _ _ => rfl
  have hG : ∀ k i, True → L k i = L k i := fun _ _ _ => rfl
  have w0 : (vC M 0 0).toInt = (M 1 0).toInt := rfl
  have w1 : (vC M 0 1).toInt = (M 3 0).toInt := rfl
  have w2 : (vC M 0 2).toInt = (M 68 0).toInt := rfl
  have w3 : (vC M 0 3).toInt = (M 81 0).toInt := rfl
  obtain ⟨y0a, y0b⟩ := (show rg 0 10 (M 1 0) from hI 1 0 rfl)
  obtain ⟨y1a, y1b⟩ := (show rg 0 60 (M 3 0) from hI 3 0 rfl)
  obtain ⟨y2a, y2b⟩ := (show rg 0 8 (M 68 0) from hI 68 0 rfl)
  obtain ⟨y3a, y3b⟩ := (show rg 0 20 (M 81 0) from hI 81 0 rfl)
  have k191_0 : M 191 0 = M 191 0 := rfl
  have k191_2 : M 191 2 = M 191 2 := rfl
  have hV : vC M = vC M := rfl
  refine g_aload_n C 0 dX7_clear_0 rfl ?_
  refine g_iconst C 0 dX7_clear_1 (by decide) ?_
  refine g_putI C 0 in_X7_clear_7 (List.mem_of_getElem? (i := 1) rfl) (by decide) (ce_rb ad cs _ _) rfl (by decide) rfl tyX7 tyX7_ok nmX7 rfl rfl rfl rfl (Nat.le_of_ble_eq_true rfl) (by rw [sI_k]; rfl) dX7_clear_2 ?_
  refine g_nm (fun M1 hM1 => ?_)
  have zy2 : (0 : Int32).toInt = 0 := by decide
  have hI : IC M1 := by rw [hM1]; exact hI.st (fun _ => ⟨by first | omega | decide, by first | omega | decide⟩)
  have hF : ∀ k i, ¬ (k = 191 ∧ i = 0) ∧ ¬ (k = 191 ∧ i = 2) → M1 k i = M k i := fun k i hk => by (rw [hM1, sI_at, if_neg (by omega)]; try exact hF k i hk)
  have k191_2 : M1 191 2 = M 191 2 := by rw [hM1, sI_at, if_neg (by decide)]; try exact k191_2
  have k191_0 : M1 191 0 = 0 := by rw [hM1, sI_at, if_pos (by decide)]
  have hV : vC M1 = vC M := by rw [hM1, vC_z (by decide), hV]
  refine g_aload_n C 0 dX7_clear_5 rfl ?_
  refine g_iconst C 0 dX7_clear_6 (by decide) ?_
  refine g_putI C 2 in_X7_clear_7 (List.mem_of_getElem? (i := 2) rfl) (by decide) (ce_rb ad cs _ _) rfl (by decide) rfl tyX7 tyX7_ok nmX7 rfl rfl rfl rfl (Nat.le_of_ble_eq_true rfl) (by rw [sI_k]; rfl) dX7_clear_7 ?_
  refine g_nm (fun M3 hM3 => ?_)
  have zy4 : (0 : Int32).toInt = 0 := by decide
  have hI : IC M3 := by rw [hM3]; exact hI.st (fun _ => ⟨by first | omega | decide, by first | omega | decide⟩)
  have hF : ∀ k i, ¬ (k = 191 ∧ i = 0) ∧ ¬ (k = 191 ∧ i = 2) → M3 k i = M k i := fun k i hk => by (rw [hM3, sI_at, if_neg (by omega)]; try exact hF k i hk)
  have k191_0 : M3 191 0 = 0 := by rw [hM3, sI_at, if_neg (by decide)]; try exact k191_0
  have k191_2 : M3 191 2 = 0 := by rw [hM3, sI_at, if_pos (by decide)]
  have hV : vC M3 = vC M := by rw [hM3, vC_z (by decide), hV]
  exact g_vret C hr ⟨⟨k191_0, k191_2⟩, hI, hF, hG⟩ dX7_clear_10
