set_option maxHeartbeats 4000000 in
set_option maxRecDepth 100000 in
theorem k_X8_sbq_a (l : Launch) (D : va_G) (ad : Nat → Nat) (cs : Nat → ClassId) (M : MI) (L : ML)  (hI : IC M) (hP3 : ∀ b, 0 ≤ (vC M 3 b).toInt ∧ (vC M 3 b).toInt ≤ 100000) (hD : DP (vC M)) (hNI0 : NIn (M 90) (M 1 0).toInt) (hs1 : 1 ≤ (M 88 4).toInt) (hg0 : (M 125 0).toInt = 0) (hm0 : (M 125 2).toInt = 0) (hC : (M 88 4).toInt ≤ (cI (M 90) (M 1 0).toNatClampNeg : Int)) : Ci l yX8_seatByQuota wsX8_seatByQuota ({ frames := 4, cells := 0, slots := 0, locals := 114 }) D ad cs [.ref (ad 120), .ref (ad 125)] M L (fun r M1 L1 => (∃ (wu wd : Nat → Int64) (k : Nat), (∀ j : Nat, j < (M 88 3).toNatClampNeg → wu j = (vC M 3 (M 89 j).toNatClampNeg).toInt64 ∧ wd j = 1) ∧ (∀ j, j < k → ¬ qrD (M 1 0).toNatClampNeg (M 88 4).toNatClampNeg (qrN (vC M) (M 2) (M 89) (M 88 3).toNatClampNeg (M 1 0).toNatClampNeg (M 88 4).toNatClampNeg ((foK (fun _ b u => u + vC M 3 b) (M 89) (M 88 3).toNatClampNeg (0 : Int32) / (M 88 4 + 1)).toInt64 + 1) (M 90, (wu, wd), [], [], true) j)) ∧ qrD (M 1 0).toNatClampNeg (M 88 4).toNatClampNeg (qrN (vC M) (M 2) (M 89) (M 88 3).toNatClampNeg (M 1 0).toNatClampNeg (M 88 4).toNatClampNeg ((foK (fun _ b u => u + vC M 3 b) (M 89) (M 88 3).toNatClampNeg (0 : Int32) / (M 88 4 + 1)).toInt64 + 1) (M 90, (wu, wd), [], [], true) k) ∧ zo r ((qrN (vC M) (M 2) (M 89) (M 88 3).toNatClampNeg (M 1 0).toNatClampNeg (M 88 4).toNatClampNeg ((foK (fun _ b u => u + vC M 3 b) (M 89) (M 88 3).toNatClampNeg (0 : Int32) / (M 88 4 + 1)).toInt64 + 1) (M 90, (wu, wd), [], [], true) k).2.2.2.2 = true) ∧ ((qrN (vC M) (M 2) (M 89) (M 88 3).toNatClampNeg (M 1 0).toNatClampNeg (M 88 4).toNatClampNeg ((foK (fun _ b u => u + vC M 3 b) (M 89) (M 88 3).toNatClampNeg (0 : Int32) / (M 88 4 + 1)).toInt64 + 1) (M 90, (wu, wd), [], [], true) k).2.2.2.2 = true → RP (M1 125 0) (M1 126) (M1 125 2) (M1 127) (M1 128) (qrN (vC M) (M 2) (M 89) (M 88 3).toNatClampNeg (M 1 0).toNatClampNeg (M 88 4).toNatClampNeg ((foK (fun _ b u => u + vC M 3 b) (M 89) (M 88 3).toNatClampNeg (0 : Int32) / (M 88 4 + 1)).toInt64 + 1) (M 90, (wu, wd), [], [], true) k).2.2.1 (qrN (vC M) (M 2) (M 89) (M 88 3).toNatClampNeg (M 1 0).toNatClampNeg (M 88 4).toNatClampNeg ((foK (fun _ b u => u + vC M 3 b) (M 89) (M 88 3).toNatClampNeg (0 : Int32) / (M 88 4 + 1)).toInt64 + 1) (M 90, (wu, wd), [], [], true) k).2.2.2.1)) ∧ IC M1 ∧ (∀ k i, k ≠ 90 ∧ k ≠ 123 ∧ ¬ (k = 125 ∧ i = 0) ∧ ¬ (k = 125 ∧ i = 2) ∧ k ≠ 126 ∧ k ≠ 127 ∧ k ≠ 128 → M1 k i = M k i) ∧ ∀ k i, k ≠ 91 ∧ k ≠ 92 ∧ k ≠ 121 ∧ k ≠ 122 ∧ ¬ (k = 124 ∧ i = 0) ∧ ¬ (k = 124 ∧ i = 1) ∧ ¬ (131 ≤ k ∧ k < 191) → L1 k i = L k i) := by
  refine enter_i RX8 rfl [(0, .ref (ad 120)), (1, .ref (ad 125))] rfl (Nat.le_of_ble_eq_true rfl) (by decide +kernel) rfl ?_
  intro p e s m below meth c C hr
  have hF : ∀ k i, k ≠ 90 ∧ k ≠ 123 ∧ ¬ (k = 125 ∧ i = 0) ∧ ¬ (k = 125 ∧ i = 2) ∧ k ≠ 126 ∧ k ≠ 127 ∧ k ≠ 128 → M k i = M k i := fun _ _ _ => rfl
  have hG : ∀ k i, k ≠ 91 ∧ k ≠ 92 ∧ k ≠ 121 ∧ k ≠ 122 ∧ ¬ (k = 124 ∧ i = 0) ∧ ¬ (k = 124 ∧ i = 1) ∧ ¬ (131 ≤ k ∧ k < 191) → L k i = L k i := fun _ _ _ => rfl
  have w0 : (vC M 0 0).toInt = (M 1 0).toInt := rfl
  have w1 : (vC M 0 1).toInt = (M 3 0).toInt := rfl
  have w2 : (vC M 0 2).toInt = (M 68 0).toInt := rfl
  have w3 : (vC M 0 3).toInt = (M 81 0).toInt := rfl
  obtain ⟨y0a, y0b⟩ := (show rg 0 10 (M 1 0) from hI 1 0 rfl)
  obtain ⟨y1a, y1b⟩ := (show rg 0 60 (M 3 0) from hI 3 0 rfl)
  obtain ⟨y2a, y2b⟩ := (show rg 0 8 (M 68 0) from hI 68 0 rfl)
  obtain ⟨y3a, y3b⟩ := (show rg 0 20 (M 81 0) from hI 81 0 rfl)
  have hI0 := hI
  obtain ⟨ma, mb⟩ := (show rg 0 40 (M 88 3) from (hI 88 3).1 rfl)
  have nm := ixn ma
  have n02 := ixn y0a
  obtain ⟨sa, sb⟩ := (show rg 0 30 (M 88 4) from (hI 88 4).2 rfl)
  have nsd := ixn sa
  have hle := cI_le (M 90) (M 1 0).toNatClampNeg
  have k125_0 : M 125 0 = M 125 0 := rfl
  have k125_2 : M 125 2 = M 125 2 := rfl
  have l124_0 : L 124 0 = L 124 0 := rfl
  have l124_1 : L 124 1 = L 124 1 := rfl
  have p91 : L 91 = L 91 := rfl
  have p92 : L 92 = L 92 := rfl
  have p121 : L 121 = L 121 := rfl
  have p122 : L 122 = L 122 := rfl
  have q90 : M 90 = M 90 := rfl
  have q123 : M 123 = M 123 := rfl
  have q126 : M 126 = M 126 := rfl
  have q127 : M 127 = M 127 := rfl
  have q128 : M 128 = M 128 := rfl
  have hV : vC M = vC M := rfl
  refine g_iconst C 0 dX8_seatByQuota_0 (by decide) ?_
  refine g_istore_n C [(2, .int 0), (0, .ref (ad 120)), (1, .ref (ad 125))] dX8_seatByQuota_1 (by decide) rfl ?_
  have zy1 : (0 : Int32).toInt = 0 := by decide
  refine g_loop (α := Int32 × MI × ML) (fun a => (41 - a.1.toInt).toNat) (fun a => (0 ≤ a.1.toInt) ∧ (a.1.toInt ≤ (M 88 3).toInt) ∧ (∀ j : Nat, j < a.1.toNatClampNeg → a.2.2 121 j = (vC M 3 (M 89 j).toNatClampNeg).toInt64 ∧ a.2.2 122 j = 1) ∧ (a.2.1 90 = M 90 ∧ a.2.1 125 0 = M 125 0 ∧ a.2.1 125 2 = M 125 2) ∧ IC a.2.1 ∧ (∀ k i, k ≠ 90 ∧ k ≠ 123 ∧ ¬ (k = 125 ∧ i = 0) ∧ ¬ (k = 125 ∧ i = 2) ∧ k ≠ 126 ∧ k ≠ 127 ∧ k ≠ 128 → a.2.1 k i = M k i) ∧ (∀ k i, k ≠ 91 ∧ k ≠ 92 ∧ k ≠ 121 ∧ k ≠ 122 ∧ ¬ (k = 124 ∧ i = 0) ∧ ¬ (k = 124 ∧ i = 1) ∧ ¬ (131 ≤ k ∧ k < 191) → a.2.2 k i = L k i)) (fun a => a.2.1) (fun a => a.2.2) (fun a => [(2, .int a.1), (0, .ref (ad 120)), (1, .ref (ad 125))]) ((0 : Int32), M, L) ⟨by show 0 ≤ (0 : Int32).toInt; omega, by show (0 : Int32).toInt ≤ (M 88 3).toInt; omega, by show ∀ j : Nat, j < (0 : Int32).toNatClampNeg → L 121 j = (vC M 3 (M 89 j).toNatClampNeg).toInt64 ∧ L 122 j = 1; intro j hj; exact absurd hj (by show ¬ j < 0; omega), by show M 90 = M 90 ∧ M 125 0 = M 125 0 ∧ M 125 2 = M 125 2; exact ⟨rfl, rfl, rfl⟩, hI, hF, hG⟩ rfl rfl rfl ?_
  rintro ⟨x2_2, M_2, L_2⟩ ⟨j2_0, j2_1, j2_2, j2_3, hI, hF, hG⟩ ih_2
  dsimp only at j2_0 j2_1 j2_2 j2_3 hI hF hG ih_2 ⊢
  have k125_0 : M_2 125 0 = M_2 125 0 := rfl
  have k125_2 : M_2 125 2 = M_2 125 2 := rfl
  have hV : vC M_2 = vC M_2 := rfl
  have l124_0 : L_2 124 0 = L_2 124 0 := rfl
  have l124_1 : L_2 124 1 = L_2 124 1 := rfl
  have p91 : L_2 91 = L_2 91 := rfl
  have p92 : L_2 92 = L_2 92 := rfl
  have p121 : L_2 121 = L_2 121 := rfl
  have p122 : L_2 122 = L_2 122 := rfl
  have q90 : M_2 90 = M_2 90 := rfl
  have q123 : M_2 123 = M_2 123 := rfl
  have q126 : M_2 126 = M_2 126 := rfl
  have q127 : M_2 127 = M_2 127 := rfl
  have q128 : M_2 128 = M_2 128 := rfl
  have n2 := ixn (x := x2_2) (by omega)
  refine g_iload_n C 0 dX8_seatByQuota_2 rfl ?_
  refine g_aload_n C 1 dX8_seatByQuota_3 rfl ?_
  refine g_get C (.ref (ad 88)) 0 in_X8_seatByQuota_8 (List.mem_of_getElem? (i := 1) rfl) (by decide) (ce_trans ad cs _ _) rfl (by decide) rfl rfl dX8_seatByQuota_4 ?_
  refine g_get C (.int (M_2 88 3)) 3 in_X8_seatByQuota_6 (List.mem_of_getElem? (i := 2) rfl) (by decide) (ce_poll ad cs _ _) rfl (by decide) rfl rfl dX8_seatByQuota_7 ?_
  refine g_ni (fun v2 ev2 => ?_)
  have gv2 : v2 = M 88 3 := ev2.trans (hF 88 3 (by omega))
  have tv2 := congrArg Int32.toInt gv2
  obtain ⟨bv2, dv2⟩ := (show rg 0 40 v2 from (by rw [ev2]; exact (hI 88 3).1 rfl))
  refine g_icmp_ge C 41 dX8_seatByQuota_10 (by decide) (fun c3 => ?_) (fun c3 => ?_)
  ·
    have f4 := fle rfl rfl c3
    refine g_aload_n C 1 dX8_seatByQuota_41 rfl ?_
    refine g_get C (.ref (ad 88)) 0 in_X8_seatByQuota_8 (List.mem_of_getElem? (i := 1) rfl) (by decide) (ce_trans ad cs _ _) rfl (by decide) rfl rfl dX8_seatByQuota_42 ?_
    refine g_get C (.int (M_2 88 4)) 4 in_X8_seatByQuota_6 (List.mem_of_getElem? (i := 5) rfl) (by decide) (ce_poll ad cs _ _) rfl (by decide) rfl rfl dX8_seatByQuota_45 ?_
    refine g_ni (fun v5 ev5 => ?_)
    have gv5 : v5 = M 88 4 := ev5.trans (hF 88 4 (by omega))
    have tv5 := congrArg Int32.toInt gv5
    obtain ⟨bv5, dv5⟩ := (show rg 0 30 v5 from (by rw [ev5]; exact (hI 88 4).2 rfl))
    refine g_iconst C 1 dX8_seatByQuota_48 (by decide) ?_
    refine g_icmp_ge C 56 dX8_seatByQuota_49 (by decide) (fun c6 => ?_) (fun c6 => ?_)
    ·
      have f7 := fle (by decide : (1 : Int32).toInt = 1) rfl c6
      refine g_aload_n C 1 dX8_seatByQuota_56 rfl ?_
      refine g_get C (.ref (ad 88)) 0 in_X8_seatByQuota_8 (List.mem_of_getElem? (i := 1) rfl) (by decide) (ce_trans ad cs _ _) rfl (by decide) rfl rfl dX8_seatByQuota_57 ?_
      have vCe : vC M_2 = vC M := vC_fr (fun k hk => funext (fun i => hF k i (by omega)))
      refine g_callVi C (n := 0) (As := []) (st := []) (k_X6_allPapers l D ad cs _ _  hI ) gX8_seatByQuota_X6_allPapers rfl rfl rfl (by decide +kernel) ⟨Nat.le_of_ble_eq_true rfl, Nat.le_of_ble_eq_true rfl⟩ rfl (Nat.le_of_ble_eq_true rfl) ⟨Nat.zero_le _, Nat.zero_le _⟩ (by decide) (ce_poll ad cs _ _) rfl rfl dX8_seatByQuota_60 (fun r8 M9 L10 hr8 => ?_)
      obtain ⟨hq1, hq2, hr8⟩ := hr8
      obtain rfl := hq1.symm
      obtain rfl := hq2.symm
      rw [vCe, show M_2 89 = M 89 from funext (fun i => hF 89 i (by omega)), show M_2 88 3 = M 88 3 from hF 88 3 (by omega)] at hr8
      have sk9 := sumK_b (V := vC M) (ly := M 89) hP3 (M 88 3).toNatClampNeg (by omega)
      have tr8 := congrArg Int32.toInt hr8
      refine g_aload_n C 1 dX8_seatByQuota_63 rfl ?_
      refine g_get C (.ref (ad 88)) 0 in_X8_seatByQuota_8 (List.mem_of_getElem? (i := 1) rfl) (by decide) (ce_trans ad cs _ _) rfl (by decide) rfl rfl dX8_seatByQuota_64 ?_
      refine g_get C (.int (M_2 88 4)) 4 in_X8_seatByQuota_6 (List.mem_of_getElem? (i := 5) rfl) (by decide) (ce_poll ad cs _ _) rfl (by decide) rfl rfl dX8_seatByQuota_67 ?_
      refine g_ni (fun v11 ev11 => ?_)
      have gv11 : v11 = M 88 4 := ev11.trans (hF 88 4 (by omega))
      have tv11 := congrArg Int32.toInt gv11
      obtain ⟨bv11, dv11⟩ := (show rg 0 30 v11 from (by rw [ev11]; exact (hI 88 4).2 rfl))
      refine g_iconst C 1 dX8_seatByQuota_70 (by decide) ?_
      refine g_iadd C dX8_seatByQuota_71 ?_
      refine g_ni (fun v12 ev12 => ?_)
      try have fv12 := fadd rfl (by decide : (1 : Int32).toInt = 1) ev12 (by omega) (by omega)
      refine g_idiv C dX8_seatByQuota_72 (by intro h9; have h8 := congrArg Int32.toInt h9; have h7 : (0 : Int32).toInt = 0 := (by decide); omega) ?_
      refine g_ni (fun v13 ev13 => ?_)
      try have fv13 := idivI ev13 (by omega) (by omega)
      refine g_iconst C 1 dX8_seatByQuota_73 (by decide) ?_
      refine g_iadd C dX8_seatByQuota_74 ?_
      refine g_ni (fun v14 ev14 => ?_)
      try have fv14 := fadd rfl (by decide : (1 : Int32).toInt = 1) ev14 (by omega) (by omega)
      refine g_i2l C dX8_seatByQuota_75 ?_
      refine g_nl (fun v15 ev15 => ?_)
      have fv15 := fi2l rfl ev15
      have sk := sumK_b (V := vC M) (ly := M 89) hP3 (M 88 3).toNatClampNeg (by omega)
      have qo := quo_ok (a := foK (fun _ b u => u + vC M 3 b) (M 89) (M 88 3).toNatClampNeg (0 : Int32)) (z := M 88 4) ⟨sk.1, by omega⟩ ⟨by omega, by omega⟩
      have hqv : v15 = ((foK (fun _ b u => u + vC M 3 b) (M 89) (M 88 3).toNatClampNeg (0 : Int32) / (M 88 4 + 1)).toInt64 + 1) := by rw [← qo.1]; simp only [ev15, ev14, ev13, ev12, gv11, hr8, gv5, gv2]
      have hqv1 : 1 ≤ v15.toInt ∧ v15.toInt ≤ 4000001 := by rw [hqv]; exact qo.2
      refine g_lstore_n C [(2, .long v15), (0, .ref (ad 120)), (1, .ref (ad 125))] dX8_seatByQuota_76 (by decide) rfl ?_
      refine g_iconst C 0 dX8_seatByQuota_77 (by decide) ?_
      refine g_istore C [(4, .int 0), (2, .long v15), (0, .ref (ad 120)), (1, .ref (ad 125))] dX8_seatByQuota_78 (by decide) rfl ?_
      have zy16 : (0 : Int32).toInt = 0 := by decide
      have e2 : x2_2.toNatClampNeg = (M 88 3).toNatClampNeg := by (have := ixn (x := x2_2) (by omega); omega)
      rw [e2] at j2_2
      have hWi : WTc L_2 (M 88 3).toNatClampNeg := fun i hi => by
        rw [(j2_2 i hi).1, (j2_2 i hi).2]
        have h9 := hP3 (M 89 i).toNatClampNeg
        have h8 := i32_64 (vC M 3 (M 89 i).toNatClampNeg)
        have h7 : (1 : Int64).toInt = 1 := by decide
        exact ⟨by unfold okF; omega, frU_1 (by omega)⟩
      have e90i : M_2 90 = M 90 := q90.trans j2_3.1
      have k0i : (M_2 125 0).toInt = 0 := by rw [k125_0, j2_3.2.1]; exact hg0
      have k2i : (M_2 125 2).toInt = 0 := by rw [k125_2, j2_3.2.2]; exact hm0
      refine g_loop (α := Int32 × MI × ML) (fun a => (11 - a.1.toInt).toNat) (fun a => (0 ≤ a.1.toInt) ∧ (a.1.toInt ≤ 10) ∧ ((qrN (vC M) (M 2) (M 89) (M 88 3).toNatClampNeg (M 1 0).toNatClampNeg (M 88 4).toNatClampNeg ((foK (fun _ b u => u + vC M 3 b) (M 89) (M 88 3).toNatClampNeg (0 : Int32) / (M 88 4 + 1)).toInt64 + 1) (M 90, (L_2 121, L_2 122), [], [], true) a.1.toNatClampNeg).2.2.2.2 = true ∧ a.2.1 90 = (qrN (vC M) (M 2) (M 89) (M 88 3).toNatClampNeg (M 1 0).toNatClampNeg (M 88 4).toNatClampNeg ((foK (fun _ b u => u + vC M 3 b) (M 89) (M 88 3).toNatClampNeg (0 : Int32) / (M 88 4 + 1)).toInt64 + 1) (M 90, (L_2 121, L_2 122), [], [], true) a.1.toNatClampNeg).1 ∧ a.2.2 121 = (qrN (vC M) (M 2) (M 89) (M 88 3).toNatClampNeg (M 1 0).toNatClampNeg (M 88 4).toNatClampNeg ((foK (fun _ b u => u + vC M 3 b) (M 89) (M 88 3).toNatClampNeg (0 : Int32) / (M 88 4 + 1)).toInt64 + 1) (M 90, (L_2 121, L_2 122), [], [], true) a.1.toNatClampNeg).2.1.1 ∧ a.2.2 122 = (qrN (vC M) (M 2) (M 89) (M 88 3).toNatClampNeg (M 1 0).toNatClampNeg (M 88 4).toNatClampNeg ((foK (fun _ b u => u + vC M 3 b) (M 89) (M 88 3).toNatClampNeg (0 : Int32) / (M 88 4 + 1)).toInt64 + 1) (M 90, (L_2 121, L_2 122), [], [], true) a.1.toNatClampNeg).2.1.2 ∧ RP (a.2.1 125 0) (a.2.1 126) (a.2.1 125 2) (a.2.1 127) (a.2.1 128) (qrN (vC M) (M 2) (M 89) (M 88 3).toNatClampNeg (M 1 0).toNatClampNeg (M 88 4).toNatClampNeg ((foK (fun _ b u => u + vC M 3 b) (M 89) (M 88 3).toNatClampNeg (0 : Int32) / (M 88 4 + 1)).toInt64 + 1) (M 90, (L_2 121, L_2 122), [], [], true) a.1.toNatClampNeg).2.2.1 (qrN (vC M) (M 2) (M 89) (M 88 3).toNatClampNeg (M 1 0).toNatClampNeg (M 88 4).toNatClampNeg ((foK (fun _ b u => u + vC M 3 b) (M 89) (M 88 3).toNatClampNeg (0 : Int32) / (M 88 4 + 1)).toInt64 + 1) (M 90, (L_2 121, L_2 122), [], [], true) a.1.toNatClampNeg).2.2.2.1 ∧ WTc a.2.2 (M 88 3).toNatClampNeg) ∧ (∀ j, j < a.1.toNatClampNeg → ¬ qrD (M 1 0).toNatClampNeg (M 88 4).toNatClampNeg (qrN (vC M) (M 2) (M 89) (M 88 3).toNatClampNeg (M 1 0).toNatClampNeg (M 88 4).toNatClampNeg ((foK (fun _ b u => u + vC M 3 b) (M 89) (M 88 3).toNatClampNeg (0 : Int32) / (M 88 4 + 1)).toInt64 + 1) (M 90, (L_2 121, L_2 122), [], [], true) j)) ∧ (a.1.toInt + (cI (a.2.1 90) (M 1 0).toNatClampNeg : Int) ≤ 10 ∧ NIn (a.2.1 90) (M 1 0).toInt ∧ (M 88 4).toInt ≤ (cI (a.2.1 90) (M 1 0).toNatClampNeg : Int) + (a.2.1 125 0).toInt ∧ (a.2.1 125 2).toInt = a.1.toInt ∧ (0 ≤ (a.2.1 125 0).toInt ∧ (a.2.1 125 0).toInt ≤ (M 88 4).toInt)) ∧ IC a.2.1 ∧ (∀ k i, k ≠ 90 ∧ k ≠ 123 ∧ ¬ (k = 125 ∧ i = 0) ∧ ¬ (k = 125 ∧ i = 2) ∧ k ≠ 126 ∧ k ≠ 127 ∧ k ≠ 128 → a.2.1 k i = M k i) ∧ (∀ k i, k ≠ 91 ∧ k ≠ 92 ∧ k ≠ 121 ∧ k ≠ 122 ∧ ¬ (k = 124 ∧ i = 0) ∧ ¬ (k = 124 ∧ i = 1) ∧ ¬ (131 ≤ k ∧ k < 191) → a.2.2 k i = L k i)) (fun a => a.2.1) (fun a => a.2.2) (fun a => [(4, .int a.1), (2, .long v15), (0, .ref (ad 120)), (1, .ref (ad 125))]) ((0 : Int32), M_2, L_2) ⟨by show 0 ≤ (0 : Int32).toInt; omega, by show (0 : Int32).toInt ≤ 10; omega, by show (qrN (vC M) (M 2) (M 89) (M 88 3).toNatClampNeg (M 1 0).toNatClampNeg (M 88 4).toNatClampNeg ((foK (fun _ b u => u + vC M 3 b) (M 89) (M 88 3).toNatClampNeg (0 : Int32) / (M 88 4 + 1)).toInt64 + 1) (M 90, (L_2 121, L_2 122), [], [], true) (0 : Int32).toNatClampNeg).2.2.2.2 = true ∧ M_2 90 = (qrN (vC M) (M 2) (M 89) (M 88 3).toNatClampNeg (M 1 0).toNatClampNeg (M 88 4).toNatClampNeg ((foK (fun _ b u => u + vC M 3 b) (M 89) (M 88 3).toNatClampNeg (0 : Int32) / (M 88 4 + 1)).toInt64 + 1) (M 90, (L_2 121, L_2 122), [], [], true) (0 : Int32).toNatClampNeg).1 ∧ L_2 121 = (qrN (vC M) (M 2) (M 89) (M 88 3).toNatClampNeg (M 1 0).toNatClampNeg (M 88 4).toNatClampNeg ((foK (fun _ b u => u + vC M 3 b) (M 89) (M 88 3).toNatClampNeg (0 : Int32) / (M 88 4 + 1)).toInt64 + 1) (M 90, (L_2 121, L_2 122), [], [], true) (0 : Int32).toNatClampNeg).2.1.1 ∧ L_2 122 = (qrN (vC M) (M 2) (M 89) (M 88 3).toNatClampNeg (M 1 0).toNatClampNeg (M 88 4).toNatClampNeg ((foK (fun _ b u => u + vC M 3 b) (M 89) (M 88 3).toNatClampNeg (0 : Int32) / (M 88 4 + 1)).toInt64 + 1) (M 90, (L_2 121, L_2 122), [], [], true) (0 : Int32).toNatClampNeg).2.1.2 ∧ RP (M_2 125 0) (M_2 126) (M_2 125 2) (M_2 127) (M_2 128) (qrN (vC M) (M 2) (M 89) (M 88 3).toNatClampNeg (M 1 0).toNatClampNeg (M 88 4).toNatClampNeg ((foK (fun _ b u => u + vC M 3 b) (M 89) (M 88 3).toNatClampNeg (0 : Int32) / (M 88 4 + 1)).toInt64 + 1) (M 90, (L_2 121, L_2 122), [], [], true) (0 : Int32).toNatClampNeg).2.2.1 (qrN (vC M) (M 2) (M 89) (M 88 3).toNatClampNeg (M 1 0).toNatClampNeg (M 88 4).toNatClampNeg ((foK (fun _ b u => u + vC M 3 b) (M 89) (M 88 3).toNatClampNeg (0 : Int32) / (M 88 4 + 1)).toInt64 + 1) (M 90, (L_2 121, L_2 122), [], [], true) (0 : Int32).toNatClampNeg).2.2.2.1 ∧ WTc L_2 (M 88 3).toNatClampNeg; exact ⟨rfl, e90i, rfl, rfl, RP_0 k0i k2i, hWi⟩, by show ∀ j, j < (0 : Int32).toNatClampNeg → ¬ qrD (M 1 0).toNatClampNeg (M 88 4).toNatClampNeg (qrN (vC M) (M 2) (M 89) (M 88 3).toNatClampNeg (M 1 0).toNatClampNeg (M 88 4).toNatClampNeg ((foK (fun _ b u => u + vC M 3 b) (M 89) (M 88 3).toNatClampNeg (0 : Int32) / (M 88 4 + 1)).toInt64 + 1) (M 90, (L_2 121, L_2 122), [], [], true) j); intro j hj; exact absurd hj (by show ¬ j < 0; omega), by show (0 : Int32).toInt + (cI (M_2 90) (M 1 0).toNatClampNeg : Int) ≤ 10 ∧ NIn (M_2 90) (M 1 0).toInt ∧ (M 88 4).toInt ≤ (cI (M_2 90) (M 1 0).toNatClampNeg : Int) + (M_2 125 0).toInt ∧ (M_2 125 2).toInt = (0 : Int32).toInt ∧ (0 ≤ (M_2 125 0).toInt ∧ (M_2 125 0).toInt ≤ (M 88 4).toInt); rw [e90i]; exact ⟨by omega, hNI0, by omega, by omega, by omega, by omega⟩, hI, hF, hG⟩ rfl rfl rfl ?_
      rintro ⟨x4_80, M_80, L_80⟩ ⟨j80_0, j80_1, j80_2, j80_3, j80_4, hI, hF, hG⟩ ih_80
      dsimp only at j80_0 j80_1 j80_2 j80_3 j80_4 hI hF hG ih_80 ⊢
      have k125_0 : M_80 125 0 = M_80 125 0 := rfl
      have k125_2 : M_80 125 2 = M_80 125 2 := rfl
      have hV : vC M_80 = vC M_80 := rfl
      have l124_0 : L_80 124 0 = L_80 124 0 := rfl
      have l124_1 : L_80 124 1 = L_80 124 1 := rfl
      have p91 : L_80 91 = L_80 91 := rfl
      have p92 : L_80 92 = L_80 92 := rfl
      have p121 : L_80 121 = L_80 121 := rfl
      have p122 : L_80 122 = L_80 122 := rfl
      have q90 : M_80 90 = M_80 90 := rfl
      have q123 : M_80 123 = M_80 123 := rfl
      have q126 : M_80 126 = M_80 126 := rfl
      have q127 : M_80 127 = M_80 127 := rfl
      have q128 : M_80 128 = M_80 128 := rfl
      have n4 := ixn (x := x4_80) (by omega)
      obtain ⟨hok9, eI, eWu, eWd, eRR, hW8⟩ := j80_2
      obtain ⟨hcn8, hNI, hC8, hm8, hg8⟩ := j80_4
      have eS9 := eRR.1
      have hcI0 : cI (qrN (vC M) (M 2) (M 89) (M 88 3).toNatClampNeg (M 1 0).toNatClampNeg (M 88 4).toNatClampNeg ((foK (fun _ b u => u + vC M 3 b) (M 89) (M 88 3).toNatClampNeg (0 : Int32) / (M 88 4 + 1)).toInt64 + 1) (M 90, (L_2 121, L_2 122), [], [], true) x4_80.toNatClampNeg).1 (M 1 0).toNatClampNeg = cI (M_80 90) (M 1 0).toNatClampNeg := by rw [eI]
      have eV8 : vC M_80 = vC M := vC_fr (fun k hk => funext (fun i => hF k i (by omega)))
      have e89 : M_80 89 = M 89 := funext (fun i => hF 89 i (by omega))
      have e883 : M_80 88 3 = M 88 3 := hF 88 3 (by omega)
      refine g_iload C 0 dX8_seatByQuota_80 rfl ?_
      refine g_bipush C 10 dX8_seatByQuota_82 (by decide) ?_
      refine g_icmp_ge C 148 dX8_seatByQuota_84 (by decide) (fun c17 => ?_) (fun c17 => ?_)
      ·
        have f18 := fle (by decide : (10 : Int32).toInt = 10) rfl c17
        refine g_iconst C 1 dX8_seatByQuota_148 (by decide) ?_
        have zr9 : (1 : Int32).toInt = 1 := by decide
        exact g_zret C hr rfl ⟨⟨L_2 121, L_2 122, x4_80.toNatClampNeg, j2_2, j80_3, by first | exact Or.inr (Or.inl (by omega)) | exact Or.inr (Or.inr (by omega)), Or.inl ⟨rfl, hok9⟩, fun _ => eRR⟩, hI, hF, hG⟩ dX8_seatByQuota_149
      ·
        have f19 := fnle (by decide : (10 : Int32).toInt = 10) rfl c17
        refine g_aload_n C 3 dX8_seatByQuota_87 rfl ?_
        refine g_get C (.int (M_80 125 0)) 0 in_X8_seatByQuota_7 (List.mem_of_getElem? (i := 6) rfl) (by decide) (ce_ra ad cs _ _) rfl (by decide) rfl rfl dX8_seatByQuota_88 ?_
        refine g_ni (fun v20 ev20 => ?_)
        have gv20 : v20 = M_80 125 0 := ev20.trans k125_0
        have tv20 := congrArg Int32.toInt gv20
        obtain ⟨bv20, dv20⟩ := (show rg 0 30 v20 from (by rw [ev20]; exact hI 125 0 (Or.inl rfl)))
        refine g_aload_n C 2 dX8_seatByQuota_91 rfl ?_
        refine g_get C (.ref (ad 88)) 0 in_X8_seatByQuota_8 (List.mem_of_getElem? (i := 1) rfl) (by decide) (ce_trans ad cs _ _) rfl (by decide) rfl rfl dX8_seatByQuota_92 ?_
        refine g_get C (.int (M_80 88 4)) 4 in_X8_seatByQuota_6 (List.mem_of_getElem? (i := 5) rfl) (by decide) (ce_poll ad cs _ _) rfl (by decide) rfl rfl dX8_seatByQuota_95 ?_
        refine g_ni (fun v21 ev21 => ?_)
        have gv21 : v21 = M 88 4 := ev21.trans (hF 88 4 (by omega))
        have tv21 := congrArg Int32.toInt gv21
        obtain ⟨bv21, dv21⟩ := (show rg 0 30 v21 from (by rw [ev21]; exact (hI 88 4).2 rfl))
        refine g_icmp_ge C 148 dX8_seatByQuota_98 (by decide) (fun c22 => ?_) (fun c22 => ?_)
        ·
          have f23 := fle rfl rfl c22
          refine g_iconst C 1 dX8_seatByQuota_148 (by decide) ?_
          have zr9 : (1 : Int32).toInt = 1 := by decide
          exact g_zret C hr rfl ⟨⟨L_2 121, L_2 122, x4_80.toNatClampNeg, j2_2, j80_3, by first | exact Or.inr (Or.inl (by omega)) | exact Or.inr (Or.inr (by omega)), Or.inl ⟨rfl, hok9⟩, fun _ => eRR⟩, hI, hF, hG⟩ dX8_seatByQuota_149
        ·
          have f24 := fnle rfl rfl c22
          have hnd : ¬ qrD (M 1 0).toNatClampNeg (M 88 4).toNatClampNeg (qrN (vC M) (M 2) (M 89) (M 88 3).toNatClampNeg (M 1 0).toNatClampNeg (M 88 4).toNatClampNeg ((foK (fun _ b u => u + vC M 3 b) (M 89) (M 88 3).toNatClampNeg (0 : Int32) / (M 88 4 + 1)).toInt64 + 1) (M 90, (L_2 121, L_2 122), [], [], true) x4_80.toNatClampNeg) := by
            rintro (h9 | h9 | h9)
            · rw [hok9] at h9; exact Bool.noConfusion h9
            · omega
            · omega
          have hk1s : ∀ j, j < x4_80.toNatClampNeg + 1 → ¬ qrD (M 1 0).toNatClampNeg (M 88 4).toNatClampNeg (qrN (vC M) (M 2) (M 89) (M 88 3).toNatClampNeg (M 1 0).toNatClampNeg (M 88 4).toNatClampNeg ((foK (fun _ b u => u + vC M 3 b) (M 89) (M 88 3).toNatClampNeg (0 : Int32) / (M 88 4 + 1)).toInt64 + 1) (M 90, (L_2 121, L_2 122), [], [], true) j) := fun j hj => by by_cases e9 : j = x4_80.toNatClampNeg; (rw [e9]; exact hnd); exact j80_3 j (by omega)
          refine g_aload_n C 2 dX8_seatByQuota_101 rfl ?_
          refine g_callVi C (n := 0) (As := []) (st := []) (k_X8_tallyWeights l D ad cs _ _  hI (by unfold WTc; rw [e883]; exact hW8)) gX8_seatByQuota_X8_tallyWeights rfl rfl rfl (by decide +kernel) ⟨Nat.le_of_ble_eq_true rfl, Nat.le_of_ble_eq_true rfl⟩ rfl (Nat.le_of_ble_eq_true rfl) ⟨Nat.zero_le _, Nat.zero_le _⟩ (by decide) (ce_trans ad cs _ _) rfl rfl dX8_seatByQuota_102 (fun r25 M26 L27 hr25 => ?_)
          obtain ⟨hr25, hI, hFr25, hGr25⟩ := hr25
          have hF : ∀ k i, k ≠ 90 ∧ k ≠ 123 ∧ ¬ (k = 125 ∧ i = 0) ∧ ¬ (k = 125 ∧ i = 2) ∧ k ≠ 126 ∧ k ≠ 127 ∧ k ≠ 128 → M26 k i = M k i := fun k i hk => by (rw [hFr25 k i (by omega)]; try exact hF k i hk)
          have hG : ∀ k i, k ≠ 91 ∧ k ≠ 92 ∧ k ≠ 121 ∧ k ≠ 122 ∧ ¬ (k = 124 ∧ i = 0) ∧ ¬ (k = 124 ∧ i = 1) ∧ ¬ (131 ≤ k ∧ k < 191) → L27 k i = L k i := fun k i hk => by (rw [hGr25 k i (by omega)]; try exact hG k i hk)
          have hV : vC M26 = vC M_80 := by rw [vC_fr (fun k hk => funext (fun i => hFr25 k i (by omega))), hV]
          have k125_0 : M26 125 0 = M_80 125 0 := (hFr25 125 0 (by omega)).trans k125_0
          have k125_2 : M26 125 2 = M_80 125 2 := (hFr25 125 2 (by omega)).trans k125_2
          have kt125_0 := congrArg Int32.toInt k125_0
          have kt125_2 := congrArg Int32.toInt k125_2
          have l124_0 : L27 124 0 = L27 124 0 := rfl
          have l124_1 : L27 124 1 = L27 124 1 := rfl
          have p91 : L27 91 = L27 91 := rfl
          have p92 : L27 92 = L27 92 := rfl
          have p121 : L27 121 = L_80 121 := (funext (fun i => hGr25 121 i (by omega))).trans p121
          have p122 : L27 122 = L_80 122 := (funext (fun i => hGr25 122 i (by omega))).trans p122
          have q90 : M26 90 = M_80 90 := (funext (fun i => hFr25 90 i (by omega))).trans q90
          have q123 : M26 123 = M26 123 := rfl
          have q126 : M26 126 = M_80 126 := (funext (fun i => hFr25 126 i (by omega))).trans q126
          have q127 : M26 127 = M_80 127 := (funext (fun i => hFr25 127 i (by omega))).trans q127
          have q128 : M26 128 = M_80 128 := (funext (fun i => hFr25 128 i (by omega))).trans q128
          obtain ⟨tz, te⟩ := hr25
          rw [eV8, eI, eWu, eWd, e89, e883] at tz te
          have tz : zo r25 ((qrT (vC M) (M 89) (M 88 3).toNatClampNeg (qrN (vC M) (M 2) (M 89) (M 88 3).toNatClampNeg (M 1 0).toNatClampNeg (M 88 4).toNatClampNeg ((foK (fun _ b u => u + vC M 3 b) (M 89) (M 88 3).toNatClampNeg (0 : Int32) / (M 88 4 + 1)).toInt64 + 1) (M 90, (L_2 121, L_2 122), [], [], true) x4_80.toNatClampNeg)).2.2 = true) := tz
          have te : (qrT (vC M) (M 89) (M 88 3).toNatClampNeg (qrN (vC M) (M 2) (M 89) (M 88 3).toNatClampNeg (M 1 0).toNatClampNeg (M 88 4).toNatClampNeg ((foK (fun _ b u => u + vC M 3 b) (M 89) (M 88 3).toNatClampNeg (0 : Int32) / (M 88 4 + 1)).toInt64 + 1) (M 90, (L_2 121, L_2 122), [], [], true) x4_80.toNatClampNeg)).2.2 = true → (∀ c, c < 10 → L27 91 c = (qrT (vC M) (M 89) (M 88 3).toNatClampNeg (qrN (vC M) (M 2) (M 89) (M 88 3).toNatClampNeg (M 1 0).toNatClampNeg (M 88 4).toNatClampNeg ((foK (fun _ b u => u + vC M 3 b) (M 89) (M 88 3).toNatClampNeg (0 : Int32) / (M 88 4 + 1)).toInt64 + 1) (M 90, (L_2 121, L_2 122), [], [], true) x4_80.toNatClampNeg)).1 c ∧ L27 92 c = (qrT (vC M) (M 89) (M 88 3).toNatClampNeg (qrN (vC M) (M 2) (M 89) (M 88 3).toNatClampNeg (M 1 0).toNatClampNeg (M 88 4).toNatClampNeg ((foK (fun _ b u => u + vC M 3 b) (M 89) (M 88 3).toNatClampNeg (0 : Int32) / (M 88 4 + 1)).toInt64 + 1) (M 90, (L_2 121, L_2 122), [], [], true) x4_80.toNatClampNeg)).2.1 c ∧ okF (L27 91 c) (L27 92 c) ∧ lowF (L27 91 c) (L27 92 c)) ∧ ∀ k9 : Nat, k9 < (M 88 3).toNatClampNeg → M26 123 k9 = fiV (vC M) (qrN (vC M) (M 2) (M 89) (M 88 3).toNatClampNeg (M 1 0).toNatClampNeg (M 88 4).toNatClampNeg ((foK (fun _ b u => u + vC M 3 b) (M 89) (M 88 3).toNatClampNeg (0 : Int32) / (M 88 4 + 1)).toInt64 + 1) (M 90, (L_2 121, L_2 122), [], [], true) x4_80.toNatClampNeg).1 (M 89 k9).toNatClampNeg := te
          obtain ⟨bar25, bbr25⟩ := zo_b tz
          refine g_if_eq C 118 dX8_seatByQuota_105 (by decide) (fun c28 => ?_) (fun c28 => ?_)
          ·
            have f29 := feq rfl (by decide : (0 : Int32).toInt = 0) c28
            have hntk := zo_f tz c28
            refine g_bipush C (-9) dX8_seatByQuota_118 (by decide) ?_
            refine g_istore C [(5, .int ((-9))), (4, .int x4_80), (2, .long v15), (0, .ref (ad 120)), (1, .ref (ad 125))] dX8_seatByQuota_120 (by decide) rfl ?_
            refine g_iload C 0 dX8_seatByQuota_122 rfl ?_
            refine g_bipush C (-9) dX8_seatByQuota_124 (by decide) ?_
            refine g_icmp_eq C 140 dX8_seatByQuota_126 (by decide) (fun _ => ?_) (fun c30 => absurd c30 (by decide))
            refine g_iconst C 0 dX8_seatByQuota_140 (by decide) ?_
            have eF : (qrN (vC M) (M 2) (M 89) (M 88 3).toNatClampNeg (M 1 0).toNatClampNeg (M 88 4).toNatClampNeg ((foK (fun _ b u => u + vC M 3 b) (M 89) (M 88 3).toNatClampNeg (0 : Int32) / (M 88 4 + 1)).toInt64 + 1) (M 90, (L_2 121, L_2 122), [], [], true) (x4_80.toNatClampNeg + 1)) = ((qrN (vC M) (M 2) (M 89) (M 88 3).toNatClampNeg (M 1 0).toNatClampNeg (M 88 4).toNatClampNeg ((foK (fun _ b u => u + vC M 3 b) (M 89) (M 88 3).toNatClampNeg (0 : Int32) / (M 88 4 + 1)).toInt64 + 1) (M 90, (L_2 121, L_2 122), [], [], true) x4_80.toNatClampNeg).1, (qrN (vC M) (M 2) (M 89) (M 88 3).toNatClampNeg (M 1 0).toNatClampNeg (M 88 4).toNatClampNeg ((foK (fun _ b u => u + vC M 3 b) (M 89) (M 88 3).toNatClampNeg (0 : Int32) / (M 88 4 + 1)).toInt64 + 1) (M 90, (L_2 121, L_2 122), [], [], true) x4_80.toNatClampNeg).2.1, (qrN (vC M) (M 2) (M 89) (M 88 3).toNatClampNeg (M 1 0).toNatClampNeg (M 88 4).toNatClampNeg ((foK (fun _ b u => u + vC M 3 b) (M 89) (M 88 3).toNatClampNeg (0 : Int32) / (M 88 4 + 1)).toInt64 + 1) (M 90, (L_2 121, L_2 122), [], [], true) x4_80.toNatClampNeg).2.2.1, (qrN (vC M) (M 2) (M 89) (M 88 3).toNatClampNeg (M 1 0).toNatClampNeg (M 88 4).toNatClampNeg ((foK (fun _ b u => u + vC M 3 b) (M 89) (M 88 3).toNatClampNeg (0 : Int32) / (M 88 4 + 1)).toInt64 + 1) (M 90, (L_2 121, L_2 122), [], [], true) x4_80.toNatClampNeg).2.2.2.1, false) := by
              show qrF (vC M) (M 2) (M 89) (M 88 3).toNatClampNeg (M 1 0).toNatClampNeg (M 88 4).toNatClampNeg ((foK (fun _ b u => u + vC M 3 b) (M 89) (M 88 3).toNatClampNeg (0 : Int32) / (M 88 4 + 1)).toInt64 + 1) (qrN (vC M) (M 2) (M 89) (M 88 3).toNatClampNeg (M 1 0).toNatClampNeg (M 88 4).toNatClampNeg ((foK (fun _ b u => u + vC M 3 b) (M 89) (M 88 3).toNatClampNeg (0 : Int32) / (M 88 4 + 1)).toInt64 + 1) (M 90, (L_2 121, L_2 122), [], [], true) x4_80.toNatClampNeg) = _
              unfold qrF
              rw [if_pos (bt_ff hntk)]
            have zr9 : (0 : Int32).toInt = 0 := by decide
            exact g_zret C hr rfl ⟨⟨L_2 121, L_2 122, x4_80.toNatClampNeg + 1, j2_2, hk1s, Or.inl (by rw [eF]), Or.inr ⟨rfl, fun h9 => by rw [eF] at h9; exact Bool.noConfusion h9⟩, fun h9 => by rw [eF] at h9; exact Bool.noConfusion h9⟩, hI, hF, hG⟩ dX8_seatByQuota_141
          ·
            have f31 := fne rfl (by decide : (0 : Int32).toInt = 0) c28
            have htk := zo_t tz c28
            refine g_aload_n C 2 dX8_seatByQuota_108 rfl ?_
            refine g_get C (.ref (ad 88)) 0 in_X8_seatByQuota_8 (List.mem_of_getElem? (i := 1) rfl) (by decide) (ce_trans ad cs _ _) rfl (by decide) rfl rfl dX8_seatByQuota_109 ?_
            refine g_callVi C (n := 0) (As := []) (st := []) (k_X6_greatestIn l D ad cs _ _  hI (by rw [show vC M26 = vC M from vC_fr (fun k hk => funext (fun i => hF k i (by omega)))]; exact hD)) gX8_seatByQuota_X6_greatestIn rfl rfl rfl (by decide +kernel) ⟨Nat.le_of_ble_eq_true rfl, Nat.le_of_ble_eq_true rfl⟩ rfl (Nat.le_of_ble_eq_true rfl) ⟨Nat.zero_le _, Nat.zero_le _⟩ (by decide) (ce_poll ad cs _ _) rfl rfl dX8_seatByQuota_112 (fun r32 M33 L34 hr32 => ?_)
            obtain ⟨hq1, hq2, hr32⟩ := hr32
            obtain rfl := hq1.symm
            obtain rfl := hq2.symm
            obtain ⟨br32, ir32, xr32, yr32⟩ := hr32
            have w9 : (vC M26 0 0).toInt = (M 1 0).toInt := congrArg Int32.toInt (hF 1 0 (by omega))
            have hc90 : M26 90 = M_80 90 := q90
            have hpos : 0 < cI (M_80 90) (M 1 0).toNatClampNeg := by omega
            obtain ⟨c9, hc9, hi9⟩ := cI_ex _ hpos
            have hne9 := xr32 ⟨c9, by omega, by rw [hc90]; exact hi9⟩
            have nr9 := ixn (x := r32) (by omega)
            have hin9 := ir32 (by omega)
            rw [show M26 2 = M 2 from funext (fun i => hF 2 i (by omega)), hc90, show M26 1 0 = M 1 0 from hF 1 0 (by omega), eI] at yr32
            have hTok := htk
            obtain ⟨te1, te2⟩ := te htk
            have er9 : r32 = qrC (vC M) (M 2) (M 89) (M 88 3).toNatClampNeg (M 1 0).toNatClampNeg (qrN (vC M) (M 2) (M 89) (M 88 3).toNatClampNeg (M 1 0).toNatClampNeg (M 88 4).toNatClampNeg ((foK (fun _ b u => u + vC M 3 b) (M 89) (M 88 3).toNatClampNeg (0 : Int32) / (M 88 4 + 1)).toInt64 + 1) (M 90, (L_2 121, L_2 122), [], [], true) x4_80.toNatClampNeg) := yr32.trans (grF_ext (row := M 2) (fun i => hI0 2 i) (fun _ _ => rfl) (fun c hc => (te1 c hc).1) (fun c hc => (te1 c hc).2.1) (M 1 0).toNatClampNeg).1
            refine g_goto C 120 dX8_seatByQuota_115 (by decide) ?_
            refine g_istore C [(5, .int r32), (4, .int x4_80), (2, .long v15), (0, .ref (ad 120)), (1, .ref (ad 125))] dX8_seatByQuota_120 (by decide) rfl ?_
            refine g_iload C 0 dX8_seatByQuota_122 rfl ?_
            refine g_bipush C (-9) dX8_seatByQuota_124 (by decide) ?_
            refine g_icmp_eq C 140 dX8_seatByQuota_126 (by decide) (fun c35 => ?_) (fun c35 => ?_)
            ·
              have f36 := feq rfl (by decide : ((-9) : Int32).toInt = (-9)) c35
              refine g_iconst C 0 dX8_seatByQuota_140 (by decide) ?_
              have zr9 : (0 : Int32).toInt = 0 := by decide
              exact g_zret C hr rfl ⟨(by exfalso; omega), hI, hF, hG⟩ dX8_seatByQuota_141
            ·
              have f37 := fne rfl (by decide : ((-9) : Int32).toInt = (-9)) c35
              refine g_aload_n C 3 dX8_seatByQuota_129 rfl ?_
              refine g_iload C 0 dX8_seatByQuota_130 rfl ?_
              refine g_lload_n C 2 dX8_seatByQuota_132 rfl ?_
              refine g_aload_n C 4 dX8_seatByQuota_133 rfl ?_
              have eVt : vC M26 = vC M := vC_fr (fun k hk => funext (fun i => hF k i (by omega)))
              have e2t : M26 2 = M 2 := funext (fun i => hF 2 i (by omega))
              have e89t : M26 89 = M 89 := funext (fun i => hF 89 i (by omega))
              have e883t : M26 88 3 = M 88 3 := hF 88 3 (by omega)
              have e884t : M26 88 4 = M 88 4 := hF 88 4 (by omega)
              have e10t : M26 1 0 = M 1 0 := hF 1 0 (by omega)
              have e90t : M26 90 = M_80 90 := q90
              have e121t : L27 121 = L_80 121 := p121
              have e122t : L27 122 = L_80 122 := p122
              have k0t := congrArg Int32.toInt k125_0
              have k2t := congrArg Int32.toInt k125_2
              have hRb : RP (M26 125 0) (M26 126) (M26 125 2) (M26 127) (M26 128) (qrN (vC M) (M 2) (M 89) (M 88 3).toNatClampNeg (M 1 0).toNatClampNeg (M 88 4).toNatClampNeg ((foK (fun _ b u => u + vC M 3 b) (M 89) (M 88 3).toNatClampNeg (0 : Int32) / (M 88 4 + 1)).toInt64 + 1) (M 90, (L_2 121, L_2 122), [], [], true) x4_80.toNatClampNeg).2.2.1 (qrN (vC M) (M 2) (M 89) (M 88 3).toNatClampNeg (M 1 0).toNatClampNeg (M 88 4).toNatClampNeg ((foK (fun _ b u => u + vC M 3 b) (M 89) (M 88 3).toNatClampNeg (0 : Int32) / (M 88 4 + 1)).toInt64 + 1) (M 90, (L_2 121, L_2 122), [], [], true) x4_80.toNatClampNeg).2.2.2.1 := by
                rw [k125_0, k125_2, q126, q127, q128]; exact eRR
              refine g_callVi C (n := 3) (As := [.int r32, .long v15, .ref (ad 125)]) (st := []) (k_X8_endRound_a l D ad cs _ _ r32 v15 hI (tr := (qrN (vC M) (M 2) (M 89) (M 88 3).toNatClampNeg (M 1 0).toNatClampNeg (M 88 4).toNatClampNeg ((foK (fun _ b u => u + vC M 3 b) (M 89) (M 88 3).toNatClampNeg (0 : Int32) / (M 88 4 + 1)).toInt64 + 1) (M 90, (L_2 121, L_2 122), [], [], true) x4_80.toNatClampNeg)) ⟨by omega, by omega⟩ hqv1 (by unfold WTc; rw [e883t, e121t, e122t]; exact hW8) (by rw [e90t]; exact eI) (by rw [e121t]; exact eWu) (by rw [e122t]; exact eWd) hRb (by rw [eVt, e89t, e883t]; exact hTok) (by rw [eVt, e89t, e883t]; exact fun c hc => ⟨(te1 c hc).1, (te1 c hc).2.1, (te1 c hc).2.2.1⟩) (by rw [e883t, eVt, e89t, e90t, eI]; exact te2) (by rw [eVt, e2t, e89t, e883t, e10t]; exact er9) hin9 (by rw [eVt]; exact hD) (by rw [e90t, e10t]; exact hNI) (by omega) (by rw [e884t]; omega) (by rw [e884t, e90t, e10t]; omega)) gX8_seatByQuota_X8_endRound rfl rfl rfl (by decide +kernel) ⟨Nat.le_of_ble_eq_true rfl, Nat.le_of_ble_eq_true rfl⟩ rfl (Nat.le_of_ble_eq_true rfl) ⟨Nat.zero_le _, Nat.zero_le _⟩ (by decide) (ce_trans ad cs _ _) rfl rfl dX8_seatByQuota_134 (fun r38 M39 L40 hr38 => ?_)
              obtain ⟨hr38, hI, hFr38, hGr38⟩ := hr38
              have hF : ∀ k i, k ≠ 90 ∧ k ≠ 123 ∧ ¬ (k = 125 ∧ i = 0) ∧ ¬ (k = 125 ∧ i = 2) ∧ k ≠ 126 ∧ k ≠ 127 ∧ k ≠ 128 → M39 k i = M k i := fun k i hk => by (rw [hFr38 k i (by omega)]; try exact hF k i hk)
              have hG : ∀ k i, k ≠ 91 ∧ k ≠ 92 ∧ k ≠ 121 ∧ k ≠ 122 ∧ ¬ (k = 124 ∧ i = 0) ∧ ¬ (k = 124 ∧ i = 1) ∧ ¬ (131 ≤ k ∧ k < 191) → L40 k i = L k i := fun k i hk => by (rw [hGr38 k i (by omega)]; try exact hG k i hk)
              have hV : vC M39 = vC M_80 := by rw [vC_fr (fun k hk => funext (fun i => hFr38 k i (by omega))), hV]
              have k125_0 : M39 125 0 = M39 125 0 := rfl
              have k125_2 : M39 125 2 = M39 125 2 := rfl
              have kt125_0 := congrArg Int32.toInt k125_0
              have kt125_2 := congrArg Int32.toInt k125_2
              have l124_0 : L40 124 0 = L40 124 0 := rfl
              have l124_1 : L40 124 1 = L40 124 1 := rfl
              have p91 : L40 91 = L27 91 := (funext (fun i => hGr38 91 i (by omega))).trans p91
              have p92 : L40 92 = L27 92 := (funext (fun i => hGr38 92 i (by omega))).trans p92
              have p121 : L40 121 = L40 121 := rfl
              have p122 : L40 122 = L40 122 := rfl
              have q90 : M39 90 = M39 90 := rfl
              have q123 : M39 123 = M26 123 := (funext (fun i => hFr38 123 i (by omega))).trans q123
              have q126 : M39 126 = M39 126 := rfl
              have q127 : M39 127 = M39 127 := rfl
              have q128 : M39 128 = M39 128 := rfl
              obtain ⟨ez, ee⟩ := hr38
              rw [eVt, e2t, e89t, e883t, e884t, e10t, hqv] at ez
              rw [eVt, e2t, e89t, e883t, e884t, e10t, e90t, hqv] at ee
              have ez : zo r38 ((qrN (vC M) (M 2) (M 89) (M 88 3).toNatClampNeg (M 1 0).toNatClampNeg (M 88 4).toNatClampNeg ((foK (fun _ b u => u + vC M 3 b) (M 89) (M 88 3).toNatClampNeg (0 : Int32) / (M 88 4 + 1)).toInt64 + 1) (M 90, (L_2 121, L_2 122), [], [], true) (x4_80.toNatClampNeg + 1)).2.2.2.2 = true) := ez
              have ee : (qrN (vC M) (M 2) (M 89) (M 88 3).toNatClampNeg (M 1 0).toNatClampNeg (M 88 4).toNatClampNeg ((foK (fun _ b u => u + vC M 3 b) (M 89) (M 88 3).toNatClampNeg (0 : Int32) / (M 88 4 + 1)).toInt64 + 1) (M 90, (L_2 121, L_2 122), [], [], true) (x4_80.toNatClampNeg + 1)).2.2.2.2 = true → M39 90 = (qrN (vC M) (M 2) (M 89) (M 88 3).toNatClampNeg (M 1 0).toNatClampNeg (M 88 4).toNatClampNeg ((foK (fun _ b u => u + vC M 3 b) (M 89) (M 88 3).toNatClampNeg (0 : Int32) / (M 88 4 + 1)).toInt64 + 1) (M 90, (L_2 121, L_2 122), [], [], true) (x4_80.toNatClampNeg + 1)).1 ∧ L40 121 = (qrN (vC M) (M 2) (M 89) (M 88 3).toNatClampNeg (M 1 0).toNatClampNeg (M 88 4).toNatClampNeg ((foK (fun _ b u => u + vC M 3 b) (M 89) (M 88 3).toNatClampNeg (0 : Int32) / (M 88 4 + 1)).toInt64 + 1) (M 90, (L_2 121, L_2 122), [], [], true) (x4_80.toNatClampNeg + 1)).2.1.1 ∧ L40 122 = (qrN (vC M) (M 2) (M 89) (M 88 3).toNatClampNeg (M 1 0).toNatClampNeg (M 88 4).toNatClampNeg ((foK (fun _ b u => u + vC M 3 b) (M 89) (M 88 3).toNatClampNeg (0 : Int32) / (M 88 4 + 1)).toInt64 + 1) (M 90, (L_2 121, L_2 122), [], [], true) (x4_80.toNatClampNeg + 1)).2.1.2 ∧ RP (M39 125 0) (M39 126) (M39 125 2) (M39 127) (M39 128) (qrN (vC M) (M 2) (M 89) (M 88 3).toNatClampNeg (M 1 0).toNatClampNeg (M 88 4).toNatClampNeg ((foK (fun _ b u => u + vC M 3 b) (M 89) (M 88 3).toNatClampNeg (0 : Int32) / (M 88 4 + 1)).toInt64 + 1) (M 90, (L_2 121, L_2 122), [], [], true) (x4_80.toNatClampNeg + 1)).2.2.1 (qrN (vC M) (M 2) (M 89) (M 88 3).toNatClampNeg (M 1 0).toNatClampNeg (M 88 4).toNatClampNeg ((foK (fun _ b u => u + vC M 3 b) (M 89) (M 88 3).toNatClampNeg (0 : Int32) / (M 88 4 + 1)).toInt64 + 1) (M 90, (L_2 121, L_2 122), [], [], true) (x4_80.toNatClampNeg + 1)).2.2.2.1 ∧ WTc L40 (M 88 3).toNatClampNeg ∧ cI (M39 90) (M 1 0).toNatClampNeg + 1 = cI (M_80 90) (M 1 0).toNatClampNeg ∧ NIn (M39 90) (M 1 0).toInt ∧ (M 88 4).toInt ≤ (cI (M39 90) (M 1 0).toNatClampNeg : Int) + (M39 125 0).toInt ∧ (M39 125 2).toInt = (M26 125 2).toInt + 1 ∧ (M39 125 0).toInt ≤ (M 88 4).toInt := ee
              obtain ⟨bar38, bbr38⟩ := zo_b ez
              refine g_if_ne C 142 dX8_seatByQuota_137 (by decide) (fun c41 => ?_) (fun c41 => ?_)
              ·
                have f42 := fne rfl (by decide : (0 : Int32).toInt = 0) c41
                have hez := zo_t ez c41
                obtain ⟨v43, ev43⟩ : ∃ y : Int32, y = x4_80 + 1 := ⟨_, rfl⟩
                try have fv43 := fadd rfl (by decide : (1 : Int32).toInt = 1) ev43 (by omega) (by omega)
                refine g_iinc C 1 v43 [(4, .int v43), (5, .int r32), (2, .long v15), (0, .ref (ad 120)), (1, .ref (ad 125))] dX8_seatByQuota_142 rfl (by rw [ev43]; rfl) (by decide) rfl ?_
                refine g_goto C 80 dX8_seatByQuota_145 (by decide) ?_
                refine g_lv [0, 2, 3, 4] [(4, .int v43), (2, .long v15), (0, .ref (ad 120)), (1, .ref (ad 125))] rfl ?_
                have nv := ixn (x := v43) (by omega)
                have iv : v43.toNatClampNeg = x4_80.toNatClampNeg + 1 := by omega
                obtain ⟨f1, f2, f3, f4, f5, f6, f7, f8, f9, f10⟩ := ee hez
                obtain ⟨gz1, gz2⟩ := (show rg 0 30 (M39 125 0) from hI 125 0 (Or.inl rfl))
                exact ih_80 (v43, M39, L40) ⟨by show 0 ≤ v43.toInt; omega, by show v43.toInt ≤ 10; omega, by show (qrN (vC M) (M 2) (M 89) (M 88 3).toNatClampNeg (M 1 0).toNatClampNeg (M 88 4).toNatClampNeg ((foK (fun _ b u => u + vC M 3 b) (M 89) (M 88 3).toNatClampNeg (0 : Int32) / (M 88 4 + 1)).toInt64 + 1) (M 90, (L_2 121, L_2 122), [], [], true) v43.toNatClampNeg).2.2.2.2 = true ∧ M39 90 = (qrN (vC M) (M 2) (M 89) (M 88 3).toNatClampNeg (M 1 0).toNatClampNeg (M 88 4).toNatClampNeg ((foK (fun _ b u => u + vC M 3 b) (M 89) (M 88 3).toNatClampNeg (0 : Int32) / (M 88 4 + 1)).toInt64 + 1) (M 90, (L_2 121, L_2 122), [], [], true) v43.toNatClampNeg).1 ∧ L40 121 = (qrN (vC M) (M 2) (M 89) (M 88 3).toNatClampNeg (M 1 0).toNatClampNeg (M 88 4).toNatClampNeg ((foK (fun _ b u => u + vC M 3 b) (M 89) (M 88 3).toNatClampNeg (0 : Int32) / (M 88 4 + 1)).toInt64 + 1) (M 90, (L_2 121, L_2 122), [], [], true) v43.toNatClampNeg).2.1.1 ∧ L40 122 = (qrN (vC M) (M 2) (M 89) (M 88 3).toNatClampNeg (M 1 0).toNatClampNeg (M 88 4).toNatClampNeg ((foK (fun _ b u => u + vC M 3 b) (M 89) (M 88 3).toNatClampNeg (0 : Int32) / (M 88 4 + 1)).toInt64 + 1) (M 90, (L_2 121, L_2 122), [], [], true) v43.toNatClampNeg).2.1.2 ∧ RP (M39 125 0) (M39 126) (M39 125 2) (M39 127) (M39 128) (qrN (vC M) (M 2) (M 89) (M 88 3).toNatClampNeg (M 1 0).toNatClampNeg (M 88 4).toNatClampNeg ((foK (fun _ b u => u + vC M 3 b) (M 89) (M 88 3).toNatClampNeg (0 : Int32) / (M 88 4 + 1)).toInt64 + 1) (M 90, (L_2 121, L_2 122), [], [], true) v43.toNatClampNeg).2.2.1 (qrN (vC M) (M 2) (M 89) (M 88 3).toNatClampNeg (M 1 0).toNatClampNeg (M 88 4).toNatClampNeg ((foK (fun _ b u => u + vC M 3 b) (M 89) (M 88 3).toNatClampNeg (0 : Int32) / (M 88 4 + 1)).toInt64 + 1) (M 90, (L_2 121, L_2 122), [], [], true) v43.toNatClampNeg).2.2.2.1 ∧ WTc L40 (M 88 3).toNatClampNeg; rw [iv]; exact ⟨hez, f1, f2, f3, f4, f5⟩, by show ∀ j, j < v43.toNatClampNeg → ¬ qrD (M 1 0).toNatClampNeg (M 88 4).toNatClampNeg (qrN (vC M) (M 2) (M 89) (M 88 3).toNatClampNeg (M 1 0).toNatClampNeg (M 88 4).toNatClampNeg ((foK (fun _ b u => u + vC M 3 b) (M 89) (M 88 3).toNatClampNeg (0 : Int32) / (M 88 4 + 1)).toInt64 + 1) (M 90, (L_2 121, L_2 122), [], [], true) j); rw [iv]; exact hk1s, by show v43.toInt + (cI (M39 90) (M 1 0).toNatClampNeg : Int) ≤ 10 ∧ NIn (M39 90) (M 1 0).toInt ∧ (M 88 4).toInt ≤ (cI (M39 90) (M 1 0).toNatClampNeg : Int) + (M39 125 0).toInt ∧ (M39 125 2).toInt = v43.toInt ∧ (0 ≤ (M39 125 0).toInt ∧ (M39 125 0).toInt ≤ (M 88 4).toInt); exact ⟨by omega, f7, f8, by omega, by omega, by omega⟩, hI, hF, hG⟩ (by show (11 - v43.toInt).toNat < (11 - x4_80.toInt).toNat; omega)
              ·
                have f44 := feq rfl (by decide : (0 : Int32).toInt = 0) c41
                have hnez := zo_f ez c41
                refine g_iconst C 0 dX8_seatByQuota_140 (by decide) ?_
                have zr9 : (0 : Int32).toInt = 0 := by decide
                exact g_zret C hr rfl ⟨⟨L_2 121, L_2 122, x4_80.toNatClampNeg + 1, j2_2, hk1s, Or.inl (bt_ff hnez), Or.inr ⟨rfl, hnez⟩, fun h9 => absurd h9 hnez⟩, hI, hF, hG⟩ dX8_seatByQuota_141
    ·
      have f45 := fnle (by decide : (1 : Int32).toInt = 1) rfl c6
      exfalso; omega
  ·
    have f46 := fnle rfl rfl c3
    refine g_aload_n C 1 dX8_seatByQuota_13 rfl ?_
    refine g_get C (.ref (ad 121)) 1 in_X8_seatByQuota_8 (List.mem_of_getElem? (i := 3) rfl) (by decide) (ce_trans ad cs _ _) rfl (by decide) rfl rfl dX8_seatByQuota_14 ?_
    refine g_iload_n C 0 dX8_seatByQuota_17 rfl ?_
    refine g_aload_n C 1 dX8_seatByQuota_18 rfl ?_
    refine g_get C (.ref (ad 88)) 0 in_X8_seatByQuota_8 (List.mem_of_getElem? (i := 1) rfl) (by decide) (ce_trans ad cs _ _) rfl (by decide) rfl rfl dX8_seatByQuota_19 ?_
    refine g_iload_n C 0 dX8_seatByQuota_22 rfl ?_
    refine g_callVi C (n := 1) (As := [.int x2_2]) (st := [.int x2_2, .ref (ad 121)]) (k_X6_papersOf l D ad cs _ _ x2_2 hI ⟨by omega, by omega⟩) gX8_seatByQuota_X6_papersOf rfl rfl rfl (by decide +kernel) ⟨Nat.le_of_ble_eq_true rfl, Nat.le_of_ble_eq_true rfl⟩ rfl (Nat.le_of_ble_eq_true rfl) ⟨Nat.zero_le _, Nat.zero_le _⟩ (by decide) (ce_poll ad cs _ _) rfl rfl dX8_seatByQuota_23 (fun r47 M48 L49 hr47 => ?_)
    obtain ⟨hq1, hq2, hr47⟩ := hr47
    obtain rfl := hq1.symm
    obtain rfl := hq2.symm
    rw [show vC M_2 = vC M from vC_fr (fun k hk => funext (fun i => hF k i (by omega))), show M_2 89 = M 89 from funext (fun i => hF 89 i (by omega))] at hr47
    refine g_i2l C dX8_seatByQuota_26 ?_
    refine g_nl (fun v50 ev50 => ?_)
    have fv50 := fi2l rfl ev50
    have nx2_2 := ixn (x := x2_2) (by omega)
    refine g_last C (by decide) (ce_tup ad cs _ _) (by rw [sJ_k]; rfl) (fin' (n := 40) rfl (by omega) (by omega)) dX8_seatByQuota_27 ?_
    refine g_nmL (fun L51 hL51 => ?_)
    have hG : ∀ k i, k ≠ 91 ∧ k ≠ 92 ∧ k ≠ 121 ∧ k ≠ 122 ∧ ¬ (k = 124 ∧ i = 0) ∧ ¬ (k = 124 ∧ i = 1) ∧ ¬ (131 ≤ k ∧ k < 191) → L51 k i = L k i := fun k i hk => by (rw [hL51, sJ_at, if_neg (by omega)]; try exact hG k i hk)
    have l124_0 : L51 124 0 = L_2 124 0 := by rw [hL51, sJ_at, if_neg (by omega)]; try exact l124_0
    have l124_1 : L51 124 1 = L_2 124 1 := by rw [hL51, sJ_at, if_neg (by omega)]; try exact l124_1
    have p91 : L51 91 = L_2 91 := by rw [hL51, sJ_n _ _ _ (by decide)]; try exact p91
    have p92 : L51 92 = L_2 92 := by rw [hL51, sJ_n _ _ _ (by decide)]; try exact p92
    have p122 : L51 122 = L_2 122 := by rw [hL51, sJ_n _ _ _ (by decide)]; try exact p122
    refine g_aload_n C 1 dX8_seatByQuota_28 rfl ?_
    refine g_get C (.ref (ad 122)) 2 in_X8_seatByQuota_8 (List.mem_of_getElem? (i := 4) rfl) (by decide) (ce_trans ad cs _ _) rfl (by decide) rfl rfl dX8_seatByQuota_29 ?_
    refine g_iload_n C 0 dX8_seatByQuota_32 rfl ?_
    refine g_lconst C 1 dX8_seatByQuota_33 (by decide) ?_
    have nx2_2 := ixn (x := x2_2) (by omega)
    refine g_last C (by decide) (ce_tlow ad cs _ _) (by rw [sJ_k]; rfl) (fin' (n := 40) rfl (by omega) (by omega)) dX8_seatByQuota_34 ?_
    refine g_nmL (fun L52 hL52 => ?_)
    have hG : ∀ k i, k ≠ 91 ∧ k ≠ 92 ∧ k ≠ 121 ∧ k ≠ 122 ∧ ¬ (k = 124 ∧ i = 0) ∧ ¬ (k = 124 ∧ i = 1) ∧ ¬ (131 ≤ k ∧ k < 191) → L52 k i = L k i := fun k i hk => by (rw [hL52, sJ_at, if_neg (by omega)]; try exact hG k i hk)
    have l124_0 : L52 124 0 = L_2 124 0 := by rw [hL52, sJ_at, if_neg (by omega)]; try exact l124_0
    have l124_1 : L52 124 1 = L_2 124 1 := by rw [hL52, sJ_at, if_neg (by omega)]; try exact l124_1
    have p91 : L52 91 = L_2 91 := by rw [hL52, sJ_n _ _ _ (by decide)]; try exact p91
    have p92 : L52 92 = L_2 92 := by rw [hL52, sJ_n _ _ _ (by decide)]; try exact p92
    obtain ⟨v53, ev53⟩ : ∃ y : Int32, y = x2_2 + 1 := ⟨_, rfl⟩
    try have fv53 := fadd rfl (by decide : (1 : Int32).toInt = 1) ev53 (by omega) (by omega)
    refine g_iinc C 0 v53 [(2, .int v53), (0, .ref (ad 120)), (1, .ref (ad 125))] dX8_seatByQuota_35 rfl (by rw [ev53]; rfl) (by decide) rfl ?_
    refine g_goto C 2 dX8_seatByQuota_38 (by decide) ?_
    have nv := ixn (x := v53) (by omega)
    have hall : ∀ j : Nat, j < v53.toNatClampNeg → L52 121 j = (vC M 3 (M 89 j).toNatClampNeg).toInt64 ∧ L52 122 j = 1 := by
      intro j hj
      rw [hL52, sJ_n _ _ _ (by decide), sJ_at, hL51, sJ_at, sJ_n _ _ _ (by decide)]
      by_cases e9 : j = x2_2.toNatClampNeg
      · rw [if_pos ⟨rfl, e9⟩, if_pos ⟨rfl, e9⟩, e9]; exact ⟨by simp only [ev50, hr47, gv2], rfl⟩
      · rw [if_neg (fun h => e9 h.2), if_neg (fun h => e9 h.2)]; exact j2_2 j (by omega)
    exact ih_2 (v53, M_2, L52) ⟨by show 0 ≤ v53.toInt; omega, by show v53.toInt ≤ (M 88 3).toInt; omega, by show ∀ j : Nat, j < v53.toNatClampNeg → L52 121 j = (vC M 3 (M 89 j).toNatClampNeg).toInt64 ∧ L52 122 j = 1; exact hall, by show M_2 90 = M 90 ∧ M_2 125 0 = M 125 0 ∧ M_2 125 2 = M 125 2; exact ⟨q90.trans j2_3.1, k125_0.trans j2_3.2.1, k125_2.trans j2_3.2.2⟩, hI, hF, hG⟩ (by show (41 - v53.toInt).toNat < (41 - x2_2.toInt).toNat; omega)
set_option maxHeartbeats 4000000 in
set_option maxRecDepth 100000 in
theorem k_X8_sbq_b (l : Launch) (D : va_G) (ad : Nat → Nat) (cs : Nat → ClassId) (M : MI) (L : ML)  (hI : IC M) (hP3 : ∀ b, 0 ≤ (vC M 3 b).toInt ∧ (vC M 3 b).toInt ≤ 100000) (hD : DP (vC M)) (hNI0 : NIn (M 90) (M 1 0).toInt) (hs1 : 1 ≤ (M 88 4).toInt) (hg0 : (M 191 0).toInt = 0) (hm0 : (M 191 2).toInt = 0) (hC : (M 88 4).toInt ≤ (cI (M 90) (M 1 0).toNatClampNeg : Int)) : Ci l yX8_seatByQuota wsX8_seatByQuota ({ frames := 4, cells := 0, slots := 0, locals := 114 }) D ad cs [.ref (ad 120), .ref (ad 191)] M L (fun r M1 L1 => (∃ (wu wd : Nat → Int64) (k : Nat), (∀ j : Nat, j < (M 88 3).toNatClampNeg → wu j = (vC M 3 (M 89 j).toNatClampNeg).toInt64 ∧ wd j = 1) ∧ (∀ j, j < k → ¬ qrD (M 1 0).toNatClampNeg (M 88 4).toNatClampNeg (qrN (vC M) (M 2) (M 89) (M 88 3).toNatClampNeg (M 1 0).toNatClampNeg (M 88 4).toNatClampNeg ((foK (fun _ b u => u + vC M 3 b) (M 89) (M 88 3).toNatClampNeg (0 : Int32) / (M 88 4 + 1)).toInt64 + 1) (M 90, (wu, wd), [], [], true) j)) ∧ qrD (M 1 0).toNatClampNeg (M 88 4).toNatClampNeg (qrN (vC M) (M 2) (M 89) (M 88 3).toNatClampNeg (M 1 0).toNatClampNeg (M 88 4).toNatClampNeg ((foK (fun _ b u => u + vC M 3 b) (M 89) (M 88 3).toNatClampNeg (0 : Int32) / (M 88 4 + 1)).toInt64 + 1) (M 90, (wu, wd), [], [], true) k) ∧ zo r ((qrN (vC M) (M 2) (M 89) (M 88 3).toNatClampNeg (M 1 0).toNatClampNeg (M 88 4).toNatClampNeg ((foK (fun _ b u => u + vC M 3 b) (M 89) (M 88 3).toNatClampNeg (0 : Int32) / (M 88 4 + 1)).toInt64 + 1) (M 90, (wu, wd), [], [], true) k).2.2.2.2 = true) ∧ ((qrN (vC M) (M 2) (M 89) (M 88 3).toNatClampNeg (M 1 0).toNatClampNeg (M 88 4).toNatClampNeg ((foK (fun _ b u => u + vC M 3 b) (M 89) (M 88 3).toNatClampNeg (0 : Int32) / (M 88 4 + 1)).toInt64 + 1) (M 90, (wu, wd), [], [], true) k).2.2.2.2 = true → RP (M1 191 0) (M1 192) (M1 191 2) (M1 193) (M1 194) (qrN (vC M) (M 2) (M 89) (M 88 3).toNatClampNeg (M 1 0).toNatClampNeg (M 88 4).toNatClampNeg ((foK (fun _ b u => u + vC M 3 b) (M 89) (M 88 3).toNatClampNeg (0 : Int32) / (M 88 4 + 1)).toInt64 + 1) (M 90, (wu, wd), [], [], true) k).2.2.1 (qrN (vC M) (M 2) (M 89) (M 88 3).toNatClampNeg (M 1 0).toNatClampNeg (M 88 4).toNatClampNeg ((foK (fun _ b u => u + vC M 3 b) (M 89) (M 88 3).toNatClampNeg (0 : Int32) / (M 88 4 + 1)).toInt64 + 1) (M 90, (wu, wd), [], [], true) k).2.2.2.1)) ∧ IC M1 ∧ (∀ k i, k ≠ 90 ∧ k ≠ 123 ∧ ¬ (k = 191 ∧ i = 0) ∧ ¬ (k = 191 ∧ i = 2) ∧ k ≠ 192 ∧ k ≠ 193 ∧ k ≠ 194 → M1 k i = M k i) ∧ ∀ k i, k ≠ 91 ∧ k ≠ 92 ∧ k ≠ 121 ∧ k ≠ 122 ∧ ¬ (k = 124 ∧ i = 0) ∧ ¬ (k = 124 ∧ i = 1) ∧ ¬ (197 ≤ k ∧ k < 257) → L1 k i = L k i) := by
  refine enter_i RX8 rfl [(0, .ref (ad 120)), (1, .ref (ad 191))] rfl (Nat.le_of_ble_eq_true rfl) (by decide +kernel) rfl ?_
  intro p e s m below meth c C hr
  have hF : ∀ k i, k ≠ 90 ∧ k ≠ 123 ∧ ¬ (k = 191 ∧ i = 0) ∧ ¬ (k = 191 ∧ i = 2) ∧ k ≠ 192 ∧ k ≠ 193 ∧ k ≠ 194 → M k i = M k i := fun _ _ _ => rfl
  have hG : ∀ k i, k ≠ 91 ∧ k ≠ 92 ∧ k ≠ 121 ∧ k ≠ 122 ∧ ¬ (k = 124 ∧ i = 0) ∧ ¬ (k = 124 ∧ i = 1) ∧ ¬ (197 ≤ k ∧ k < 257) → L k i = L k i := fun _ _ _ => rfl
  have w0 : (vC M 0 0).toInt = (M 1 0).toInt := rfl
  have w1 : (vC M 0 1).toInt = (M 3 0).toInt := rfl
  have w2 : (vC M 0 2).toInt = (M 68 0).toInt := rfl
  have w3 : (vC M 0 3).toInt = (M 81 0).toInt := rfl
  obtain ⟨y0a, y0b⟩ := (show rg 0 10 (M 1 0) from hI 1 0 rfl)
  obtain ⟨y1a, y1b⟩ := (show rg 0 60 (M 3 0) from hI 3 0 rfl)
  obtain ⟨y2a, y2b⟩ := (show rg 0 8 (M 68 0) from hI 68 0 rfl)
  obtain ⟨y3a, y3b⟩ := (show rg 0 20 (M 81 0) from hI 81 0 rfl)
  have hI0 := hI
  obtain ⟨ma, mb⟩ := (show rg 0 40 (M 88 3) from (hI 88 3).1 rfl)
  have nm := ixn ma
  have n02 := ixn y0a
  obtain ⟨sa, sb⟩ := (show rg 0 30 (M 88 4) from (hI 88 4).2 rfl)
  have nsd := ixn sa
  have hle := cI_le (M 90) (M 1 0).toNatClampNeg
  have k191_0 : M 191 0 = M 191 0 := rfl
  have k191_2 : M 191 2 = M 191 2 := rfl
  have l124_0 : L 124 0 = L 124 0 := rfl
  have l124_1 : L 124 1 = L 124 1 := rfl
  have p91 : L 91 = L 91 := rfl
  have p92 : L 92 = L 92 := rfl
  have p121 : L 121 = L 121 := rfl
  have p122 : L 122 = L 122 := rfl
  have q90 : M 90 = M 90 := rfl
  have q123 : M 123 = M 123 := rfl
  have q192 : M 192 = M 192 := rfl
  have q193 : M 193 = M 193 := rfl
  have q194 : M 194 = M 194 := rfl
  have hV : vC M = vC M := rfl
  refine g_iconst C 0 dX8_seatByQuota_0 (by decide) ?_
  refine g_istore_n C [(2, .int 0), (0, .ref (ad 120)), (1, .ref (ad 191))] dX8_seatByQuota_1 (by decide) rfl ?_
  have zy1 : (0 : Int32).toInt = 0 := by decide
  refine g_loop (α := Int32 × MI × ML) (fun a => (41 - a.1.toInt).toNat) (fun a => (0 ≤ a.1.toInt) ∧ (a.1.toInt ≤ (M 88 3).toInt) ∧ (∀ j : Nat, j < a.1.toNatClampNeg → a.2.2 121 j = (vC M 3 (M 89 j).toNatClampNeg).toInt64 ∧ a.2.2 122 j = 1) ∧ (a.2.1 90 = M 90 ∧ a.2.1 191 0 = M 191 0 ∧ a.2.1 191 2 = M 191 2) ∧ IC a.2.1 ∧ (∀ k i, k ≠ 90 ∧ k ≠ 123 ∧ ¬ (k = 191 ∧ i = 0) ∧ ¬ (k = 191 ∧ i = 2) ∧ k ≠ 192 ∧ k ≠ 193 ∧ k ≠ 194 → a.2.1 k i = M k i) ∧ (∀ k i, k ≠ 91 ∧ k ≠ 92 ∧ k ≠ 121 ∧ k ≠ 122 ∧ ¬ (k = 124 ∧ i = 0) ∧ ¬ (k = 124 ∧ i = 1) ∧ ¬ (197 ≤ k ∧ k < 257) → a.2.2 k i = L k i)) (fun a => a.2.1) (fun a => a.2.2) (fun a => [(2, .int a.1), (0, .ref (ad 120)), (1, .ref (ad 191))]) ((0 : Int32), M, L) ⟨by show 0 ≤ (0 : Int32).toInt; omega, by show (0 : Int32).toInt ≤ (M 88 3).toInt; omega, by show ∀ j : Nat, j < (0 : Int32).toNatClampNeg → L 121 j = (vC M 3 (M 89 j).toNatClampNeg).toInt64 ∧ L 122 j = 1; intro j hj; exact absurd hj (by show ¬ j < 0; omega), by show M 90 = M 90 ∧ M 191 0 = M 191 0 ∧ M 191 2 = M 191 2; exact ⟨rfl, rfl, rfl⟩, hI, hF, hG⟩ rfl rfl rfl ?_
  rintro ⟨x2_2, M_2, L_2⟩ ⟨j2_0, j2_1, j2_2, j2_3, hI, hF, hG⟩ ih_2
  dsimp only at j2_0 j2_1 j2_2 j2_3 hI hF hG ih_2 ⊢
  have k191_0 : M_2 191 0 = M_2 191 0 := rfl
  have k191_2 : M_2 191 2 = M_2 191 2 := rfl
  have hV : vC M_2 = vC M_2 := rfl
  have l124_0 : L_2 124 0 = L_2 124 0 := rfl
  have l124_1 : L_2 124 1 = L_2 124 1 := rfl
  have p91 : L_2 91 = L_2 91 := rfl
  have p92 : L_2 92 = L_2 92 := rfl
  have p121 : L_2 121 = L_2 121 := rfl
  have p122 : L_2 122 = L_2 122 := rfl
  have q90 : M_2 90 = M_2 90 := rfl
  have q123 : M_2 123 = M_2 123 := rfl
  have q192 : M_2 192 = M_2 192 := rfl
  have q193 : M_2 193 = M_2 193 := rfl
  have q194 : M_2 194 = M_2 194 := rfl
  have n2 := ixn (x := x2_2) (by omega)
  refine g_iload_n C 0 dX8_seatByQuota_2 rfl ?_
  refine g_aload_n C 1 dX8_seatByQuota_3 rfl ?_
  refine g_get C (.ref (ad 88)) 0 in_X8_seatByQuota_8 (List.mem_of_getElem? (i := 1) rfl) (by decide) (ce_trans ad cs _ _) rfl (by decide) rfl rfl dX8_seatByQuota_4 ?_
  refine g_get C (.int (M_2 88 3)) 3 in_X8_seatByQuota_6 (List.mem_of_getElem? (i := 2) rfl) (by decide) (ce_poll ad cs _ _) rfl (by decide) rfl rfl dX8_seatByQuota_7 ?_
  refine g_ni (fun v2 ev2 => ?_)
  have gv2 : v2 = M 88 3 := ev2.trans (hF 88 3 (by omega))
  have tv2 := congrArg Int32.toInt gv2
  obtain ⟨bv2, dv2⟩ := (show rg 0 40 v2 from (by rw [ev2]; exact (hI 88 3).1 rfl))
  refine g_icmp_ge C 41 dX8_seatByQuota_10 (by decide) (fun c3 => ?_) (fun c3 => ?_)
  ·
    have f4 := fle rfl rfl c3
    refine g_aload_n C 1 dX8_seatByQuota_41 rfl ?_
    refine g_get C (.ref (ad 88)) 0 in_X8_seatByQuota_8 (List.mem_of_getElem? (i := 1) rfl) (by decide) (ce_trans ad cs _ _) rfl (by decide) rfl rfl dX8_seatByQuota_42 ?_
    refine g_get C (.int (M_2 88 4)) 4 in_X8_seatByQuota_6 (List.mem_of_getElem? (i := 5) rfl) (by decide) (ce_poll ad cs _ _) rfl (by decide) rfl rfl dX8_seatByQuota_45 ?_
    refine g_ni (fun v5 ev5 => ?_)
    have gv5 : v5 = M 88 4 := ev5.trans (hF 88 4 (by omega))
    have tv5 := congrArg Int32.toInt gv5
    obtain ⟨bv5, dv5⟩ := (show rg 0 30 v5 from (by rw [ev5]; exact (hI 88 4).2 rfl))
    refine g_iconst C 1 dX8_seatByQuota_48 (by decide) ?_
    refine g_icmp_ge C 56 dX8_seatByQuota_49 (by decide) (fun c6 => ?_) (fun c6 => ?_)
    ·
      have f7 := fle (by decide : (1 : Int32).toInt = 1) rfl c6
      refine g_aload_n C 1 dX8_seatByQuota_56 rfl ?_
      refine g_get C (.ref (ad 88)) 0 in_X8_seatByQuota_8 (List.mem_of_getElem? (i := 1) rfl) (by decide) (ce_trans ad cs _ _) rfl (by decide) rfl rfl dX8_seatByQuota_57 ?_
      have vCe : vC M_2 = vC M := vC_fr (fun k hk => funext (fun i => hF k i (by omega)))
      refine g_callVi C (n := 0) (As := []) (st := []) (k_X6_allPapers l D ad cs _ _  hI ) gX8_seatByQuota_X6_allPapers rfl rfl rfl (by decide +kernel) ⟨Nat.le_of_ble_eq_true rfl, Nat.le_of_ble_eq_true rfl⟩ rfl (Nat.le_of_ble_eq_true rfl) ⟨Nat.zero_le _, Nat.zero_le _⟩ (by decide) (ce_poll ad cs _ _) rfl rfl dX8_seatByQuota_60 (fun r8 M9 L10 hr8 => ?_)
      obtain ⟨hq1, hq2, hr8⟩ := hr8
      obtain rfl := hq1.symm
      obtain rfl := hq2.symm
      rw [vCe, show M_2 89 = M 89 from funext (fun i => hF 89 i (by omega)), show M_2 88 3 = M 88 3 from hF 88 3 (by omega)] at hr8
      have sk9 := sumK_b (V := vC M) (ly := M 89) hP3 (M 88 3).toNatClampNeg (by omega)
      have tr8 := congrArg Int32.toInt hr8
      refine g_aload_n C 1 dX8_seatByQuota_63 rfl ?_
      refine g_get C (.ref (ad 88)) 0 in_X8_seatByQuota_8 (List.mem_of_getElem? (i := 1) rfl) (by decide) (ce_trans ad cs _ _) rfl (by decide) rfl rfl dX8_seatByQuota_64 ?_
      refine g_get C (.int (M_2 88 4)) 4 in_X8_seatByQuota_6 (List.mem_of_getElem? (i := 5) rfl) (by decide) (ce_poll ad cs _ _) rfl (by decide) rfl rfl dX8_seatByQuota_67 ?_
      refine g_ni (fun v11 ev11 => ?_)
      have gv11 : v11 = M 88 4 := ev11.trans (hF 88 4 (by omega))
      have tv11 := congrArg Int32.toInt gv11
      obtain ⟨bv11, dv11⟩ := (show rg 0 30 v11 from (by rw [ev11]; exact (hI 88 4).2 rfl))
      refine g_iconst C 1 dX8_seatByQuota_70 (by decide) ?_
      refine g_iadd C dX8_seatByQuota_71 ?_
      refine g_ni (fun v12 ev12 => ?_)
      try have fv12 := fadd rfl (by decide : (1 : Int32).toInt = 1) ev12 (by omega) (by omega)
      refine g_idiv C dX8_seatByQuota_72 (by intro h9; have h8 := congrArg Int32.toInt h9; have h7 : (0 : Int32).toInt = 0 := (by decide); omega) ?_
      refine g_ni (fun v13 ev13 => ?_)
      try have fv13 := idivI ev13 (by omega) (by omega)
      refine g_iconst C 1 dX8_seatByQuota_73 (by decide) ?_
      refine g_iadd C dX8_seatByQuota_74 ?_
      refine g_ni (fun v14 ev14 => ?_)
      try have fv14 := fadd rfl (by decide : (1 : Int32).toInt = 1) ev14 (by omega) (by omega)
      refine g_i2l C dX8_seatByQuota_75 ?_
      refine g_nl (fun v15 ev15 => ?_)
      have fv15 := fi2l rfl ev15
      have sk := sumK_b (V := vC M) (ly := M 89) hP3 (M 88 3).toNatClampNeg (by omega)
      have qo := quo_ok (a := foK (fun _ b u => u + vC M 3 b) (M 89) (M 88 3).toNatClampNeg (0 : Int32)) (z := M 88 4) ⟨sk.1, by omega⟩ ⟨by omega, by omega⟩
      have hqv : v15 = ((foK (fun _ b u => u + vC M 3 b) (M 89) (M 88 3).toNatClampNeg (0 : Int32) / (M 88 4 + 1)).toInt64 + 1) := by rw [← qo.1]; simp only [ev15, ev14, ev13, ev12, gv11, hr8, gv5, gv2]
      have hqv1 : 1 ≤ v15.toInt ∧ v15.toInt ≤ 4000001 := by rw [hqv]; exact qo.2
      refine g_lstore_n C [(2, .long v15), (0, .ref (ad 120)), (1, .ref (ad 191))] dX8_seatByQuota_76 (by decide) rfl ?_
      refine g_iconst C 0 dX8_seatByQuota_77 (by decide) ?_
      refine g_istore C [(4, .int 0), (2, .long v15), (0, .ref (ad 120)), (1, .ref (ad 191))] dX8_seatByQuota_78 (by decide) rfl ?_
      have zy16 : (0 : Int32).toInt = 0 := by decide
      have e2 : x2_2.toNatClampNeg = (M 88 3).toNatClampNeg := by (have := ixn (x := x2_2) (by omega); omega)
      rw [e2] at j2_2
      have hWi : WTc L_2 (M 88 3).toNatClampNeg := fun i hi => by
        rw [(j2_2 i hi).1, (j2_2 i hi).2]
        have h9 := hP3 (M 89 i).toNatClampNeg
        have h8 := i32_64 (vC M 3 (M 89 i).toNatClampNeg)
        have h7 : (1 : Int64).toInt = 1 := by decide
        exact ⟨by unfold okF; omega, frU_1 (by omega)⟩
      have e90i : M_2 90 = M 90 := q90.trans j2_3.1
      have k0i : (M_2 191 0).toInt = 0 := by rw [k191_0, j2_3.2.1]; exact hg0
      have k2i : (M_2 191 2).toInt = 0 := by rw [k191_2, j2_3.2.2]; exact hm0
      refine g_loop (α := Int32 × MI × ML) (fun a => (11 - a.1.toInt).toNat) (fun a => (0 ≤ a.1.toInt) ∧ (a.1.toInt ≤ 10) ∧ ((qrN (vC M) (M 2) (M 89) (M 88 3).toNatClampNeg (M 1 0).toNatClampNeg (M 88 4).toNatClampNeg ((foK (fun _ b u => u + vC M 3 b) (M 89) (M 88 3).toNatClampNeg (0 : Int32) / (M 88 4 + 1)).toInt64 + 1) (M 90, (L_2 121, L_2 122), [], [], true) a.1.toNatClampNeg).2.2.2.2 = true ∧ a.2.1 90 = (qrN (vC M) (M 2) (M 89) (M 88 3).toNatClampNeg (M 1 0).toNatClampNeg (M 88 4).toNatClampNeg ((foK (fun _ b u => u + vC M 3 b) (M 89) (M 88 3).toNatClampNeg (0 : Int32) / (M 88 4 + 1)).toInt64 + 1) (M 90, (L_2 121, L_2 122), [], [], true) a.1.toNatClampNeg).1 ∧ a.2.2 121 = (qrN (vC M) (M 2) (M 89) (M 88 3).toNatClampNeg (M 1 0).toNatClampNeg (M 88 4).toNatClampNeg ((foK (fun _ b u => u + vC M 3 b) (M 89) (M 88 3).toNatClampNeg (0 : Int32) / (M 88 4 + 1)).toInt64 + 1) (M 90, (L_2 121, L_2 122), [], [], true) a.1.toNatClampNeg).2.1.1 ∧ a.2.2 122 = (qrN (vC M) (M 2) (M 89) (M 88 3).toNatClampNeg (M 1 0).toNatClampNeg (M 88 4).toNatClampNeg ((foK (fun _ b u => u + vC M 3 b) (M 89) (M 88 3).toNatClampNeg (0 : Int32) / (M 88 4 + 1)).toInt64 + 1) (M 90, (L_2 121, L_2 122), [], [], true) a.1.toNatClampNeg).2.1.2 ∧ RP (a.2.1 191 0) (a.2.1 192) (a.2.1 191 2) (a.2.1 193) (a.2.1 194) (qrN (vC M) (M 2) (M 89) (M 88 3).toNatClampNeg (M 1 0).toNatClampNeg (M 88 4).toNatClampNeg ((foK (fun _ b u => u + vC M 3 b) (M 89) (M 88 3).toNatClampNeg (0 : Int32) / (M 88 4 + 1)).toInt64 + 1) (M 90, (L_2 121, L_2 122), [], [], true) a.1.toNatClampNeg).2.2.1 (qrN (vC M) (M 2) (M 89) (M 88 3).toNatClampNeg (M 1 0).toNatClampNeg (M 88 4).toNatClampNeg ((foK (fun _ b u => u + vC M 3 b) (M 89) (M 88 3).toNatClampNeg (0 : Int32) / (M 88 4 + 1)).toInt64 + 1) (M 90, (L_2 121, L_2 122), [], [], true) a.1.toNatClampNeg).2.2.2.1 ∧ WTc a.2.2 (M 88 3).toNatClampNeg) ∧ (∀ j, j < a.1.toNatClampNeg → ¬ qrD (M 1 0).toNatClampNeg (M 88 4).toNatClampNeg (qrN (vC M) (M 2) (M 89) (M 88 3).toNatClampNeg (M 1 0).toNatClampNeg (M 88 4).toNatClampNeg ((foK (fun _ b u => u + vC M 3 b) (M 89) (M 88 3).toNatClampNeg (0 : Int32) / (M 88 4 + 1)).toInt64 + 1) (M 90, (L_2 121, L_2 122), [], [], true) j)) ∧ (a.1.toInt + (cI (a.2.1 90) (M 1 0).toNatClampNeg : Int) ≤ 10 ∧ NIn (a.2.1 90) (M 1 0).toInt ∧ (M 88 4).toInt ≤ (cI (a.2.1 90) (M 1 0).toNatClampNeg : Int) + (a.2.1 191 0).toInt ∧ (a.2.1 191 2).toInt = a.1.toInt ∧ (0 ≤ (a.2.1 191 0).toInt ∧ (a.2.1 191 0).toInt ≤ (M 88 4).toInt)) ∧ IC a.2.1 ∧ (∀ k i, k ≠ 90 ∧ k ≠ 123 ∧ ¬ (k = 191 ∧ i = 0) ∧ ¬ (k = 191 ∧ i = 2) ∧ k ≠ 192 ∧ k ≠ 193 ∧ k ≠ 194 → a.2.1 k i = M k i) ∧ (∀ k i, k ≠ 91 ∧ k ≠ 92 ∧ k ≠ 121 ∧ k ≠ 122 ∧ ¬ (k = 124 ∧ i = 0) ∧ ¬ (k = 124 ∧ i = 1) ∧ ¬ (197 ≤ k ∧ k < 257) → a.2.2 k i = L k i)) (fun a => a.2.1) (fun a => a.2.2) (fun a => [(4, .int a.1), (2, .long v15), (0, .ref (ad 120)), (1, .ref (ad 191))]) ((0 : Int32), M_2, L_2) ⟨by show 0 ≤ (0 : Int32).toInt; omega, by show (0 : Int32).toInt ≤ 10; omega, by show (qrN (vC M) (M 2) (M 89) (M 88 3).toNatClampNeg (M 1 0).toNatClampNeg (M 88 4).toNatClampNeg ((foK (fun _ b u => u + vC M 3 b) (M 89) (M 88 3).toNatClampNeg (0 : Int32) / (M 88 4 + 1)).toInt64 + 1) (M 90, (L_2 121, L_2 122), [], [], true) (0 : Int32).toNatClampNeg).2.2.2.2 = true ∧ M_2 90 = (qrN (vC M) (M 2) (M 89) (M 88 3).toNatClampNeg (M 1 0).toNatClampNeg (M 88 4).toNatClampNeg ((foK (fun _ b u => u + vC M 3 b) (M 89) (M 88 3).toNatClampNeg (0 : Int32) / (M 88 4 + 1)).toInt64 + 1) (M 90, (L_2 121, L_2 122), [], [], true) (0 : Int32).toNatClampNeg).1 ∧ L_2 121 = (qrN (vC M) (M 2) (M 89) (M 88 3).toNatClampNeg (M 1 0).toNatClampNeg (M 88 4).toNatClampNeg ((foK (fun _ b u => u + vC M 3 b) (M 89) (M 88 3).toNatClampNeg (0 : Int32) / (M 88 4 + 1)).toInt64 + 1) (M 90, (L_2 121, L_2 122), [], [], true) (0 : Int32).toNatClampNeg).2.1.1 ∧ L_2 122 = (qrN (vC M) (M 2) (M 89) (M 88 3).toNatClampNeg (M 1 0).toNatClampNeg (M 88 4).toNatClampNeg ((foK (fun _ b u => u + vC M 3 b) (M 89) (M 88 3).toNatClampNeg (0 : Int32) / (M 88 4 + 1)).toInt64 + 1) (M 90, (L_2 121, L_2 122), [], [], true) (0 : Int32).toNatClampNeg).2.1.2 ∧ RP (M_2 191 0) (M_2 192) (M_2 191 2) (M_2 193) (M_2 194) (qrN (vC M) (M 2) (M 89) (M 88 3).toNatClampNeg (M 1 0).toNatClampNeg (M 88 4).toNatClampNeg ((foK (fun _ b u => u + vC M 3 b) (M 89) (M 88 3).toNatClampNeg (0 : Int32) / (M 88 4 + 1)).toInt64 + 1) (M 90, (L_2 121, L_2 122), [], [], true) (0 : Int32).toNatClampNeg).2.2.1 (qrN (vC M) (M 2) (M 89) (M 88 3).toNatClampNeg (M 1 0).toNatClampNeg (M 88 4).toNatClampNeg ((foK (fun _ b u => u + vC M 3 b) (M 89) (M 88 3).toNatClampNeg (0 : Int32) / (M 88 4 + 1)).toInt64 + 1) (M 90, (L_2 121, L_2 122), [], [], true) (0 : Int32).toNatClampNeg).2.2.2.1 ∧ WTc L_2 (M 88 3).toNatClampNeg; exact ⟨rfl, e90i, rfl, rfl, RP_0 k0i k2i, hWi⟩, by show ∀ j, j < (0 : Int32).toNatClampNeg → ¬ qrD (M 1 0).toNatClampNeg (M 88 4).toNatClampNeg (qrN (vC M) (M 2) (M 89) (M 88 3).toNatClampNeg (M 1 0).toNatClampNeg (M 88 4).toNatClampNeg ((foK (fun _ b u => u + vC M 3 b) (M 89) (M 88 3).toNatClampNeg (0 : Int32) / (M 88 4 + 1)).toInt64 + 1) (M 90, (L_2 121, L_2 122), [], [], true) j); intro j hj; exact absurd hj (by show ¬ j < 0; omega), by show (0 : Int32).toInt + (cI (M_2 90) (M 1 0).toNatClampNeg : Int) ≤ 10 ∧ NIn (M_2 90) (M 1 0).toInt ∧ (M 88 4).toInt ≤ (cI (M_2 90) (M 1 0).toNatClampNeg : Int) + (M_2 191 0).toInt ∧ (M_2 191 2).toInt = (0 : Int32).toInt ∧ (0 ≤ (M_2 191 0).toInt ∧ (M_2 191 0).toInt ≤ (M 88 4).toInt); rw [e90i]; exact ⟨by omega, hNI0, by omega, by omega, by omega, by omega⟩, hI, hF, hG⟩ rfl rfl rfl ?_
      rintro ⟨x4_80, M_80, L_80⟩ ⟨j80_0, j80_1, j80_2, j80_3, j80_4, hI, hF, hG⟩ ih_80
      dsimp only at j80_0 j80_1 j80_2 j80_3 j80_4 hI hF hG ih_80 ⊢
      have k191_0 : M_80 191 0 = M_80 191 0 := rfl
      have k191_2 : M_80 191 2 = M_80 191 2 := rfl
      have hV : vC M_80 = vC M_80 := rfl
      have l124_0 : L_80 124 0 = L_80 124 0 := rfl
      have l124_1 : L_80 124 1 = L_80 124 1 := rfl
      have p91 : L_80 91 = L_80 91 := rfl
      have p92 : L_80 92 = L_80 92 := rfl
      have p121 : L_80 121 = L_80 121 := rfl
      have p122 : L_80 122 = L_80 122 := rfl
      have q90 : M_80 90 = M_80 90 := rfl
      have q123 : M_80 123 = M_80 123 := rfl
      have q192 : M_80 192 = M_80 192 := rfl
      have q193 : M_80 193 = M_80 193 := rfl
      have q194 : M_80 194 = M_80 194 := rfl
      have n4 := ixn (x := x4_80) (by omega)
      obtain ⟨hok9, eI, eWu, eWd, eRR, hW8⟩ := j80_2
      obtain ⟨hcn8, hNI, hC8, hm8, hg8⟩ := j80_4
      have eS9 := eRR.1
      have hcI0 : cI (qrN (vC M) (M 2) (M 89) (M 88 3).toNatClampNeg (M 1 0).toNatClampNeg (M 88 4).toNatClampNeg ((foK (fun _ b u => u + vC M 3 b) (M 89) (M 88 3).toNatClampNeg (0 : Int32) / (M 88 4 + 1)).toInt64 + 1) (M 90, (L_2 121, L_2 122), [], [], true) x4_80.toNatClampNeg).1 (M 1 0).toNatClampNeg = cI (M_80 90) (M 1 0).toNatClampNeg := by rw [eI]
      have eV8 : vC M_80 = vC M := vC_fr (fun k hk => funext (fun i => hF k i (by omega)))
      have e89 : M_80 89 = M 89 := funext (fun i => hF 89 i (by omega))
      have e883 : M_80 88 3 = M 88 3 := hF 88 3 (by omega)
      refine g_iload C 0 dX8_seatByQuota_80 rfl ?_
      refine g_bipush C 10 dX8_seatByQuota_82 (by decide) ?_
      refine g_icmp_ge C 148 dX8_seatByQuota_84 (by decide) (fun c17 => ?_) (fun c17 => ?_)
      ·
        have f18 := fle (by decide : (10 : Int32).toInt = 10) rfl c17
        refine g_iconst C 1 dX8_seatByQuota_148 (by decide) ?_
        have zr9 : (1 : Int32).toInt = 1 := by decide
        exact g_zret C hr rfl ⟨⟨L_2 121, L_2 122, x4_80.toNatClampNeg, j2_2, j80_3, by first | exact Or.inr (Or.inl (by omega)) | exact Or.inr (Or.inr (by omega)), Or.inl ⟨rfl, hok9⟩, fun _ => eRR⟩, hI, hF, hG⟩ dX8_seatByQuota_149
      ·
        have f19 := fnle (by decide : (10 : Int32).toInt = 10) rfl c17
        refine g_aload_n C 3 dX8_seatByQuota_87 rfl ?_
        refine g_get C (.int (M_80 191 0)) 0 in_X8_seatByQuota_7 (List.mem_of_getElem? (i := 6) rfl) (by decide) (ce_rb ad cs _ _) rfl (by decide) rfl rfl dX8_seatByQuota_88 ?_
        refine g_ni (fun v20 ev20 => ?_)
        have gv20 : v20 = M_80 191 0 := ev20.trans k191_0
        have tv20 := congrArg Int32.toInt gv20
        obtain ⟨bv20, dv20⟩ := (show rg 0 30 v20 from (by rw [ev20]; exact hI 191 0 (Or.inl rfl)))
        refine g_aload_n C 2 dX8_seatByQuota_91 rfl ?_
        refine g_get C (.ref (ad 88)) 0 in_X8_seatByQuota_8 (List.mem_of_getElem? (i := 1) rfl) (by decide) (ce_trans ad cs _ _) rfl (by decide) rfl rfl dX8_seatByQuota_92 ?_
        refine g_get C (.int (M_80 88 4)) 4 in_X8_seatByQuota_6 (List.mem_of_getElem? (i := 5) rfl) (by decide) (ce_poll ad cs _ _) rfl (by decide) rfl rfl dX8_seatByQuota_95 ?_
        refine g_ni (fun v21 ev21 => ?_)
        have gv21 : v21 = M 88 4 := ev21.trans (hF 88 4 (by omega))
        have tv21 := congrArg Int32.toInt gv21
        obtain ⟨bv21, dv21⟩ := (show rg 0 30 v21 from (by rw [ev21]; exact (hI 88 4).2 rfl))
        refine g_icmp_ge C 148 dX8_seatByQuota_98 (by decide) (fun c22 => ?_) (fun c22 => ?_)
        ·
          have f23 := fle rfl rfl c22
          refine g_iconst C 1 dX8_seatByQuota_148 (by decide) ?_
          have zr9 : (1 : Int32).toInt = 1 := by decide
          exact g_zret C hr rfl ⟨⟨L_2 121, L_2 122, x4_80.toNatClampNeg, j2_2, j80_3, by first | exact Or.inr (Or.inl (by omega)) | exact Or.inr (Or.inr (by omega)), Or.inl ⟨rfl, hok9⟩, fun _ => eRR⟩, hI, hF, hG⟩ dX8_seatByQuota_149
        ·
          have f24 := fnle rfl rfl c22
          have hnd : ¬ qrD (M 1 0).toNatClampNeg (M 88 4).toNatClampNeg (qrN (vC M) (M 2) (M 89) (M 88 3).toNatClampNeg (M 1 0).toNatClampNeg (M 88 4).toNatClampNeg ((foK (fun _ b u => u + vC M 3 b) (M 89) (M 88 3).toNatClampNeg (0 : Int32) / (M 88 4 + 1)).toInt64 + 1) (M 90, (L_2 121, L_2 122), [], [], true) x4_80.toNatClampNeg) := by
            rintro (h9 | h9 | h9)
            · rw [hok9] at h9; exact Bool.noConfusion h9
            · omega
            · omega
          have hk1s : ∀ j, j < x4_80.toNatClampNeg + 1 → ¬ qrD (M 1 0).toNatClampNeg (M 88 4).toNatClampNeg (qrN (vC M) (M 2) (M 89) (M 88 3).toNatClampNeg (M 1 0).toNatClampNeg (M 88 4).toNatClampNeg ((foK (fun _ b u => u + vC M 3 b) (M 89) (M 88 3).toNatClampNeg (0 : Int32) / (M 88 4 + 1)).toInt64 + 1) (M 90, (L_2 121, L_2 122), [], [], true) j) := fun j hj => by by_cases e9 : j = x4_80.toNatClampNeg; (rw [e9]; exact hnd); exact j80_3 j (by omega)
          refine g_aload_n C 2 dX8_seatByQuota_101 rfl ?_
          refine g_callVi C (n := 0) (As := []) (st := []) (k_X8_tallyWeights l D ad cs _ _  hI (by unfold WTc; rw [e883]; exact hW8)) gX8_seatByQuota_X8_tallyWeights rfl rfl rfl (by decide +kernel) ⟨Nat.le_of_ble_eq_true rfl, Nat.le_of_ble_eq_true rfl⟩ rfl (Nat.le_of_ble_eq_true rfl) ⟨Nat.zero_le _, Nat.zero_le _⟩ (by decide) (ce_trans ad cs _ _) rfl rfl dX8_seatByQuota_102 (fun r25 M26 L27 hr25 => ?_)
          obtain ⟨hr25, hI, hFr25, hGr25⟩ := hr25
          have hF : ∀ k i, k ≠ 90 ∧ k ≠ 123 ∧ ¬ (k = 191 ∧ i = 0) ∧ ¬ (k = 191 ∧ i = 2) ∧ k ≠ 192 ∧ k ≠ 193 ∧ k ≠ 194 → M26 k i = M k i := fun k i hk => by (rw [hFr25 k i (by omega)]; try exact hF k i hk)
          have hG : ∀ k i, k ≠ 91 ∧ k ≠ 92 ∧ k ≠ 121 ∧ k ≠ 122 ∧ ¬ (k = 124 ∧ i = 0) ∧ ¬ (k = 124 ∧ i = 1) ∧ ¬ (197 ≤ k ∧ k < 257) → L27 k i = L k i := fun k i hk => by (rw [hGr25 k i (by omega)]; try exact hG k i hk)
          have hV : vC M26 = vC M_80 := by rw [vC_fr (fun k hk => funext (fun i => hFr25 k i (by omega))), hV]
          have k191_0 : M26 191 0 = M_80 191 0 := (hFr25 191 0 (by omega)).trans k191_0
          have k191_2 : M26 191 2 = M_80 191 2 := (hFr25 191 2 (by omega)).trans k191_2
          have kt191_0 := congrArg Int32.toInt k191_0
          have kt191_2 := congrArg Int32.toInt k191_2
          have l124_0 : L27 124 0 = L27 124 0 := rfl
          have l124_1 : L27 124 1 = L27 124 1 := rfl
          have p91 : L27 91 = L27 91 := rfl
          have p92 : L27 92 = L27 92 := rfl
          have p121 : L27 121 = L_80 121 := (funext (fun i => hGr25 121 i (by omega))).trans p121
          have p122 : L27 122 = L_80 122 := (funext (fun i => hGr25 122 i (by omega))).trans p122
          have q90 : M26 90 = M_80 90 := (funext (fun i => hFr25 90 i (by omega))).trans q90
          have q123 : M26 123 = M26 123 := rfl
          have q192 : M26 192 = M_80 192 := (funext (fun i => hFr25 192 i (by omega))).trans q192
          have q193 : M26 193 = M_80 193 := (funext (fun i => hFr25 193 i (by omega))).trans q193
          have q194 : M26 194 = M_80 194 := (funext (fun i => hFr25 194 i (by omega))).trans q194
          obtain ⟨tz, te⟩ := hr25
          rw [eV8, eI, eWu, eWd, e89, e883] at tz te
          have tz : zo r25 ((qrT (vC M) (M 89) (M 88 3).toNatClampNeg (qrN (vC M) (M 2) (M 89) (M 88 3).toNatClampNeg (M 1 0).toNatClampNeg (M 88 4).toNatClampNeg ((foK (fun _ b u => u + vC M 3 b) (M 89) (M 88 3).toNatClampNeg (0 : Int32) / (M 88 4 + 1)).toInt64 + 1) (M 90, (L_2 121, L_2 122), [], [], true) x4_80.toNatClampNeg)).2.2 = true) := tz
          have te : (qrT (vC M) (M 89) (M 88 3).toNatClampNeg (qrN (vC M) (M 2) (M 89) (M 88 3).toNatClampNeg (M 1 0).toNatClampNeg (M 88 4).toNatClampNeg ((foK (fun _ b u => u + vC M 3 b) (M 89) (M 88 3).toNatClampNeg (0 : Int32) / (M 88 4 + 1)).toInt64 + 1) (M 90, (L_2 121, L_2 122), [], [], true) x4_80.toNatClampNeg)).2.2 = true → (∀ c, c < 10 → L27 91 c = (qrT (vC M) (M 89) (M 88 3).toNatClampNeg (qrN (vC M) (M 2) (M 89) (M 88 3).toNatClampNeg (M 1 0).toNatClampNeg (M 88 4).toNatClampNeg ((foK (fun _ b u => u + vC M 3 b) (M 89) (M 88 3).toNatClampNeg (0 : Int32) / (M 88 4 + 1)).toInt64 + 1) (M 90, (L_2 121, L_2 122), [], [], true) x4_80.toNatClampNeg)).1 c ∧ L27 92 c = (qrT (vC M) (M 89) (M 88 3).toNatClampNeg (qrN (vC M) (M 2) (M 89) (M 88 3).toNatClampNeg (M 1 0).toNatClampNeg (M 88 4).toNatClampNeg ((foK (fun _ b u => u + vC M 3 b) (M 89) (M 88 3).toNatClampNeg (0 : Int32) / (M 88 4 + 1)).toInt64 + 1) (M 90, (L_2 121, L_2 122), [], [], true) x4_80.toNatClampNeg)).2.1 c ∧ okF (L27 91 c) (L27 92 c) ∧ lowF (L27 91 c) (L27 92 c)) ∧ ∀ k9 : Nat, k9 < (M 88 3).toNatClampNeg → M26 123 k9 = fiV (vC M) (qrN (vC M) (M 2) (M 89) (M 88 3).toNatClampNeg (M 1 0).toNatClampNeg (M 88 4).toNatClampNeg ((foK (fun _ b u => u + vC M 3 b) (M 89) (M 88 3).toNatClampNeg (0 : Int32) / (M 88 4 + 1)).toInt64 + 1) (M 90, (L_2 121, L_2 122), [], [], true) x4_80.toNatClampNeg).1 (M 89 k9).toNatClampNeg := te
          obtain ⟨bar25, bbr25⟩ := zo_b tz
          refine g_if_eq C 118 dX8_seatByQuota_105 (by decide) (fun c28 => ?_) (fun c28 => ?_)
          ·
            have f29 := feq rfl (by decide : (0 : Int32).toInt = 0) c28
            have hntk := zo_f tz c28
            refine g_bipush C (-9) dX8_seatByQuota_118 (by decide) ?_
            refine g_istore C [(5, .int ((-9))), (4, .int x4_80), (2, .long v15), (0, .ref (ad 120)), (1, .ref (ad 191))] dX8_seatByQuota_120 (by decide) rfl ?_
            refine g_iload C 0 dX8_seatByQuota_122 rfl ?_
            refine g_bipush C (-9) dX8_seatByQuota_124 (by decide) ?_
            refine g_icmp_eq C 140 dX8_seatByQuota_126 (by decide) (fun _ => ?_) (fun c30 => absurd c30 (by decide))
            refine g_iconst C 0 dX8_seatByQuota_140 (by decide) ?_
            have eF : (qrN (vC M) (M 2) (M 89) (M 88 3).toNatClampNeg (M 1 0).toNatClampNeg (M 88 4).toNatClampNeg ((foK (fun _ b u => u + vC M 3 b) (M 89) (M 88 3).toNatClampNeg (0 : Int32) / (M 88 4 + 1)).toInt64 + 1) (M 90, (L_2 121, L_2 122), [], [], true) (x4_80.toNatClampNeg + 1)) = ((qrN (vC M) (M 2) (M 89) (M 88 3).toNatClampNeg (M 1 0).toNatClampNeg (M 88 4).toNatClampNeg ((foK (fun _ b u => u + vC M 3 b) (M 89) (M 88 3).toNatClampNeg (0 : Int32) / (M 88 4 + 1)).toInt64 + 1) (M 90, (L_2 121, L_2 122), [], [], true) x4_80.toNatClampNeg).1, (qrN (vC M) (M 2) (M 89) (M 88 3).toNatClampNeg (M 1 0).toNatClampNeg (M 88 4).toNatClampNeg ((foK (fun _ b u => u + vC M 3 b) (M 89) (M 88 3).toNatClampNeg (0 : Int32) / (M 88 4 + 1)).toInt64 + 1) (M 90, (L_2 121, L_2 122), [], [], true) x4_80.toNatClampNeg).2.1, (qrN (vC M) (M 2) (M 89) (M 88 3).toNatClampNeg (M 1 0).toNatClampNeg (M 88 4).toNatClampNeg ((foK (fun _ b u => u + vC M 3 b) (M 89) (M 88 3).toNatClampNeg (0 : Int32) / (M 88 4 + 1)).toInt64 + 1) (M 90, (L_2 121, L_2 122), [], [], true) x4_80.toNatClampNeg).2.2.1, (qrN (vC M) (M 2) (M 89) (M 88 3).toNatClampNeg (M 1 0).toNatClampNeg (M 88 4).toNatClampNeg ((foK (fun _ b u => u + vC M 3 b) (M 89) (M 88 3).toNatClampNeg (0 : Int32) / (M 88 4 + 1)).toInt64 + 1) (M 90, (L_2 121, L_2 122), [], [], true) x4_80.toNatClampNeg).2.2.2.1, false) := by
              show qrF (vC M) (M 2) (M 89) (M 88 3).toNatClampNeg (M 1 0).toNatClampNeg (M 88 4).toNatClampNeg ((foK (fun _ b u => u + vC M 3 b) (M 89) (M 88 3).toNatClampNeg (0 : Int32) / (M 88 4 + 1)).toInt64 + 1) (qrN (vC M) (M 2) (M 89) (M 88 3).toNatClampNeg (M 1 0).toNatClampNeg (M 88 4).toNatClampNeg ((foK (fun _ b u => u + vC M 3 b) (M 89) (M 88 3).toNatClampNeg (0 : Int32) / (M 88 4 + 1)).toInt64 + 1) (M 90, (L_2 121, L_2 122), [], [], true) x4_80.toNatClampNeg) = _
              unfold qrF
              rw [if_pos (bt_ff hntk)]
            have zr9 : (0 : Int32).toInt = 0 := by decide
            exact g_zret C hr rfl ⟨⟨L_2 121, L_2 122, x4_80.toNatClampNeg + 1, j2_2, hk1s, Or.inl (by rw [eF]), Or.inr ⟨rfl, fun h9 => by rw [eF] at h9; exact Bool.noConfusion h9⟩, fun h9 => by rw [eF] at h9; exact Bool.noConfusion h9⟩, hI, hF, hG⟩ dX8_seatByQuota_141
          ·
            have f31 := fne rfl (by decide : (0 : Int32).toInt = 0) c28
            have htk := zo_t tz c28
            refine g_aload_n C 2 dX8_seatByQuota_108 rfl ?_
            refine g_get C (.ref (ad 88)) 0 in_X8_seatByQuota_8 (List.mem_of_getElem? (i := 1) rfl) (by decide) (ce_trans ad cs _ _) rfl (by decide) rfl rfl dX8_seatByQuota_109 ?_
            refine g_callVi C (n := 0) (As := []) (st := []) (k_X6_greatestIn l D ad cs _ _  hI (by rw [show vC M26 = vC M from vC_fr (fun k hk => funext (fun i => hF k i (by omega)))]; exact hD)) gX8_seatByQuota_X6_greatestIn rfl rfl rfl (by decide +kernel) ⟨Nat.le_of_ble_eq_true rfl, Nat.le_of_ble_eq_true rfl⟩ rfl (Nat.le_of_ble_eq_true rfl) ⟨Nat.zero_le _, Nat.zero_le _⟩ (by decide) (ce_poll ad cs _ _) rfl rfl dX8_seatByQuota_112 (fun r32 M33 L34 hr32 => ?_)
            obtain ⟨hq1, hq2, hr32⟩ := hr32
            obtain rfl := hq1.symm
            obtain rfl := hq2.symm
            obtain ⟨br32, ir32, xr32, yr32⟩ := hr32
            have w9 : (vC M26 0 0).toInt = (M 1 0).toInt := congrArg Int32.toInt (hF 1 0 (by omega))
            have hc90 : M26 90 = M_80 90 := q90
            have hpos : 0 < cI (M_80 90) (M 1 0).toNatClampNeg := by omega
            obtain ⟨c9, hc9, hi9⟩ := cI_ex _ hpos
            have hne9 := xr32 ⟨c9, by omega, by rw [hc90]; exact hi9⟩
            have nr9 := ixn (x := r32) (by omega)
            have hin9 := ir32 (by omega)
            rw [show M26 2 = M 2 from funext (fun i => hF 2 i (by omega)), hc90, show M26 1 0 = M 1 0 from hF 1 0 (by omega), eI] at yr32
            have hTok := htk
            obtain ⟨te1, te2⟩ := te htk
            have er9 : r32 = qrC (vC M) (M 2) (M 89) (M 88 3).toNatClampNeg (M 1 0).toNatClampNeg (qrN (vC M) (M 2) (M 89) (M 88 3).toNatClampNeg (M 1 0).toNatClampNeg (M 88 4).toNatClampNeg ((foK (fun _ b u => u + vC M 3 b) (M 89) (M 88 3).toNatClampNeg (0 : Int32) / (M 88 4 + 1)).toInt64 + 1) (M 90, (L_2 121, L_2 122), [], [], true) x4_80.toNatClampNeg) := yr32.trans (grF_ext (row := M 2) (fun i => hI0 2 i) (fun _ _ => rfl) (fun c hc => (te1 c hc).1) (fun c hc => (te1 c hc).2.1) (M 1 0).toNatClampNeg).1
            refine g_goto C 120 dX8_seatByQuota_115 (by decide) ?_
            refine g_istore C [(5, .int r32), (4, .int x4_80), (2, .long v15), (0, .ref (ad 120)), (1, .ref (ad 191))] dX8_seatByQuota_120 (by decide) rfl ?_
            refine g_iload C 0 dX8_seatByQuota_122 rfl ?_
            refine g_bipush C (-9) dX8_seatByQuota_124 (by decide) ?_
            refine g_icmp_eq C 140 dX8_seatByQuota_126 (by decide) (fun c35 => ?_) (fun c35 => ?_)
            ·
              have f36 := feq rfl (by decide : ((-9) : Int32).toInt = (-9)) c35
              refine g_iconst C 0 dX8_seatByQuota_140 (by decide) ?_
              have zr9 : (0 : Int32).toInt = 0 := by decide
              exact g_zret C hr rfl ⟨(by exfalso; omega), hI, hF, hG⟩ dX8_seatByQuota_141
            ·
              have f37 := fne rfl (by decide : ((-9) : Int32).toInt = (-9)) c35
              refine g_aload_n C 3 dX8_seatByQuota_129 rfl ?_
              refine g_iload C 0 dX8_seatByQuota_130 rfl ?_
              refine g_lload_n C 2 dX8_seatByQuota_132 rfl ?_
              refine g_aload_n C 4 dX8_seatByQuota_133 rfl ?_
              have eVt : vC M26 = vC M := vC_fr (fun k hk => funext (fun i => hF k i (by omega)))
              have e2t : M26 2 = M 2 := funext (fun i => hF 2 i (by omega))
              have e89t : M26 89 = M 89 := funext (fun i => hF 89 i (by omega))
              have e883t : M26 88 3 = M 88 3 := hF 88 3 (by omega)
              have e884t : M26 88 4 = M 88 4 := hF 88 4 (by omega)
              have e10t : M26 1 0 = M 1 0 := hF 1 0 (by omega)
              have e90t : M26 90 = M_80 90 := q90
              have e121t : L27 121 = L_80 121 := p121
              have e122t : L27 122 = L_80 122 := p122
              have k0t := congrArg Int32.toInt k191_0
              have k2t := congrArg Int32.toInt k191_2
              have hRb : RP (M26 191 0) (M26 192) (M26 191 2) (M26 193) (M26 194) (qrN (vC M) (M 2) (M 89) (M 88 3).toNatClampNeg (M 1 0).toNatClampNeg (M 88 4).toNatClampNeg ((foK (fun _ b u => u + vC M 3 b) (M 89) (M 88 3).toNatClampNeg (0 : Int32) / (M 88 4 + 1)).toInt64 + 1) (M 90, (L_2 121, L_2 122), [], [], true) x4_80.toNatClampNeg).2.2.1 (qrN (vC M) (M 2) (M 89) (M 88 3).toNatClampNeg (M 1 0).toNatClampNeg (M 88 4).toNatClampNeg ((foK (fun _ b u => u + vC M 3 b) (M 89) (M 88 3).toNatClampNeg (0 : Int32) / (M 88 4 + 1)).toInt64 + 1) (M 90, (L_2 121, L_2 122), [], [], true) x4_80.toNatClampNeg).2.2.2.1 := by
                rw [k191_0, k191_2, q192, q193, q194]; exact eRR
              refine g_callVi C (n := 3) (As := [.int r32, .long v15, .ref (ad 191)]) (st := []) (k_X8_endRound_b l D ad cs _ _ r32 v15 hI (tr := (qrN (vC M) (M 2) (M 89) (M 88 3).toNatClampNeg (M 1 0).toNatClampNeg (M 88 4).toNatClampNeg ((foK (fun _ b u => u + vC M 3 b) (M 89) (M 88 3).toNatClampNeg (0 : Int32) / (M 88 4 + 1)).toInt64 + 1) (M 90, (L_2 121, L_2 122), [], [], true) x4_80.toNatClampNeg)) ⟨by omega, by omega⟩ hqv1 (by unfold WTc; rw [e883t, e121t, e122t]; exact hW8) (by rw [e90t]; exact eI) (by rw [e121t]; exact eWu) (by rw [e122t]; exact eWd) hRb (by rw [eVt, e89t, e883t]; exact hTok) (by rw [eVt, e89t, e883t]; exact fun c hc => ⟨(te1 c hc).1, (te1 c hc).2.1, (te1 c hc).2.2.1⟩) (by rw [e883t, eVt, e89t, e90t, eI]; exact te2) (by rw [eVt, e2t, e89t, e883t, e10t]; exact er9) hin9 (by rw [eVt]; exact hD) (by rw [e90t, e10t]; exact hNI) (by omega) (by rw [e884t]; omega) (by rw [e884t, e90t, e10t]; omega)) gX8_seatByQuota_X8_endRound rfl rfl rfl (by decide +kernel) ⟨Nat.le_of_ble_eq_true rfl, Nat.le_of_ble_eq_true rfl⟩ rfl (Nat.le_of_ble_eq_true rfl) ⟨Nat.zero_le _, Nat.zero_le _⟩ (by decide) (ce_trans ad cs _ _) rfl rfl dX8_seatByQuota_134 (fun r38 M39 L40 hr38 => ?_)
              obtain ⟨hr38, hI, hFr38, hGr38⟩ := hr38
              have hF : ∀ k i, k ≠ 90 ∧ k ≠ 123 ∧ ¬ (k = 191 ∧ i = 0) ∧ ¬ (k = 191 ∧ i = 2) ∧ k ≠ 192 ∧ k ≠ 193 ∧ k ≠ 194 → M39 k i = M k i := fun k i hk => by (rw [hFr38 k i (by omega)]; try exact hF k i hk)
              have hG : ∀ k i, k ≠ 91 ∧ k ≠ 92 ∧ k ≠ 121 ∧ k ≠ 122 ∧ ¬ (k = 124 ∧ i = 0) ∧ ¬ (k = 124 ∧ i = 1) ∧ ¬ (197 ≤ k ∧ k < 257) → L40 k i = L k i := fun k i hk => by (rw [hGr38 k i (by omega)]; try exact hG k i hk)
              have hV : vC M39 = vC M_80 := by rw [vC_fr (fun k hk => funext (fun i => hFr38 k i (by omega))), hV]
              have k191_0 : M39 191 0 = M39 191 0 := rfl
              have k191_2 : M39 191 2 = M39 191 2 := rfl
              have kt191_0 := congrArg Int32.toInt k191_0
              have kt191_2 := congrArg Int32.toInt k191_2
              have l124_0 : L40 124 0 = L40 124 0 := rfl
              have l124_1 : L40 124 1 = L40 124 1 := rfl
              have p91 : L40 91 = L27 91 := (funext (fun i => hGr38 91 i (by omega))).trans p91
              have p92 : L40 92 = L27 92 := (funext (fun i => hGr38 92 i (by omega))).trans p92
              have p121 : L40 121 = L40 121 := rfl
              have p122 : L40 122 = L40 122 := rfl
              have q90 : M39 90 = M39 90 := rfl
              have q123 : M39 123 = M26 123 := (funext (fun i => hFr38 123 i (by omega))).trans q123
              have q192 : M39 192 = M39 192 := rfl
              have q193 : M39 193 = M39 193 := rfl
              have q194 : M39 194 = M39 194 := rfl
              obtain ⟨ez, ee⟩ := hr38
              rw [eVt, e2t, e89t, e883t, e884t, e10t, hqv] at ez
              rw [eVt, e2t, e89t, e883t, e884t, e10t, e90t, hqv] at ee
              have ez : zo r38 ((qrN (vC M) (M 2) (M 89) (M 88 3).toNatClampNeg (M 1 0).toNatClampNeg (M 88 4).toNatClampNeg ((foK (fun _ b u => u + vC M 3 b) (M 89) (M 88 3).toNatClampNeg (0 : Int32) / (M 88 4 + 1)).toInt64 + 1) (M 90, (L_2 121, L_2 122), [], [], true) (x4_80.toNatClampNeg + 1)).2.2.2.2 = true) := ez
              have ee : (qrN (vC M) (M 2) (M 89) (M 88 3).toNatClampNeg (M 1 0).toNatClampNeg (M 88 4).toNatClampNeg ((foK (fun _ b u => u + vC M 3 b) (M 89) (M 88 3).toNatClampNeg (0 : Int32) / (M 88 4 + 1)).toInt64 + 1) (M 90, (L_2 121, L_2 122), [], [], true) (x4_80.toNatClampNeg + 1)).2.2.2.2 = true → M39 90 = (qrN (vC M) (M 2) (M 89) (M 88 3).toNatClampNeg (M 1 0).toNatClampNeg (M 88 4).toNatClampNeg ((foK (fun _ b u => u + vC M 3 b) (M 89) (M 88 3).toNatClampNeg (0 : Int32) / (M 88 4 + 1)).toInt64 + 1) (M 90, (L_2 121, L_2 122), [], [], true) (x4_80.toNatClampNeg + 1)).1 ∧ L40 121 = (qrN (vC M) (M 2) (M 89) (M 88 3).toNatClampNeg (M 1 0).toNatClampNeg (M 88 4).toNatClampNeg ((foK (fun _ b u => u + vC M 3 b) (M 89) (M 88 3).toNatClampNeg (0 : Int32) / (M 88 4 + 1)).toInt64 + 1) (M 90, (L_2 121, L_2 122), [], [], true) (x4_80.toNatClampNeg + 1)).2.1.1 ∧ L40 122 = (qrN (vC M) (M 2) (M 89) (M 88 3).toNatClampNeg (M 1 0).toNatClampNeg (M 88 4).toNatClampNeg ((foK (fun _ b u => u + vC M 3 b) (M 89) (M 88 3).toNatClampNeg (0 : Int32) / (M 88 4 + 1)).toInt64 + 1) (M 90, (L_2 121, L_2 122), [], [], true) (x4_80.toNatClampNeg + 1)).2.1.2 ∧ RP (M39 191 0) (M39 192) (M39 191 2) (M39 193) (M39 194) (qrN (vC M) (M 2) (M 89) (M 88 3).toNatClampNeg (M 1 0).toNatClampNeg (M 88 4).toNatClampNeg ((foK (fun _ b u => u + vC M 3 b) (M 89) (M 88 3).toNatClampNeg (0 : Int32) / (M 88 4 + 1)).toInt64 + 1) (M 90, (L_2 121, L_2 122), [], [], true) (x4_80.toNatClampNeg + 1)).2.2.1 (qrN (vC M) (M 2) (M 89) (M 88 3).toNatClampNeg (M 1 0).toNatClampNeg (M 88 4).toNatClampNeg ((foK (fun _ b u => u + vC M 3 b) (M 89) (M 88 3).toNatClampNeg (0 : Int32) / (M 88 4 + 1)).toInt64 + 1) (M 90, (L_2 121, L_2 122), [], [], true) (x4_80.toNatClampNeg + 1)).2.2.2.1 ∧ WTc L40 (M 88 3).toNatClampNeg ∧ cI (M39 90) (M 1 0).toNatClampNeg + 1 = cI (M_80 90) (M 1 0).toNatClampNeg ∧ NIn (M39 90) (M 1 0).toInt ∧ (M 88 4).toInt ≤ (cI (M39 90) (M 1 0).toNatClampNeg : Int) + (M39 191 0).toInt ∧ (M39 191 2).toInt = (M26 191 2).toInt + 1 ∧ (M39 191 0).toInt ≤ (M 88 4).toInt := ee
              obtain ⟨bar38, bbr38⟩ := zo_b ez
              refine g_if_ne C 142 dX8_seatByQuota_137 (by decide) (fun c41 => ?_) (fun c41 => ?_)
              ·
                have f42 := fne rfl (by decide : (0 : Int32).toInt = 0) c41
                have hez := zo_t ez c41
                obtain ⟨v43, ev43⟩ : ∃ y : Int32, y = x4_80 + 1 := ⟨_, rfl⟩
                try have fv43 := fadd rfl (by decide : (1 : Int32).toInt = 1) ev43 (by omega) (by omega)
                refine g_iinc C 1 v43 [(4, .int v43), (5, .int r32), (2, .long v15), (0, .ref (ad 120)), (1, .ref (ad 191))] dX8_seatByQuota_142 rfl (by rw [ev43]; rfl) (by decide) rfl ?_
                refine g_goto C 80 dX8_seatByQuota_145 (by decide) ?_
                refine g_lv [0, 2, 3, 4] [(4, .int v43), (2, .long v15), (0, .ref (ad 120)), (1, .ref (ad 191))] rfl ?_
                have nv := ixn (x := v43) (by omega)
                have iv : v43.toNatClampNeg = x4_80.toNatClampNeg + 1 := by omega
                obtain ⟨f1, f2, f3, f4, f5, f6, f7, f8, f9, f10⟩ := ee hez
                obtain ⟨gz1, gz2⟩ := (show rg 0 30 (M39 191 0) from hI 191 0 (Or.inl rfl))
                exact ih_80 (v43, M39, L40) ⟨by show 0 ≤ v43.toInt; omega, by show v43.toInt ≤ 10; omega, by show (qrN (vC M) (M 2) (M 89) (M 88 3).toNatClampNeg (M 1 0).toNatClampNeg (M 88 4).toNatClampNeg ((foK (fun _ b u => u + vC M 3 b) (M 89) (M 88 3).toNatClampNeg (0 : Int32) / (M 88 4 + 1)).toInt64 + 1) (M 90, (L_2 121, L_2 122), [], [], true) v43.toNatClampNeg).2.2.2.2 = true ∧ M39 90 = (qrN (vC M) (M 2) (M 89) (M 88 3).toNatClampNeg (M 1 0).toNatClampNeg (M 88 4).toNatClampNeg ((foK (fun _ b u => u + vC M 3 b) (M 89) (M 88 3).toNatClampNeg (0 : Int32) / (M 88 4 + 1)).toInt64 + 1) (M 90, (L_2 121, L_2 122), [], [], true) v43.toNatClampNeg).1 ∧ L40 121 = (qrN (vC M) (M 2) (M 89) (M 88 3).toNatClampNeg (M 1 0).toNatClampNeg (M 88 4).toNatClampNeg ((foK (fun _ b u => u + vC M 3 b) (M 89) (M 88 3).toNatClampNeg (0 : Int32) / (M 88 4 + 1)).toInt64 + 1) (M 90, (L_2 121, L_2 122), [], [], true) v43.toNatClampNeg).2.1.1 ∧ L40 122 = (qrN (vC M) (M 2) (M 89) (M 88 3).toNatClampNeg (M 1 0).toNatClampNeg (M 88 4).toNatClampNeg ((foK (fun _ b u => u + vC M 3 b) (M 89) (M 88 3).toNatClampNeg (0 : Int32) / (M 88 4 + 1)).toInt64 + 1) (M 90, (L_2 121, L_2 122), [], [], true) v43.toNatClampNeg).2.1.2 ∧ RP (M39 191 0) (M39 192) (M39 191 2) (M39 193) (M39 194) (qrN (vC M) (M 2) (M 89) (M 88 3).toNatClampNeg (M 1 0).toNatClampNeg (M 88 4).toNatClampNeg ((foK (fun _ b u => u + vC M 3 b) (M 89) (M 88 3).toNatClampNeg (0 : Int32) / (M 88 4 + 1)).toInt64 + 1) (M 90, (L_2 121, L_2 122), [], [], true) v43.toNatClampNeg).2.2.1 (qrN (vC M) (M 2) (M 89) (M 88 3).toNatClampNeg (M 1 0).toNatClampNeg (M 88 4).toNatClampNeg ((foK (fun _ b u => u + vC M 3 b) (M 89) (M 88 3).toNatClampNeg (0 : Int32) / (M 88 4 + 1)).toInt64 + 1) (M 90, (L_2 121, L_2 122), [], [], true) v43.toNatClampNeg).2.2.2.1 ∧ WTc L40 (M 88 3).toNatClampNeg; rw [iv]; exact ⟨hez, f1, f2, f3, f4, f5⟩, by show ∀ j, j < v43.toNatClampNeg → ¬ qrD (M 1 0).toNatClampNeg (M 88 4).toNatClampNeg (qrN (vC M) (M 2) (M 89) (M 88 3).toNatClampNeg (M 1 0).toNatClampNeg (M 88 4).toNatClampNeg ((foK (fun _ b u => u + vC M 3 b) (M 89) (M 88 3).toNatClampNeg (0 : Int32) / (M 88 4 + 1)).toInt64 + 1) (M 90, (L_2 121, L_2 122), [], [], true) j); rw [iv]; exact hk1s, by show v43.toInt + (cI (M39 90) (M 1 0).toNatClampNeg : Int) ≤ 10 ∧ NIn (M39 90) (M 1 0).toInt ∧ (M 88 4).toInt ≤ (cI (M39 90) (M 1 0).toNatClampNeg : Int) + (M39 191 0).toInt ∧ (M39 191 2).toInt = v43.toInt ∧ (0 ≤ (M39 191 0).toInt ∧ (M39 191 0).toInt ≤ (M 88 4).toInt); exact ⟨by omega, f7, f8, by omega, by omega, by omega⟩, hI, hF, hG⟩ (by show (11 - v43.toInt).toNat < (11 - x4_80.toInt).toNat; omega)
              ·
                have f44 := feq rfl (by decide : (0 : Int32).toInt = 0) c41
                have hnez := zo_f ez c41
                refine g_iconst C 0 dX8_seatByQuota_140 (by decide) ?_
                have zr9 : (0 : Int32).toInt = 0 := by decide
                exact g_zret C hr rfl ⟨⟨L_2 121, L_2 122, x4_80.toNatClampNeg + 1, j2_2, hk1s, Or.inl (bt_ff hnez), Or.inr ⟨rfl, hnez⟩, fun h9 => absurd h9 hnez⟩, hI, hF, hG⟩ dX8_seatByQuota_141
    ·
      have f45 := fnle (by decide : (1 : Int32).toInt = 1) rfl c6
      exfalso; omega
  ·
    have f46 := fnle rfl rfl c3
    refine g_aload_n C 1 dX8_seatByQuota_13 rfl ?_
    refine g_get C (.ref (ad 121)) 1 in_X8_seatByQuota_8 (List.mem_of_getElem? (i := 3) rfl) (by decide) (ce_trans ad cs _ _) rfl (by decide) rfl rfl dX8_seatByQuota_14 ?_
    refine g_iload_n C 0 dX8_seatByQuota_17 rfl ?_
    refine g_aload_n C 1 dX8_seatByQuota_18 rfl ?_
    refine g_get C (.ref (ad 88)) 0 in_X8_seatByQuota_8 (List.mem_of_getElem? (i := 1) rfl) (by decide) (ce_trans ad cs _ _) rfl (by decide) rfl rfl dX8_seatByQuota_19 ?_
    refine g_iload_n C 0 dX8_seatByQuota_22 rfl ?_
    refine g_callVi C (n := 1) (As := [.int x2_2]) (st := [.int x2_2, .ref (ad 121)]) (k_X6_papersOf l D ad cs _ _ x2_2 hI ⟨by omega, by omega⟩) gX8_seatByQuota_X6_papersOf rfl rfl rfl (by decide +kernel) ⟨Nat.le_of_ble_eq_true rfl, Nat.le_of_ble_eq_true rfl⟩ rfl (Nat.le_of_ble_eq_true rfl) ⟨Nat.zero_le _, Nat.zero_le _⟩ (by decide) (ce_poll ad cs _ _) rfl rfl dX8_seatByQuota_23 (fun r47 M48 L49 hr47 => ?_)
    obtain ⟨hq1, hq2, hr47⟩ := hr47
    obtain rfl := hq1.symm
    obtain rfl := hq2.symm
    rw [show vC M_2 = vC M from vC_fr (fun k hk => funext (fun i => hF k i (by omega))), show M_2 89 = M 89 from funext (fun i => hF 89 i (by omega))] at hr47
    refine g_i2l C dX8_seatByQuota_26 ?_
    refine g_nl (fun v50 ev50 => ?_)
    have fv50 := fi2l rfl ev50
    have nx2_2 := ixn (x := x2_2) (by omega)
    refine g_last C (by decide) (ce_tup ad cs _ _) (by rw [sJ_k]; rfl) (fin' (n := 40) rfl (by omega) (by omega)) dX8_seatByQuota_27 ?_
    refine g_nmL (fun L51 hL51 => ?_)
    have hG : ∀ k i, k ≠ 91 ∧ k ≠ 92 ∧ k ≠ 121 ∧ k ≠ 122 ∧ ¬ (k = 124 ∧ i = 0) ∧ ¬ (k = 124 ∧ i = 1) ∧ ¬ (197 ≤ k ∧ k < 257) → L51 k i = L k i := fun k i hk => by (rw [hL51, sJ_at, if_neg (by omega)]; try exact hG k i hk)
    have l124_0 : L51 124 0 = L_2 124 0 := by rw [hL51, sJ_at, if_neg (by omega)]; try exact l124_0
    have l124_1 : L51 124 1 = L_2 124 1 := by rw [hL51, sJ_at, if_neg (by omega)]; try exact l124_1
    have p91 : L51 91 = L_2 91 := by rw [hL51, sJ_n _ _ _ (by decide)]; try exact p91
    have p92 : L51 92 = L_2 92 := by rw [hL51, sJ_n _ _ _ (by decide)]; try exact p92
    have p122 : L51 122 = L_2 122 := by rw [hL51, sJ_n _ _ _ (by decide)]; try exact p122
    refine g_aload_n C 1 dX8_seatByQuota_28 rfl ?_
    refine g_get C (.ref (ad 122)) 2 in_X8_seatByQuota_8 (List.mem_of_getElem? (i := 4) rfl) (by decide) (ce_trans ad cs _ _) rfl (by decide) rfl rfl dX8_seatByQuota_29 ?_
    refine g_iload_n C 0 dX8_seatByQuota_32 rfl ?_
    refine g_lconst C 1 dX8_seatByQuota_33 (by decide) ?_
    have nx2_2 := ixn (x := x2_2) (by omega)
    refine g_last C (by decide) (ce_tlow ad cs _ _) (by rw [sJ_k]; rfl) (fin' (n := 40) rfl (by omega) (by omega)) dX8_seatByQuota_34 ?_
    refine g_nmL (fun L52 hL52 => ?_)
    have hG : ∀ k i, k ≠ 91 ∧ k ≠ 92 ∧ k ≠ 121 ∧ k ≠ 122 ∧ ¬ (k = 124 ∧ i = 0) ∧ ¬ (k = 124 ∧ i = 1) ∧ ¬ (197 ≤ k ∧ k < 257) → L52 k i = L k i := fun k i hk => by (rw [hL52, sJ_at, if_neg (by omega)]; try exact hG k i hk)
    have l124_0 : L52 124 0 = L_2 124 0 := by rw [hL52, sJ_at, if_neg (by omega)]; try exact l124_0
    have l124_1 : L52 124 1 = L_2 124 1 := by rw [hL52, sJ_at, if_neg (by omega)]; try exact l124_1
    have p91 : L52 91 = L_2 91 := by rw [hL52, sJ_n _ _ _ (by decide)]; try exact p91
    have p92 : L52 92 = L_2 92 := by rw [hL52, sJ_n _ _ _ (by decide)]; try exact p92
    obtain ⟨v53, ev53⟩ : ∃ y : Int32, y = x2_2 + 1 := ⟨_, rfl⟩
    try have fv53 := fadd rfl (by decide : (1 : Int32).toInt = 1) ev53 (by omega) (by omega)
    refine g_iinc C 0 v53 [(2, .int v53), (0, .ref (ad 120)), (1, .ref (ad 191))] dX8_seatByQuota_35 rfl (by rw [ev53]; rfl) (by decide) rfl ?_
    refine g_goto C 2 dX8_seatByQuota_38 (by decide) ?_
    have nv := ixn (x := v53) (by omega)
    have hall : ∀ j : Nat, j < v53.toNatClampNeg → L52 121 j = (vC M 3 (M 89 j).toNatClampNeg).toInt64 ∧ L52 122 j = 1 := by
      intro j hj
      rw [hL52, sJ_n _ _ _ (by decide), sJ_at, hL51, sJ_at, sJ_n _ _ _ (by decide)]
      by_cases e9 : j = x2_2.toNatClampNeg
      · rw [if_pos ⟨rfl, e9⟩, if_pos ⟨rfl, e9⟩, e9]; exact ⟨by simp only [ev50, hr47, gv2], rfl⟩
      · rw [if_neg (fun h => e9 h.2), if_neg (fun h => e9 h.2)]; exact j2_2 j (by omega)
    exact ih_2 (v53, M_2, L52) ⟨by show 0 ≤ v53.toInt; omega, by show v53.toInt ≤ (M 88 3).toInt; omega, by show ∀ j : Nat, j < v53.toNatClampNeg → L52 121 j = (vC M 3 (M 89 j).toNatClampNeg).toInt64 ∧ L52 122 j = 1; exact hall, by show M_2 90 = M 90 ∧ M_2 191 0 = M 191 0 ∧ M_2 191 2 = M 191 2; exact ⟨q90.trans j2_3.1, k191_0.trans j2_3.2.1, k191_2.trans j2_3.2.2⟩, hI, hF, hG⟩ (by show (41 - v53.toInt).toNat < (41 - x2_2.toInt).toNat; omega)
