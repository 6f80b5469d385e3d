set_option maxHeartbeats 4000000 in
set_option maxRecDepth 100000 in
theorem k_X5_tallyBy (l : Launch) (D : va_G) (ad : Nat → Nat) (cs : Nat → ClassId) (M : MI) (L : ML) (x : Int32) (hI : IC M) (hP3 : ∀ b, 0 ≤ (vC M 3 b).toInt ∧ (vC M 3 b).toInt ≤ 100000) (hct : ∀ j : Nat, j < 10 → L 91 j = 0 ∧ L 92 j = 1) (hA3 : ∀ b : Nat, b < 60 → ∀ i : Nat, (i : Int) < (vC M 4 b).toInt → (vC M 5 (10 * b + i)).toInt < (vC M 0 0).toInt) (hdis : ∀ b : Nat, b < 60 → ∀ i j : Nat, i < j → (j : Int) < (vC M 4 b).toInt → (vC M 5 (10 * b + i)).toInt ≠ (vC M 5 (10 * b + j)).toInt) (hl4 : ∀ b : Nat, b < 60 → (vC M 4 b).toInt ≤ (vC M 0 0).toInt) : Cv l yX5_tallyBy wsX5_tallyBy ({ frames := 2, cells := 0, slots := 0, locals := 46 }) D ad cs [.ref (ad 93), .int x] M L (fun M1 L1 => (∀ c, c < 10 → L1 91 c = (tyU (vC M) (M 90) (M 89) (M 88 3).toNatClampNeg (M 1 0).toNatClampNeg x) c ∧ L1 92 c = 1) ∧ IC M1 ∧ (∀ k i, True → M1 k i = M k i) ∧ ∀ k i, k ≠ 91 ∧ k ≠ 92 → L1 k i = L k i) := by
  refine enter_v RX5 rfl [(0, .ref (ad 93)), (1, .int x)] rfl (Nat.le_of_ble_eq_true rfl) (by decide +kernel) rfl ?_
  intro p e s m below meth c C hr
  have hF : ∀ k i, True → M k i = M k i := fun _ _ _ => rfl
  have hG : ∀ k i, k ≠ 91 ∧ k ≠ 92 → L k i = L k i := fun _ _ _ => rfl
  have w0 : (vC M 0 0).toInt = (M 1 0).toInt := rfl
  have w1 : (vC M 0 1).toInt = (M 3 0).toInt := rfl
  have w2 : (vC M 0 2).toInt = (M 68 0).toInt := rfl
  have w3 : (vC M 0 3).toInt = (M 81 0).toInt := rfl
  obtain ⟨y0a, y0b⟩ := (show rg 0 10 (M 1 0) from hI 1 0 rfl)
  obtain ⟨y1a, y1b⟩ := (show rg 0 60 (M 3 0) from hI 3 0 rfl)
  obtain ⟨y2a, y2b⟩ := (show rg 0 8 (M 68 0) from hI 68 0 rfl)
  obtain ⟨y3a, y3b⟩ := (show rg 0 20 (M 81 0) from hI 81 0 rfl)
  have p91 : L 91 = L 91 := rfl
  have p92 : L 92 = L 92 := rfl
  refine g_iload_n C 1 dX5_tallyBy_0 rfl ?_
  refine g_iconst C 1 dX5_tallyBy_1 (by decide) ?_
  refine g_icmp_ne C 12 dX5_tallyBy_2 (by decide) (fun c1 => ?_) (fun c1 => ?_)
  ·
    have f2 := fne rfl (by decide : (1 : Int32).toInt = 1) c1
    refine g_iload_n C 1 dX5_tallyBy_12 rfl ?_
    refine g_iconst C 2 dX5_tallyBy_13 (by decide) ?_
    refine g_icmp_ne C 24 dX5_tallyBy_14 (by decide) (fun c3 => ?_) (fun c3 => ?_)
    ·
      have f4 := fne rfl (by decide : (2 : Int32).toInt = 2) c3
      refine g_aload_n C 0 dX5_tallyBy_24 rfl ?_
      refine g_get C (.ref (ad 88)) 0 in_X5_tallyBy_5 (List.mem_of_getElem? (i := 1) rfl) (by decide) (ce_plain ad cs _ _) rfl (by decide) rfl rfl dX5_tallyBy_25 ?_
      refine g_callVv C (n := 0) (As := []) (st := []) (k_X6_tallyFirstIn l D ad cs _ _  hI ) gX5_tallyBy_X6_tallyFirstIn rfl rfl rfl (by decide +kernel) ⟨Nat.le_of_ble_eq_true rfl, Nat.le_of_ble_eq_true rfl⟩ rfl (Nat.le_of_ble_eq_true rfl) ⟨Nat.zero_le _, Nat.zero_le _⟩ (by decide) (ce_poll ad cs _ _) rfl rfl dX5_tallyBy_28 (fun M6 L7 hr5 => ?_)
      obtain ⟨hr5, hI, hFr5, hGr5⟩ := hr5
      have hF : ∀ k i, True → M6 k i = M k i := fun k i hk => by (rw [hFr5 k i trivial]; try exact hF k i hk)
      have hG : ∀ k i, k ≠ 91 ∧ k ≠ 92 → L7 k i = L k i := fun k i hk => by (rw [hGr5 k i (by omega)]; try exact hG k i hk)
      have p91 : L7 91 = L7 91 := rfl
      have p92 : L7 92 = L7 92 := rfl
      have hty := hr5
      exact g_vret C hr ⟨(by unfold tyU; rw [if_neg (by omega)]; rw [if_neg (by omega)]; exact hty), hI, hF, hG⟩ dX5_tallyBy_31
    ·
      have f8 := feq rfl (by decide : (2 : Int32).toInt = 2) c3
      refine g_aload_n C 0 dX5_tallyBy_17 rfl ?_
      refine g_callVv C (n := 0) (As := []) (st := []) (k_X5_tallyPlaces l D ad cs _ _  hI hP3 hct hA3 hdis hl4) gX5_tallyBy_X5_tallyPlaces rfl rfl rfl (by decide +kernel) ⟨Nat.le_of_ble_eq_true rfl, Nat.le_of_ble_eq_true rfl⟩ rfl (Nat.le_of_ble_eq_true rfl) ⟨Nat.zero_le _, Nat.zero_le _⟩ (by decide) (ce_plain ad cs _ _) rfl rfl dX5_tallyBy_18 (fun M10 L11 hr9 => ?_)
      obtain ⟨hr9, hI, hFr9, hGr9⟩ := hr9
      have hF : ∀ k i, True → M10 k i = M k i := fun k i hk => by (rw [hFr9 k i trivial]; try exact hF k i hk)
      have hG : ∀ k i, k ≠ 91 ∧ k ≠ 92 → L11 k i = L k i := fun k i hk => by (rw [hGr9 k i (by omega)]; try exact hG k i hk)
      have p91 : L11 91 = L11 91 := rfl
      have p92 : L11 92 = L11 92 := rfl
      have hty := hr9
      refine g_goto C 31 dX5_tallyBy_21 (by decide) ?_
      exact g_vret C hr ⟨(by unfold tyU; rw [if_neg (by omega)]; rw [if_pos (by omega)]; exact hty), hI, hF, hG⟩ dX5_tallyBy_31
  ·
    have f12 := feq rfl (by decide : (1 : Int32).toInt = 1) c1
    refine g_aload_n C 0 dX5_tallyBy_5 rfl ?_
    refine g_callVv C (n := 0) (As := []) (st := []) (k_X5_tallyPoints l D ad cs _ _  hI hP3 hct) gX5_tallyBy_X5_tallyPoints rfl rfl rfl (by decide +kernel) ⟨Nat.le_of_ble_eq_true rfl, Nat.le_of_ble_eq_true rfl⟩ rfl (Nat.le_of_ble_eq_true rfl) ⟨Nat.zero_le _, Nat.zero_le _⟩ (by decide) (ce_plain ad cs _ _) rfl rfl dX5_tallyBy_6 (fun M14 L15 hr13 => ?_)
    obtain ⟨hr13, hI, hFr13, hGr13⟩ := hr13
    have hF : ∀ k i, True → M14 k i = M k i := fun k i hk => by (rw [hFr13 k i trivial]; try exact hF k i hk)
    have hG : ∀ k i, k ≠ 91 ∧ k ≠ 92 → L15 k i = L k i := fun k i hk => by (rw [hGr13 k i (by omega)]; try exact hG k i hk)
    have p91 : L15 91 = L15 91 := rfl
    have p92 : L15 92 = L15 92 := rfl
    have hty := hr13
    refine g_goto C 31 dX5_tallyBy_9 (by decide) ?_
    exact g_vret C hr ⟨(by unfold tyU; rw [if_pos (by omega)]; exact hty), hI, hF, hG⟩ dX5_tallyBy_31
set_option maxHeartbeats 4000000 in
set_option maxRecDepth 100000 in
theorem k_X5_sbt_a (l : Launch) (D : va_G) (ad : Nat → Nat) (cs : Nat → ClassId) (M : MI) (L : ML) (x : Int32) (hI : IC M) (hP3 : ∀ b, 0 ≤ (vC M 3 b).toInt ∧ (vC M 3 b).toInt ≤ 100000) (hct : ∀ j : Nat, j < 10 → L 91 j = 0 ∧ L 92 j = 1) (hA3 : ∀ b : Nat, b < 60 → ∀ i : Nat, (i : Int) < (vC M 4 b).toInt → (vC M 5 (10 * b + i)).toInt < (vC M 0 0).toInt) (hdis : ∀ b : Nat, b < 60 → ∀ i j : Nat, i < j → (j : Int) < (vC M 4 b).toInt → (vC M 5 (10 * b + i)).toInt ≠ (vC M 5 (10 * b + j)).toInt) (hl4 : ∀ b : Nat, b < 60 → (vC M 4 b).toInt ≤ (vC M 0 0).toInt) (hD : DP (vC M)) (hNI0 : NIn (M 90) (M 1 0).toInt) (hg0 : (M 125 0).toInt = 0) (hm0 : (M 125 2).toInt = 0) (hC : (M 88 4).toInt ≤ (cI (M 90) (M 1 0).toNatClampNeg : Int)) : Cv l yX5_seatByTallies wsX5_seatByTallies ({ frames := 3, cells := 0, slots := 0, locals := 68 }) D ad cs [.ref (ad 93), .int x, .ref (ad 125)] M L (fun M1 L1 => (RP (M1 125 0) (M1 126) (M1 125 2) (M1 127) (M1 128) (btS (M 2) (M 90) (tyU (vC M) (M 90) (M 89) (M 88 3).toNatClampNeg (M 1 0).toNatClampNeg x) (fun _ => 1) (M 1 0).toNatClampNeg ((M 88 4).toNatClampNeg)) (oneR (btS (M 2) (M 90) (tyU (vC M) (M 90) (M 89) (M 88 3).toNatClampNeg (M 1 0).toNatClampNeg x) (fun _ => 1) (M 1 0).toNatClampNeg ((M 88 4).toNatClampNeg)))) ∧ IC M1 ∧ (∀ k i, k ≠ 90 ∧ ¬ (k = 125 ∧ i = 0) ∧ ¬ (k = 125 ∧ i = 2) ∧ k ≠ 126 ∧ k ≠ 127 ∧ k ≠ 128 → M1 k i = M k i) ∧ ∀ k i, k ≠ 91 ∧ k ≠ 92 ∧ ¬ (131 ≤ k ∧ k < 191) → L1 k i = L k i) := by
  refine enter_v RX5 rfl [(0, .ref (ad 93)), (1, .int x), (2, .ref (ad 125))] rfl (Nat.le_of_ble_eq_true rfl) (by decide +kernel) rfl ?_
  intro p e s m below meth c C hr
  have hF : ∀ k i, k ≠ 90 ∧ ¬ (k = 125 ∧ i = 0) ∧ ¬ (k = 125 ∧ i = 2) ∧ k ≠ 126 ∧ k ≠ 127 ∧ k ≠ 128 → M k i = M k i := fun _ _ _ => rfl
  have hG : ∀ k i, k ≠ 91 ∧ k ≠ 92 ∧ ¬ (131 ≤ k ∧ k < 191) → L k i = L k i := fun _ _ _ => rfl
  have w0 : (vC M 0 0).toInt = (M 1 0).toInt := rfl
  have w1 : (vC M 0 1).toInt = (M 3 0).toInt := rfl
  have w2 : (vC M 0 2).toInt = (M 68 0).toInt := rfl
  have w3 : (vC M 0 3).toInt = (M 81 0).toInt := rfl
  obtain ⟨y0a, y0b⟩ := (show rg 0 10 (M 1 0) from hI 1 0 rfl)
  obtain ⟨y1a, y1b⟩ := (show rg 0 60 (M 3 0) from hI 3 0 rfl)
  obtain ⟨y2a, y2b⟩ := (show rg 0 8 (M 68 0) from hI 68 0 rfl)
  obtain ⟨y3a, y3b⟩ := (show rg 0 20 (M 81 0) from hI 81 0 rfl)
  have hI0 := hI
  obtain ⟨sa, sb⟩ := (show rg 0 30 (M 88 4) from (hI 88 4).2 rfl)
  have nsd := ixn sa
  have n02 := ixn y0a
  have k125_0 : M 125 0 = M 125 0 := rfl
  have k125_2 : M 125 2 = M 125 2 := rfl
  have p91 : L 91 = L 91 := rfl
  have p92 : L 92 = L 92 := rfl
  have q90 : M 90 = M 90 := rfl
  have q126 : M 126 = M 126 := rfl
  have q127 : M 127 = M 127 := rfl
  have q128 : M 128 = M 128 := rfl
  have hV : vC M = vC M := rfl
  refine g_aload_n C 0 dX5_seatByTallies_0 rfl ?_
  refine g_iload_n C 1 dX5_seatByTallies_1 rfl ?_
  refine g_callVv C (n := 1) (As := [.int x]) (st := []) (k_X5_tallyBy l D ad cs _ _ x hI hP3 hct hA3 hdis hl4) gX5_seatByTallies_X5_tallyBy rfl rfl rfl (by decide +kernel) ⟨Nat.le_of_ble_eq_true rfl, Nat.le_of_ble_eq_true rfl⟩ rfl (Nat.le_of_ble_eq_true rfl) ⟨Nat.zero_le _, Nat.zero_le _⟩ (by decide) (ce_plain ad cs _ _) rfl rfl dX5_seatByTallies_2 (fun M2 L3 hr1 => ?_)
  obtain ⟨hr1, hI, hFr1, hGr1⟩ := hr1
  have hF : ∀ k i, k ≠ 90 ∧ ¬ (k = 125 ∧ i = 0) ∧ ¬ (k = 125 ∧ i = 2) ∧ k ≠ 126 ∧ k ≠ 127 ∧ k ≠ 128 → M2 k i = M k i := fun k i hk => by (rw [hFr1 k i trivial]; try exact hF k i hk)
  have hG : ∀ k i, k ≠ 91 ∧ k ≠ 92 ∧ ¬ (131 ≤ k ∧ k < 191) → L3 k i = L k i := fun k i hk => by (rw [hGr1 k i (by omega)]; try exact hG k i hk)
  have hV : vC M2 = vC M := by rw [vC_fr (fun k hk => funext (fun i => hFr1 k i trivial)), hV]
  have k125_0 : M2 125 0 = M 125 0 := (hFr1 125 0 trivial).trans k125_0
  have k125_2 : M2 125 2 = M 125 2 := (hFr1 125 2 trivial).trans k125_2
  have kt125_0 := congrArg Int32.toInt k125_0
  have kt125_2 := congrArg Int32.toInt k125_2
  have p91 : L3 91 = L3 91 := rfl
  have p92 : L3 92 = L3 92 := rfl
  have q90 : M2 90 = M 90 := (funext (fun i => hFr1 90 i trivial)).trans q90
  have q126 : M2 126 = M 126 := (funext (fun i => hFr1 126 i trivial)).trans q126
  have q127 : M2 127 = M 127 := (funext (fun i => hFr1 127 i trivial)).trans q127
  have q128 : M2 128 = M 128 := (funext (fun i => hFr1 128 i trivial)).trans q128
  have hty := hr1
  refine g_iconst C 0 dX5_seatByTallies_5 (by decide) ?_
  refine g_istore_n C [(3, .int 0), (0, .ref (ad 93)), (1, .int x), (2, .ref (ad 125))] dX5_seatByTallies_6 (by decide) rfl ?_
  have zy4 : (0 : Int32).toInt = 0 := by decide
  have k0i := congrArg Int32.toInt k125_0
  have k2i := congrArg Int32.toInt k125_2
  have e90i : M2 90 = M 90 := q90
  refine g_loop (α := Int32 × MI × ML) (fun a => (31 - a.1.toInt).toNat) (fun a => (0 ≤ a.1.toInt) ∧ (a.1.toInt ≤ (M 88 4).toInt) ∧ ((a.2.1 125 0).toInt = a.1.toInt) ∧ ((a.2.1 125 2).toInt = a.1.toInt) ∧ ((M 88 4).toInt ≤ (cI (a.2.1 90) (M 1 0).toNatClampNeg : Int) + a.1.toInt) ∧ (NIn (a.2.1 90) (M 1 0).toInt) ∧ (a.2.1 90 = btI (M 2) (M 90) (tyU (vC M) (M 90) (M 89) (M 88 3).toNatClampNeg (M 1 0).toNatClampNeg x) (fun _ => 1) (M 1 0).toNatClampNeg a.1.toNatClampNeg) ∧ (RP (a.2.1 125 0) (a.2.1 126) (a.2.1 125 2) (a.2.1 127) (a.2.1 128) (btS (M 2) (M 90) (tyU (vC M) (M 90) (M 89) (M 88 3).toNatClampNeg (M 1 0).toNatClampNeg x) (fun _ => 1) (M 1 0).toNatClampNeg a.1.toNatClampNeg) (oneR (btS (M 2) (M 90) (tyU (vC M) (M 90) (M 89) (M 88 3).toNatClampNeg (M 1 0).toNatClampNeg x) (fun _ => 1) (M 1 0).toNatClampNeg a.1.toNatClampNeg))) ∧ (∀ c, c < 10 → a.2.2 91 c = (tyU (vC M) (M 90) (M 89) (M 88 3).toNatClampNeg (M 1 0).toNatClampNeg x) c ∧ a.2.2 92 c = 1) ∧ IC a.2.1 ∧ (∀ k i, k ≠ 90 ∧ ¬ (k = 125 ∧ i = 0) ∧ ¬ (k = 125 ∧ i = 2) ∧ k ≠ 126 ∧ k ≠ 127 ∧ k ≠ 128 → a.2.1 k i = M k i) ∧ (∀ k i, k ≠ 91 ∧ k ≠ 92 ∧ ¬ (131 ≤ k ∧ k < 191) → a.2.2 k i = L k i)) (fun a => a.2.1) (fun a => a.2.2) (fun a => [(3, .int a.1), (0, .ref (ad 93)), (1, .int x), (2, .ref (ad 125))]) ((0 : Int32), M2, L3) ⟨by show 0 ≤ (0 : Int32).toInt; omega, by show (0 : Int32).toInt ≤ (M 88 4).toInt; omega, by show (M2 125 0).toInt = (0 : Int32).toInt; omega, by show (M2 125 2).toInt = (0 : Int32).toInt; omega, by show (M 88 4).toInt ≤ (cI (M2 90) (M 1 0).toNatClampNeg : Int) + (0 : Int32).toInt; rw [e90i]; omega, by show NIn (M2 90) (M 1 0).toInt; rw [e90i]; exact hNI0, by show M2 90 = btI (M 2) (M 90) (tyU (vC M) (M 90) (M 89) (M 88 3).toNatClampNeg (M 1 0).toNatClampNeg x) (fun _ => 1) (M 1 0).toNatClampNeg (0 : Int32).toNatClampNeg; exact e90i, by show RP (M2 125 0) (M2 126) (M2 125 2) (M2 127) (M2 128) (btS (M 2) (M 90) (tyU (vC M) (M 90) (M 89) (M 88 3).toNatClampNeg (M 1 0).toNatClampNeg x) (fun _ => 1) (M 1 0).toNatClampNeg (0 : Int32).toNatClampNeg) (oneR (btS (M 2) (M 90) (tyU (vC M) (M 90) (M 89) (M 88 3).toNatClampNeg (M 1 0).toNatClampNeg x) (fun _ => 1) (M 1 0).toNatClampNeg (0 : Int32).toNatClampNeg)); exact RP_0 (by omega) (by omega), by show ∀ c, c < 10 → L3 91 c = (tyU (vC M) (M 90) (M 89) (M 88 3).toNatClampNeg (M 1 0).toNatClampNeg x) c ∧ L3 92 c = 1; exact hty, hI, hF, hG⟩ rfl rfl rfl ?_
  rintro ⟨x3_7, M_7, L_7⟩ ⟨j7_0, j7_1, j7_2, j7_3, j7_4, j7_5, j7_6, j7_7, j7_8, hI, hF, hG⟩ ih_7
  dsimp only at j7_0 j7_1 j7_2 j7_3 j7_4 j7_5 j7_6 j7_7 j7_8 hI hF hG ih_7 ⊢
  have k125_0 : M_7 125 0 = M_7 125 0 := rfl
  have k125_2 : M_7 125 2 = M_7 125 2 := rfl
  have hV : vC M_7 = vC M_7 := rfl
  have p91 : L_7 91 = L_7 91 := rfl
  have p92 : L_7 92 = L_7 92 := rfl
  have q90 : M_7 90 = M_7 90 := rfl
  have q126 : M_7 126 = M_7 126 := rfl
  have q127 : M_7 127 = M_7 127 := rfl
  have q128 : M_7 128 = M_7 128 := rfl
  have hNI := j7_5
  refine g_iload_n C 0 dX5_seatByTallies_7 rfl ?_
  refine g_aload_n C 1 dX5_seatByTallies_8 rfl ?_
  refine g_get C (.ref (ad 88)) 0 in_X5_seatByTallies_5 (List.mem_of_getElem? (i := 1) rfl) (by decide) (ce_plain ad cs _ _) rfl (by decide) rfl rfl dX5_seatByTallies_9 ?_
  refine g_get C (.int (M_7 88 4)) 4 in_X5_seatByTallies_6 (List.mem_of_getElem? (i := 2) rfl) (by decide) (ce_poll ad cs _ _) rfl (by decide) rfl rfl dX5_seatByTallies_12 ?_
  refine g_ni (fun v5 ev5 => ?_)
  have gv5 : v5 = M 88 4 := ev5.trans (hF 88 4 (by omega))
  have tv5 := congrArg Int32.toInt gv5
  obtain ⟨bv5, dv5⟩ := (show rg 0 30 v5 from (by rw [ev5]; exact (hI 88 4).2 rfl))
  refine g_icmp_ge C 69 dX5_seatByTallies_15 (by decide) (fun c6 => ?_) (fun c6 => ?_)
  ·
    have f7 := fle rfl rfl c6
    exact g_vret C hr ⟨(by have e9 : x3_7.toNatClampNeg = (M 88 4).toNatClampNeg := (by have := ixn (x := x3_7) (by omega); omega); rw [e9] at j7_7; exact j7_7), hI, hF, hG⟩ dX5_seatByTallies_69
  ·
    have f8 := fnle rfl rfl c6
    refine g_aload_n C 1 dX5_seatByTallies_18 rfl ?_
    refine g_get C (.ref (ad 88)) 0 in_X5_seatByTallies_5 (List.mem_of_getElem? (i := 1) rfl) (by decide) (ce_plain ad cs _ _) rfl (by decide) rfl rfl dX5_seatByTallies_19 ?_
    refine g_callVi C (n := 0) (As := []) (st := []) (k_X6_greatestIn l D ad cs _ _  hI (by rw [show vC M_7 = vC M from vC_fr (fun k hk => funext (fun i => hF k i (by omega)))]; exact hD)) gX5_seatByTallies_X6_greatestIn rfl rfl rfl (by decide +kernel) ⟨Nat.le_of_ble_eq_true rfl, Nat.le_of_ble_eq_true rfl⟩ rfl (Nat.le_of_ble_eq_true rfl) ⟨Nat.zero_le _, Nat.zero_le _⟩ (by decide) (ce_poll ad cs _ _) rfl rfl dX5_seatByTallies_22 (fun r9 M10 L11 hr9 => ?_)
    obtain ⟨hq1, hq2, hr9⟩ := hr9
    obtain rfl := hq1.symm
    obtain rfl := hq2.symm
    obtain ⟨br9, ir9, xr9, yr9⟩ := hr9
    have w9 : (vC M_7 0 0).toInt = (M 1 0).toInt := congrArg Int32.toInt (hF 1 0 (by omega))
    have hc90 : M_7 90 = M_7 90 := q90
    have hpos : 0 < cI (M_7 90) (M 1 0).toNatClampNeg := by omega
    obtain ⟨c9, hc9, hi9⟩ := cI_ex _ hpos
    have hne9 := xr9 ⟨c9, by omega, by rw [hc90]; exact hi9⟩
    have nr9 := ixn (x := r9) (by omega)
    have hin9 := ir9 (by omega)
    rw [hc90] at hin9
    have hlt9 := hNI r9.toNatClampNeg (by omega) hin9
    rw [show M_7 2 = M 2 from funext (fun i => hF 2 i (by omega)), hc90, show M_7 1 0 = M 1 0 from hF 1 0 (by omega)] at yr9
    have er9 : r9 = grF (M 2) (btI (M 2) (M 90) (tyU (vC M) (M 90) (M 89) (M 88 3).toNatClampNeg (M 1 0).toNatClampNeg x) (fun _ => 1) (M 1 0).toNatClampNeg x3_7.toNatClampNeg) (tyU (vC M) (M 90) (M 89) (M 88 3).toNatClampNeg (M 1 0).toNatClampNeg x) (fun _ => 1) (M 1 0).toNatClampNeg := by rw [j7_6] at yr9; exact yr9.trans (grF_ext (row := M 2) (fun i => hI0 2 i) (fun _ _ => rfl) (fun c hc => (j7_8 c hc).1) (fun c hc => (j7_8 c hc).2) (M 1 0).toNatClampNeg).1
    refine g_istore C [(4, .int r9), (3, .int x3_7), (0, .ref (ad 93)), (1, .int x), (2, .ref (ad 125))] dX5_seatByTallies_25 (by decide) rfl ?_
    refine g_iload C 0 dX5_seatByTallies_27 rfl ?_
    refine g_bipush C (-9) dX5_seatByTallies_29 (by decide) ?_
    refine g_icmp_ne C 35 dX5_seatByTallies_31 (by decide) (fun c12 => ?_) (fun c12 => ?_)
    ·
      have f13 := fne rfl (by decide : ((-9) : Int32).toInt = (-9)) c12
      refine g_aload_n C 4 dX5_seatByTallies_35 rfl ?_
      refine g_iconst C 1 dX5_seatByTallies_36 (by decide) ?_
      refine g_iload C 0 dX5_seatByTallies_37 rfl ?_
      refine g_aload_n C 2 dX5_seatByTallies_39 rfl ?_
      refine g_get C (.ref (ad 88)) 0 in_X5_seatByTallies_5 (List.mem_of_getElem? (i := 1) rfl) (by decide) (ce_plain ad cs _ _) rfl (by decide) rfl rfl dX5_seatByTallies_40 ?_
      refine g_callVv C (n := 3) (As := [.int 1, .int r9, .ref (ad 88)]) (st := []) (k_X7_note_a l D ad cs _ _ 1 r9 hI (by omega)) gX5_seatByTallies_X7_note rfl rfl rfl (by decide +kernel) ⟨Nat.le_of_ble_eq_true rfl, Nat.le_of_ble_eq_true rfl⟩ rfl (Nat.le_of_ble_eq_true rfl) ⟨Nat.zero_le _, Nat.zero_le _⟩ (by decide) (ce_ra ad cs _ _) rfl rfl dX5_seatByTallies_43 (fun M15 L16 hr14 => ?_)
      obtain ⟨hr14, hI, hFr14, hGr14⟩ := hr14
      have hF : ∀ k i, k ≠ 90 ∧ ¬ (k = 125 ∧ i = 0) ∧ ¬ (k = 125 ∧ i = 2) ∧ k ≠ 126 ∧ k ≠ 127 ∧ k ≠ 128 → M15 k i = M k i := fun k i hk => by (rw [hFr14 k i (by omega)]; try exact hF k i hk)
      have hG : ∀ k i, k ≠ 91 ∧ k ≠ 92 ∧ ¬ (131 ≤ k ∧ k < 191) → L16 k i = L k i := fun k i hk => by (rw [hGr14 k i (by omega)]; try exact hG k i hk)
      have hV : vC M15 = vC M_7 := by rw [vC_fr (fun k hk => funext (fun i => hFr14 k i (by omega))), hV]
      have k125_0 : M15 125 0 = M_7 125 0 := (hFr14 125 0 (by omega)).trans k125_0
      have k125_2 : M15 125 2 = M15 125 2 := rfl
      have kt125_0 := congrArg Int32.toInt k125_0
      have kt125_2 := congrArg Int32.toInt k125_2
      have p91 : L16 91 = L_7 91 := (funext (fun i => hGr14 91 i (by omega))).trans p91
      have p92 : L16 92 = L_7 92 := (funext (fun i => hGr14 92 i (by omega))).trans p92
      have q90 : M15 90 = M_7 90 := (funext (fun i => hFr14 90 i (by omega))).trans q90
      have q126 : M15 126 = M_7 126 := (funext (fun i => hFr14 126 i (by omega))).trans q126
      have q127 : M15 127 = M15 127 := rfl
      have q128 : M15 128 = M15 128 := rfl
      obtain ⟨np2, npw, nph⟩ := hr14
      have np0 : M15 125 0 = M_7 125 0 := hFr14 125 0 (by omega)
      have np0t := congrArg Int32.toInt np0
      have nps : M15 126 = M_7 126 := funext (fun i => hFr14 126 i (by omega))
      have hb9 : RP (M_7 125 0) (M_7 126) (M_7 125 2) (M_7 127) (M_7 128) _ _ := j7_7
      rw [← np0, ← nps] at hb9
      have rp1 := RP_note hb9 np2 npw nph
      refine g_aload_n C 4 dX5_seatByTallies_46 rfl ?_
      refine g_iload C 0 dX5_seatByTallies_47 rfl ?_
      refine g_callVv C (n := 1) (As := [.int r9]) (st := []) (k_X7_give_a l D ad cs _ _ r9 hI (by omega)) gX5_seatByTallies_X7_give rfl rfl rfl (by decide +kernel) ⟨Nat.le_of_ble_eq_true rfl, Nat.le_of_ble_eq_true rfl⟩ rfl (Nat.le_of_ble_eq_true rfl) ⟨Nat.zero_le _, Nat.zero_le _⟩ (by decide) (ce_ra ad cs _ _) rfl rfl dX5_seatByTallies_49 (fun M18 L19 hr17 => ?_)
      obtain ⟨hr17, hI, hFr17, hGr17⟩ := hr17
      have hF : ∀ k i, k ≠ 90 ∧ ¬ (k = 125 ∧ i = 0) ∧ ¬ (k = 125 ∧ i = 2) ∧ k ≠ 126 ∧ k ≠ 127 ∧ k ≠ 128 → M18 k i = M k i := fun k i hk => by (rw [hFr17 k i (by omega)]; try exact hF k i hk)
      have hG : ∀ k i, k ≠ 91 ∧ k ≠ 92 ∧ ¬ (131 ≤ k ∧ k < 191) → L19 k i = L k i := fun k i hk => by (rw [hGr17 k i trivial]; try exact hG k i hk)
      have hV : vC M18 = vC M_7 := by rw [vC_fr (fun k hk => funext (fun i => hFr17 k i (by omega))), hV]
      have k125_2 : M18 125 2 = M15 125 2 := (hFr17 125 2 (by omega)).trans k125_2
      have k125_0 : M18 125 0 = M18 125 0 := rfl
      have kt125_0 := congrArg Int32.toInt k125_0
      have kt125_2 := congrArg Int32.toInt k125_2
      have p91 : L19 91 = L_7 91 := (funext (fun i => hGr17 91 i trivial)).trans p91
      have p92 : L19 92 = L_7 92 := (funext (fun i => hGr17 92 i trivial)).trans p92
      have q90 : M18 90 = M_7 90 := (funext (fun i => hFr17 90 i (by omega))).trans q90
      have q126 : M18 126 = M18 126 := rfl
      have q127 : M18 127 = M15 127 := (funext (fun i => hFr17 127 i (by omega))).trans q127
      have q128 : M18 128 = M15 128 := (funext (fun i => hFr17 128 i (by omega))).trans q128
      obtain ⟨gv0, gvs⟩ := hr17
      have gv2 : M18 125 2 = M15 125 2 := hFr17 125 2 (by omega)
      have gv2t := congrArg Int32.toInt gv2
      have gv127 : M18 127 = M15 127 := funext (fun i => hFr17 127 i (by omega))
      have gv128 : M18 128 = M15 128 := funext (fun i => hFr17 128 i (by omega))
      have hb9 : RP (M15 125 0) (M15 126) (M15 125 2) (M15 127) (M15 128) _ _ := rp1
      rw [← gv2, ← gv127, ← gv128] at hb9
      have rp2 := RP_give hb9 gv0 gvs
      refine g_aload_n C 2 dX5_seatByTallies_52 rfl ?_
      refine g_get C (.ref (ad 88)) 0 in_X5_seatByTallies_5 (List.mem_of_getElem? (i := 1) rfl) (by decide) (ce_plain ad cs _ _) rfl (by decide) rfl rfl dX5_seatByTallies_53 ?_
      refine g_get C (.ref (ad 90)) 5 in_X5_seatByTallies_6 (List.mem_of_getElem? (i := 3) rfl) (by decide) (ce_poll ad cs _ _) rfl (by decide) rfl rfl dX5_seatByTallies_56 ?_
      refine g_iload C 0 dX5_seatByTallies_59 rfl ?_
      refine g_iconst C 0 dX5_seatByTallies_61 (by decide) ?_
      have nr9 := ixn (x := r9) (by omega)
      refine g_zast C (by decide) (ce_pin ad cs _ _) (by rw [sI_k]; rfl) (fin' (n := 10) rfl (by omega) (by omega)) dX5_seatByTallies_62 ?_
      refine g_nm (fun M20 hM20 => ?_)
      have zy21 : (0 : Int32).toInt = 0 := by decide
      have hI : IC M20 := by rw [hM20]; exact hI.st (bC_free (by decide) (by decide) (by decide) (by decide) (by decide) (by decide) (by decide))
      have hF : ∀ k i, k ≠ 90 ∧ ¬ (k = 125 ∧ i = 0) ∧ ¬ (k = 125 ∧ i = 2) ∧ k ≠ 126 ∧ k ≠ 127 ∧ k ≠ 128 → M20 k i = M k i := fun k i hk => by (rw [hM20, sI_at, if_neg (by omega)]; try exact hF k i hk)
      have k125_0 : M20 125 0 = M18 125 0 := by rw [hM20, sI_n _ _ _ (by decide)]; try exact k125_0
      have k125_2 : M20 125 2 = M15 125 2 := by rw [hM20, sI_n _ _ _ (by decide)]; try exact k125_2
      have q126 : M20 126 = M18 126 := by rw [hM20, sI_n _ _ _ (by decide)]; try exact q126
      have q127 : M20 127 = M15 127 := by rw [hM20, sI_n _ _ _ (by decide)]; try exact q127
      have q128 : M20 128 = M15 128 := by rw [hM20, sI_n _ _ _ (by decide)]; try exact q128
      have hV : vC M20 = vC M_7 := by rw [hM20, vC_z (by decide), hV]
      have h90 : M20 90 = upd (M_7 90) r9.toNatClampNeg 0 := by rw [hM20, sI_k, q90]; rfl
      have hcu := cI_upd (T := M_7 90) (b := r9.toNatClampNeg) hin9 (M 1 0).toNatClampNeg
      rw [if_pos (by omega), ← h90] at hcu
      have hNI2 : NIn (M20 90) (M 1 0).toInt := by rw [h90]; exact NIn_upd hNI _
      have q90 : M20 90 = M20 90 := rfl
      have e125 : M20 125 = M18 125 := by rw [hM20, sI_n _ _ _ (by decide)]
      have e126 : M20 126 = M18 126 := by rw [hM20, sI_n _ _ _ (by decide)]
      have e127 : M20 127 = M18 127 := by rw [hM20, sI_n _ _ _ (by decide)]
      have e128 : M20 128 = M18 128 := by rw [hM20, sI_n _ _ _ (by decide)]
      have rp3 : RP (M18 125 0) (M18 126) (M18 125 2) (M18 127) (M18 128) _ _ := rp2
      rw [← e125, ← e126, ← e127, ← e128] at rp3
      obtain ⟨v22, ev22⟩ : ∃ y : Int32, y = x3_7 + 1 := ⟨_, rfl⟩
      try have fv22 := fadd rfl (by decide : (1 : Int32).toInt = 1) ev22 (by omega) (by omega)
      refine g_iinc C 1 v22 [(3, .int v22), (4, .int r9), (0, .ref (ad 93)), (1, .int x), (2, .ref (ad 125))] dX5_seatByTallies_63 rfl (by rw [ev22]; rfl) (by decide) rfl ?_
      refine g_goto C 7 dX5_seatByTallies_66 (by decide) ?_
      refine g_lv [0, 2, 3, 4] [(3, .int v22), (0, .ref (ad 93)), (1, .int x), (2, .ref (ad 125))] rfl ?_
      have k0t := congrArg Int32.toInt k125_0
      have k2t := congrArg Int32.toInt k125_2
      have n3_ := ixn (x := x3_7) (by omega)
      have nv := ixn (x := v22) (by omega)
      have iv : v22.toNatClampNeg = x3_7.toNatClampNeg + 1 := by omega
      have eI : M20 90 = btI (M 2) (M 90) (tyU (vC M) (M 90) (M 89) (M 88 3).toNatClampNeg (M 1 0).toNatClampNeg x) (fun _ => 1) (M 1 0).toNatClampNeg v22.toNatClampNeg := by rw [h90, j7_6, iv, er9]; rfl
      have eR : RP (M20 125 0) (M20 126) (M20 125 2) (M20 127) (M20 128) (btS (M 2) (M 90) (tyU (vC M) (M 90) (M 89) (M 88 3).toNatClampNeg (M 1 0).toNatClampNeg x) (fun _ => 1) (M 1 0).toNatClampNeg v22.toNatClampNeg) (oneR (btS (M 2) (M 90) (tyU (vC M) (M 90) (M 89) (M 88 3).toNatClampNeg (M 1 0).toNatClampNeg x) (fun _ => 1) (M 1 0).toNatClampNeg v22.toNatClampNeg)) := by
        rw [iv]
        show RP (M20 125 0) (M20 126) (M20 125 2) (M20 127) (M20 128) (btS (M 2) (M 90) (tyU (vC M) (M 90) (M 89) (M 88 3).toNatClampNeg (M 1 0).toNatClampNeg x) (fun _ => 1) (M 1 0).toNatClampNeg x3_7.toNatClampNeg ++ [grF (M 2) (btI (M 2) (M 90) (tyU (vC M) (M 90) (M 89) (M 88 3).toNatClampNeg (M 1 0).toNatClampNeg x) (fun _ => 1) (M 1 0).toNatClampNeg x3_7.toNatClampNeg) (tyU (vC M) (M 90) (M 89) (M 88 3).toNatClampNeg (M 1 0).toNatClampNeg x) (fun _ => 1) (M 1 0).toNatClampNeg]) (oneR (btS (M 2) (M 90) (tyU (vC M) (M 90) (M 89) (M 88 3).toNatClampNeg (M 1 0).toNatClampNeg x) (fun _ => 1) (M 1 0).toNatClampNeg x3_7.toNatClampNeg ++ [grF (M 2) (btI (M 2) (M 90) (tyU (vC M) (M 90) (M 89) (M 88 3).toNatClampNeg (M 1 0).toNatClampNeg x) (fun _ => 1) (M 1 0).toNatClampNeg x3_7.toNatClampNeg) (tyU (vC M) (M 90) (M 89) (M 88 3).toNatClampNeg (M 1 0).toNatClampNeg x) (fun _ => 1) (M 1 0).toNatClampNeg]))
        rw [oneR_app, ← er9]
        exact rp3
      have eU : ∀ c, c < 10 → L19 91 c = (tyU (vC M) (M 90) (M 89) (M 88 3).toNatClampNeg (M 1 0).toNatClampNeg x) c ∧ L19 92 c = 1 := fun c hc => ⟨(congrFun (show L19 91 = L_7 91 from p91) c).trans (j7_8 c hc).1, (congrFun (show L19 92 = L_7 92 from p92) c).trans (j7_8 c hc).2⟩
      exact ih_7 (v22, M20, L19) ⟨by show 0 ≤ v22.toInt; omega, by show v22.toInt ≤ (M 88 4).toInt; omega, by show (M20 125 0).toInt = v22.toInt; omega, by show (M20 125 2).toInt = v22.toInt; omega, by show (M 88 4).toInt ≤ (cI (M20 90) (M 1 0).toNatClampNeg : Int) + v22.toInt; omega, by show NIn (M20 90) (M 1 0).toInt; exact hNI2, by show M20 90 = btI (M 2) (M 90) (tyU (vC M) (M 90) (M 89) (M 88 3).toNatClampNeg (M 1 0).toNatClampNeg x) (fun _ => 1) (M 1 0).toNatClampNeg v22.toNatClampNeg; exact eI, by show RP (M20 125 0) (M20 126) (M20 125 2) (M20 127) (M20 128) (btS (M 2) (M 90) (tyU (vC M) (M 90) (M 89) (M 88 3).toNatClampNeg (M 1 0).toNatClampNeg x) (fun _ => 1) (M 1 0).toNatClampNeg v22.toNatClampNeg) (oneR (btS (M 2) (M 90) (tyU (vC M) (M 90) (M 89) (M 88 3).toNatClampNeg (M 1 0).toNatClampNeg x) (fun _ => 1) (M 1 0).toNatClampNeg v22.toNatClampNeg)); exact eR, by show ∀ c, c < 10 → L19 91 c = (tyU (vC M) (M 90) (M 89) (M 88 3).toNatClampNeg (M 1 0).toNatClampNeg x) c ∧ L19 92 c = 1; exact eU, hI, hF, hG⟩ (by show (31 - v22.toInt).toNat < (31 - x3_7.toInt).toNat; omega)
    ·
      have f23 := feq rfl (by decide : ((-9) : Int32).toInt = (-9)) c12
      exact g_vret C hr ⟨(by exfalso; omega), hI, hF, hG⟩ dX5_seatByTallies_34
set_option maxHeartbeats 4000000 in
set_option maxRecDepth 100000 in
theorem k_X5_sbt_b (l : Launch) (D : va_G) (ad : Nat → Nat) (cs : Nat → ClassId) (M : MI) (L : ML) (x : Int32) (hI : IC M) (hP3 : ∀ b, 0 ≤ (vC M 3 b).toInt ∧ (vC M 3 b).toInt ≤ 100000) (hct : ∀ j : Nat, j < 10 → L 91 j = 0 ∧ L 92 j = 1) (hA3 : ∀ b : Nat, b < 60 → ∀ i : Nat, (i : Int) < (vC M 4 b).toInt → (vC M 5 (10 * b + i)).toInt < (vC M 0 0).toInt) (hdis : ∀ b : Nat, b < 60 → ∀ i j : Nat, i < j → (j : Int) < (vC M 4 b).toInt → (vC M 5 (10 * b + i)).toInt ≠ (vC M 5 (10 * b + j)).toInt) (hl4 : ∀ b : Nat, b < 60 → (vC M 4 b).toInt ≤ (vC M 0 0).toInt) (hD : DP (vC M)) (hNI0 : NIn (M 90) (M 1 0).toInt) (hg0 : (M 191 0).toInt = 0) (hm0 : (M 191 2).toInt = 0) (hC : (M 88 4).toInt ≤ (cI (M 90) (M 1 0).toNatClampNeg : Int)) : Cv l yX5_seatByTallies wsX5_seatByTallies ({ frames := 3, cells := 0, slots := 0, locals := 68 }) D ad cs [.ref (ad 93), .int x, .ref (ad 191)] M L (fun M1 L1 => (RP (M1 191 0) (M1 192) (M1 191 2) (M1 193) (M1 194) (btS (M 2) (M 90) (tyU (vC M) (M 90) (M 89) (M 88 3).toNatClampNeg (M 1 0).toNatClampNeg x) (fun _ => 1) (M 1 0).toNatClampNeg ((M 88 4).toNatClampNeg)) (oneR (btS (M 2) (M 90) (tyU (vC M) (M 90) (M 89) (M 88 3).toNatClampNeg (M 1 0).toNatClampNeg x) (fun _ => 1) (M 1 0).toNatClampNeg ((M 88 4).toNatClampNeg)))) ∧ IC M1 ∧ (∀ k i, k ≠ 90 ∧ ¬ (k = 191 ∧ i = 0) ∧ ¬ (k = 191 ∧ i = 2) ∧ k ≠ 192 ∧ k ≠ 193 ∧ k ≠ 194 → M1 k i = M k i) ∧ ∀ k i, k ≠ 91 ∧ k ≠ 92 ∧ ¬ (197 ≤ k ∧ k < 257) → L1 k i = L k i) := by
  refine enter_v RX5 rfl [(0, .ref (ad 93)), (1, .int x), (2, .ref (ad 191))] rfl (Nat.le_of_ble_eq_true rfl) (by decide +kernel) rfl ?_
  intro p e s m below meth c C hr
  have hF : ∀ k i, k ≠ 90 ∧ ¬ (k = 191 ∧ i = 0) ∧ ¬ (k = 191 ∧ i = 2) ∧ k ≠ 192 ∧ k ≠ 193 ∧ k ≠ 194 → M k i = M k i := fun _ _ _ => rfl
  have hG : ∀ k i, k ≠ 91 ∧ k ≠ 92 ∧ ¬ (197 ≤ k ∧ k < 257) → L k i = L k i := fun _ _ _ => rfl
  have w0 : (vC M 0 0).toInt = (M 1 0).toInt := rfl
  have w1 : (vC M 0 1).toInt = (M 3 0).toInt := rfl
  have w2 : (vC M 0 2).toInt = (M 68 0).toInt := rfl
  have w3 : (vC M 0 3).toInt = (M 81 0).toInt := rfl
  obtain ⟨y0a, y0b⟩ := (show rg 0 10 (M 1 0) from hI 1 0 rfl)
  obtain ⟨y1a, y1b⟩ := (show rg 0 60 (M 3 0) from hI 3 0 rfl)
  obtain ⟨y2a, y2b⟩ := (show rg 0 8 (M 68 0) from hI 68 0 rfl)
  obtain ⟨y3a, y3b⟩ := (show rg 0 20 (M 81 0) from hI 81 0 rfl)
  have hI0 := hI
  obtain ⟨sa, sb⟩ := (show rg 0 30 (M 88 4) from (hI 88 4).2 rfl)
  have nsd := ixn sa
  have n02 := ixn y0a
  have k191_0 : M 191 0 = M 191 0 := rfl
  have k191_2 : M 191 2 = M 191 2 := rfl
  have p91 : L 91 = L 91 := rfl
  have p92 : L 92 = L 92 := rfl
  have q90 : M 90 = M 90 := rfl
  have q192 : M 192 = M 192 := rfl
  have q193 : M 193 = M 193 := rfl
  have q194 : M 194 = M 194 := rfl
  have hV : vC M = vC M := rfl
  refine g_aload_n C 0 dX5_seatByTallies_0 rfl ?_
  refine g_iload_n C 1 dX5_seatByTallies_1 rfl ?_
  refine g_callVv C (n := 1) (As := [.int x]) (st := []) (k_X5_tallyBy l D ad cs _ _ x hI hP3 hct hA3 hdis hl4) gX5_seatByTallies_X5_tallyBy rfl rfl rfl (by decide +kernel) ⟨Nat.le_of_ble_eq_true rfl, Nat.le_of_ble_eq_true rfl⟩ rfl (Nat.le_of_ble_eq_true rfl) ⟨Nat.zero_le _, Nat.zero_le _⟩ (by decide) (ce_plain ad cs _ _) rfl rfl dX5_seatByTallies_2 (fun M2 L3 hr1 => ?_)
  obtain ⟨hr1, hI, hFr1, hGr1⟩ := hr1
  have hF : ∀ k i, k ≠ 90 ∧ ¬ (k = 191 ∧ i = 0) ∧ ¬ (k = 191 ∧ i = 2) ∧ k ≠ 192 ∧ k ≠ 193 ∧ k ≠ 194 → M2 k i = M k i := fun k i hk => by (rw [hFr1 k i trivial]; try exact hF k i hk)
  have hG : ∀ k i, k ≠ 91 ∧ k ≠ 92 ∧ ¬ (197 ≤ k ∧ k < 257) → L3 k i = L k i := fun k i hk => by (rw [hGr1 k i (by omega)]; try exact hG k i hk)
  have hV : vC M2 = vC M := by rw [vC_fr (fun k hk => funext (fun i => hFr1 k i trivial)), hV]
  have k191_0 : M2 191 0 = M 191 0 := (hFr1 191 0 trivial).trans k191_0
  have k191_2 : M2 191 2 = M 191 2 := (hFr1 191 2 trivial).trans k191_2
  have kt191_0 := congrArg Int32.toInt k191_0
  have kt191_2 := congrArg Int32.toInt k191_2
  have p91 : L3 91 = L3 91 := rfl
  have p92 : L3 92 = L3 92 := rfl
  have q90 : M2 90 = M 90 := (funext (fun i => hFr1 90 i trivial)).trans q90
  have q192 : M2 192 = M 192 := (funext (fun i => hFr1 192 i trivial)).trans q192
  have q193 : M2 193 = M 193 := (funext (fun i => hFr1 193 i trivial)).trans q193
  have q194 : M2 194 = M 194 := (funext (fun i => hFr1 194 i trivial)).trans q194
  have hty := hr1
  refine g_iconst C 0 dX5_seatByTallies_5 (by decide) ?_
  refine g_istore_n C [(3, .int 0), (0, .ref (ad 93)), (1, .int x), (2, .ref (ad 191))] dX5_seatByTallies_6 (by decide) rfl ?_
  have zy4 : (0 : Int32).toInt = 0 := by decide
  have k0i := congrArg Int32.toInt k191_0
  have k2i := congrArg Int32.toInt k191_2
  have e90i : M2 90 = M 90 := q90
  refine g_loop (α := Int32 × MI × ML) (fun a => (31 - a.1.toInt).toNat) (fun a => (0 ≤ a.1.toInt) ∧ (a.1.toInt ≤ (M 88 4).toInt) ∧ ((a.2.1 191 0).toInt = a.1.toInt) ∧ ((a.2.1 191 2).toInt = a.1.toInt) ∧ ((M 88 4).toInt ≤ (cI (a.2.1 90) (M 1 0).toNatClampNeg : Int) + a.1.toInt) ∧ (NIn (a.2.1 90) (M 1 0).toInt) ∧ (a.2.1 90 = btI (M 2) (M 90) (tyU (vC M) (M 90) (M 89) (M 88 3).toNatClampNeg (M 1 0).toNatClampNeg x) (fun _ => 1) (M 1 0).toNatClampNeg a.1.toNatClampNeg) ∧ (RP (a.2.1 191 0) (a.2.1 192) (a.2.1 191 2) (a.2.1 193) (a.2.1 194) (btS (M 2) (M 90) (tyU (vC M) (M 90) (M 89) (M 88 3).toNatClampNeg (M 1 0).toNatClampNeg x) (fun _ => 1) (M 1 0).toNatClampNeg a.1.toNatClampNeg) (oneR (btS (M 2) (M 90) (tyU (vC M) (M 90) (M 89) (M 88 3).toNatClampNeg (M 1 0).toNatClampNeg x) (fun _ => 1) (M 1 0).toNatClampNeg a.1.toNatClampNeg))) ∧ (∀ c, c < 10 → a.2.2 91 c = (tyU (vC M) (M 90) (M 89) (M 88 3).toNatClampNeg (M 1 0).toNatClampNeg x) c ∧ a.2.2 92 c = 1) ∧ IC a.2.1 ∧ (∀ k i, k ≠ 90 ∧ ¬ (k = 191 ∧ i = 0) ∧ ¬ (k = 191 ∧ i = 2) ∧ k ≠ 192 ∧ k ≠ 193 ∧ k ≠ 194 → a.2.1 k i = M k i) ∧ (∀ k i, k ≠ 91 ∧ k ≠ 92 ∧ ¬ (197 ≤ k ∧ k < 257) → a.2.2 k i = L k i)) (fun a => a.2.1) (fun a => a.2.2) (fun a => [(3, .int a.1), (0, .ref (ad 93)), (1, .int x), (2, .ref (ad 191))]) ((0 : Int32), M2, L3) ⟨by show 0 ≤ (0 : Int32).toInt; omega, by show (0 : Int32).toInt ≤ (M 88 4).toInt; omega, by show (M2 191 0).toInt = (0 : Int32).toInt; omega, by show (M2 191 2).toInt = (0 : Int32).toInt; omega, by show (M 88 4).toInt ≤ (cI (M2 90) (M 1 0).toNatClampNeg : Int) + (0 : Int32).toInt; rw [e90i]; omega, by show NIn (M2 90) (M 1 0).toInt; rw [e90i]; exact hNI0, by show M2 90 = btI (M 2) (M 90) (tyU (vC M) (M 90) (M 89) (M 88 3).toNatClampNeg (M 1 0).toNatClampNeg x) (fun _ => 1) (M 1 0).toNatClampNeg (0 : Int32).toNatClampNeg; exact e90i, by show RP (M2 191 0) (M2 192) (M2 191 2) (M2 193) (M2 194) (btS (M 2) (M 90) (tyU (vC M) (M 90) (M 89) (M 88 3).toNatClampNeg (M 1 0).toNatClampNeg x) (fun _ => 1) (M 1 0).toNatClampNeg (0 : Int32).toNatClampNeg) (oneR (btS (M 2) (M 90) (tyU (vC M) (M 90) (M 89) (M 88 3).toNatClampNeg (M 1 0).toNatClampNeg x) (fun _ => 1) (M 1 0).toNatClampNeg (0 : Int32).toNatClampNeg)); exact RP_0 (by omega) (by omega), by show ∀ c, c < 10 → L3 91 c = (tyU (vC M) (M 90) (M 89) (M 88 3).toNatClampNeg (M 1 0).toNatClampNeg x) c ∧ L3 92 c = 1; exact hty, hI, hF, hG⟩ rfl rfl rfl ?_
  rintro ⟨x3_7, M_7, L_7⟩ ⟨j7_0, j7_1, j7_2, j7_3, j7_4, j7_5, j7_6, j7_7, j7_8, hI, hF, hG⟩ ih_7
  dsimp only at j7_0 j7_1 j7_2 j7_3 j7_4 j7_5 j7_6 j7_7 j7_8 hI hF hG ih_7 ⊢
  have k191_0 : M_7 191 0 = M_7 191 0 := rfl
  have k191_2 : M_7 191 2 = M_7 191 2 := rfl
  have hV : vC M_7 = vC M_7 := rfl
  have p91 : L_7 91 = L_7 91 := rfl
  have p92 : L_7 92 = L_7 92 := rfl
  have q90 : M_7 90 = M_7 90 := rfl
  have q192 : M_7 192 = M_7 192 := rfl
  have q193 : M_7 193 = M_7 193 := rfl
  have q194 : M_7 194 = M_7 194 := rfl
  have hNI := j7_5
  refine g_iload_n C 0 dX5_seatByTallies_7 rfl ?_
  refine g_aload_n C 1 dX5_seatByTallies_8 rfl ?_
  refine g_get C (.ref (ad 88)) 0 in_X5_seatByTallies_5 (List.mem_of_getElem? (i := 1) rfl) (by decide) (ce_plain ad cs _ _) rfl (by decide) rfl rfl dX5_seatByTallies_9 ?_
  refine g_get C (.int (M_7 88 4)) 4 in_X5_seatByTallies_6 (List.mem_of_getElem? (i := 2) rfl) (by decide) (ce_poll ad cs _ _) rfl (by decide) rfl rfl dX5_seatByTallies_12 ?_
  refine g_ni (fun v5 ev5 => ?_)
  have gv5 : v5 = M 88 4 := ev5.trans (hF 88 4 (by omega))
  have tv5 := congrArg Int32.toInt gv5
  obtain ⟨bv5, dv5⟩ := (show rg 0 30 v5 from (by rw [ev5]; exact (hI 88 4).2 rfl))
  refine g_icmp_ge C 69 dX5_seatByTallies_15 (by decide) (fun c6 => ?_) (fun c6 => ?_)
  ·
    have f7 := fle rfl rfl c6
    exact g_vret C hr ⟨(by have e9 : x3_7.toNatClampNeg = (M 88 4).toNatClampNeg := (by have := ixn (x := x3_7) (by omega); omega); rw [e9] at j7_7; exact j7_7), hI, hF, hG⟩ dX5_seatByTallies_69
  ·
    have f8 := fnle rfl rfl c6
    refine g_aload_n C 1 dX5_seatByTallies_18 rfl ?_
    refine g_get C (.ref (ad 88)) 0 in_X5_seatByTallies_5 (List.mem_of_getElem? (i := 1) rfl) (by decide) (ce_plain ad cs _ _) rfl (by decide) rfl rfl dX5_seatByTallies_19 ?_
    refine g_callVi C (n := 0) (As := []) (st := []) (k_X6_greatestIn l D ad cs _ _  hI (by rw [show vC M_7 = vC M from vC_fr (fun k hk => funext (fun i => hF k i (by omega)))]; exact hD)) gX5_seatByTallies_X6_greatestIn rfl rfl rfl (by decide +kernel) ⟨Nat.le_of_ble_eq_true rfl, Nat.le_of_ble_eq_true rfl⟩ rfl (Nat.le_of_ble_eq_true rfl) ⟨Nat.zero_le _, Nat.zero_le _⟩ (by decide) (ce_poll ad cs _ _) rfl rfl dX5_seatByTallies_22 (fun r9 M10 L11 hr9 => ?_)
    obtain ⟨hq1, hq2, hr9⟩ := hr9
    obtain rfl := hq1.symm
    obtain rfl := hq2.symm
    obtain ⟨br9, ir9, xr9, yr9⟩ := hr9
    have w9 : (vC M_7 0 0).toInt = (M 1 0).toInt := congrArg Int32.toInt (hF 1 0 (by omega))
    have hc90 : M_7 90 = M_7 90 := q90
    have hpos : 0 < cI (M_7 90) (M 1 0).toNatClampNeg := by omega
    obtain ⟨c9, hc9, hi9⟩ := cI_ex _ hpos
    have hne9 := xr9 ⟨c9, by omega, by rw [hc90]; exact hi9⟩
    have nr9 := ixn (x := r9) (by omega)
    have hin9 := ir9 (by omega)
    rw [hc90] at hin9
    have hlt9 := hNI r9.toNatClampNeg (by omega) hin9
    rw [show M_7 2 = M 2 from funext (fun i => hF 2 i (by omega)), hc90, show M_7 1 0 = M 1 0 from hF 1 0 (by omega)] at yr9
    have er9 : r9 = grF (M 2) (btI (M 2) (M 90) (tyU (vC M) (M 90) (M 89) (M 88 3).toNatClampNeg (M 1 0).toNatClampNeg x) (fun _ => 1) (M 1 0).toNatClampNeg x3_7.toNatClampNeg) (tyU (vC M) (M 90) (M 89) (M 88 3).toNatClampNeg (M 1 0).toNatClampNeg x) (fun _ => 1) (M 1 0).toNatClampNeg := by rw [j7_6] at yr9; exact yr9.trans (grF_ext (row := M 2) (fun i => hI0 2 i) (fun _ _ => rfl) (fun c hc => (j7_8 c hc).1) (fun c hc => (j7_8 c hc).2) (M 1 0).toNatClampNeg).1
    refine g_istore C [(4, .int r9), (3, .int x3_7), (0, .ref (ad 93)), (1, .int x), (2, .ref (ad 191))] dX5_seatByTallies_25 (by decide) rfl ?_
    refine g_iload C 0 dX5_seatByTallies_27 rfl ?_
    refine g_bipush C (-9) dX5_seatByTallies_29 (by decide) ?_
    refine g_icmp_ne C 35 dX5_seatByTallies_31 (by decide) (fun c12 => ?_) (fun c12 => ?_)
    ·
      have f13 := fne rfl (by decide : ((-9) : Int32).toInt = (-9)) c12
      refine g_aload_n C 4 dX5_seatByTallies_35 rfl ?_
      refine g_iconst C 1 dX5_seatByTallies_36 (by decide) ?_
      refine g_iload C 0 dX5_seatByTallies_37 rfl ?_
      refine g_aload_n C 2 dX5_seatByTallies_39 rfl ?_
      refine g_get C (.ref (ad 88)) 0 in_X5_seatByTallies_5 (List.mem_of_getElem? (i := 1) rfl) (by decide) (ce_plain ad cs _ _) rfl (by decide) rfl rfl dX5_seatByTallies_40 ?_
      refine g_callVv C (n := 3) (As := [.int 1, .int r9, .ref (ad 88)]) (st := []) (k_X7_note_b l D ad cs _ _ 1 r9 hI (by omega)) gX5_seatByTallies_X7_note rfl rfl rfl (by decide +kernel) ⟨Nat.le_of_ble_eq_true rfl, Nat.le_of_ble_eq_true rfl⟩ rfl (Nat.le_of_ble_eq_true rfl) ⟨Nat.zero_le _, Nat.zero_le _⟩ (by decide) (ce_rb ad cs _ _) rfl rfl dX5_seatByTallies_43 (fun M15 L16 hr14 => ?_)
      obtain ⟨hr14, hI, hFr14, hGr14⟩ := hr14
      have hF : ∀ k i, k ≠ 90 ∧ ¬ (k = 191 ∧ i = 0) ∧ ¬ (k = 191 ∧ i = 2) ∧ k ≠ 192 ∧ k ≠ 193 ∧ k ≠ 194 → M15 k i = M k i := fun k i hk => by (rw [hFr14 k i (by omega)]; try exact hF k i hk)
      have hG : ∀ k i, k ≠ 91 ∧ k ≠ 92 ∧ ¬ (197 ≤ k ∧ k < 257) → L16 k i = L k i := fun k i hk => by (rw [hGr14 k i (by omega)]; try exact hG k i hk)
      have hV : vC M15 = vC M_7 := by rw [vC_fr (fun k hk => funext (fun i => hFr14 k i (by omega))), hV]
      have k191_0 : M15 191 0 = M_7 191 0 := (hFr14 191 0 (by omega)).trans k191_0
      have k191_2 : M15 191 2 = M15 191 2 := rfl
      have kt191_0 := congrArg Int32.toInt k191_0
      have kt191_2 := congrArg Int32.toInt k191_2
      have p91 : L16 91 = L_7 91 := (funext (fun i => hGr14 91 i (by omega))).trans p91
      have p92 : L16 92 = L_7 92 := (funext (fun i => hGr14 92 i (by omega))).trans p92
      have q90 : M15 90 = M_7 90 := (funext (fun i => hFr14 90 i (by omega))).trans q90
      have q192 : M15 192 = M_7 192 := (funext (fun i => hFr14 192 i (by omega))).trans q192
      have q193 : M15 193 = M15 193 := rfl
      have q194 : M15 194 = M15 194 := rfl
      obtain ⟨np2, npw, nph⟩ := hr14
      have np0 : M15 191 0 = M_7 191 0 := hFr14 191 0 (by omega)
      have np0t := congrArg Int32.toInt np0
      have nps : M15 192 = M_7 192 := funext (fun i => hFr14 192 i (by omega))
      have hb9 : RP (M_7 191 0) (M_7 192) (M_7 191 2) (M_7 193) (M_7 194) _ _ := j7_7
      rw [← np0, ← nps] at hb9
      have rp1 := RP_note hb9 np2 npw nph
      refine g_aload_n C 4 dX5_seatByTallies_46 rfl ?_
      refine g_iload C 0 dX5_seatByTallies_47 rfl ?_
      refine g_callVv C (n := 1) (As := [.int r9]) (st := []) (k_X7_give_b l D ad cs _ _ r9 hI (by omega)) gX5_seatByTallies_X7_give rfl rfl rfl (by decide +kernel) ⟨Nat.le_of_ble_eq_true rfl, Nat.le_of_ble_eq_true rfl⟩ rfl (Nat.le_of_ble_eq_true rfl) ⟨Nat.zero_le _, Nat.zero_le _⟩ (by decide) (ce_rb ad cs _ _) rfl rfl dX5_seatByTallies_49 (fun M18 L19 hr17 => ?_)
      obtain ⟨hr17, hI, hFr17, hGr17⟩ := hr17
      have hF : ∀ k i, k ≠ 90 ∧ ¬ (k = 191 ∧ i = 0) ∧ ¬ (k = 191 ∧ i = 2) ∧ k ≠ 192 ∧ k ≠ 193 ∧ k ≠ 194 → M18 k i = M k i := fun k i hk => by (rw [hFr17 k i (by omega)]; try exact hF k i hk)
      have hG : ∀ k i, k ≠ 91 ∧ k ≠ 92 ∧ ¬ (197 ≤ k ∧ k < 257) → L19 k i = L k i := fun k i hk => by (rw [hGr17 k i trivial]; try exact hG k i hk)
      have hV : vC M18 = vC M_7 := by rw [vC_fr (fun k hk => funext (fun i => hFr17 k i (by omega))), hV]
      have k191_2 : M18 191 2 = M15 191 2 := (hFr17 191 2 (by omega)).trans k191_2
      have k191_0 : M18 191 0 = M18 191 0 := rfl
      have kt191_0 := congrArg Int32.toInt k191_0
      have kt191_2 := congrArg Int32.toInt k191_2
      have p91 : L19 91 = L_7 91 := (funext (fun i => hGr17 91 i trivial)).trans p91
      have p92 : L19 92 = L_7 92 := (funext (fun i => hGr17 92 i trivial)).trans p92
      have q90 : M18 90 = M_7 90 := (funext (fun i => hFr17 90 i (by omega))).trans q90
      have q192 : M18 192 = M18 192 := rfl
      have q193 : M18 193 = M15 193 := (funext (fun i => hFr17 193 i (by omega))).trans q193
      have q194 : M18 194 = M15 194 := (funext (fun i => hFr17 194 i (by omega))).trans q194
      obtain ⟨gv0, gvs⟩ := hr17
      have gv2 : M18 191 2 = M15 191 2 := hFr17 191 2 (by omega)
      have gv2t := congrArg Int32.toInt gv2
      have gv193 : M18 193 = M15 193 := funext (fun i => hFr17 193 i (by omega))
      have gv194 : M18 194 = M15 194 := funext (fun i => hFr17 194 i (by omega))
      have hb9 : RP (M15 191 0) (M15 192) (M15 191 2) (M15 193) (M15 194) _ _ := rp1
      rw [← gv2, ← gv193, ← gv194] at hb9
      have rp2 := RP_give hb9 gv0 gvs
      refine g_aload_n C 2 dX5_seatByTallies_52 rfl ?_
      refine g_get C (.ref (ad 88)) 0 in_X5_seatByTallies_5 (List.mem_of_getElem? (i := 1) rfl) (by decide) (ce_plain ad cs _ _) rfl (by decide) rfl rfl dX5_seatByTallies_53 ?_
      refine g_get C (.ref (ad 90)) 5 in_X5_seatByTallies_6 (List.mem_of_getElem? (i := 3) rfl) (by decide) (ce_poll ad cs _ _) rfl (by decide) rfl rfl dX5_seatByTallies_56 ?_
      refine g_iload C 0 dX5_seatByTallies_59 rfl ?_
      refine g_iconst C 0 dX5_seatByTallies_61 (by decide) ?_
      have nr9 := ixn (x := r9) (by omega)
      refine g_zast C (by decide) (ce_pin ad cs _ _) (by rw [sI_k]; rfl) (fin' (n := 10) rfl (by omega) (by omega)) dX5_seatByTallies_62 ?_
      refine g_nm (fun M20 hM20 => ?_)
      have zy21 : (0 : Int32).toInt = 0 := by decide
      have hI : IC M20 := by rw [hM20]; exact hI.st (bC_free (by decide) (by decide) (by decide) (by decide) (by decide) (by decide) (by decide))
      have hF : ∀ k i, k ≠ 90 ∧ ¬ (k = 191 ∧ i = 0) ∧ ¬ (k = 191 ∧ i = 2) ∧ k ≠ 192 ∧ k ≠ 193 ∧ k ≠ 194 → M20 k i = M k i := fun k i hk => by (rw [hM20, sI_at, if_neg (by omega)]; try exact hF k i hk)
      have k191_0 : M20 191 0 = M18 191 0 := by rw [hM20, sI_n _ _ _ (by decide)]; try exact k191_0
      have k191_2 : M20 191 2 = M15 191 2 := by rw [hM20, sI_n _ _ _ (by decide)]; try exact k191_2
      have q192 : M20 192 = M18 192 := by rw [hM20, sI_n _ _ _ (by decide)]; try exact q192
      have q193 : M20 193 = M15 193 := by rw [hM20, sI_n _ _ _ (by decide)]; try exact q193
      have q194 : M20 194 = M15 194 := by rw [hM20, sI_n _ _ _ (by decide)]; try exact q194
      have hV : vC M20 = vC M_7 := by rw [hM20, vC_z (by decide), hV]
      have h90 : M20 90 = upd (M_7 90) r9.toNatClampNeg 0 := by rw [hM20, sI_k, q90]; rfl
      have hcu := cI_upd (T := M_7 90) (b := r9.toNatClampNeg) hin9 (M 1 0).toNatClampNeg
      rw [if_pos (by omega), ← h90] at hcu
      have hNI2 : NIn (M20 90) (M 1 0).toInt := by rw [h90]; exact NIn_upd hNI _
      have q90 : M20 90 = M20 90 := rfl
      have e191 : M20 191 = M18 191 := by rw [hM20, sI_n _ _ _ (by decide)]
      have e192 : M20 192 = M18 192 := by rw [hM20, sI_n _ _ _ (by decide)]
      have e193 : M20 193 = M18 193 := by rw [hM20, sI_n _ _ _ (by decide)]
      have e194 : M20 194 = M18 194 := by rw [hM20, sI_n _ _ _ (by decide)]
      have rp3 : RP (M18 191 0) (M18 192) (M18 191 2) (M18 193) (M18 194) _ _ := rp2
      rw [← e191, ← e192, ← e193, ← e194] at rp3
      obtain ⟨v22, ev22⟩ : ∃ y : Int32, y = x3_7 + 1 := ⟨_, rfl⟩
      try have fv22 := fadd rfl (by decide : (1 : Int32).toInt = 1) ev22 (by omega) (by omega)
      refine g_iinc C 1 v22 [(3, .int v22), (4, .int r9), (0, .ref (ad 93)), (1, .int x), (2, .ref (ad 191))] dX5_seatByTallies_63 rfl (by rw [ev22]; rfl) (by decide) rfl ?_
      refine g_goto C 7 dX5_seatByTallies_66 (by decide) ?_
      refine g_lv [0, 2, 3, 4] [(3, .int v22), (0, .ref (ad 93)), (1, .int x), (2, .ref (ad 191))] rfl ?_
      have k0t := congrArg Int32.toInt k191_0
      have k2t := congrArg Int32.toInt k191_2
      have n3_ := ixn (x := x3_7) (by omega)
      have nv := ixn (x := v22) (by omega)
      have iv : v22.toNatClampNeg = x3_7.toNatClampNeg + 1 := by omega
      have eI : M20 90 = btI (M 2) (M 90) (tyU (vC M) (M 90) (M 89) (M 88 3).toNatClampNeg (M 1 0).toNatClampNeg x) (fun _ => 1) (M 1 0).toNatClampNeg v22.toNatClampNeg := by rw [h90, j7_6, iv, er9]; rfl
      have eR : RP (M20 191 0) (M20 192) (M20 191 2) (M20 193) (M20 194) (btS (M 2) (M 90) (tyU (vC M) (M 90) (M 89) (M 88 3).toNatClampNeg (M 1 0).toNatClampNeg x) (fun _ => 1) (M 1 0).toNatClampNeg v22.toNatClampNeg) (oneR (btS (M 2) (M 90) (tyU (vC M) (M 90) (M 89) (M 88 3).toNatClampNeg (M 1 0).toNatClampNeg x) (fun _ => 1) (M 1 0).toNatClampNeg v22.toNatClampNeg)) := by
        rw [iv]
        show RP (M20 191 0) (M20 192) (M20 191 2) (M20 193) (M20 194) (btS (M 2) (M 90) (tyU (vC M) (M 90) (M 89) (M 88 3).toNatClampNeg (M 1 0).toNatClampNeg x) (fun _ => 1) (M 1 0).toNatClampNeg x3_7.toNatClampNeg ++ [grF (M 2) (btI (M 2) (M 90) (tyU (vC M) (M 90) (M 89) (M 88 3).toNatClampNeg (M 1 0).toNatClampNeg x) (fun _ => 1) (M 1 0).toNatClampNeg x3_7.toNatClampNeg) (tyU (vC M) (M 90) (M 89) (M 88 3).toNatClampNeg (M 1 0).toNatClampNeg x) (fun _ => 1) (M 1 0).toNatClampNeg]) (oneR (btS (M 2) (M 90) (tyU (vC M) (M 90) (M 89) (M 88 3).toNatClampNeg (M 1 0).toNatClampNeg x) (fun _ => 1) (M 1 0).toNatClampNeg x3_7.toNatClampNeg ++ [grF (M 2) (btI (M 2) (M 90) (tyU (vC M) (M 90) (M 89) (M 88 3).toNatClampNeg (M 1 0).toNatClampNeg x) (fun _ => 1) (M 1 0).toNatClampNeg x3_7.toNatClampNeg) (tyU (vC M) (M 90) (M 89) (M 88 3).toNatClampNeg (M 1 0).toNatClampNeg x) (fun _ => 1) (M 1 0).toNatClampNeg]))
        rw [oneR_app, ← er9]
        exact rp3
      have eU : ∀ c, c < 10 → L19 91 c = (tyU (vC M) (M 90) (M 89) (M 88 3).toNatClampNeg (M 1 0).toNatClampNeg x) c ∧ L19 92 c = 1 := fun c hc => ⟨(congrFun (show L19 91 = L_7 91 from p91) c).trans (j7_8 c hc).1, (congrFun (show L19 92 = L_7 92 from p92) c).trans (j7_8 c hc).2⟩
      exact ih_7 (v22, M20, L19) ⟨by show 0 ≤ v22.toInt; omega, by show v22.toInt ≤ (M 88 4).toInt; omega, by show (M20 191 0).toInt = v22.toInt; omega, by show (M20 191 2).toInt = v22.toInt; omega, by show (M 88 4).toInt ≤ (cI (M20 90) (M 1 0).toNatClampNeg : Int) + v22.toInt; omega, by show NIn (M20 90) (M 1 0).toInt; exact hNI2, by show M20 90 = btI (M 2) (M 90) (tyU (vC M) (M 90) (M 89) (M 88 3).toNatClampNeg (M 1 0).toNatClampNeg x) (fun _ => 1) (M 1 0).toNatClampNeg v22.toNatClampNeg; exact eI, by show RP (M20 191 0) (M20 192) (M20 191 2) (M20 193) (M20 194) (btS (M 2) (M 90) (tyU (vC M) (M 90) (M 89) (M 88 3).toNatClampNeg (M 1 0).toNatClampNeg x) (fun _ => 1) (M 1 0).toNatClampNeg v22.toNatClampNeg) (oneR (btS (M 2) (M 90) (tyU (vC M) (M 90) (M 89) (M 88 3).toNatClampNeg (M 1 0).toNatClampNeg x) (fun _ => 1) (M 1 0).toNatClampNeg v22.toNatClampNeg)); exact eR, by show ∀ c, c < 10 → L19 91 c = (tyU (vC M) (M 90) (M 89) (M 88 3).toNatClampNeg (M 1 0).toNatClampNeg x) c ∧ L19 92 c = 1; exact eU, hI, hF, hG⟩ (by show (31 - v22.toInt).toNat < (31 - x3_7.toInt).toNat; omega)
    ·
      have f23 := feq rfl (by decide : ((-9) : Int32).toInt = (-9)) c12
      exact g_vret C hr ⟨(by exfalso; omega), hI, hF, hG⟩ dX5_seatByTallies_34
