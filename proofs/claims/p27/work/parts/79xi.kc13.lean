set_option maxHeartbeats 4000000 in
set_option maxRecDepth 100000 in
theorem k_X9_sbw_a (l : Launch) (D : va_G) (ad : Nat → Nat) (cs : Nat → ClassId) (M : MI) (L : ML)  (hI : IC M) {pb : Nat → Int32} {mq : Nat} (hLY : LY pb (M 89) mq) (hMN : (M 88 3).toInt = (cnP pb mq : Int)) (hmq : mq ≤ 40) (hP3 : ∀ b, 0 ≤ (vC M 3 b).toInt ∧ (vC M 3 b).toInt ≤ 100000) (hrl : ∀ i, i < (M 1 0).toNatClampNeg → (M 2 i).toInt < ((M 1 0).toNatClampNeg : Int)) (hD : DP (vC M)) (hNI0 : NIn (M 90) (M 1 0).toInt) (hg0 : (M 125 0).toInt = 0) (hm0 : (M 125 2).toInt = 0) (hC : (M 88 4).toInt ≤ (cI (M 90) (M 1 0).toNatClampNeg : Int)) : Cv l yX9_seatByWays wsX9_seatByWays ({ frames := 3, cells := 0, slots := 0, locals := 70 }) D ad cs [.ref (ad 96), .ref (ad 125)] M L (fun M1 L1 => (∃ S, wyP (M 2) (wS (vC M) pb mq (M 1 0).toNatClampNeg) (M 1 0).toNatClampNeg (M 90) S (M1 90) ∧ (S.length : Int) = (M 88 4).toInt ∧ RP (M1 125 0) (M1 126) (M1 125 2) (M1 127) (M1 128) S (oneR S)) ∧ IC M1 ∧ (∀ k i, k ≠ 90 ∧ k ≠ 97 ∧ ¬ (100 ≤ k ∧ k < 110) ∧ ¬ (110 ≤ k ∧ k < 120) ∧ ¬ (k = 125 ∧ i = 0) ∧ ¬ (k = 125 ∧ i = 2) ∧ k ≠ 126 ∧ k ≠ 127 ∧ k ≠ 128 → M1 k i = M k i) ∧ ∀ k i, k ≠ 91 ∧ k ≠ 92 ∧ ¬ (131 ≤ k ∧ k < 191) → L1 k i = L k i) := by
  refine enter_v RX9 rfl [(0, .ref (ad 96)), (1, .ref (ad 125))] rfl (Nat.le_of_ble_eq_true rfl) (by decide +kernel) rfl ?_
  intro p e s m below meth c C hr
  have hF : ∀ k i, k ≠ 90 ∧ k ≠ 97 ∧ ¬ (100 ≤ k ∧ k < 110) ∧ ¬ (110 ≤ k ∧ k < 120) ∧ ¬ (k = 125 ∧ i = 0) ∧ ¬ (k = 125 ∧ i = 2) ∧ k ≠ 126 ∧ k ≠ 127 ∧ k ≠ 128 → M k i = M k i := fun _ _ _ => rfl
  have hG : ∀ k i, k ≠ 91 ∧ k ≠ 92 ∧ ¬ (131 ≤ k ∧ k < 191) → L k i = L k i := fun _ _ _ => rfl
  have w0 : (vC M 0 0).toInt = (M 1 0).toInt := rfl
  have w1 : (vC M 0 1).toInt = (M 3 0).toInt := rfl
  have w2 : (vC M 0 2).toInt = (M 68 0).toInt := rfl
  have w3 : (vC M 0 3).toInt = (M 81 0).toInt := rfl
  obtain ⟨y0a, y0b⟩ := (show rg 0 10 (M 1 0) from hI 1 0 rfl)
  obtain ⟨y1a, y1b⟩ := (show rg 0 60 (M 3 0) from hI 3 0 rfl)
  obtain ⟨y2a, y2b⟩ := (show rg 0 8 (M 68 0) from hI 68 0 rfl)
  obtain ⟨y3a, y3b⟩ := (show rg 0 20 (M 81 0) from hI 81 0 rfl)
  have hI0 := hI
  obtain ⟨sa, sb⟩ := (show rg 0 30 (M 88 4) from (hI 88 4).2 rfl)
  have nsd := ixn sa
  have n02 := ixn y0a
  obtain ⟨ma, mb⟩ := (show rg 0 40 (M 88 3) from (hI 88 3).1 rfl)
  have k125_0 : M 125 0 = M 125 0 := rfl
  have k125_2 : M 125 2 = M 125 2 := rfl
  have p91 : L 91 = L 91 := rfl
  have p92 : L 92 = L 92 := rfl
  have q90 : M 90 = M 90 := rfl
  have q97 : M 97 = M 97 := rfl
  have q126 : M 126 = M 126 := rfl
  have q127 : M 127 = M 127 := rfl
  have q128 : M 128 = M 128 := rfl
  have q100 : ∀ k, 100 ≤ k ∧ k < 110 → M k = M k := fun _ _ => rfl
  have q110 : ∀ k, 110 ≤ k ∧ k < 120 → M k = M k := fun _ _ => rfl
  have hV : vC M = vC M := rfl
  refine g_aload_n C 0 dX9_seatByWays_0 rfl ?_
  refine g_callVv C (n := 0) (As := []) (st := []) (k_X9_compareAll l D ad cs _ _  hI ) gX9_seatByWays_X9_compareAll rfl rfl rfl (by decide +kernel) ⟨Nat.le_of_ble_eq_true rfl, Nat.le_of_ble_eq_true rfl⟩ rfl (Nat.le_of_ble_eq_true rfl) ⟨Nat.zero_le _, Nat.zero_le _⟩ (by decide) (ce_ways ad cs _ _) rfl rfl dX9_seatByWays_1 (fun M2 L3 hr1 => ?_)
  obtain ⟨hr1, hI, hFr1, hGr1⟩ := hr1
  have hF : ∀ k i, k ≠ 90 ∧ k ≠ 97 ∧ ¬ (100 ≤ k ∧ k < 110) ∧ ¬ (110 ≤ k ∧ k < 120) ∧ ¬ (k = 125 ∧ i = 0) ∧ ¬ (k = 125 ∧ i = 2) ∧ k ≠ 126 ∧ k ≠ 127 ∧ k ≠ 128 → M2 k i = M k i := fun k i hk => by (rw [hFr1 k i (by omega)]; try exact hF k i hk)
  have hG : ∀ k i, k ≠ 91 ∧ k ≠ 92 ∧ ¬ (131 ≤ k ∧ k < 191) → L3 k i = L k i := fun k i hk => by (rw [hGr1 k i trivial]; try exact hG k i hk)
  have hV : vC M2 = vC M := by rw [vC_fr (fun k hk => funext (fun i => hFr1 k i (by omega))), hV]
  have k125_0 : M2 125 0 = M 125 0 := (hFr1 125 0 (by omega)).trans k125_0
  have k125_2 : M2 125 2 = M 125 2 := (hFr1 125 2 (by omega)).trans k125_2
  have kt125_0 := congrArg Int32.toInt k125_0
  have kt125_2 := congrArg Int32.toInt k125_2
  have p91 : L3 91 = L 91 := (funext (fun i => hGr1 91 i trivial)).trans p91
  have p92 : L3 92 = L 92 := (funext (fun i => hGr1 92 i trivial)).trans p92
  have q100 : ∀ k, 100 ≤ k ∧ k < 110 → M2 k = M2 k := fun _ _ => rfl
  have q110 : ∀ k, 110 ≤ k ∧ k < 120 → M2 k = M k := fun k hk => (funext (fun i => hFr1 k i (by omega))).trans (q110 k hk)
  have q90 : M2 90 = M 90 := (funext (fun i => hFr1 90 i (by omega))).trans q90
  have q97 : M2 97 = M2 97 := rfl
  have q126 : M2 126 = M 126 := (funext (fun i => hFr1 126 i (by omega))).trans q126
  have q127 : M2 127 = M 127 := (funext (fun i => hFr1 127 i (by omega))).trans q127
  have q128 : M2 128 = M 128 := (funext (fun i => hFr1 128 i (by omega))).trans q128
  have hcm := hr1
  refine g_aload_n C 0 dX9_seatByWays_4 rfl ?_
  have hF0 := hF
  refine g_callVv C (n := 0) (As := []) (st := []) (k_X9_beginWays l D ad cs _ _  hI ) gX9_seatByWays_X9_beginWays rfl rfl rfl (by decide +kernel) ⟨Nat.le_of_ble_eq_true rfl, Nat.le_of_ble_eq_true rfl⟩ rfl (Nat.le_of_ble_eq_true rfl) ⟨Nat.zero_le _, Nat.zero_le _⟩ (by decide) (ce_ways ad cs _ _) rfl rfl dX9_seatByWays_5 (fun M5 L6 hr4 => ?_)
  obtain ⟨hr4, hI, hFr4, hGr4⟩ := hr4
  have hF : ∀ k i, k ≠ 90 ∧ k ≠ 97 ∧ ¬ (100 ≤ k ∧ k < 110) ∧ ¬ (110 ≤ k ∧ k < 120) ∧ ¬ (k = 125 ∧ i = 0) ∧ ¬ (k = 125 ∧ i = 2) ∧ k ≠ 126 ∧ k ≠ 127 ∧ k ≠ 128 → M5 k i = M k i := fun k i hk => by (rw [hFr4 k i (by omega)]; try exact hF k i hk)
  have hG : ∀ k i, k ≠ 91 ∧ k ≠ 92 ∧ ¬ (131 ≤ k ∧ k < 191) → L6 k i = L k i := fun k i hk => by (rw [hGr4 k i trivial]; try exact hG k i hk)
  have hV : vC M5 = vC M := by rw [vC_fr (fun k hk => funext (fun i => hFr4 k i (by omega))), hV]
  have k125_0 : M5 125 0 = M 125 0 := (hFr4 125 0 (by omega)).trans k125_0
  have k125_2 : M5 125 2 = M 125 2 := (hFr4 125 2 (by omega)).trans k125_2
  have kt125_0 := congrArg Int32.toInt k125_0
  have kt125_2 := congrArg Int32.toInt k125_2
  have p91 : L6 91 = L 91 := (funext (fun i => hGr4 91 i trivial)).trans p91
  have p92 : L6 92 = L 92 := (funext (fun i => hGr4 92 i trivial)).trans p92
  have q100 : ∀ k, 100 ≤ k ∧ k < 110 → M5 k = M2 k := fun k hk => (funext (fun i => hFr4 k i (by omega))).trans (q100 k hk)
  have q110 : ∀ k, 110 ≤ k ∧ k < 120 → M5 k = M5 k := fun _ _ => rfl
  have q90 : M5 90 = M 90 := (funext (fun i => hFr4 90 i (by omega))).trans q90
  have q97 : M5 97 = M2 97 := (funext (fun i => hFr4 97 i (by omega))).trans q97
  have q126 : M5 126 = M 126 := (funext (fun i => hFr4 126 i (by omega))).trans q126
  have q127 : M5 127 = M 127 := (funext (fun i => hFr4 127 i (by omega))).trans q127
  have q128 : M5 128 = M 128 := (funext (fun i => hFr4 128 i (by omega))).trans q128
  have hbw : ∀ a, a < (M 1 0).toNatClampNeg → ∀ b, b < (M 1 0).toNatClampNeg → wC M5 a b = wS (vC M) pb mq 0 a b := by
    intro a ha b hb
    have e1 : M2 1 0 = M 1 0 := hF0 1 0 (by omega)
    have h9 := hr4 a (by rw [e1]; exact ha) b (by rw [e1]; exact hb)
    rw [hcm a ha b hb, hcm b hb a ha] at h9
    exact wS0_of hP3 hmq hLY (by have := ixn (x := M 88 3) (by omega); omega) h9
  refine g_aload_n C 0 dX9_seatByWays_8 rfl ?_
  have hF0 := hF
  refine g_callVv C (n := 0) (As := []) (st := []) (k_X9_strengthenWays l D ad cs _ _  hI ) gX9_seatByWays_X9_strengthenWays rfl rfl rfl (by decide +kernel) ⟨Nat.le_of_ble_eq_true rfl, Nat.le_of_ble_eq_true rfl⟩ rfl (Nat.le_of_ble_eq_true rfl) ⟨Nat.zero_le _, Nat.zero_le _⟩ (by decide) (ce_ways ad cs _ _) rfl rfl dX9_seatByWays_9 (fun M8 L9 hr7 => ?_)
  obtain ⟨hr7, hI, hFr7, hGr7⟩ := hr7
  have hF : ∀ k i, k ≠ 90 ∧ k ≠ 97 ∧ ¬ (100 ≤ k ∧ k < 110) ∧ ¬ (110 ≤ k ∧ k < 120) ∧ ¬ (k = 125 ∧ i = 0) ∧ ¬ (k = 125 ∧ i = 2) ∧ k ≠ 126 ∧ k ≠ 127 ∧ k ≠ 128 → M8 k i = M k i := fun k i hk => by (rw [hFr7 k i (by omega)]; try exact hF k i hk)
  have hG : ∀ k i, k ≠ 91 ∧ k ≠ 92 ∧ ¬ (131 ≤ k ∧ k < 191) → L9 k i = L k i := fun k i hk => by (rw [hGr7 k i trivial]; try exact hG k i hk)
  have hV : vC M8 = vC M := by rw [vC_fr (fun k hk => funext (fun i => hFr7 k i (by omega))), hV]
  have k125_0 : M8 125 0 = M 125 0 := (hFr7 125 0 (by omega)).trans k125_0
  have k125_2 : M8 125 2 = M 125 2 := (hFr7 125 2 (by omega)).trans k125_2
  have kt125_0 := congrArg Int32.toInt k125_0
  have kt125_2 := congrArg Int32.toInt k125_2
  have p91 : L9 91 = L 91 := (funext (fun i => hGr7 91 i trivial)).trans p91
  have p92 : L9 92 = L 92 := (funext (fun i => hGr7 92 i trivial)).trans p92
  have q100 : ∀ k, 100 ≤ k ∧ k < 110 → M8 k = M2 k := fun k hk => (funext (fun i => hFr7 k i (by omega))).trans (q100 k hk)
  have q110 : ∀ k, 110 ≤ k ∧ k < 120 → M8 k = M8 k := fun _ _ => rfl
  have q90 : M8 90 = M 90 := (funext (fun i => hFr7 90 i (by omega))).trans q90
  have q97 : M8 97 = M2 97 := (funext (fun i => hFr7 97 i (by omega))).trans q97
  have q126 : M8 126 = M 126 := (funext (fun i => hFr7 126 i (by omega))).trans q126
  have q127 : M8 127 = M 127 := (funext (fun i => hFr7 127 i (by omega))).trans q127
  have q128 : M8 128 = M 128 := (funext (fun i => hFr7 128 i (by omega))).trans q128
  have hws : ∀ a, a < (M 1 0).toNatClampNeg → ∀ b, b < (M 1 0).toNatClampNeg → a ≠ b → wC M8 a b = (wS (vC M) pb mq (M 1 0).toNatClampNeg) a b := by
    intro a ha b hb hne
    have e1 : M5 1 0 = M 1 0 := hF0 1 0 (by omega)
    have h9 := hr7
    rw [e1] at h9
    rw [h9 a ha b hb]
    exact wX_S (fun a ha b hb _ => hbw a ha b hb) _ (Nat.le_refl _) a ha b hb hne
  refine g_iconst C 0 dX9_seatByWays_12 (by decide) ?_
  refine g_istore_n C [(2, .int 0), (0, .ref (ad 96)), (1, .ref (ad 125))] dX9_seatByWays_13 (by decide) rfl ?_
  have zy10 : (0 : Int32).toInt = 0 := by decide
  have k0i := congrArg Int32.toInt k125_0
  have k2i := congrArg Int32.toInt k125_2
  have e90i : M8 90 = M 90 := q90
  refine g_loop (α := Int32 × MI × ML) (fun a => (31 - a.1.toInt).toNat) (fun a => (0 ≤ a.1.toInt) ∧ (a.1.toInt ≤ (M 88 4).toInt) ∧ ((a.2.1 125 0).toInt = a.1.toInt) ∧ ((a.2.1 125 2).toInt = a.1.toInt) ∧ ((M 88 4).toInt ≤ (cI (a.2.1 90) (M 1 0).toNatClampNeg : Int) + a.1.toInt) ∧ (NIn (a.2.1 90) (M 1 0).toInt) ∧ (∀ a9, a9 < (M 1 0).toNatClampNeg → ∀ b9, b9 < (M 1 0).toNatClampNeg → a9 ≠ b9 → wC a.2.1 a9 b9 = (wS (vC M) pb mq (M 1 0).toNatClampNeg) a9 b9) ∧ (∃ S, wyP (M 2) (wS (vC M) pb mq (M 1 0).toNatClampNeg) (M 1 0).toNatClampNeg (M 90) S (a.2.1 90) ∧ (S.length : Int) = a.1.toInt ∧ RP (a.2.1 125 0) (a.2.1 126) (a.2.1 125 2) (a.2.1 127) (a.2.1 128) S (oneR S)) ∧ IC a.2.1 ∧ (∀ k i, k ≠ 90 ∧ k ≠ 97 ∧ ¬ (100 ≤ k ∧ k < 110) ∧ ¬ (110 ≤ k ∧ k < 120) ∧ ¬ (k = 125 ∧ i = 0) ∧ ¬ (k = 125 ∧ i = 2) ∧ k ≠ 126 ∧ k ≠ 127 ∧ k ≠ 128 → a.2.1 k i = M k i) ∧ (∀ k i, k ≠ 91 ∧ k ≠ 92 ∧ ¬ (131 ≤ k ∧ k < 191) → a.2.2 k i = L k i)) (fun a => a.2.1) (fun a => a.2.2) (fun a => [(2, .int a.1), (0, .ref (ad 96)), (1, .ref (ad 125))]) ((0 : Int32), M8, L9) ⟨by show 0 ≤ (0 : Int32).toInt; omega, by show (0 : Int32).toInt ≤ (M 88 4).toInt; omega, by show (M8 125 0).toInt = (0 : Int32).toInt; omega, by show (M8 125 2).toInt = (0 : Int32).toInt; omega, by show (M 88 4).toInt ≤ (cI (M8 90) (M 1 0).toNatClampNeg : Int) + (0 : Int32).toInt; rw [e90i]; omega, by show NIn (M8 90) (M 1 0).toInt; rw [e90i]; exact hNI0, by show ∀ a9, a9 < (M 1 0).toNatClampNeg → ∀ b9, b9 < (M 1 0).toNatClampNeg → a9 ≠ b9 → wC M8 a9 b9 = (wS (vC M) pb mq (M 1 0).toNatClampNeg) a9 b9; exact hws, by show ∃ S, wyP (M 2) (wS (vC M) pb mq (M 1 0).toNatClampNeg) (M 1 0).toNatClampNeg (M 90) S (M8 90) ∧ (S.length : Int) = (0 : Int32).toInt ∧ RP (M8 125 0) (M8 126) (M8 125 2) (M8 127) (M8 128) S (oneR S); exact ⟨[], by rw [e90i]; exact fun _ _ => rfl, rfl, RP_0 (by omega) (by omega)⟩, hI, hF, hG⟩ rfl rfl rfl ?_
  rintro ⟨x2_14, M_14, L_14⟩ ⟨j14_0, j14_1, j14_2, j14_3, j14_4, j14_5, j14_6, j14_7, hI, hF, hG⟩ ih_14
  dsimp only at j14_0 j14_1 j14_2 j14_3 j14_4 j14_5 j14_6 j14_7 hI hF hG ih_14 ⊢
  have k125_0 : M_14 125 0 = M_14 125 0 := rfl
  have k125_2 : M_14 125 2 = M_14 125 2 := rfl
  have hV : vC M_14 = vC M_14 := rfl
  have p91 : L_14 91 = L_14 91 := rfl
  have p92 : L_14 92 = L_14 92 := rfl
  have q90 : M_14 90 = M_14 90 := rfl
  have q97 : M_14 97 = M_14 97 := rfl
  have q126 : M_14 126 = M_14 126 := rfl
  have q127 : M_14 127 = M_14 127 := rfl
  have q128 : M_14 128 = M_14 128 := rfl
  have q100 : ∀ k, 100 ≤ k ∧ k < 110 → M_14 k = M_14 k := fun _ _ => rfl
  have q110 : ∀ k, 110 ≤ k ∧ k < 120 → M_14 k = M_14 k := fun _ _ => rfl
  have hNI := j14_5
  refine g_iload_n C 0 dX9_seatByWays_14 rfl ?_
  refine g_aload_n C 1 dX9_seatByWays_15 rfl ?_
  refine g_get C (.ref (ad 88)) 0 in_X9_seatByWays_9 (List.mem_of_getElem? (i := 1) rfl) (by decide) (ce_ways ad cs _ _) rfl (by decide) rfl rfl dX9_seatByWays_16 ?_
  refine g_get C (.int (M_14 88 4)) 4 in_X9_seatByWays_6 (List.mem_of_getElem? (i := 2) rfl) (by decide) (ce_poll ad cs _ _) rfl (by decide) rfl rfl dX9_seatByWays_19 ?_
  refine g_ni (fun v11 ev11 => ?_)
  have gv11 : v11 = M 88 4 := ev11.trans (hF 88 4 (by omega))
  have tv11 := congrArg Int32.toInt gv11
  obtain ⟨bv11, dv11⟩ := (show rg 0 30 v11 from (by rw [ev11]; exact (hI 88 4).2 rfl))
  refine g_icmp_ge C 90 dX9_seatByWays_22 (by decide) (fun c12 => ?_) (fun c12 => ?_)
  ·
    have f13 := fle rfl rfl c12
    exact g_vret C hr ⟨(by obtain ⟨S9, hw9, hl9, hr9⟩ := j14_7; exact ⟨S9, hw9, by omega, hr9⟩), hI, hF, hG⟩ dX9_seatByWays_90
  ·
    have f14 := fnle rfl rfl c12
    refine g_aload_n C 1 dX9_seatByWays_25 rfl ?_
    refine g_callVi C (n := 0) (As := []) (st := []) (k_X9_firstUnbeaten l D ad cs _ _  hI ) gX9_seatByWays_X9_firstUnbeaten rfl rfl rfl (by decide +kernel) ⟨Nat.le_of_ble_eq_true rfl, Nat.le_of_ble_eq_true rfl⟩ rfl (Nat.le_of_ble_eq_true rfl) ⟨Nat.zero_le _, Nat.zero_le _⟩ (by decide) (ce_ways ad cs _ _) rfl rfl dX9_seatByWays_26 (fun r15 M16 L17 hr15 => ?_)
    obtain ⟨hq1, hq2, hr15⟩ := hr15
    obtain rfl := hq1.symm
    obtain rfl := hq2.symm
    rw [show M_14 2 = M 2 from funext (fun i => hF 2 i (by omega)), show M_14 1 0 = M 1 0 from hF 1 0 (by omega)] at hr15
    have hpos : 0 < cI (M_14 90) (M 1 0).toNatClampNeg := by omega
    obtain ⟨c9, hc9, hi9, hu9⟩ := unb_exS (CL_wS (V := vC M) (p := pb) (m := mq) (M 1 0).toNatClampNeg (Nat.le_refl _)) j14_6 hpos
    have hfu9 : 0 ≤ r15.toInt ∧ r15.toInt < 10 ∧ ¬ (M_14 90 r15.toNatClampNeg).toInt = 0 ∧ fuP (M 2) (M_14 90) (wC M_14) (M 1 0).toNatClampNeg r15 := by
      rcases hr15 with ⟨_, h9⟩ | h9
      · exfalso
        obtain ⟨i9, hi1, hi2⟩ := hD c9 (by omega)
        have bj : rg 0 9 (M 2 i9) := hI0 2 _
        have e9 : (M 2 i9).toNatClampNeg = c9 := by
          have h8 : (M 2 i9).toInt = (c9 : Int) := hi2
          have := ixn (x := M 2 i9) bj.1
          omega
        rcases h9 i9 (by omega) with z9 | z9
        · rw [e9] at z9; exact hi9 z9
        · rw [e9] at z9; exact z9 hu9
      · exact h9
    obtain ⟨fu1, fu2, hin9, hfu⟩ := hfu9
    have nr9 := ixn (x := r15) fu1
    have hlt9 := hNI r15.toNatClampNeg (by omega) hin9
    have hfuS : fuP (M 2) (M_14 90) (wS (vC M) pb mq (M 1 0).toNatClampNeg) (M 1 0).toNatClampNeg r15 := fuP_ext (fun i => hI0 2 i) (by omega) (fun _ _ => rfl) hrl j14_6 hfu
    obtain ⟨S9, hw9, hl9, hr9⟩ := j14_7
    refine g_istore_n C [(3, .int r15), (2, .int x2_14), (0, .ref (ad 96)), (1, .ref (ad 125))] dX9_seatByWays_29 (by decide) rfl ?_
    refine g_iload_n C 0 dX9_seatByWays_30 rfl ?_
    refine g_bipush C (-9) dX9_seatByWays_31 (by decide) ?_
    refine g_icmp_ne C 37 dX9_seatByWays_33 (by decide) (fun c18 => ?_) (fun c18 => ?_)
    ·
      have f19 := fne rfl (by decide : ((-9) : Int32).toInt = (-9)) c18
      refine g_aload_n C 2 dX9_seatByWays_37 rfl ?_
      refine g_get C (.ref (ad 88)) 0 in_X9_seatByWays_9 (List.mem_of_getElem? (i := 1) rfl) (by decide) (ce_ways ad cs _ _) rfl (by decide) rfl rfl dX9_seatByWays_38 ?_
      refine g_callVv C (n := 0) (As := []) (st := []) (k_X6_clearTallies l D ad cs _ _  hI ) gX9_seatByWays_X6_clearTallies rfl rfl rfl (by decide +kernel) ⟨Nat.le_of_ble_eq_true rfl, Nat.le_of_ble_eq_true rfl⟩ rfl (Nat.le_of_ble_eq_true rfl) ⟨Nat.zero_le _, Nat.zero_le _⟩ (by decide) (ce_poll ad cs _ _) rfl rfl dX9_seatByWays_41 (fun M21 L22 hr20 => ?_)
      obtain ⟨hr20, hI, hFr20, hGr20⟩ := hr20
      have hF : ∀ k i, k ≠ 90 ∧ k ≠ 97 ∧ ¬ (100 ≤ k ∧ k < 110) ∧ ¬ (110 ≤ k ∧ k < 120) ∧ ¬ (k = 125 ∧ i = 0) ∧ ¬ (k = 125 ∧ i = 2) ∧ k ≠ 126 ∧ k ≠ 127 ∧ k ≠ 128 → M21 k i = M k i := fun k i hk => by (rw [hFr20 k i trivial]; try exact hF k i hk)
      have hG : ∀ k i, k ≠ 91 ∧ k ≠ 92 ∧ ¬ (131 ≤ k ∧ k < 191) → L22 k i = L k i := fun k i hk => by (rw [hGr20 k i (by omega)]; try exact hG k i hk)
      have hV : vC M21 = vC M_14 := by rw [vC_fr (fun k hk => funext (fun i => hFr20 k i trivial)), hV]
      have k125_0 : M21 125 0 = M_14 125 0 := (hFr20 125 0 trivial).trans k125_0
      have k125_2 : M21 125 2 = M_14 125 2 := (hFr20 125 2 trivial).trans k125_2
      have kt125_0 := congrArg Int32.toInt k125_0
      have kt125_2 := congrArg Int32.toInt k125_2
      have p91 : L22 91 = L22 91 := rfl
      have p92 : L22 92 = L22 92 := rfl
      have q100 : ∀ k, 100 ≤ k ∧ k < 110 → M21 k = M_14 k := fun k hk => (funext (fun i => hFr20 k i trivial)).trans (q100 k hk)
      have q110 : ∀ k, 110 ≤ k ∧ k < 120 → M21 k = M_14 k := fun k hk => (funext (fun i => hFr20 k i trivial)).trans (q110 k hk)
      have q90 : M21 90 = M_14 90 := (funext (fun i => hFr20 90 i trivial)).trans q90
      have q97 : M21 97 = M_14 97 := (funext (fun i => hFr20 97 i trivial)).trans q97
      have q126 : M21 126 = M_14 126 := (funext (fun i => hFr20 126 i trivial)).trans q126
      have q127 : M21 127 = M_14 127 := (funext (fun i => hFr20 127 i trivial)).trans q127
      have q128 : M21 128 = M_14 128 := (funext (fun i => hFr20 128 i trivial)).trans q128
      refine g_aload_n C 2 dX9_seatByWays_44 rfl ?_
      refine g_get C (.ref (ad 88)) 0 in_X9_seatByWays_9 (List.mem_of_getElem? (i := 1) rfl) (by decide) (ce_ways ad cs _ _) rfl (by decide) rfl rfl dX9_seatByWays_45 ?_
      refine g_get C (.ref (ad 91)) 6 in_X9_seatByWays_6 (List.mem_of_getElem? (i := 3) rfl) (by decide) (ce_poll ad cs _ _) rfl (by decide) rfl rfl dX9_seatByWays_48 ?_
      refine g_iload_n C 0 dX9_seatByWays_51 rfl ?_
      refine g_aload_n C 2 dX9_seatByWays_52 rfl ?_
      refine g_iload_n C 0 dX9_seatByWays_53 rfl ?_
      refine g_callVi C (n := 1) (As := [.int r15]) (st := [.int r15, .ref (ad 91)]) (k_X9_leastWay l D ad cs _ _ r15 hI ⟨by omega, by omega⟩) gX9_seatByWays_X9_leastWay rfl rfl rfl (by decide +kernel) ⟨Nat.le_of_ble_eq_true rfl, Nat.le_of_ble_eq_true rfl⟩ rfl (Nat.le_of_ble_eq_true rfl) ⟨Nat.zero_le _, Nat.zero_le _⟩ (by decide) (ce_ways ad cs _ _) rfl rfl dX9_seatByWays_54 (fun r23 M24 L25 hr23 => ?_)
      obtain ⟨hq1, hq2, hr23⟩ := hr23
      obtain rfl := hq1.symm
      obtain rfl := hq2.symm
      refine g_i2l C dX9_seatByWays_57 ?_
      refine g_nl (fun v26 ev26 => ?_)
      have fv26 := fi2l rfl ev26
      have nr15 := ixn (x := r15) (by omega)
      refine g_last C (by decide) (ce_pupper ad cs _ _) (by rw [sJ_k]; rfl) (fin' (n := 10) rfl (by omega) (by omega)) dX9_seatByWays_58 ?_
      refine g_nmL (fun L27 hL27 => ?_)
      have hG : ∀ k i, k ≠ 91 ∧ k ≠ 92 ∧ ¬ (131 ≤ k ∧ k < 191) → L27 k i = L k i := fun k i hk => by (rw [hL27, sJ_at, if_neg (by omega)]; try exact hG k i hk)
      have p92 : L27 92 = L22 92 := by rw [hL27, sJ_n _ _ _ (by decide)]; try exact p92
      refine g_aload_n C 3 dX9_seatByWays_59 rfl ?_
      refine g_iconst C 1 dX9_seatByWays_60 (by decide) ?_
      refine g_iload_n C 0 dX9_seatByWays_61 rfl ?_
      refine g_aload_n C 2 dX9_seatByWays_62 rfl ?_
      refine g_get C (.ref (ad 88)) 0 in_X9_seatByWays_9 (List.mem_of_getElem? (i := 1) rfl) (by decide) (ce_ways ad cs _ _) rfl (by decide) rfl rfl dX9_seatByWays_63 ?_
      have hRb : RP (M_14 125 0) (M_14 126) (M_14 125 2) (M_14 127) (M_14 128) S9 (oneR S9) := hr9
      rw [← k125_0, ← k125_2, ← q126, ← q127, ← q128] at hRb
      refine g_callVv C (n := 3) (As := [.int 1, .int r15, .ref (ad 88)]) (st := []) (k_X7_note_a l D ad cs _ _ 1 r15 hI (by omega)) gX9_seatByWays_X7_note rfl rfl rfl (by decide +kernel) ⟨Nat.le_of_ble_eq_true rfl, Nat.le_of_ble_eq_true rfl⟩ rfl (Nat.le_of_ble_eq_true rfl) ⟨Nat.zero_le _, Nat.zero_le _⟩ (by decide) (ce_ra ad cs _ _) rfl rfl dX9_seatByWays_66 (fun M29 L30 hr28 => ?_)
      obtain ⟨hr28, hI, hFr28, hGr28⟩ := hr28
      have hF : ∀ k i, k ≠ 90 ∧ k ≠ 97 ∧ ¬ (100 ≤ k ∧ k < 110) ∧ ¬ (110 ≤ k ∧ k < 120) ∧ ¬ (k = 125 ∧ i = 0) ∧ ¬ (k = 125 ∧ i = 2) ∧ k ≠ 126 ∧ k ≠ 127 ∧ k ≠ 128 → M29 k i = M k i := fun k i hk => by (rw [hFr28 k i (by omega)]; try exact hF k i hk)
      have hG : ∀ k i, k ≠ 91 ∧ k ≠ 92 ∧ ¬ (131 ≤ k ∧ k < 191) → L30 k i = L k i := fun k i hk => by (rw [hGr28 k i (by omega)]; try exact hG k i hk)
      have hV : vC M29 = vC M_14 := by rw [vC_fr (fun k hk => funext (fun i => hFr28 k i (by omega))), hV]
      have k125_0 : M29 125 0 = M_14 125 0 := (hFr28 125 0 (by omega)).trans k125_0
      have k125_2 : M29 125 2 = M29 125 2 := rfl
      have kt125_0 := congrArg Int32.toInt k125_0
      have kt125_2 := congrArg Int32.toInt k125_2
      have p91 : L30 91 = L30 91 := rfl
      have p92 : L30 92 = L22 92 := (funext (fun i => hGr28 92 i (by omega))).trans p92
      have q100 : ∀ k, 100 ≤ k ∧ k < 110 → M29 k = M_14 k := fun k hk => (funext (fun i => hFr28 k i (by omega))).trans (q100 k hk)
      have q110 : ∀ k, 110 ≤ k ∧ k < 120 → M29 k = M_14 k := fun k hk => (funext (fun i => hFr28 k i (by omega))).trans (q110 k hk)
      have q90 : M29 90 = M_14 90 := (funext (fun i => hFr28 90 i (by omega))).trans q90
      have q97 : M29 97 = M_14 97 := (funext (fun i => hFr28 97 i (by omega))).trans q97
      have q126 : M29 126 = M_14 126 := (funext (fun i => hFr28 126 i (by omega))).trans q126
      have q127 : M29 127 = M29 127 := rfl
      have q128 : M29 128 = M29 128 := rfl
      obtain ⟨np2, npw, nph⟩ := hr28
      have np0 : M29 125 0 = M21 125 0 := hFr28 125 0 (by omega)
      have np0t := congrArg Int32.toInt np0
      have nps : M29 126 = M21 126 := funext (fun i => hFr28 126 i (by omega))
      have hb9 : RP (M21 125 0) (M21 126) (M21 125 2) (M21 127) (M21 128) _ _ := hRb
      rw [← np0, ← nps] at hb9
      have rp1 := RP_note hb9 np2 npw nph
      refine g_aload_n C 3 dX9_seatByWays_69 rfl ?_
      refine g_iload_n C 0 dX9_seatByWays_70 rfl ?_
      refine g_callVv C (n := 1) (As := [.int r15]) (st := []) (k_X7_give_a l D ad cs _ _ r15 hI (by omega)) gX9_seatByWays_X7_give rfl rfl rfl (by decide +kernel) ⟨Nat.le_of_ble_eq_true rfl, Nat.le_of_ble_eq_true rfl⟩ rfl (Nat.le_of_ble_eq_true rfl) ⟨Nat.zero_le _, Nat.zero_le _⟩ (by decide) (ce_ra ad cs _ _) rfl rfl dX9_seatByWays_71 (fun M32 L33 hr31 => ?_)
      obtain ⟨hr31, hI, hFr31, hGr31⟩ := hr31
      have hF : ∀ k i, k ≠ 90 ∧ k ≠ 97 ∧ ¬ (100 ≤ k ∧ k < 110) ∧ ¬ (110 ≤ k ∧ k < 120) ∧ ¬ (k = 125 ∧ i = 0) ∧ ¬ (k = 125 ∧ i = 2) ∧ k ≠ 126 ∧ k ≠ 127 ∧ k ≠ 128 → M32 k i = M k i := fun k i hk => by (rw [hFr31 k i (by omega)]; try exact hF k i hk)
      have hG : ∀ k i, k ≠ 91 ∧ k ≠ 92 ∧ ¬ (131 ≤ k ∧ k < 191) → L33 k i = L k i := fun k i hk => by (rw [hGr31 k i trivial]; try exact hG k i hk)
      have hV : vC M32 = vC M_14 := by rw [vC_fr (fun k hk => funext (fun i => hFr31 k i (by omega))), hV]
      have k125_2 : M32 125 2 = M29 125 2 := (hFr31 125 2 (by omega)).trans k125_2
      have k125_0 : M32 125 0 = M32 125 0 := rfl
      have kt125_0 := congrArg Int32.toInt k125_0
      have kt125_2 := congrArg Int32.toInt k125_2
      have p91 : L33 91 = L30 91 := (funext (fun i => hGr31 91 i trivial)).trans p91
      have p92 : L33 92 = L22 92 := (funext (fun i => hGr31 92 i trivial)).trans p92
      have q100 : ∀ k, 100 ≤ k ∧ k < 110 → M32 k = M_14 k := fun k hk => (funext (fun i => hFr31 k i (by omega))).trans (q100 k hk)
      have q110 : ∀ k, 110 ≤ k ∧ k < 120 → M32 k = M_14 k := fun k hk => (funext (fun i => hFr31 k i (by omega))).trans (q110 k hk)
      have q90 : M32 90 = M_14 90 := (funext (fun i => hFr31 90 i (by omega))).trans q90
      have q97 : M32 97 = M_14 97 := (funext (fun i => hFr31 97 i (by omega))).trans q97
      have q126 : M32 126 = M32 126 := rfl
      have q127 : M32 127 = M29 127 := (funext (fun i => hFr31 127 i (by omega))).trans q127
      have q128 : M32 128 = M29 128 := (funext (fun i => hFr31 128 i (by omega))).trans q128
      obtain ⟨gv0, gvs⟩ := hr31
      have gv2 : M32 125 2 = M29 125 2 := hFr31 125 2 (by omega)
      have gv2t := congrArg Int32.toInt gv2
      have gv127 : M32 127 = M29 127 := funext (fun i => hFr31 127 i (by omega))
      have gv128 : M32 128 = M29 128 := funext (fun i => hFr31 128 i (by omega))
      have hb9 : RP (M29 125 0) (M29 126) (M29 125 2) (M29 127) (M29 128) _ _ := rp1
      rw [← gv2, ← gv127, ← gv128] at hb9
      have rp2 := RP_give hb9 gv0 gvs
      refine g_aload_n C 2 dX9_seatByWays_74 rfl ?_
      refine g_get C (.ref (ad 88)) 0 in_X9_seatByWays_9 (List.mem_of_getElem? (i := 1) rfl) (by decide) (ce_ways ad cs _ _) rfl (by decide) rfl rfl dX9_seatByWays_75 ?_
      refine g_get C (.ref (ad 90)) 5 in_X9_seatByWays_6 (List.mem_of_getElem? (i := 4) rfl) (by decide) (ce_poll ad cs _ _) rfl (by decide) rfl rfl dX9_seatByWays_78 ?_
      refine g_iload_n C 0 dX9_seatByWays_81 rfl ?_
      refine g_iconst C 0 dX9_seatByWays_82 (by decide) ?_
      have nr15 := ixn (x := r15) (by omega)
      refine g_zast C (by decide) (ce_pin ad cs _ _) (by rw [sI_k]; rfl) (fin' (n := 10) rfl (by omega) (by omega)) dX9_seatByWays_83 ?_
      refine g_nm (fun M34 hM34 => ?_)
      have zy35 : (0 : Int32).toInt = 0 := by decide
      have hI : IC M34 := by rw [hM34]; exact hI.st (bC_free (by decide) (by decide) (by decide) (by decide) (by decide) (by decide) (by decide))
      have hF : ∀ k i, k ≠ 90 ∧ k ≠ 97 ∧ ¬ (100 ≤ k ∧ k < 110) ∧ ¬ (110 ≤ k ∧ k < 120) ∧ ¬ (k = 125 ∧ i = 0) ∧ ¬ (k = 125 ∧ i = 2) ∧ k ≠ 126 ∧ k ≠ 127 ∧ k ≠ 128 → M34 k i = M k i := fun k i hk => by (rw [hM34, sI_at, if_neg (by omega)]; try exact hF k i hk)
      have k125_0 : M34 125 0 = M32 125 0 := by rw [hM34, sI_n _ _ _ (by decide)]; try exact k125_0
      have k125_2 : M34 125 2 = M29 125 2 := by rw [hM34, sI_n _ _ _ (by decide)]; try exact k125_2
      have q97 : M34 97 = M_14 97 := by rw [hM34, sI_n _ _ _ (by decide)]; try exact q97
      have q126 : M34 126 = M32 126 := by rw [hM34, sI_n _ _ _ (by decide)]; try exact q126
      have q127 : M34 127 = M29 127 := by rw [hM34, sI_n _ _ _ (by decide)]; try exact q127
      have q128 : M34 128 = M29 128 := by rw [hM34, sI_n _ _ _ (by decide)]; try exact q128
      have q100 : ∀ k, 100 ≤ k ∧ k < 110 → M34 k = M_14 k := fun k hk => by rw [hM34, sI_n _ _ _ (by omega)]; try exact q100 k hk
      have q110 : ∀ k, 110 ≤ k ∧ k < 120 → M34 k = M_14 k := fun k hk => by rw [hM34, sI_n _ _ _ (by omega)]; try exact q110 k hk
      have hV : vC M34 = vC M_14 := by rw [hM34, vC_z (by decide), hV]
      have h90 : M34 90 = upd (M_14 90) r15.toNatClampNeg 0 := by rw [hM34, sI_k, q90]; rfl
      have hcu := cI_upd (T := M_14 90) (b := r15.toNatClampNeg) hin9 (M 1 0).toNatClampNeg
      rw [if_pos (by omega), ← h90] at hcu
      have hNI2 : NIn (M34 90) (M 1 0).toInt := by rw [h90]; exact NIn_upd hNI _
      have q90 : M34 90 = M34 90 := rfl
      have e125 : M34 125 = M32 125 := by rw [hM34, sI_n _ _ _ (by decide)]
      have e126 : M34 126 = M32 126 := by rw [hM34, sI_n _ _ _ (by decide)]
      have e127 : M34 127 = M32 127 := by rw [hM34, sI_n _ _ _ (by decide)]
      have e128 : M34 128 = M32 128 := by rw [hM34, sI_n _ _ _ (by decide)]
      have rp3 : RP (M32 125 0) (M32 126) (M32 125 2) (M32 127) (M32 128) _ _ := rp2
      rw [← e125, ← e126, ← e127, ← e128] at rp3
      have hexS : ∃ S, wyP (M 2) (wS (vC M) pb mq (M 1 0).toNatClampNeg) (M 1 0).toNatClampNeg (M 90) S (M34 90) ∧ (S.length : Int) = x2_14.toInt + 1 ∧ RP (M34 125 0) (M34 126) (M34 125 2) (M34 127) (M34 128) S (oneR S) := ⟨S9 ++ [r15], by rw [h90]; exact wyP_app hw9 (fun K hK => fuP_ext (fun i => hI0 2 i) (by omega) hK hrl (fun _ _ _ _ _ => rfl) hfuS), by rw [List.length_append, Int.natCast_add, hl9]; rfl, by rw [oneR_app]; exact rp3⟩
      have eW : ∀ a9, a9 < (M 1 0).toNatClampNeg → ∀ b9, b9 < (M 1 0).toNatClampNeg → a9 ≠ b9 → wC M34 a9 b9 = (wS (vC M) pb mq (M 1 0).toNatClampNeg) a9 b9 := fun a9 ha9 b9 hb9 hne9 => by unfold wC; rw [q110 (110 + a9) (by omega)]; exact j14_6 a9 ha9 b9 hb9 hne9
      obtain ⟨v36, ev36⟩ : ∃ y : Int32, y = x2_14 + 1 := ⟨_, rfl⟩
      try have fv36 := fadd rfl (by decide : (1 : Int32).toInt = 1) ev36 (by omega) (by omega)
      refine g_iinc C 1 v36 [(2, .int v36), (3, .int r15), (0, .ref (ad 96)), (1, .ref (ad 125))] dX9_seatByWays_84 rfl (by rw [ev36]; rfl) (by decide) rfl ?_
      refine g_goto C 14 dX9_seatByWays_87 (by decide) ?_
      refine g_lv [0, 2, 3] [(2, .int v36), (0, .ref (ad 96)), (1, .ref (ad 125))] rfl ?_
      have k0t := congrArg Int32.toInt k125_0
      have k2t := congrArg Int32.toInt k125_2
      exact ih_14 (v36, M34, L33) ⟨by show 0 ≤ v36.toInt; omega, by show v36.toInt ≤ (M 88 4).toInt; omega, by show (M34 125 0).toInt = v36.toInt; omega, by show (M34 125 2).toInt = v36.toInt; omega, by show (M 88 4).toInt ≤ (cI (M34 90) (M 1 0).toNatClampNeg : Int) + v36.toInt; omega, by show NIn (M34 90) (M 1 0).toInt; exact hNI2, by show ∀ a9, a9 < (M 1 0).toNatClampNeg → ∀ b9, b9 < (M 1 0).toNatClampNeg → a9 ≠ b9 → wC M34 a9 b9 = (wS (vC M) pb mq (M 1 0).toNatClampNeg) a9 b9; exact eW, by show ∃ S, wyP (M 2) (wS (vC M) pb mq (M 1 0).toNatClampNeg) (M 1 0).toNatClampNeg (M 90) S (M34 90) ∧ (S.length : Int) = v36.toInt ∧ RP (M34 125 0) (M34 126) (M34 125 2) (M34 127) (M34 128) S (oneR S); obtain ⟨S8, a8, b8, c8⟩ := hexS; exact ⟨S8, a8, by omega, c8⟩, hI, hF, hG⟩ (by show (31 - v36.toInt).toNat < (31 - x2_14.toInt).toNat; omega)
    ·
      have f37 := feq rfl (by decide : ((-9) : Int32).toInt = (-9)) c18
      exact g_vret C hr ⟨(by exfalso; omega), hI, hF, hG⟩ dX9_seatByWays_36
set_option maxHeartbeats 4000000 in
set_option maxRecDepth 100000 in
theorem k_X9_sbw_b (l : Launch) (D : va_G) (ad : Nat → Nat) (cs : Nat → ClassId) (M : MI) (L : ML)  (hI : IC M) {pb : Nat → Int32} {mq : Nat} (hLY : LY pb (M 89) mq) (hMN : (M 88 3).toInt = (cnP pb mq : Int)) (hmq : mq ≤ 40) (hP3 : ∀ b, 0 ≤ (vC M 3 b).toInt ∧ (vC M 3 b).toInt ≤ 100000) (hrl : ∀ i, i < (M 1 0).toNatClampNeg → (M 2 i).toInt < ((M 1 0).toNatClampNeg : Int)) (hD : DP (vC M)) (hNI0 : NIn (M 90) (M 1 0).toInt) (hg0 : (M 191 0).toInt = 0) (hm0 : (M 191 2).toInt = 0) (hC : (M 88 4).toInt ≤ (cI (M 90) (M 1 0).toNatClampNeg : Int)) : Cv l yX9_seatByWays wsX9_seatByWays ({ frames := 3, cells := 0, slots := 0, locals := 70 }) D ad cs [.ref (ad 96), .ref (ad 191)] M L (fun M1 L1 => (∃ S, wyP (M 2) (wS (vC M) pb mq (M 1 0).toNatClampNeg) (M 1 0).toNatClampNeg (M 90) S (M1 90) ∧ (S.length : Int) = (M 88 4).toInt ∧ RP (M1 191 0) (M1 192) (M1 191 2) (M1 193) (M1 194) S (oneR S)) ∧ IC M1 ∧ (∀ k i, k ≠ 90 ∧ k ≠ 97 ∧ ¬ (100 ≤ k ∧ k < 110) ∧ ¬ (110 ≤ k ∧ k < 120) ∧ ¬ (k = 191 ∧ i = 0) ∧ ¬ (k = 191 ∧ i = 2) ∧ k ≠ 192 ∧ k ≠ 193 ∧ k ≠ 194 → M1 k i = M k i) ∧ ∀ k i, k ≠ 91 ∧ k ≠ 92 ∧ ¬ (197 ≤ k ∧ k < 257) → L1 k i = L k i) := by
  refine enter_v RX9 rfl [(0, .ref (ad 96)), (1, .ref (ad 191))] rfl (Nat.le_of_ble_eq_true rfl) (by decide +kernel) rfl ?_
  intro p e s m below meth c C hr
  have hF : ∀ k i, k ≠ 90 ∧ k ≠ 97 ∧ ¬ (100 ≤ k ∧ k < 110) ∧ ¬ (110 ≤ k ∧ k < 120) ∧ ¬ (k = 191 ∧ i = 0) ∧ ¬ (k = 191 ∧ i = 2) ∧ k ≠ 192 ∧ k ≠ 193 ∧ k ≠ 194 → M k i = M k i := fun _ _ _ => rfl
  have hG : ∀ k i, k ≠ 91 ∧ k ≠ 92 ∧ ¬ (197 ≤ k ∧ k < 257) → L k i = L k i := fun _ _ _ => rfl
  have w0 : (vC M 0 0).toInt = (M 1 0).toInt := rfl
  have w1 : (vC M 0 1).toInt = (M 3 0).toInt := rfl
  have w2 : (vC M 0 2).toInt = (M 68 0).toInt := rfl
  have w3 : (vC M 0 3).toInt = (M 81 0).toInt := rfl
  obtain ⟨y0a, y0b⟩ := (show rg 0 10 (M 1 0) from hI 1 0 rfl)
  obtain ⟨y1a, y1b⟩ := (show rg 0 60 (M 3 0) from hI 3 0 rfl)
  obtain ⟨y2a, y2b⟩ := (show rg 0 8 (M 68 0) from hI 68 0 rfl)
  obtain ⟨y3a, y3b⟩ := (show rg 0 20 (M 81 0) from hI 81 0 rfl)
  have hI0 := hI
  obtain ⟨sa, sb⟩ := (show rg 0 30 (M 88 4) from (hI 88 4).2 rfl)
  have nsd := ixn sa
  have n02 := ixn y0a
  obtain ⟨ma, mb⟩ := (show rg 0 40 (M 88 3) from (hI 88 3).1 rfl)
  have k191_0 : M 191 0 = M 191 0 := rfl
  have k191_2 : M 191 2 = M 191 2 := rfl
  have p91 : L 91 = L 91 := rfl
  have p92 : L 92 = L 92 := rfl
  have q90 : M 90 = M 90 := rfl
  have q97 : M 97 = M 97 := rfl
  have q192 : M 192 = M 192 := rfl
  have q193 : M 193 = M 193 := rfl
  have q194 : M 194 = M 194 := rfl
  have q100 : ∀ k, 100 ≤ k ∧ k < 110 → M k = M k := fun _ _ => rfl
  have q110 : ∀ k, 110 ≤ k ∧ k < 120 → M k = M k := fun _ _ => rfl
  have hV : vC M = vC M := rfl
  refine g_aload_n C 0 dX9_seatByWays_0 rfl ?_
  refine g_callVv C (n := 0) (As := []) (st := []) (k_X9_compareAll l D ad cs _ _  hI ) gX9_seatByWays_X9_compareAll rfl rfl rfl (by decide +kernel) ⟨Nat.le_of_ble_eq_true rfl, Nat.le_of_ble_eq_true rfl⟩ rfl (Nat.le_of_ble_eq_true rfl) ⟨Nat.zero_le _, Nat.zero_le _⟩ (by decide) (ce_ways ad cs _ _) rfl rfl dX9_seatByWays_1 (fun M2 L3 hr1 => ?_)
  obtain ⟨hr1, hI, hFr1, hGr1⟩ := hr1
  have hF : ∀ k i, k ≠ 90 ∧ k ≠ 97 ∧ ¬ (100 ≤ k ∧ k < 110) ∧ ¬ (110 ≤ k ∧ k < 120) ∧ ¬ (k = 191 ∧ i = 0) ∧ ¬ (k = 191 ∧ i = 2) ∧ k ≠ 192 ∧ k ≠ 193 ∧ k ≠ 194 → M2 k i = M k i := fun k i hk => by (rw [hFr1 k i (by omega)]; try exact hF k i hk)
  have hG : ∀ k i, k ≠ 91 ∧ k ≠ 92 ∧ ¬ (197 ≤ k ∧ k < 257) → L3 k i = L k i := fun k i hk => by (rw [hGr1 k i trivial]; try exact hG k i hk)
  have hV : vC M2 = vC M := by rw [vC_fr (fun k hk => funext (fun i => hFr1 k i (by omega))), hV]
  have k191_0 : M2 191 0 = M 191 0 := (hFr1 191 0 (by omega)).trans k191_0
  have k191_2 : M2 191 2 = M 191 2 := (hFr1 191 2 (by omega)).trans k191_2
  have kt191_0 := congrArg Int32.toInt k191_0
  have kt191_2 := congrArg Int32.toInt k191_2
  have p91 : L3 91 = L 91 := (funext (fun i => hGr1 91 i trivial)).trans p91
  have p92 : L3 92 = L 92 := (funext (fun i => hGr1 92 i trivial)).trans p92
  have q100 : ∀ k, 100 ≤ k ∧ k < 110 → M2 k = M2 k := fun _ _ => rfl
  have q110 : ∀ k, 110 ≤ k ∧ k < 120 → M2 k = M k := fun k hk => (funext (fun i => hFr1 k i (by omega))).trans (q110 k hk)
  have q90 : M2 90 = M 90 := (funext (fun i => hFr1 90 i (by omega))).trans q90
  have q97 : M2 97 = M2 97 := rfl
  have q192 : M2 192 = M 192 := (funext (fun i => hFr1 192 i (by omega))).trans q192
  have q193 : M2 193 = M 193 := (funext (fun i => hFr1 193 i (by omega))).trans q193
  have q194 : M2 194 = M 194 := (funext (fun i => hFr1 194 i (by omega))).trans q194
  have hcm := hr1
  refine g_aload_n C 0 dX9_seatByWays_4 rfl ?_
  have hF0 := hF
  refine g_callVv C (n := 0) (As := []) (st := []) (k_X9_beginWays l D ad cs _ _  hI ) gX9_seatByWays_X9_beginWays rfl rfl rfl (by decide +kernel) ⟨Nat.le_of_ble_eq_true rfl, Nat.le_of_ble_eq_true rfl⟩ rfl (Nat.le_of_ble_eq_true rfl) ⟨Nat.zero_le _, Nat.zero_le _⟩ (by decide) (ce_ways ad cs _ _) rfl rfl dX9_seatByWays_5 (fun M5 L6 hr4 => ?_)
  obtain ⟨hr4, hI, hFr4, hGr4⟩ := hr4
  have hF : ∀ k i, k ≠ 90 ∧ k ≠ 97 ∧ ¬ (100 ≤ k ∧ k < 110) ∧ ¬ (110 ≤ k ∧ k < 120) ∧ ¬ (k = 191 ∧ i = 0) ∧ ¬ (k = 191 ∧ i = 2) ∧ k ≠ 192 ∧ k ≠ 193 ∧ k ≠ 194 → M5 k i = M k i := fun k i hk => by (rw [hFr4 k i (by omega)]; try exact hF k i hk)
  have hG : ∀ k i, k ≠ 91 ∧ k ≠ 92 ∧ ¬ (197 ≤ k ∧ k < 257) → L6 k i = L k i := fun k i hk => by (rw [hGr4 k i trivial]; try exact hG k i hk)
  have hV : vC M5 = vC M := by rw [vC_fr (fun k hk => funext (fun i => hFr4 k i (by omega))), hV]
  have k191_0 : M5 191 0 = M 191 0 := (hFr4 191 0 (by omega)).trans k191_0
  have k191_2 : M5 191 2 = M 191 2 := (hFr4 191 2 (by omega)).trans k191_2
  have kt191_0 := congrArg Int32.toInt k191_0
  have kt191_2 := congrArg Int32.toInt k191_2
  have p91 : L6 91 = L 91 := (funext (fun i => hGr4 91 i trivial)).trans p91
  have p92 : L6 92 = L 92 := (funext (fun i => hGr4 92 i trivial)).trans p92
  have q100 : ∀ k, 100 ≤ k ∧ k < 110 → M5 k = M2 k := fun k hk => (funext (fun i => hFr4 k i (by omega))).trans (q100 k hk)
  have q110 : ∀ k, 110 ≤ k ∧ k < 120 → M5 k = M5 k := fun _ _ => rfl
  have q90 : M5 90 = M 90 := (funext (fun i => hFr4 90 i (by omega))).trans q90
  have q97 : M5 97 = M2 97 := (funext (fun i => hFr4 97 i (by omega))).trans q97
  have q192 : M5 192 = M 192 := (funext (fun i => hFr4 192 i (by omega))).trans q192
  have q193 : M5 193 = M 193 := (funext (fun i => hFr4 193 i (by omega))).trans q193
  have q194 : M5 194 = M 194 := (funext (fun i => hFr4 194 i (by omega))).trans q194
  have hbw : ∀ a, a < (M 1 0).toNatClampNeg → ∀ b, b < (M 1 0).toNatClampNeg → wC M5 a b = wS (vC M) pb mq 0 a b := by
    intro a ha b hb
    have e1 : M2 1 0 = M 1 0 := hF0 1 0 (by omega)
    have h9 := hr4 a (by rw [e1]; exact ha) b (by rw [e1]; exact hb)
    rw [hcm a ha b hb, hcm b hb a ha] at h9
    exact wS0_of hP3 hmq hLY (by have := ixn (x := M 88 3) (by omega); omega) h9
  refine g_aload_n C 0 dX9_seatByWays_8 rfl ?_
  have hF0 := hF
  refine g_callVv C (n := 0) (As := []) (st := []) (k_X9_strengthenWays l D ad cs _ _  hI ) gX9_seatByWays_X9_strengthenWays rfl rfl rfl (by decide +kernel) ⟨Nat.le_of_ble_eq_true rfl, Nat.le_of_ble_eq_true rfl⟩ rfl (Nat.le_of_ble_eq_true rfl) ⟨Nat.zero_le _, Nat.zero_le _⟩ (by decide) (ce_ways ad cs _ _) rfl rfl dX9_seatByWays_9 (fun M8 L9 hr7 => ?_)
  obtain ⟨hr7, hI, hFr7, hGr7⟩ := hr7
  have hF : ∀ k i, k ≠ 90 ∧ k ≠ 97 ∧ ¬ (100 ≤ k ∧ k < 110) ∧ ¬ (110 ≤ k ∧ k < 120) ∧ ¬ (k = 191 ∧ i = 0) ∧ ¬ (k = 191 ∧ i = 2) ∧ k ≠ 192 ∧ k ≠ 193 ∧ k ≠ 194 → M8 k i = M k i := fun k i hk => by (rw [hFr7 k i (by omega)]; try exact hF k i hk)
  have hG : ∀ k i, k ≠ 91 ∧ k ≠ 92 ∧ ¬ (197 ≤ k ∧ k < 257) → L9 k i = L k i := fun k i hk => by (rw [hGr7 k i trivial]; try exact hG k i hk)
  have hV : vC M8 = vC M := by rw [vC_fr (fun k hk => funext (fun i => hFr7 k i (by omega))), hV]
  have k191_0 : M8 191 0 = M 191 0 := (hFr7 191 0 (by omega)).trans k191_0
  have k191_2 : M8 191 2 = M 191 2 := (hFr7 191 2 (by omega)).trans k191_2
  have kt191_0 := congrArg Int32.toInt k191_0
  have kt191_2 := congrArg Int32.toInt k191_2
  have p91 : L9 91 = L 91 := (funext (fun i => hGr7 91 i trivial)).trans p91
  have p92 : L9 92 = L 92 := (funext (fun i => hGr7 92 i trivial)).trans p92
  have q100 : ∀ k, 100 ≤ k ∧ k < 110 → M8 k = M2 k := fun k hk => (funext (fun i => hFr7 k i (by omega))).trans (q100 k hk)
  have q110 : ∀ k, 110 ≤ k ∧ k < 120 → M8 k = M8 k := fun _ _ => rfl
  have q90 : M8 90 = M 90 := (funext (fun i => hFr7 90 i (by omega))).trans q90
  have q97 : M8 97 = M2 97 := (funext (fun i => hFr7 97 i (by omega))).trans q97
  have q192 : M8 192 = M 192 := (funext (fun i => hFr7 192 i (by omega))).trans q192
  have q193 : M8 193 = M 193 := (funext (fun i => hFr7 193 i (by omega))).trans q193
  have q194 : M8 194 = M 194 := (funext (fun i => hFr7 194 i (by omega))).trans q194
  have hws : ∀ a, a < (M 1 0).toNatClampNeg → ∀ b, b < (M 1 0).toNatClampNeg → a ≠ b → wC M8 a b = (wS (vC M) pb mq (M 1 0).toNatClampNeg) a b := by
    intro a ha b hb hne
    have e1 : M5 1 0 = M 1 0 := hF0 1 0 (by omega)
    have h9 := hr7
    rw [e1] at h9
    rw [h9 a ha b hb]
    exact wX_S (fun a ha b hb _ => hbw a ha b hb) _ (Nat.le_refl _) a ha b hb hne
  refine g_iconst C 0 dX9_seatByWays_12 (by decide) ?_
  refine g_istore_n C [(2, .int 0), (0, .ref (ad 96)), (1, .ref (ad 191))] dX9_seatByWays_13 (by decide) rfl ?_
  have zy10 : (0 : Int32).toInt = 0 := by decide
  have k0i := congrArg Int32.toInt k191_0
  have k2i := congrArg Int32.toInt k191_2
  have e90i : M8 90 = M 90 := q90
  refine g_loop (α := Int32 × MI × ML) (fun a => (31 - a.1.toInt).toNat) (fun a => (0 ≤ a.1.toInt) ∧ (a.1.toInt ≤ (M 88 4).toInt) ∧ ((a.2.1 191 0).toInt = a.1.toInt) ∧ ((a.2.1 191 2).toInt = a.1.toInt) ∧ ((M 88 4).toInt ≤ (cI (a.2.1 90) (M 1 0).toNatClampNeg : Int) + a.1.toInt) ∧ (NIn (a.2.1 90) (M 1 0).toInt) ∧ (∀ a9, a9 < (M 1 0).toNatClampNeg → ∀ b9, b9 < (M 1 0).toNatClampNeg → a9 ≠ b9 → wC a.2.1 a9 b9 = (wS (vC M) pb mq (M 1 0).toNatClampNeg) a9 b9) ∧ (∃ S, wyP (M 2) (wS (vC M) pb mq (M 1 0).toNatClampNeg) (M 1 0).toNatClampNeg (M 90) S (a.2.1 90) ∧ (S.length : Int) = a.1.toInt ∧ RP (a.2.1 191 0) (a.2.1 192) (a.2.1 191 2) (a.2.1 193) (a.2.1 194) S (oneR S)) ∧ IC a.2.1 ∧ (∀ k i, k ≠ 90 ∧ k ≠ 97 ∧ ¬ (100 ≤ k ∧ k < 110) ∧ ¬ (110 ≤ k ∧ k < 120) ∧ ¬ (k = 191 ∧ i = 0) ∧ ¬ (k = 191 ∧ i = 2) ∧ k ≠ 192 ∧ k ≠ 193 ∧ k ≠ 194 → a.2.1 k i = M k i) ∧ (∀ k i, k ≠ 91 ∧ k ≠ 92 ∧ ¬ (197 ≤ k ∧ k < 257) → a.2.2 k i = L k i)) (fun a => a.2.1) (fun a => a.2.2) (fun a => [(2, .int a.1), (0, .ref (ad 96)), (1, .ref (ad 191))]) ((0 : Int32), M8, L9) ⟨by show 0 ≤ (0 : Int32).toInt; omega, by show (0 : Int32).toInt ≤ (M 88 4).toInt; omega, by show (M8 191 0).toInt = (0 : Int32).toInt; omega, by show (M8 191 2).toInt = (0 : Int32).toInt; omega, by show (M 88 4).toInt ≤ (cI (M8 90) (M 1 0).toNatClampNeg : Int) + (0 : Int32).toInt; rw [e90i]; omega, by show NIn (M8 90) (M 1 0).toInt; rw [e90i]; exact hNI0, by show ∀ a9, a9 < (M 1 0).toNatClampNeg → ∀ b9, b9 < (M 1 0).toNatClampNeg → a9 ≠ b9 → wC M8 a9 b9 = (wS (vC M) pb mq (M 1 0).toNatClampNeg) a9 b9; exact hws, by show ∃ S, wyP (M 2) (wS (vC M) pb mq (M 1 0).toNatClampNeg) (M 1 0).toNatClampNeg (M 90) S (M8 90) ∧ (S.length : Int) = (0 : Int32).toInt ∧ RP (M8 191 0) (M8 192) (M8 191 2) (M8 193) (M8 194) S (oneR S); exact ⟨[], by rw [e90i]; exact fun _ _ => rfl, rfl, RP_0 (by omega) (by omega)⟩, hI, hF, hG⟩ rfl rfl rfl ?_
  rintro ⟨x2_14, M_14, L_14⟩ ⟨j14_0, j14_1, j14_2, j14_3, j14_4, j14_5, j14_6, j14_7, hI, hF, hG⟩ ih_14
  dsimp only at j14_0 j14_1 j14_2 j14_3 j14_4 j14_5 j14_6 j14_7 hI hF hG ih_14 ⊢
  have k191_0 : M_14 191 0 = M_14 191 0 := rfl
  have k191_2 : M_14 191 2 = M_14 191 2 := rfl
  have hV : vC M_14 = vC M_14 := rfl
  have p91 : L_14 91 = L_14 91 := rfl
  have p92 : L_14 92 = L_14 92 := rfl
  have q90 : M_14 90 = M_14 90 := rfl
  have q97 : M_14 97 = M_14 97 := rfl
  have q192 : M_14 192 = M_14 192 := rfl
  have q193 : M_14 193 = M_14 193 := rfl
  have q194 : M_14 194 = M_14 194 := rfl
  have q100 : ∀ k, 100 ≤ k ∧ k < 110 → M_14 k = M_14 k := fun _ _ => rfl
  have q110 : ∀ k, 110 ≤ k ∧ k < 120 → M_14 k = M_14 k := fun _ _ => rfl
  have hNI := j14_5
  refine g_iload_n C 0 dX9_seatByWays_14 rfl ?_
  refine g_aload_n C 1 dX9_seatByWays_15 rfl ?_
  refine g_get C (.ref (ad 88)) 0 in_X9_seatByWays_9 (List.mem_of_getElem? (i := 1) rfl) (by decide) (ce_ways ad cs _ _) rfl (by decide) rfl rfl dX9_seatByWays_16 ?_
  refine g_get C (.int (M_14 88 4)) 4 in_X9_seatByWays_6 (List.mem_of_getElem? (i := 2) rfl) (by decide) (ce_poll ad cs _ _) rfl (by decide) rfl rfl dX9_seatByWays_19 ?_
  refine g_ni (fun v11 ev11 => ?_)
  have gv11 : v11 = M 88 4 := ev11.trans (hF 88 4 (by omega))
  have tv11 := congrArg Int32.toInt gv11
  obtain ⟨bv11, dv11⟩ := (show rg 0 30 v11 from (by rw [ev11]; exact (hI 88 4).2 rfl))
  refine g_icmp_ge C 90 dX9_seatByWays_22 (by decide) (fun c12 => ?_) (fun c12 => ?_)
  ·
    have f13 := fle rfl rfl c12
    exact g_vret C hr ⟨(by obtain ⟨S9, hw9, hl9, hr9⟩ := j14_7; exact ⟨S9, hw9, by omega, hr9⟩), hI, hF, hG⟩ dX9_seatByWays_90
  ·
    have f14 := fnle rfl rfl c12
    refine g_aload_n C 1 dX9_seatByWays_25 rfl ?_
    refine g_callVi C (n := 0) (As := []) (st := []) (k_X9_firstUnbeaten l D ad cs _ _  hI ) gX9_seatByWays_X9_firstUnbeaten rfl rfl rfl (by decide +kernel) ⟨Nat.le_of_ble_eq_true rfl, Nat.le_of_ble_eq_true rfl⟩ rfl (Nat.le_of_ble_eq_true rfl) ⟨Nat.zero_le _, Nat.zero_le _⟩ (by decide) (ce_ways ad cs _ _) rfl rfl dX9_seatByWays_26 (fun r15 M16 L17 hr15 => ?_)
    obtain ⟨hq1, hq2, hr15⟩ := hr15
    obtain rfl := hq1.symm
    obtain rfl := hq2.symm
    rw [show M_14 2 = M 2 from funext (fun i => hF 2 i (by omega)), show M_14 1 0 = M 1 0 from hF 1 0 (by omega)] at hr15
    have hpos : 0 < cI (M_14 90) (M 1 0).toNatClampNeg := by omega
    obtain ⟨c9, hc9, hi9, hu9⟩ := unb_exS (CL_wS (V := vC M) (p := pb) (m := mq) (M 1 0).toNatClampNeg (Nat.le_refl _)) j14_6 hpos
    have hfu9 : 0 ≤ r15.toInt ∧ r15.toInt < 10 ∧ ¬ (M_14 90 r15.toNatClampNeg).toInt = 0 ∧ fuP (M 2) (M_14 90) (wC M_14) (M 1 0).toNatClampNeg r15 := by
      rcases hr15 with ⟨_, h9⟩ | h9
      · exfalso
        obtain ⟨i9, hi1, hi2⟩ := hD c9 (by omega)
        have bj : rg 0 9 (M 2 i9) := hI0 2 _
        have e9 : (M 2 i9).toNatClampNeg = c9 := by
          have h8 : (M 2 i9).toInt = (c9 : Int) := hi2
          have := ixn (x := M 2 i9) bj.1
          omega
        rcases h9 i9 (by omega) with z9 | z9
        · rw [e9] at z9; exact hi9 z9
        · rw [e9] at z9; exact z9 hu9
      · exact h9
    obtain ⟨fu1, fu2, hin9, hfu⟩ := hfu9
    have nr9 := ixn (x := r15) fu1
    have hlt9 := hNI r15.toNatClampNeg (by omega) hin9
    have hfuS : fuP (M 2) (M_14 90) (wS (vC M) pb mq (M 1 0).toNatClampNeg) (M 1 0).toNatClampNeg r15 := fuP_ext (fun i => hI0 2 i) (by omega) (fun _ _ => rfl) hrl j14_6 hfu
    obtain ⟨S9, hw9, hl9, hr9⟩ := j14_7
    refine g_istore_n C [(3, .int r15), (2, .int x2_14), (0, .ref (ad 96)), (1, .ref (ad 191))] dX9_seatByWays_29 (by decide) rfl ?_
    refine g_iload_n C 0 dX9_seatByWays_30 rfl ?_
    refine g_bipush C (-9) dX9_seatByWays_31 (by decide) ?_
    refine g_icmp_ne C 37 dX9_seatByWays_33 (by decide) (fun c18 => ?_) (fun c18 => ?_)
    ·
      have f19 := fne rfl (by decide : ((-9) : Int32).toInt = (-9)) c18
      refine g_aload_n C 2 dX9_seatByWays_37 rfl ?_
      refine g_get C (.ref (ad 88)) 0 in_X9_seatByWays_9 (List.mem_of_getElem? (i := 1) rfl) (by decide) (ce_ways ad cs _ _) rfl (by decide) rfl rfl dX9_seatByWays_38 ?_
      refine g_callVv C (n := 0) (As := []) (st := []) (k_X6_clearTallies l D ad cs _ _  hI ) gX9_seatByWays_X6_clearTallies rfl rfl rfl (by decide +kernel) ⟨Nat.le_of_ble_eq_true rfl, Nat.le_of_ble_eq_true rfl⟩ rfl (Nat.le_of_ble_eq_true rfl) ⟨Nat.zero_le _, Nat.zero_le _⟩ (by decide) (ce_poll ad cs _ _) rfl rfl dX9_seatByWays_41 (fun M21 L22 hr20 => ?_)
      obtain ⟨hr20, hI, hFr20, hGr20⟩ := hr20
      have hF : ∀ k i, k ≠ 90 ∧ k ≠ 97 ∧ ¬ (100 ≤ k ∧ k < 110) ∧ ¬ (110 ≤ k ∧ k < 120) ∧ ¬ (k = 191 ∧ i = 0) ∧ ¬ (k = 191 ∧ i = 2) ∧ k ≠ 192 ∧ k ≠ 193 ∧ k ≠ 194 → M21 k i = M k i := fun k i hk => by (rw [hFr20 k i trivial]; try exact hF k i hk)
      have hG : ∀ k i, k ≠ 91 ∧ k ≠ 92 ∧ ¬ (197 ≤ k ∧ k < 257) → L22 k i = L k i := fun k i hk => by (rw [hGr20 k i (by omega)]; try exact hG k i hk)
      have hV : vC M21 = vC M_14 := by rw [vC_fr (fun k hk => funext (fun i => hFr20 k i trivial)), hV]
      have k191_0 : M21 191 0 = M_14 191 0 := (hFr20 191 0 trivial).trans k191_0
      have k191_2 : M21 191 2 = M_14 191 2 := (hFr20 191 2 trivial).trans k191_2
      have kt191_0 := congrArg Int32.toInt k191_0
      have kt191_2 := congrArg Int32.toInt k191_2
      have p91 : L22 91 = L22 91 := rfl
      have p92 : L22 92 = L22 92 := rfl
      have q100 : ∀ k, 100 ≤ k ∧ k < 110 → M21 k = M_14 k := fun k hk => (funext (fun i => hFr20 k i trivial)).trans (q100 k hk)
      have q110 : ∀ k, 110 ≤ k ∧ k < 120 → M21 k = M_14 k := fun k hk => (funext (fun i => hFr20 k i trivial)).trans (q110 k hk)
      have q90 : M21 90 = M_14 90 := (funext (fun i => hFr20 90 i trivial)).trans q90
      have q97 : M21 97 = M_14 97 := (funext (fun i => hFr20 97 i trivial)).trans q97
      have q192 : M21 192 = M_14 192 := (funext (fun i => hFr20 192 i trivial)).trans q192
      have q193 : M21 193 = M_14 193 := (funext (fun i => hFr20 193 i trivial)).trans q193
      have q194 : M21 194 = M_14 194 := (funext (fun i => hFr20 194 i trivial)).trans q194
      refine g_aload_n C 2 dX9_seatByWays_44 rfl ?_
      refine g_get C (.ref (ad 88)) 0 in_X9_seatByWays_9 (List.mem_of_getElem? (i := 1) rfl) (by decide) (ce_ways ad cs _ _) rfl (by decide) rfl rfl dX9_seatByWays_45 ?_
      refine g_get C (.ref (ad 91)) 6 in_X9_seatByWays_6 (List.mem_of_getElem? (i := 3) rfl) (by decide) (ce_poll ad cs _ _) rfl (by decide) rfl rfl dX9_seatByWays_48 ?_
      refine g_iload_n C 0 dX9_seatByWays_51 rfl ?_
      refine g_aload_n C 2 dX9_seatByWays_52 rfl ?_
      refine g_iload_n C 0 dX9_seatByWays_53 rfl ?_
      refine g_callVi C (n := 1) (As := [.int r15]) (st := [.int r15, .ref (ad 91)]) (k_X9_leastWay l D ad cs _ _ r15 hI ⟨by omega, by omega⟩) gX9_seatByWays_X9_leastWay rfl rfl rfl (by decide +kernel) ⟨Nat.le_of_ble_eq_true rfl, Nat.le_of_ble_eq_true rfl⟩ rfl (Nat.le_of_ble_eq_true rfl) ⟨Nat.zero_le _, Nat.zero_le _⟩ (by decide) (ce_ways ad cs _ _) rfl rfl dX9_seatByWays_54 (fun r23 M24 L25 hr23 => ?_)
      obtain ⟨hq1, hq2, hr23⟩ := hr23
      obtain rfl := hq1.symm
      obtain rfl := hq2.symm
      refine g_i2l C dX9_seatByWays_57 ?_
      refine g_nl (fun v26 ev26 => ?_)
      have fv26 := fi2l rfl ev26
      have nr15 := ixn (x := r15) (by omega)
      refine g_last C (by decide) (ce_pupper ad cs _ _) (by rw [sJ_k]; rfl) (fin' (n := 10) rfl (by omega) (by omega)) dX9_seatByWays_58 ?_
      refine g_nmL (fun L27 hL27 => ?_)
      have hG : ∀ k i, k ≠ 91 ∧ k ≠ 92 ∧ ¬ (197 ≤ k ∧ k < 257) → L27 k i = L k i := fun k i hk => by (rw [hL27, sJ_at, if_neg (by omega)]; try exact hG k i hk)
      have p92 : L27 92 = L22 92 := by rw [hL27, sJ_n _ _ _ (by decide)]; try exact p92
      refine g_aload_n C 3 dX9_seatByWays_59 rfl ?_
      refine g_iconst C 1 dX9_seatByWays_60 (by decide) ?_
      refine g_iload_n C 0 dX9_seatByWays_61 rfl ?_
      refine g_aload_n C 2 dX9_seatByWays_62 rfl ?_
      refine g_get C (.ref (ad 88)) 0 in_X9_seatByWays_9 (List.mem_of_getElem? (i := 1) rfl) (by decide) (ce_ways ad cs _ _) rfl (by decide) rfl rfl dX9_seatByWays_63 ?_
      have hRb : RP (M_14 191 0) (M_14 192) (M_14 191 2) (M_14 193) (M_14 194) S9 (oneR S9) := hr9
      rw [← k191_0, ← k191_2, ← q192, ← q193, ← q194] at hRb
      refine g_callVv C (n := 3) (As := [.int 1, .int r15, .ref (ad 88)]) (st := []) (k_X7_note_b l D ad cs _ _ 1 r15 hI (by omega)) gX9_seatByWays_X7_note rfl rfl rfl (by decide +kernel) ⟨Nat.le_of_ble_eq_true rfl, Nat.le_of_ble_eq_true rfl⟩ rfl (Nat.le_of_ble_eq_true rfl) ⟨Nat.zero_le _, Nat.zero_le _⟩ (by decide) (ce_rb ad cs _ _) rfl rfl dX9_seatByWays_66 (fun M29 L30 hr28 => ?_)
      obtain ⟨hr28, hI, hFr28, hGr28⟩ := hr28
      have hF : ∀ k i, k ≠ 90 ∧ k ≠ 97 ∧ ¬ (100 ≤ k ∧ k < 110) ∧ ¬ (110 ≤ k ∧ k < 120) ∧ ¬ (k = 191 ∧ i = 0) ∧ ¬ (k = 191 ∧ i = 2) ∧ k ≠ 192 ∧ k ≠ 193 ∧ k ≠ 194 → M29 k i = M k i := fun k i hk => by (rw [hFr28 k i (by omega)]; try exact hF k i hk)
      have hG : ∀ k i, k ≠ 91 ∧ k ≠ 92 ∧ ¬ (197 ≤ k ∧ k < 257) → L30 k i = L k i := fun k i hk => by (rw [hGr28 k i (by omega)]; try exact hG k i hk)
      have hV : vC M29 = vC M_14 := by rw [vC_fr (fun k hk => funext (fun i => hFr28 k i (by omega))), hV]
      have k191_0 : M29 191 0 = M_14 191 0 := (hFr28 191 0 (by omega)).trans k191_0
      have k191_2 : M29 191 2 = M29 191 2 := rfl
      have kt191_0 := congrArg Int32.toInt k191_0
      have kt191_2 := congrArg Int32.toInt k191_2
      have p91 : L30 91 = L30 91 := rfl
      have p92 : L30 92 = L22 92 := (funext (fun i => hGr28 92 i (by omega))).trans p92
      have q100 : ∀ k, 100 ≤ k ∧ k < 110 → M29 k = M_14 k := fun k hk => (funext (fun i => hFr28 k i (by omega))).trans (q100 k hk)
      have q110 : ∀ k, 110 ≤ k ∧ k < 120 → M29 k = M_14 k := fun k hk => (funext (fun i => hFr28 k i (by omega))).trans (q110 k hk)
      have q90 : M29 90 = M_14 90 := (funext (fun i => hFr28 90 i (by omega))).trans q90
      have q97 : M29 97 = M_14 97 := (funext (fun i => hFr28 97 i (by omega))).trans q97
      have q192 : M29 192 = M_14 192 := (funext (fun i => hFr28 192 i (by omega))).trans q192
      have q193 : M29 193 = M29 193 := rfl
      have q194 : M29 194 = M29 194 := rfl
      obtain ⟨np2, npw, nph⟩ := hr28
      have np0 : M29 191 0 = M21 191 0 := hFr28 191 0 (by omega)
      have np0t := congrArg Int32.toInt np0
      have nps : M29 192 = M21 192 := funext (fun i => hFr28 192 i (by omega))
      have hb9 : RP (M21 191 0) (M21 192) (M21 191 2) (M21 193) (M21 194) _ _ := hRb
      rw [← np0, ← nps] at hb9
      have rp1 := RP_note hb9 np2 npw nph
      refine g_aload_n C 3 dX9_seatByWays_69 rfl ?_
      refine g_iload_n C 0 dX9_seatByWays_70 rfl ?_
      refine g_callVv C (n := 1) (As := [.int r15]) (st := []) (k_X7_give_b l D ad cs _ _ r15 hI (by omega)) gX9_seatByWays_X7_give rfl rfl rfl (by decide +kernel) ⟨Nat.le_of_ble_eq_true rfl, Nat.le_of_ble_eq_true rfl⟩ rfl (Nat.le_of_ble_eq_true rfl) ⟨Nat.zero_le _, Nat.zero_le _⟩ (by decide) (ce_rb ad cs _ _) rfl rfl dX9_seatByWays_71 (fun M32 L33 hr31 => ?_)
      obtain ⟨hr31, hI, hFr31, hGr31⟩ := hr31
      have hF : ∀ k i, k ≠ 90 ∧ k ≠ 97 ∧ ¬ (100 ≤ k ∧ k < 110) ∧ ¬ (110 ≤ k ∧ k < 120) ∧ ¬ (k = 191 ∧ i = 0) ∧ ¬ (k = 191 ∧ i = 2) ∧ k ≠ 192 ∧ k ≠ 193 ∧ k ≠ 194 → M32 k i = M k i := fun k i hk => by (rw [hFr31 k i (by omega)]; try exact hF k i hk)
      have hG : ∀ k i, k ≠ 91 ∧ k ≠ 92 ∧ ¬ (197 ≤ k ∧ k < 257) → L33 k i = L k i := fun k i hk => by (rw [hGr31 k i trivial]; try exact hG k i hk)
      have hV : vC M32 = vC M_14 := by rw [vC_fr (fun k hk => funext (fun i => hFr31 k i (by omega))), hV]
      have k191_2 : M32 191 2 = M29 191 2 := (hFr31 191 2 (by omega)).trans k191_2
      have k191_0 : M32 191 0 = M32 191 0 := rfl
      have kt191_0 := congrArg Int32.toInt k191_0
      have kt191_2 := congrArg Int32.toInt k191_2
      have p91 : L33 91 = L30 91 := (funext (fun i => hGr31 91 i trivial)).trans p91
      have p92 : L33 92 = L22 92 := (funext (fun i => hGr31 92 i trivial)).trans p92
      have q100 : ∀ k, 100 ≤ k ∧ k < 110 → M32 k = M_14 k := fun k hk => (funext (fun i => hFr31 k i (by omega))).trans (q100 k hk)
      have q110 : ∀ k, 110 ≤ k ∧ k < 120 → M32 k = M_14 k := fun k hk => (funext (fun i => hFr31 k i (by omega))).trans (q110 k hk)
      have q90 : M32 90 = M_14 90 := (funext (fun i => hFr31 90 i (by omega))).trans q90
      have q97 : M32 97 = M_14 97 := (funext (fun i => hFr31 97 i (by omega))).trans q97
      have q192 : M32 192 = M32 192 := rfl
      have q193 : M32 193 = M29 193 := (funext (fun i => hFr31 193 i (by omega))).trans q193
      have q194 : M32 194 = M29 194 := (funext (fun i => hFr31 194 i (by omega))).trans q194
      obtain ⟨gv0, gvs⟩ := hr31
      have gv2 : M32 191 2 = M29 191 2 := hFr31 191 2 (by omega)
      have gv2t := congrArg Int32.toInt gv2
      have gv193 : M32 193 = M29 193 := funext (fun i => hFr31 193 i (by omega))
      have gv194 : M32 194 = M29 194 := funext (fun i => hFr31 194 i (by omega))
      have hb9 : RP (M29 191 0) (M29 192) (M29 191 2) (M29 193) (M29 194) _ _ := rp1
      rw [← gv2, ← gv193, ← gv194] at hb9
      have rp2 := RP_give hb9 gv0 gvs
      refine g_aload_n C 2 dX9_seatByWays_74 rfl ?_
      refine g_get C (.ref (ad 88)) 0 in_X9_seatByWays_9 (List.mem_of_getElem? (i := 1) rfl) (by decide) (ce_ways ad cs _ _) rfl (by decide) rfl rfl dX9_seatByWays_75 ?_
      refine g_get C (.ref (ad 90)) 5 in_X9_seatByWays_6 (List.mem_of_getElem? (i := 4) rfl) (by decide) (ce_poll ad cs _ _) rfl (by decide) rfl rfl dX9_seatByWays_78 ?_
      refine g_iload_n C 0 dX9_seatByWays_81 rfl ?_
      refine g_iconst C 0 dX9_seatByWays_82 (by decide) ?_
      have nr15 := ixn (x := r15) (by omega)
      refine g_zast C (by decide) (ce_pin ad cs _ _) (by rw [sI_k]; rfl) (fin' (n := 10) rfl (by omega) (by omega)) dX9_seatByWays_83 ?_
      refine g_nm (fun M34 hM34 => ?_)
      have zy35 : (0 : Int32).toInt = 0 := by decide
      have hI : IC M34 := by rw [hM34]; exact hI.st (bC_free (by decide) (by decide) (by decide) (by decide) (by decide) (by decide) (by decide))
      have hF : ∀ k i, k ≠ 90 ∧ k ≠ 97 ∧ ¬ (100 ≤ k ∧ k < 110) ∧ ¬ (110 ≤ k ∧ k < 120) ∧ ¬ (k = 191 ∧ i = 0) ∧ ¬ (k = 191 ∧ i = 2) ∧ k ≠ 192 ∧ k ≠ 193 ∧ k ≠ 194 → M34 k i = M k i := fun k i hk => by (rw [hM34, sI_at, if_neg (by omega)]; try exact hF k i hk)
      have k191_0 : M34 191 0 = M32 191 0 := by rw [hM34, sI_n _ _ _ (by decide)]; try exact k191_0
      have k191_2 : M34 191 2 = M29 191 2 := by rw [hM34, sI_n _ _ _ (by decide)]; try exact k191_2
      have q97 : M34 97 = M_14 97 := by rw [hM34, sI_n _ _ _ (by decide)]; try exact q97
      have q192 : M34 192 = M32 192 := by rw [hM34, sI_n _ _ _ (by decide)]; try exact q192
      have q193 : M34 193 = M29 193 := by rw [hM34, sI_n _ _ _ (by decide)]; try exact q193
      have q194 : M34 194 = M29 194 := by rw [hM34, sI_n _ _ _ (by decide)]; try exact q194
      have q100 : ∀ k, 100 ≤ k ∧ k < 110 → M34 k = M_14 k := fun k hk => by rw [hM34, sI_n _ _ _ (by omega)]; try exact q100 k hk
      have q110 : ∀ k, 110 ≤ k ∧ k < 120 → M34 k = M_14 k := fun k hk => by rw [hM34, sI_n _ _ _ (by omega)]; try exact q110 k hk
      have hV : vC M34 = vC M_14 := by rw [hM34, vC_z (by decide), hV]
      have h90 : M34 90 = upd (M_14 90) r15.toNatClampNeg 0 := by rw [hM34, sI_k, q90]; rfl
      have hcu := cI_upd (T := M_14 90) (b := r15.toNatClampNeg) hin9 (M 1 0).toNatClampNeg
      rw [if_pos (by omega), ← h90] at hcu
      have hNI2 : NIn (M34 90) (M 1 0).toInt := by rw [h90]; exact NIn_upd hNI _
      have q90 : M34 90 = M34 90 := rfl
      have e191 : M34 191 = M32 191 := by rw [hM34, sI_n _ _ _ (by decide)]
      have e192 : M34 192 = M32 192 := by rw [hM34, sI_n _ _ _ (by decide)]
      have e193 : M34 193 = M32 193 := by rw [hM34, sI_n _ _ _ (by decide)]
      have e194 : M34 194 = M32 194 := by rw [hM34, sI_n _ _ _ (by decide)]
      have rp3 : RP (M32 191 0) (M32 192) (M32 191 2) (M32 193) (M32 194) _ _ := rp2
      rw [← e191, ← e192, ← e193, ← e194] at rp3
      have hexS : ∃ S, wyP (M 2) (wS (vC M) pb mq (M 1 0).toNatClampNeg) (M 1 0).toNatClampNeg (M 90) S (M34 90) ∧ (S.length : Int) = x2_14.toInt + 1 ∧ RP (M34 191 0) (M34 192) (M34 191 2) (M34 193) (M34 194) S (oneR S) := ⟨S9 ++ [r15], by rw [h90]; exact wyP_app hw9 (fun K hK => fuP_ext (fun i => hI0 2 i) (by omega) hK hrl (fun _ _ _ _ _ => rfl) hfuS), by rw [List.length_append, Int.natCast_add, hl9]; rfl, by rw [oneR_app]; exact rp3⟩
      have eW : ∀ a9, a9 < (M 1 0).toNatClampNeg → ∀ b9, b9 < (M 1 0).toNatClampNeg → a9 ≠ b9 → wC M34 a9 b9 = (wS (vC M) pb mq (M 1 0).toNatClampNeg) a9 b9 := fun a9 ha9 b9 hb9 hne9 => by unfold wC; rw [q110 (110 + a9) (by omega)]; exact j14_6 a9 ha9 b9 hb9 hne9
      obtain ⟨v36, ev36⟩ : ∃ y : Int32, y = x2_14 + 1 := ⟨_, rfl⟩
      try have fv36 := fadd rfl (by decide : (1 : Int32).toInt = 1) ev36 (by omega) (by omega)
      refine g_iinc C 1 v36 [(2, .int v36), (3, .int r15), (0, .ref (ad 96)), (1, .ref (ad 191))] dX9_seatByWays_84 rfl (by rw [ev36]; rfl) (by decide) rfl ?_
      refine g_goto C 14 dX9_seatByWays_87 (by decide) ?_
      refine g_lv [0, 2, 3] [(2, .int v36), (0, .ref (ad 96)), (1, .ref (ad 191))] rfl ?_
      have k0t := congrArg Int32.toInt k191_0
      have k2t := congrArg Int32.toInt k191_2
      exact ih_14 (v36, M34, L33) ⟨by show 0 ≤ v36.toInt; omega, by show v36.toInt ≤ (M 88 4).toInt; omega, by show (M34 191 0).toInt = v36.toInt; omega, by show (M34 191 2).toInt = v36.toInt; omega, by show (M 88 4).toInt ≤ (cI (M34 90) (M 1 0).toNatClampNeg : Int) + v36.toInt; omega, by show NIn (M34 90) (M 1 0).toInt; exact hNI2, by show ∀ a9, a9 < (M 1 0).toNatClampNeg → ∀ b9, b9 < (M 1 0).toNatClampNeg → a9 ≠ b9 → wC M34 a9 b9 = (wS (vC M) pb mq (M 1 0).toNatClampNeg) a9 b9; exact eW, by show ∃ S, wyP (M 2) (wS (vC M) pb mq (M 1 0).toNatClampNeg) (M 1 0).toNatClampNeg (M 90) S (M34 90) ∧ (S.length : Int) = v36.toInt ∧ RP (M34 191 0) (M34 192) (M34 191 2) (M34 193) (M34 194) S (oneR S); obtain ⟨S8, a8, b8, c8⟩ := hexS; exact ⟨S8, a8, by omega, c8⟩, hI, hF, hG⟩ (by show (31 - v36.toInt).toNat < (31 - x2_14.toInt).toNat; omega)
    ·
      have f37 := feq rfl (by decide : ((-9) : Int32).toInt = (-9)) c18
      exact g_vret C hr ⟨(by exfalso; omega), hI, hF, hG⟩ dX9_seatByWays_36
