set_option maxHeartbeats 4000000 in
set_option maxRecDepth 100000 in
theorem k_X5_ro_a (l : Launch) (D : va_G) (ad : Nat → Nat) (cs : Nat → ClassId) (M : MI) (L : ML)  (hI : IC M) {pb : Nat → Int32} {mq : Nat} (hLY : LY pb (M 89) mq) (hMN : (M 88 3).toInt = (cnP pb mq : Int)) (hD : DP (vC M)) (hNI0 : NIn (M 90) (M 1 0).toInt) (hcn : cI (M 90) (M 1 0).toNatClampNeg = (M 1 0).toNatClampNeg) (hg0 : (M 125 0).toInt = 0) (hm0 : (M 125 2).toInt = 0) (hn1 : 1 ≤ (M 1 0).toInt) (hs1 : 1 ≤ (M 88 4).toInt) : Cv l yX5_runOff wsX5_runOff ({ frames := 3, cells := 0, slots := 0, locals := 68 }) D ad cs [.ref (ad 93), .ref (ad 125)] M L (fun M1 L1 => (RP (M1 125 0) (M1 126) (M1 125 2) (M1 127) (M1 128) (roT (vC M) (M 2) (M 90) pb mq (M 1 0).toNatClampNeg ((M 1 0).toNatClampNeg - 1) (min ((M 1 0).toNatClampNeg - 1) ((M 88 4).toNatClampNeg - 1))) (twoR (roO (vC M) (M 2) (M 90) pb mq (M 1 0).toNatClampNeg ((M 1 0).toNatClampNeg - 1)) ++ [(1, roW (vC M) (M 2) (M 90) pb mq (M 1 0).toNatClampNeg ((M 1 0).toNatClampNeg - 1))])) ∧ IC M1 ∧ (∀ k i, k ≠ 90 ∧ k ≠ 95 ∧ ¬ (k = 125 ∧ i = 0) ∧ ¬ (k = 125 ∧ i = 2) ∧ k ≠ 126 ∧ k ≠ 127 ∧ k ≠ 128 → M1 k i = M k i) ∧ ∀ k i, k ≠ 91 ∧ k ≠ 92 ∧ ¬ (131 ≤ k ∧ k < 191) → L1 k i = L k i) := by
  refine enter_v RX5 rfl [(0, .ref (ad 93)), (1, .ref (ad 125))] rfl (Nat.le_of_ble_eq_true rfl) (by decide +kernel) rfl ?_
  intro p e s m below meth c C hr
  have hF : ∀ k i, k ≠ 90 ∧ k ≠ 95 ∧ ¬ (k = 125 ∧ i = 0) ∧ ¬ (k = 125 ∧ i = 2) ∧ k ≠ 126 ∧ k ≠ 127 ∧ k ≠ 128 → M k i = M k i := fun _ _ _ => rfl
  have hG : ∀ k i, k ≠ 91 ∧ k ≠ 92 ∧ ¬ (131 ≤ k ∧ k < 191) → L k i = L k i := fun _ _ _ => rfl
  have w0 : (vC M 0 0).toInt = (M 1 0).toInt := rfl
  have w1 : (vC M 0 1).toInt = (M 3 0).toInt := rfl
  have w2 : (vC M 0 2).toInt = (M 68 0).toInt := rfl
  have w3 : (vC M 0 3).toInt = (M 81 0).toInt := rfl
  obtain ⟨y0a, y0b⟩ := (show rg 0 10 (M 1 0) from hI 1 0 rfl)
  obtain ⟨y1a, y1b⟩ := (show rg 0 60 (M 3 0) from hI 3 0 rfl)
  obtain ⟨y2a, y2b⟩ := (show rg 0 8 (M 68 0) from hI 68 0 rfl)
  obtain ⟨y3a, y3b⟩ := (show rg 0 20 (M 81 0) from hI 81 0 rfl)
  have hI0 := hI
  obtain ⟨sa, sb⟩ := (show rg 0 30 (M 88 4) from (hI 88 4).2 rfl)
  have nsd := ixn sa
  have n02 := ixn y0a
  obtain ⟨ma, mb⟩ := (show rg 0 40 (M 88 3) from (hI 88 3).1 rfl)
  have k125_0 : M 125 0 = M 125 0 := rfl
  have k125_2 : M 125 2 = M 125 2 := rfl
  have p91 : L 91 = L 91 := rfl
  have p92 : L 92 = L 92 := rfl
  have q90 : M 90 = M 90 := rfl
  have q95 : M 95 = M 95 := rfl
  have q126 : M 126 = M 126 := rfl
  have q127 : M 127 = M 127 := rfl
  have q128 : M 128 = M 128 := rfl
  have hV : vC M = vC M := rfl
  refine g_aload_n C 0 dX5_runOff_0 rfl ?_
  refine g_get C (.ref (ad 88)) 0 in_X5_runOff_5 (List.mem_of_getElem? (i := 1) rfl) (by decide) (ce_plain ad cs _ _) rfl (by decide) rfl rfl dX5_runOff_1 ?_
  refine g_get C (.ref (ad 1)) 0 in_X5_runOff_6 (List.mem_of_getElem? (i := 2) rfl) (by decide) (ce_poll ad cs _ _) rfl (by decide) rfl rfl dX5_runOff_4 ?_
  refine g_get C (.int (M 1 0)) 0 in_X5_runOff_2 (List.mem_of_getElem? (i := 3) rfl) (by decide) (ce_cand ad cs _ _) rfl (by decide) rfl rfl dX5_runOff_7 ?_
  refine g_ni (fun v1 ev1 => ?_)
  have gv1 : v1 = vC M 0 0 := ev1
  have tv1 := congrArg Int32.toInt gv1
  obtain ⟨bv1, dv1⟩ := (show rg 0 10 v1 from (by rw [ev1]; exact hI 1 0 rfl))
  refine g_iconst C 1 dX5_runOff_10 (by decide) ?_
  refine g_isub C dX5_runOff_11 ?_
  refine g_ni (fun v2 ev2 => ?_)
  try have fv2 := fsub rfl (by decide : (1 : Int32).toInt = 1) ev2 (by omega) (by omega)
  refine g_istore_n C [(2, .int v2), (0, .ref (ad 93)), (1, .ref (ad 125))] dX5_runOff_12 (by decide) rfl ?_
  refine g_iconst C 0 dX5_runOff_13 (by decide) ?_
  refine g_istore_n C [(3, .int 0), (2, .int v2), (0, .ref (ad 93)), (1, .ref (ad 125))] dX5_runOff_14 (by decide) rfl ?_
  have zy3 : (0 : Int32).toInt = 0 := by decide
  refine g_loop (α := Int32 × MI × ML) (fun a => (11 - a.1.toInt).toNat) (fun a => (0 ≤ a.1.toInt) ∧ (a.1.toInt ≤ (M 1 0).toInt - 1) ∧ ((a.2.1 125 2).toInt = a.1.toInt) ∧ ((a.2.1 125 0).toInt = 0) ∧ (a.1.toInt + (cI (a.2.1 90) (M 1 0).toNatClampNeg : Int) = (M 1 0).toInt ∧ NIn (a.2.1 90) (M 1 0).toInt) ∧ (a.2.1 90 = roI (vC M) (M 2) (M 90) pb mq (M 1 0).toNatClampNeg a.1.toNatClampNeg) ∧ (RP (a.2.1 125 0) (a.2.1 126) (a.2.1 125 2) (a.2.1 127) (a.2.1 128) [] (twoR (roO (vC M) (M 2) (M 90) pb mq (M 1 0).toNatClampNeg a.1.toNatClampNeg))) ∧ (∀ j : Nat, j < a.1.toNatClampNeg → a.2.1 95 j = roC (vC M) (M 2) (M 90) pb mq (M 1 0).toNatClampNeg j) ∧ IC a.2.1 ∧ (∀ k i, k ≠ 90 ∧ k ≠ 95 ∧ ¬ (k = 125 ∧ i = 0) ∧ ¬ (k = 125 ∧ i = 2) ∧ k ≠ 126 ∧ k ≠ 127 ∧ k ≠ 128 → a.2.1 k i = M k i) ∧ (∀ k i, k ≠ 91 ∧ k ≠ 92 ∧ ¬ (131 ≤ k ∧ k < 191) → a.2.2 k i = L k i)) (fun a => a.2.1) (fun a => a.2.2) (fun a => [(3, .int a.1), (2, .int v2), (0, .ref (ad 93)), (1, .ref (ad 125))]) ((0 : Int32), M, L) ⟨by show 0 ≤ (0 : Int32).toInt; omega, by show (0 : Int32).toInt ≤ (M 1 0).toInt - 1; omega, by show (M 125 2).toInt = (0 : Int32).toInt; exact hm0, by show (M 125 0).toInt = 0; exact hg0, by show (0 : Int32).toInt + (cI (M 90) (M 1 0).toNatClampNeg : Int) = (M 1 0).toInt ∧ NIn (M 90) (M 1 0).toInt; exact ⟨by rw [hcn]; show (0 : Int32).toInt + _ = _; omega, hNI0⟩, by show M 90 = roI (vC M) (M 2) (M 90) pb mq (M 1 0).toNatClampNeg (0 : Int32).toNatClampNeg; rfl, by show RP (M 125 0) (M 126) (M 125 2) (M 127) (M 128) [] (twoR (roO (vC M) (M 2) (M 90) pb mq (M 1 0).toNatClampNeg (0 : Int32).toNatClampNeg)); exact RP_0 hg0 hm0, by show ∀ j : Nat, j < (0 : Int32).toNatClampNeg → M 95 j = roC (vC M) (M 2) (M 90) pb mq (M 1 0).toNatClampNeg j; intro j hj; exact absurd hj (by show ¬ j < 0; omega), hI, hF, hG⟩ rfl rfl rfl ?_
  rintro ⟨x3_15, M_15, L_15⟩ ⟨j15_0, j15_1, j15_2, j15_3, j15_4, j15_5, j15_6, j15_7, hI, hF, hG⟩ ih_15
  dsimp only at j15_0 j15_1 j15_2 j15_3 j15_4 j15_5 j15_6 j15_7 hI hF hG ih_15 ⊢
  have k125_0 : M_15 125 0 = M_15 125 0 := rfl
  have k125_2 : M_15 125 2 = M_15 125 2 := rfl
  have hV : vC M_15 = vC M_15 := rfl
  have p91 : L_15 91 = L_15 91 := rfl
  have p92 : L_15 92 = L_15 92 := rfl
  have q90 : M_15 90 = M_15 90 := rfl
  have q95 : M_15 95 = M_15 95 := rfl
  have q126 : M_15 126 = M_15 126 := rfl
  have q127 : M_15 127 = M_15 127 := rfl
  have q128 : M_15 128 = M_15 128 := rfl
  obtain ⟨hci9, hNI⟩ := j15_4
  have n3_ := ixn (x := x3_15) (by omega)
  refine g_iload_n C 0 dX5_runOff_15 rfl ?_
  refine g_iload_n C 1 dX5_runOff_16 rfl ?_
  refine g_icmp_ge C 80 dX5_runOff_17 (by decide) (fun c4 => ?_) (fun c4 => ?_)
  ·
    have f5 := fle rfl rfl c4
    have hr9 : x3_15.toNatClampNeg = (M 1 0).toNatClampNeg - 1 := by omega
    refine g_aload_n C 2 dX5_runOff_80 rfl ?_
    refine g_get C (.ref (ad 88)) 0 in_X5_runOff_5 (List.mem_of_getElem? (i := 1) rfl) (by decide) (ce_plain ad cs _ _) rfl (by decide) rfl rfl dX5_runOff_81 ?_
    have hF0 := hF
    refine g_callVv C (n := 0) (As := []) (st := []) (k_X6_tallyFirstIn l D ad cs _ _  hI ) gX5_runOff_X6_tallyFirstIn rfl rfl rfl (by decide +kernel) ⟨Nat.le_of_ble_eq_true rfl, Nat.le_of_ble_eq_true rfl⟩ rfl (Nat.le_of_ble_eq_true rfl) ⟨Nat.zero_le _, Nat.zero_le _⟩ (by decide) (ce_poll ad cs _ _) rfl rfl dX5_runOff_84 (fun M7 L8 hr6 => ?_)
    obtain ⟨hr6, hI, hFr6, hGr6⟩ := hr6
    have hF : ∀ k i, k ≠ 90 ∧ k ≠ 95 ∧ ¬ (k = 125 ∧ i = 0) ∧ ¬ (k = 125 ∧ i = 2) ∧ k ≠ 126 ∧ k ≠ 127 ∧ k ≠ 128 → M7 k i = M k i := fun k i hk => by (rw [hFr6 k i trivial]; try exact hF k i hk)
    have hG : ∀ k i, k ≠ 91 ∧ k ≠ 92 ∧ ¬ (131 ≤ k ∧ k < 191) → L8 k i = L k i := fun k i hk => by (rw [hGr6 k i (by omega)]; try exact hG k i hk)
    have hV : vC M7 = vC M_15 := by rw [vC_fr (fun k hk => funext (fun i => hFr6 k i trivial)), hV]
    have k125_0 : M7 125 0 = M_15 125 0 := (hFr6 125 0 trivial).trans k125_0
    have k125_2 : M7 125 2 = M_15 125 2 := (hFr6 125 2 trivial).trans k125_2
    have kt125_0 := congrArg Int32.toInt k125_0
    have kt125_2 := congrArg Int32.toInt k125_2
    have p91 : L8 91 = L8 91 := rfl
    have p92 : L8 92 = L8 92 := rfl
    have q90 : M7 90 = M_15 90 := (funext (fun i => hFr6 90 i trivial)).trans q90
    have q95 : M7 95 = M_15 95 := (funext (fun i => hFr6 95 i trivial)).trans q95
    have q126 : M7 126 = M_15 126 := (funext (fun i => hFr6 126 i trivial)).trans q126
    have q127 : M7 127 = M_15 127 := (funext (fun i => hFr6 127 i trivial)).trans q127
    have q128 : M7 128 = M_15 128 := (funext (fun i => hFr6 128 i trivial)).trans q128
    have htf := hr6
    rw [show vC M_15 = vC M from vC_fr (fun k hk => funext (fun i => hF0 k i (by omega))), show M_15 90 = (roI (vC M) (M 2) (M 90) pb mq (M 1 0).toNatClampNeg x3_15.toNatClampNeg) from j15_5, show M_15 89 = M 89 from funext (fun i => hF0 89 i (by omega)), show M_15 88 3 = M 88 3 from hF0 88 3 (by omega), foKP hLY (by have := ixn (x := M 88 3) (by omega); omega)] at htf
    refine g_aload_n C 2 dX5_runOff_87 rfl ?_
    refine g_get C (.ref (ad 88)) 0 in_X5_runOff_5 (List.mem_of_getElem? (i := 1) rfl) (by decide) (ce_plain ad cs _ _) rfl (by decide) rfl rfl dX5_runOff_88 ?_
    refine g_callVi C (n := 0) (As := []) (st := []) (k_X6_greatestIn l D ad cs _ _  hI (by rw [show vC M7 = vC M from vC_fr (fun k hk => funext (fun i => hF k i (by omega)))]; exact hD)) gX5_runOff_X6_greatestIn rfl rfl rfl (by decide +kernel) ⟨Nat.le_of_ble_eq_true rfl, Nat.le_of_ble_eq_true rfl⟩ rfl (Nat.le_of_ble_eq_true rfl) ⟨Nat.zero_le _, Nat.zero_le _⟩ (by decide) (ce_poll ad cs _ _) rfl rfl dX5_runOff_91 (fun r9 M10 L11 hr9 => ?_)
    obtain ⟨hq1, hq2, hr9⟩ := hr9
    obtain rfl := hq1.symm
    obtain rfl := hq2.symm
    obtain ⟨br9, ir9, xr9, yr9⟩ := hr9
    have w9 : (vC M7 0 0).toInt = (M 1 0).toInt := congrArg Int32.toInt (hF 1 0 (by omega))
    have hc90 : M7 90 = M_15 90 := q90
    have hpos : 0 < cI (M_15 90) (M 1 0).toNatClampNeg := by omega
    obtain ⟨c9, hc9, hi9⟩ := cI_ex _ hpos
    have hne9 := xr9 ⟨c9, by omega, by rw [hc90]; exact hi9⟩
    have nr9 := ixn (x := r9) (by omega)
    have hin9 := ir9 (by omega)
    rw [hc90] at hin9
    have hlt9 := hNI r9.toNatClampNeg (by omega) hin9
    rw [show M7 2 = M 2 from funext (fun i => hF 2 i (by omega)), hc90, show M7 1 0 = M 1 0 from hF 1 0 (by omega)] at yr9
    rw [show M_15 90 = roI (vC M) (M 2) (M 90) pb mq (M 1 0).toNatClampNeg x3_15.toNatClampNeg from j15_5] at yr9
    have er9 : r9 = roW (vC M) (M 2) (M 90) pb mq (M 1 0).toNatClampNeg x3_15.toNatClampNeg := yr9.trans (grF_ext (row := M 2) (D1 := fun _ => 1) (fun i => hI0 2 i) (fun _ _ => rfl) (fun c hc => (htf c hc).1) (fun c hc => (htf c hc).2) (M 1 0).toNatClampNeg).1
    refine g_istore_n C [(3, .int r9), (2, .int v2), (0, .ref (ad 93)), (1, .ref (ad 125))] dX5_runOff_94 (by decide) rfl ?_
    refine g_aload_n C 3 dX5_runOff_95 rfl ?_
    refine g_iconst C 1 dX5_runOff_96 (by decide) ?_
    refine g_iload_n C 0 dX5_runOff_97 rfl ?_
    refine g_aload_n C 2 dX5_runOff_98 rfl ?_
    refine g_get C (.ref (ad 88)) 0 in_X5_runOff_5 (List.mem_of_getElem? (i := 1) rfl) (by decide) (ce_plain ad cs _ _) rfl (by decide) rfl rfl dX5_runOff_99 ?_
    have hRb : RP (M_15 125 0) (M_15 126) (M_15 125 2) (M_15 127) (M_15 128) [] (twoR (roO (vC M) (M 2) (M 90) pb mq (M 1 0).toNatClampNeg x3_15.toNatClampNeg)) := j15_6
    rw [← k125_0, ← k125_2, ← q126, ← q127, ← q128] at hRb
    refine g_callVv C (n := 3) (As := [.int 1, .int r9, .ref (ad 88)]) (st := []) (k_X7_note_a l D ad cs _ _ 1 r9 hI (by omega)) gX5_runOff_X7_note rfl rfl rfl (by decide +kernel) ⟨Nat.le_of_ble_eq_true rfl, Nat.le_of_ble_eq_true rfl⟩ rfl (Nat.le_of_ble_eq_true rfl) ⟨Nat.zero_le _, Nat.zero_le _⟩ (by decide) (ce_ra ad cs _ _) rfl rfl dX5_runOff_102 (fun M13 L14 hr12 => ?_)
    obtain ⟨hr12, hI, hFr12, hGr12⟩ := hr12
    have hF : ∀ k i, k ≠ 90 ∧ k ≠ 95 ∧ ¬ (k = 125 ∧ i = 0) ∧ ¬ (k = 125 ∧ i = 2) ∧ k ≠ 126 ∧ k ≠ 127 ∧ k ≠ 128 → M13 k i = M k i := fun k i hk => by (rw [hFr12 k i (by omega)]; try exact hF k i hk)
    have hG : ∀ k i, k ≠ 91 ∧ k ≠ 92 ∧ ¬ (131 ≤ k ∧ k < 191) → L14 k i = L k i := fun k i hk => by (rw [hGr12 k i (by omega)]; try exact hG k i hk)
    have hV : vC M13 = vC M_15 := by rw [vC_fr (fun k hk => funext (fun i => hFr12 k i (by omega))), hV]
    have k125_0 : M13 125 0 = M_15 125 0 := (hFr12 125 0 (by omega)).trans k125_0
    have k125_2 : M13 125 2 = M13 125 2 := rfl
    have kt125_0 := congrArg Int32.toInt k125_0
    have kt125_2 := congrArg Int32.toInt k125_2
    have p91 : L14 91 = L8 91 := (funext (fun i => hGr12 91 i (by omega))).trans p91
    have p92 : L14 92 = L8 92 := (funext (fun i => hGr12 92 i (by omega))).trans p92
    have q90 : M13 90 = M_15 90 := (funext (fun i => hFr12 90 i (by omega))).trans q90
    have q95 : M13 95 = M_15 95 := (funext (fun i => hFr12 95 i (by omega))).trans q95
    have q126 : M13 126 = M_15 126 := (funext (fun i => hFr12 126 i (by omega))).trans q126
    have q127 : M13 127 = M13 127 := rfl
    have q128 : M13 128 = M13 128 := rfl
    obtain ⟨np2, npw, nph⟩ := hr12
    have np0 : M13 125 0 = M7 125 0 := hFr12 125 0 (by omega)
    have np0t := congrArg Int32.toInt np0
    have nps : M13 126 = M7 126 := funext (fun i => hFr12 126 i (by omega))
    have hb9 : RP (M7 125 0) (M7 126) (M7 125 2) (M7 127) (M7 128) _ _ := hRb
    rw [← np0, ← nps] at hb9
    have rp1 := RP_note hb9 np2 npw nph
    refine g_aload_n C 3 dX5_runOff_105 rfl ?_
    refine g_iload_n C 0 dX5_runOff_106 rfl ?_
    refine g_callVv C (n := 1) (As := [.int r9]) (st := []) (k_X7_give_a l D ad cs _ _ r9 hI (by omega)) gX5_runOff_X7_give rfl rfl rfl (by decide +kernel) ⟨Nat.le_of_ble_eq_true rfl, Nat.le_of_ble_eq_true rfl⟩ rfl (Nat.le_of_ble_eq_true rfl) ⟨Nat.zero_le _, Nat.zero_le _⟩ (by decide) (ce_ra ad cs _ _) rfl rfl dX5_runOff_107 (fun M16 L17 hr15 => ?_)
    obtain ⟨hr15, hI, hFr15, hGr15⟩ := hr15
    have hF : ∀ k i, k ≠ 90 ∧ k ≠ 95 ∧ ¬ (k = 125 ∧ i = 0) ∧ ¬ (k = 125 ∧ i = 2) ∧ k ≠ 126 ∧ k ≠ 127 ∧ k ≠ 128 → M16 k i = M k i := fun k i hk => by (rw [hFr15 k i (by omega)]; try exact hF k i hk)
    have hG : ∀ k i, k ≠ 91 ∧ k ≠ 92 ∧ ¬ (131 ≤ k ∧ k < 191) → L17 k i = L k i := fun k i hk => by (rw [hGr15 k i trivial]; try exact hG k i hk)
    have hV : vC M16 = vC M_15 := by rw [vC_fr (fun k hk => funext (fun i => hFr15 k i (by omega))), hV]
    have k125_2 : M16 125 2 = M13 125 2 := (hFr15 125 2 (by omega)).trans k125_2
    have k125_0 : M16 125 0 = M16 125 0 := rfl
    have kt125_0 := congrArg Int32.toInt k125_0
    have kt125_2 := congrArg Int32.toInt k125_2
    have p91 : L17 91 = L8 91 := (funext (fun i => hGr15 91 i trivial)).trans p91
    have p92 : L17 92 = L8 92 := (funext (fun i => hGr15 92 i trivial)).trans p92
    have q90 : M16 90 = M_15 90 := (funext (fun i => hFr15 90 i (by omega))).trans q90
    have q95 : M16 95 = M_15 95 := (funext (fun i => hFr15 95 i (by omega))).trans q95
    have q126 : M16 126 = M16 126 := rfl
    have q127 : M16 127 = M13 127 := (funext (fun i => hFr15 127 i (by omega))).trans q127
    have q128 : M16 128 = M13 128 := (funext (fun i => hFr15 128 i (by omega))).trans q128
    obtain ⟨gv0, gvs⟩ := hr15
    have gv2 : M16 125 2 = M13 125 2 := hFr15 125 2 (by omega)
    have gv2t := congrArg Int32.toInt gv2
    have gv127 : M16 127 = M13 127 := funext (fun i => hFr15 127 i (by omega))
    have gv128 : M16 128 = M13 128 := funext (fun i => hFr15 128 i (by omega))
    have hb9 : RP (M13 125 0) (M13 126) (M13 125 2) (M13 127) (M13 128) _ _ := rp1
    rw [← gv2, ← gv127, ← gv128] at hb9
    have rp2 := RP_give hb9 gv0 gvs
    refine g_iconst C 1 dX5_runOff_110 (by decide) ?_
    refine g_istore C [(4, .int 1), (3, .int r9), (2, .int v2), (0, .ref (ad 93)), (1, .ref (ad 125))] dX5_runOff_111 (by decide) rfl ?_
    have zy18 : (1 : Int32).toInt = 1 := by decide
    have k0t := congrArg Int32.toInt k125_0
    have rpw := rp2
    rw [er9] at rpw
    refine g_loop (α := Int32 × MI × ML) (fun a => (32 - a.1.toInt).toNat) (fun a => (1 ≤ a.1.toInt) ∧ (a.1.toInt ≤ x3_15.toInt + 1) ∧ ((a.2.1 125 0).toInt = a.1.toInt) ∧ (RP (a.2.1 125 0) (a.2.1 126) (a.2.1 125 2) (a.2.1 127) (a.2.1 128) (roT (vC M) (M 2) (M 90) pb mq (M 1 0).toNatClampNeg x3_15.toNatClampNeg (a.1.toInt - 1).toNat) (twoR (roO (vC M) (M 2) (M 90) pb mq (M 1 0).toNatClampNeg x3_15.toNatClampNeg) ++ [(1, roW (vC M) (M 2) (M 90) pb mq (M 1 0).toNatClampNeg x3_15.toNatClampNeg)])) ∧ (∀ j : Nat, j < x3_15.toNatClampNeg → a.2.1 95 j = roC (vC M) (M 2) (M 90) pb mq (M 1 0).toNatClampNeg j) ∧ (a.1.toInt ≤ (M 88 4).toInt) ∧ IC a.2.1 ∧ (∀ k i, k ≠ 90 ∧ k ≠ 95 ∧ ¬ (k = 125 ∧ i = 0) ∧ ¬ (k = 125 ∧ i = 2) ∧ k ≠ 126 ∧ k ≠ 127 ∧ k ≠ 128 → a.2.1 k i = M k i) ∧ (∀ k i, k ≠ 91 ∧ k ≠ 92 ∧ ¬ (131 ≤ k ∧ k < 191) → a.2.2 k i = L k i)) (fun a => a.2.1) (fun a => a.2.2) (fun a => [(4, .int a.1), (3, .int r9), (2, .int v2), (0, .ref (ad 93)), (1, .ref (ad 125))]) ((1 : Int32), M16, L17) ⟨by show 1 ≤ (1 : Int32).toInt; omega, by show (1 : Int32).toInt ≤ x3_15.toInt + 1; omega, by show (M16 125 0).toInt = (1 : Int32).toInt; omega, by show RP (M16 125 0) (M16 126) (M16 125 2) (M16 127) (M16 128) (roT (vC M) (M 2) (M 90) pb mq (M 1 0).toNatClampNeg x3_15.toNatClampNeg ((1 : Int32).toInt - 1).toNat) (twoR (roO (vC M) (M 2) (M 90) pb mq (M 1 0).toNatClampNeg x3_15.toNatClampNeg) ++ [(1, roW (vC M) (M 2) (M 90) pb mq (M 1 0).toNatClampNeg x3_15.toNatClampNeg)]); exact rpw, by show ∀ j : Nat, j < x3_15.toNatClampNeg → M16 95 j = roC (vC M) (M 2) (M 90) pb mq (M 1 0).toNatClampNeg j; intro j hj; rw [congrFun q95 j]; exact j15_7 j hj, by show (1 : Int32).toInt ≤ (M 88 4).toInt; omega, hI, hF, hG⟩ rfl rfl rfl ?_
    rintro ⟨x4_113, M_113, L_113⟩ ⟨j113_0, j113_1, j113_2, j113_3, j113_4, j113_5, hI, hF, hG⟩ ih_113
    dsimp only at j113_0 j113_1 j113_2 j113_3 j113_4 j113_5 hI hF hG ih_113 ⊢
    have k125_0 : M_113 125 0 = M_113 125 0 := rfl
    have k125_2 : M_113 125 2 = M_113 125 2 := rfl
    have hV : vC M_113 = vC M_113 := rfl
    have p91 : L_113 91 = L_113 91 := rfl
    have p92 : L_113 92 = L_113 92 := rfl
    have q90 : M_113 90 = M_113 90 := rfl
    have q95 : M_113 95 = M_113 95 := rfl
    have q126 : M_113 126 = M_113 126 := rfl
    have q127 : M_113 127 = M_113 127 := rfl
    have q128 : M_113 128 = M_113 128 := rfl
    refine g_iload C 0 dX5_runOff_113 rfl ?_
    refine g_aload_n C 3 dX5_runOff_115 rfl ?_
    refine g_get C (.ref (ad 88)) 0 in_X5_runOff_5 (List.mem_of_getElem? (i := 1) rfl) (by decide) (ce_plain ad cs _ _) rfl (by decide) rfl rfl dX5_runOff_116 ?_
    refine g_get C (.int (M_113 88 4)) 4 in_X5_runOff_6 (List.mem_of_getElem? (i := 6) rfl) (by decide) (ce_poll ad cs _ _) rfl (by decide) rfl rfl dX5_runOff_119 ?_
    refine g_ni (fun v19 ev19 => ?_)
    have gv19 : v19 = M 88 4 := ev19.trans (hF 88 4 (by omega))
    have tv19 := congrArg Int32.toInt gv19
    obtain ⟨bv19, dv19⟩ := (show rg 0 30 v19 from (by rw [ev19]; exact (hI 88 4).2 rfl))
    refine g_icmp_ge C 150 dX5_runOff_122 (by decide) (fun c20 => ?_) (fun c20 => ?_)
    ·
      have f21 := fle rfl rfl c20
      exact g_vret C hr ⟨(by have ej : (x4_113.toInt - 1).toNat = min ((M 1 0).toNatClampNeg - 1) ((M 88 4).toNatClampNeg - 1) := (by omega); rw [ej, hr9] at j113_3; exact j113_3), hI, hF, hG⟩ dX5_runOff_150
    ·
      have f22 := fnle rfl rfl c20
      refine g_iload C 0 dX5_runOff_125 rfl ?_
      refine g_iload_n C 2 dX5_runOff_127 rfl ?_
      refine g_icmp_gt C 150 dX5_runOff_128 (by decide) (fun c23 => ?_) (fun c23 => ?_)
      ·
        have f24 := fl rfl rfl c23
        exact g_vret C hr ⟨(by have ej : (x4_113.toInt - 1).toNat = min ((M 1 0).toNatClampNeg - 1) ((M 88 4).toNatClampNeg - 1) := (by omega); rw [ej, hr9] at j113_3; exact j113_3), hI, hF, hG⟩ dX5_runOff_150
      ·
        have f25 := fnl rfl rfl c23
        refine g_aload_n C 4 dX5_runOff_131 rfl ?_
        refine g_aload_n C 3 dX5_runOff_132 rfl ?_
        refine g_get C (.ref (ad 95)) 2 in_X5_runOff_5 (List.mem_of_getElem? (i := 5) rfl) (by decide) (ce_plain ad cs _ _) rfl (by decide) rfl rfl dX5_runOff_133 ?_
        refine g_iload_n C 2 dX5_runOff_136 rfl ?_
        refine g_iload C 0 dX5_runOff_137 rfl ?_
        refine g_isub C dX5_runOff_139 ?_
        refine g_ni (fun v26 ev26 => ?_)
        try have fv26 := fsub rfl rfl ev26 (by omega) (by omega)
        have nv26 := ixn (x := v26) (by omega)
        refine g_iald C (by decide) (ce_louts ad cs _ _) (fin' (n := 10) rfl (by omega) (by omega)) dX5_runOff_140 ?_
        refine g_ni (fun v27 ev27 => ?_)
        have gv27 : v27 = M_113 95 v26.toNatClampNeg := ev27.trans (congrFun q95 _)
        have tv27 := congrArg Int32.toInt gv27
        have n4_ := ixn (x := x4_113) (by omega)
        have gv27 : v27 = M_113 95 (x3_15.toNatClampNeg - x4_113.toNatClampNeg) := by rw [ev27, show v26.toNatClampNeg = x3_15.toNatClampNeg - x4_113.toNatClampNeg by (have := ixn (x := v26) (by omega); omega)]
        refine g_callVv C (n := 1) (As := [.int v27]) (st := []) (k_X7_give_a l D ad cs _ _ v27 hI (by omega)) gX5_runOff_X7_give rfl rfl rfl (by decide +kernel) ⟨Nat.le_of_ble_eq_true rfl, Nat.le_of_ble_eq_true rfl⟩ rfl (Nat.le_of_ble_eq_true rfl) ⟨Nat.zero_le _, Nat.zero_le _⟩ (by decide) (ce_ra ad cs _ _) rfl rfl dX5_runOff_141 (fun M29 L30 hr28 => ?_)
        obtain ⟨hr28, hI, hFr28, hGr28⟩ := hr28
        have hF : ∀ k i, k ≠ 90 ∧ k ≠ 95 ∧ ¬ (k = 125 ∧ i = 0) ∧ ¬ (k = 125 ∧ i = 2) ∧ k ≠ 126 ∧ k ≠ 127 ∧ k ≠ 128 → M29 k i = M k i := fun k i hk => by (rw [hFr28 k i (by omega)]; try exact hF k i hk)
        have hG : ∀ k i, k ≠ 91 ∧ k ≠ 92 ∧ ¬ (131 ≤ k ∧ k < 191) → L30 k i = L k i := fun k i hk => by (rw [hGr28 k i trivial]; try exact hG k i hk)
        have hV : vC M29 = vC M_113 := by rw [vC_fr (fun k hk => funext (fun i => hFr28 k i (by omega))), hV]
        have k125_2 : M29 125 2 = M_113 125 2 := (hFr28 125 2 (by omega)).trans k125_2
        have k125_0 : M29 125 0 = M29 125 0 := rfl
        have kt125_0 := congrArg Int32.toInt k125_0
        have kt125_2 := congrArg Int32.toInt k125_2
        have p91 : L30 91 = L_113 91 := (funext (fun i => hGr28 91 i trivial)).trans p91
        have p92 : L30 92 = L_113 92 := (funext (fun i => hGr28 92 i trivial)).trans p92
        have q90 : M29 90 = M_113 90 := (funext (fun i => hFr28 90 i (by omega))).trans q90
        have q95 : M29 95 = M_113 95 := (funext (fun i => hFr28 95 i (by omega))).trans q95
        have q126 : M29 126 = M29 126 := rfl
        have q127 : M29 127 = M_113 127 := (funext (fun i => hFr28 127 i (by omega))).trans q127
        have q128 : M29 128 = M_113 128 := (funext (fun i => hFr28 128 i (by omega))).trans q128
        obtain ⟨gv0, gvs⟩ := hr28
        have gv2 : M29 125 2 = M_113 125 2 := hFr28 125 2 (by omega)
        have gv2t := congrArg Int32.toInt gv2
        have gv127 : M29 127 = M_113 127 := funext (fun i => hFr28 127 i (by omega))
        have gv128 : M29 128 = M_113 128 := funext (fun i => hFr28 128 i (by omega))
        have hb9 : RP (M_113 125 0) (M_113 126) (M_113 125 2) (M_113 127) (M_113 128) _ _ := j113_3
        rw [← gv2, ← gv127, ← gv128] at hb9
        have rp2 := RP_give hb9 gv0 gvs
        have rpz := rp2
        rw [gv27] at rpz
        obtain ⟨v31, ev31⟩ : ∃ y : Int32, y = x4_113 + 1 := ⟨_, rfl⟩
        try have fv31 := fadd rfl (by decide : (1 : Int32).toInt = 1) ev31 (by omega) (by omega)
        refine g_iinc C 0 v31 [(4, .int v31), (3, .int r9), (2, .int v2), (0, .ref (ad 93)), (1, .ref (ad 125))] dX5_runOff_144 rfl (by rw [ev31]; rfl) (by decide) rfl ?_
        refine g_goto C 113 dX5_runOff_147 (by decide) ?_
        have k0t := congrArg Int32.toInt k125_0
        have nv := ixn (x := x4_113) (by omega)
        have iv : (v31.toInt - 1).toNat = (x4_113.toInt - 1).toNat + 1 := by omega
        have eR : RP (M29 125 0) (M29 126) (M29 125 2) (M29 127) (M29 128) (roT (vC M) (M 2) (M 90) pb mq (M 1 0).toNatClampNeg x3_15.toNatClampNeg (v31.toInt - 1).toNat) (twoR (roO (vC M) (M 2) (M 90) pb mq (M 1 0).toNatClampNeg x3_15.toNatClampNeg) ++ [(1, roW (vC M) (M 2) (M 90) pb mq (M 1 0).toNatClampNeg x3_15.toNatClampNeg)]) := by
          rw [iv]
          show RP (M29 125 0) (M29 126) (M29 125 2) (M29 127) (M29 128) (roT (vC M) (M 2) (M 90) pb mq (M 1 0).toNatClampNeg x3_15.toNatClampNeg (x4_113.toInt - 1).toNat ++ [roC (vC M) (M 2) (M 90) pb mq (M 1 0).toNatClampNeg (x3_15.toNatClampNeg - 1 - (x4_113.toInt - 1).toNat)]) (twoR (roO (vC M) (M 2) (M 90) pb mq (M 1 0).toNatClampNeg x3_15.toNatClampNeg) ++ [(1, roW (vC M) (M 2) (M 90) pb mq (M 1 0).toNatClampNeg x3_15.toNatClampNeg)])
          rw [show x3_15.toNatClampNeg - 1 - (x4_113.toInt - 1).toNat = (x3_15.toNatClampNeg - x4_113.toNatClampNeg) by omega, ← j113_4 (x3_15.toNatClampNeg - x4_113.toNatClampNeg) (by omega)]
          exact rpz
        exact ih_113 (v31, M29, L30) ⟨by show 1 ≤ v31.toInt; omega, by show v31.toInt ≤ x3_15.toInt + 1; omega, by show (M29 125 0).toInt = v31.toInt; omega, by show RP (M29 125 0) (M29 126) (M29 125 2) (M29 127) (M29 128) (roT (vC M) (M 2) (M 90) pb mq (M 1 0).toNatClampNeg x3_15.toNatClampNeg (v31.toInt - 1).toNat) (twoR (roO (vC M) (M 2) (M 90) pb mq (M 1 0).toNatClampNeg x3_15.toNatClampNeg) ++ [(1, roW (vC M) (M 2) (M 90) pb mq (M 1 0).toNatClampNeg x3_15.toNatClampNeg)]); exact eR, by show ∀ j : Nat, j < x3_15.toNatClampNeg → M29 95 j = roC (vC M) (M 2) (M 90) pb mq (M 1 0).toNatClampNeg j; intro j hj; rw [congrFun q95 j]; exact j113_4 j hj, by show v31.toInt ≤ (M 88 4).toInt; omega, hI, hF, hG⟩ (by show (32 - v31.toInt).toNat < (32 - x4_113.toInt).toNat; omega)
  ·
    have f32 := fnle rfl rfl c4
    refine g_aload_n C 2 dX5_runOff_20 rfl ?_
    refine g_get C (.ref (ad 88)) 0 in_X5_runOff_5 (List.mem_of_getElem? (i := 1) rfl) (by decide) (ce_plain ad cs _ _) rfl (by decide) rfl rfl dX5_runOff_21 ?_
    have hF0 := hF
    refine g_callVv C (n := 0) (As := []) (st := []) (k_X6_tallyFirstIn l D ad cs _ _  hI ) gX5_runOff_X6_tallyFirstIn rfl rfl rfl (by decide +kernel) ⟨Nat.le_of_ble_eq_true rfl, Nat.le_of_ble_eq_true rfl⟩ rfl (Nat.le_of_ble_eq_true rfl) ⟨Nat.zero_le _, Nat.zero_le _⟩ (by decide) (ce_poll ad cs _ _) rfl rfl dX5_runOff_24 (fun M34 L35 hr33 => ?_)
    obtain ⟨hr33, hI, hFr33, hGr33⟩ := hr33
    have hF : ∀ k i, k ≠ 90 ∧ k ≠ 95 ∧ ¬ (k = 125 ∧ i = 0) ∧ ¬ (k = 125 ∧ i = 2) ∧ k ≠ 126 ∧ k ≠ 127 ∧ k ≠ 128 → M34 k i = M k i := fun k i hk => by (rw [hFr33 k i trivial]; try exact hF k i hk)
    have hG : ∀ k i, k ≠ 91 ∧ k ≠ 92 ∧ ¬ (131 ≤ k ∧ k < 191) → L35 k i = L k i := fun k i hk => by (rw [hGr33 k i (by omega)]; try exact hG k i hk)
    have hV : vC M34 = vC M_15 := by rw [vC_fr (fun k hk => funext (fun i => hFr33 k i trivial)), hV]
    have k125_0 : M34 125 0 = M_15 125 0 := (hFr33 125 0 trivial).trans k125_0
    have k125_2 : M34 125 2 = M_15 125 2 := (hFr33 125 2 trivial).trans k125_2
    have kt125_0 := congrArg Int32.toInt k125_0
    have kt125_2 := congrArg Int32.toInt k125_2
    have p91 : L35 91 = L35 91 := rfl
    have p92 : L35 92 = L35 92 := rfl
    have q90 : M34 90 = M_15 90 := (funext (fun i => hFr33 90 i trivial)).trans q90
    have q95 : M34 95 = M_15 95 := (funext (fun i => hFr33 95 i trivial)).trans q95
    have q126 : M34 126 = M_15 126 := (funext (fun i => hFr33 126 i trivial)).trans q126
    have q127 : M34 127 = M_15 127 := (funext (fun i => hFr33 127 i trivial)).trans q127
    have q128 : M34 128 = M_15 128 := (funext (fun i => hFr33 128 i trivial)).trans q128
    have htf := hr33
    rw [show vC M_15 = vC M from vC_fr (fun k hk => funext (fun i => hF0 k i (by omega))), show M_15 90 = (roI (vC M) (M 2) (M 90) pb mq (M 1 0).toNatClampNeg x3_15.toNatClampNeg) from j15_5, show M_15 89 = M 89 from funext (fun i => hF0 89 i (by omega)), show M_15 88 3 = M 88 3 from hF0 88 3 (by omega), foKP hLY (by have := ixn (x := M 88 3) (by omega); omega)] at htf
    refine g_aload_n C 2 dX5_runOff_27 rfl ?_
    refine g_get C (.ref (ad 88)) 0 in_X5_runOff_5 (List.mem_of_getElem? (i := 1) rfl) (by decide) (ce_plain ad cs _ _) rfl (by decide) rfl rfl dX5_runOff_28 ?_
    refine g_callVi C (n := 0) (As := []) (st := []) (k_X6_leastIn l D ad cs _ _  hI (by rw [show vC M34 = vC M from vC_fr (fun k hk => funext (fun i => hF k i (by omega)))]; exact hD)) gX5_runOff_X6_leastIn rfl rfl rfl (by decide +kernel) ⟨Nat.le_of_ble_eq_true rfl, Nat.le_of_ble_eq_true rfl⟩ rfl (Nat.le_of_ble_eq_true rfl) ⟨Nat.zero_le _, Nat.zero_le _⟩ (by decide) (ce_poll ad cs _ _) rfl rfl dX5_runOff_31 (fun r36 M37 L38 hr36 => ?_)
    obtain ⟨hq1, hq2, hr36⟩ := hr36
    obtain rfl := hq1.symm
    obtain rfl := hq2.symm
    obtain ⟨br36, ir36, xr36, yr36⟩ := hr36
    have w9 : (vC M34 0 0).toInt = (M 1 0).toInt := congrArg Int32.toInt (hF 1 0 (by omega))
    have hc90 : M34 90 = M_15 90 := q90
    have hpos : 0 < cI (M_15 90) (M 1 0).toNatClampNeg := by omega
    obtain ⟨c9, hc9, hi9⟩ := cI_ex _ hpos
    have hne9 := xr36 ⟨c9, by omega, by rw [hc90]; exact hi9⟩
    have nr9 := ixn (x := r36) (by omega)
    have hin9 := ir36 (by omega)
    rw [hc90] at hin9
    have hlt9 := hNI r36.toNatClampNeg (by omega) hin9
    rw [show M34 2 = M 2 from funext (fun i => hF 2 i (by omega)), hc90, show M34 1 0 = M 1 0 from hF 1 0 (by omega)] at yr36
    rw [show M_15 90 = roI (vC M) (M 2) (M 90) pb mq (M 1 0).toNatClampNeg x3_15.toNatClampNeg from j15_5] at yr36
    have er36 : r36 = roC (vC M) (M 2) (M 90) pb mq (M 1 0).toNatClampNeg x3_15.toNatClampNeg := yr36.trans (leF_ext (row := M 2) (D1 := fun _ => 1) (fun i => hI0 2 i) (fun _ _ => rfl) (fun c hc => (htf c hc).1) (fun c hc => (htf c hc).2) (M 1 0).toNatClampNeg).1
    refine g_istore C [(4, .int r36), (3, .int x3_15), (2, .int v2), (0, .ref (ad 93)), (1, .ref (ad 125))] dX5_runOff_34 (by decide) rfl ?_
    refine g_iload C 0 dX5_runOff_36 rfl ?_
    refine g_bipush C (-9) dX5_runOff_38 (by decide) ?_
    refine g_icmp_ne C 44 dX5_runOff_40 (by decide) (fun c39 => ?_) (fun c39 => ?_)
    ·
      have f40 := fne rfl (by decide : ((-9) : Int32).toInt = (-9)) c39
      refine g_aload_n C 4 dX5_runOff_44 rfl ?_
      refine g_iconst C 2 dX5_runOff_45 (by decide) ?_
      refine g_iload C 0 dX5_runOff_46 rfl ?_
      refine g_aload_n C 3 dX5_runOff_48 rfl ?_
      refine g_get C (.ref (ad 88)) 0 in_X5_runOff_5 (List.mem_of_getElem? (i := 1) rfl) (by decide) (ce_plain ad cs _ _) rfl (by decide) rfl rfl dX5_runOff_49 ?_
      have hRb : RP (M_15 125 0) (M_15 126) (M_15 125 2) (M_15 127) (M_15 128) [] (twoR (roO (vC M) (M 2) (M 90) pb mq (M 1 0).toNatClampNeg x3_15.toNatClampNeg)) := j15_6
      rw [← k125_0, ← k125_2, ← q126, ← q127, ← q128] at hRb
      refine g_callVv C (n := 3) (As := [.int 2, .int r36, .ref (ad 88)]) (st := []) (k_X7_note_a l D ad cs _ _ 2 r36 hI (by omega)) gX5_runOff_X7_note rfl rfl rfl (by decide +kernel) ⟨Nat.le_of_ble_eq_true rfl, Nat.le_of_ble_eq_true rfl⟩ rfl (Nat.le_of_ble_eq_true rfl) ⟨Nat.zero_le _, Nat.zero_le _⟩ (by decide) (ce_ra ad cs _ _) rfl rfl dX5_runOff_52 (fun M42 L43 hr41 => ?_)
      obtain ⟨hr41, hI, hFr41, hGr41⟩ := hr41
      have hF : ∀ k i, k ≠ 90 ∧ k ≠ 95 ∧ ¬ (k = 125 ∧ i = 0) ∧ ¬ (k = 125 ∧ i = 2) ∧ k ≠ 126 ∧ k ≠ 127 ∧ k ≠ 128 → M42 k i = M k i := fun k i hk => by (rw [hFr41 k i (by omega)]; try exact hF k i hk)
      have hG : ∀ k i, k ≠ 91 ∧ k ≠ 92 ∧ ¬ (131 ≤ k ∧ k < 191) → L43 k i = L k i := fun k i hk => by (rw [hGr41 k i (by omega)]; try exact hG k i hk)
      have hV : vC M42 = vC M_15 := by rw [vC_fr (fun k hk => funext (fun i => hFr41 k i (by omega))), hV]
      have k125_0 : M42 125 0 = M_15 125 0 := (hFr41 125 0 (by omega)).trans k125_0
      have k125_2 : M42 125 2 = M42 125 2 := rfl
      have kt125_0 := congrArg Int32.toInt k125_0
      have kt125_2 := congrArg Int32.toInt k125_2
      have p91 : L43 91 = L35 91 := (funext (fun i => hGr41 91 i (by omega))).trans p91
      have p92 : L43 92 = L35 92 := (funext (fun i => hGr41 92 i (by omega))).trans p92
      have q90 : M42 90 = M_15 90 := (funext (fun i => hFr41 90 i (by omega))).trans q90
      have q95 : M42 95 = M_15 95 := (funext (fun i => hFr41 95 i (by omega))).trans q95
      have q126 : M42 126 = M_15 126 := (funext (fun i => hFr41 126 i (by omega))).trans q126
      have q127 : M42 127 = M42 127 := rfl
      have q128 : M42 128 = M42 128 := rfl
      obtain ⟨np2, npw, nph⟩ := hr41
      have np0 : M42 125 0 = M34 125 0 := hFr41 125 0 (by omega)
      have np0t := congrArg Int32.toInt np0
      have nps : M42 126 = M34 126 := funext (fun i => hFr41 126 i (by omega))
      have hb9 : RP (M34 125 0) (M34 126) (M34 125 2) (M34 127) (M34 128) _ _ := hRb
      rw [← np0, ← nps] at hb9
      have rp1 := RP_note hb9 np2 npw nph
      refine g_aload_n C 3 dX5_runOff_55 rfl ?_
      refine g_get C (.ref (ad 88)) 0 in_X5_runOff_5 (List.mem_of_getElem? (i := 1) rfl) (by decide) (ce_plain ad cs _ _) rfl (by decide) rfl rfl dX5_runOff_56 ?_
      refine g_get C (.ref (ad 90)) 5 in_X5_runOff_6 (List.mem_of_getElem? (i := 4) rfl) (by decide) (ce_poll ad cs _ _) rfl (by decide) rfl rfl dX5_runOff_59 ?_
      refine g_iload C 0 dX5_runOff_62 rfl ?_
      refine g_iconst C 0 dX5_runOff_64 (by decide) ?_
      have nr36 := ixn (x := r36) (by omega)
      refine g_zast C (by decide) (ce_pin ad cs _ _) (by rw [sI_k]; rfl) (fin' (n := 10) rfl (by omega) (by omega)) dX5_runOff_65 ?_
      refine g_nm (fun M44 hM44 => ?_)
      have zy45 : (0 : Int32).toInt = 0 := by decide
      have hI : IC M44 := by rw [hM44]; exact hI.st (bC_free (by decide) (by decide) (by decide) (by decide) (by decide) (by decide) (by decide))
      have hF : ∀ k i, k ≠ 90 ∧ k ≠ 95 ∧ ¬ (k = 125 ∧ i = 0) ∧ ¬ (k = 125 ∧ i = 2) ∧ k ≠ 126 ∧ k ≠ 127 ∧ k ≠ 128 → M44 k i = M k i := fun k i hk => by (rw [hM44, sI_at, if_neg (by omega)]; try exact hF k i hk)
      have k125_0 : M44 125 0 = M_15 125 0 := by rw [hM44, sI_n _ _ _ (by decide)]; try exact k125_0
      have k125_2 : M44 125 2 = M42 125 2 := by rw [hM44, sI_n _ _ _ (by decide)]; try exact k125_2
      have q95 : M44 95 = M_15 95 := by rw [hM44, sI_n _ _ _ (by decide)]; try exact q95
      have q126 : M44 126 = M_15 126 := by rw [hM44, sI_n _ _ _ (by decide)]; try exact q126
      have q127 : M44 127 = M42 127 := by rw [hM44, sI_n _ _ _ (by decide)]; try exact q127
      have q128 : M44 128 = M42 128 := by rw [hM44, sI_n _ _ _ (by decide)]; try exact q128
      have hV : vC M44 = vC M_15 := by rw [hM44, vC_z (by decide), hV]
      have h90 : M44 90 = upd (M_15 90) r36.toNatClampNeg 0 := by rw [hM44, sI_k, q90]; rfl
      have hcu := cI_upd (T := M_15 90) (b := r36.toNatClampNeg) hin9 (M 1 0).toNatClampNeg
      rw [if_pos (by omega), ← h90] at hcu
      have hNI2 : NIn (M44 90) (M 1 0).toInt := by rw [h90]; exact NIn_upd hNI _
      have q90 : M44 90 = M44 90 := rfl
      have e125 : M44 125 = M42 125 := by rw [hM44, sI_n _ _ _ (by decide)]
      have e126 : M44 126 = M42 126 := by rw [hM44, sI_n _ _ _ (by decide)]
      have e127 : M44 127 = M42 127 := by rw [hM44, sI_n _ _ _ (by decide)]
      have e128 : M44 128 = M42 128 := by rw [hM44, sI_n _ _ _ (by decide)]
      have rp3 : RP (M42 125 0) (M42 126) (M42 125 2) (M42 127) (M42 128) _ _ := rp1
      rw [← e125, ← e126, ← e127, ← e128] at rp3
      refine g_aload_n C 3 dX5_runOff_66 rfl ?_
      refine g_get C (.ref (ad 95)) 2 in_X5_runOff_5 (List.mem_of_getElem? (i := 5) rfl) (by decide) (ce_plain ad cs _ _) rfl (by decide) rfl rfl dX5_runOff_67 ?_
      refine g_iload_n C 1 dX5_runOff_70 rfl ?_
      refine g_iload C 0 dX5_runOff_71 rfl ?_
      have nx3_15 := ixn (x := x3_15) (by omega)
      refine g_iast C (by decide) (ce_louts ad cs _ _) (by rw [sI_k]; rfl) (fin' (n := 10) rfl (by omega) (by omega)) dX5_runOff_73 ?_
      refine g_nm (fun M46 hM46 => ?_)
      have hI : IC M46 := by rw [hM46]; exact hI.st (bC_free (by decide) (by decide) (by decide) (by decide) (by decide) (by decide) (by decide))
      have hF : ∀ k i, k ≠ 90 ∧ k ≠ 95 ∧ ¬ (k = 125 ∧ i = 0) ∧ ¬ (k = 125 ∧ i = 2) ∧ k ≠ 126 ∧ k ≠ 127 ∧ k ≠ 128 → M46 k i = M k i := fun k i hk => by (rw [hM46, sI_at, if_neg (by omega)]; try exact hF k i hk)
      have k125_0 : M46 125 0 = M_15 125 0 := by rw [hM46, sI_n _ _ _ (by decide)]; try exact k125_0
      have k125_2 : M46 125 2 = M42 125 2 := by rw [hM46, sI_n _ _ _ (by decide)]; try exact k125_2
      have q90 : M46 90 = M44 90 := by rw [hM46, sI_n _ _ _ (by decide)]; try exact q90
      have q126 : M46 126 = M_15 126 := by rw [hM46, sI_n _ _ _ (by decide)]; try exact q126
      have q127 : M46 127 = M42 127 := by rw [hM46, sI_n _ _ _ (by decide)]; try exact q127
      have q128 : M46 128 = M42 128 := by rw [hM46, sI_n _ _ _ (by decide)]; try exact q128
      have hV : vC M46 = vC M_15 := by rw [hM46, vC_z (by decide), hV]
      have a95 : ∀ j : Nat, j < x3_15.toNatClampNeg + 1 → M46 95 j = roC (vC M) (M 2) (M 90) pb mq (M 1 0).toNatClampNeg j := by
        intro j hj
        rw [hM46, sI_at]
        by_cases e9 : j = x3_15.toNatClampNeg
        · rw [if_pos ⟨rfl, e9⟩, e9]; exact er36
        · rw [if_neg (fun h => e9 h.2), congrFun q95 j]; exact j15_7 j (by omega)
      have f125 : M46 125 = M44 125 := by rw [hM46, sI_n _ _ _ (by decide)]
      have f126 : M46 126 = M44 126 := by rw [hM46, sI_n _ _ _ (by decide)]
      have f127 : M46 127 = M44 127 := by rw [hM46, sI_n _ _ _ (by decide)]
      have f128 : M46 128 = M44 128 := by rw [hM46, sI_n _ _ _ (by decide)]
      have rp4 := rp3
      rw [← f125, ← f126, ← f127, ← f128] at rp4
      obtain ⟨v47, ev47⟩ : ∃ y : Int32, y = x3_15 + 1 := ⟨_, rfl⟩
      try have fv47 := fadd rfl (by decide : (1 : Int32).toInt = 1) ev47 (by omega) (by omega)
      refine g_iinc C 1 v47 [(3, .int v47), (4, .int r36), (2, .int v2), (0, .ref (ad 93)), (1, .ref (ad 125))] dX5_runOff_74 rfl (by rw [ev47]; rfl) (by decide) rfl ?_
      refine g_goto C 15 dX5_runOff_77 (by decide) ?_
      refine g_lv [0, 2, 3, 4] [(3, .int v47), (2, .int v2), (0, .ref (ad 93)), (1, .ref (ad 125))] rfl ?_
      have k0t := congrArg Int32.toInt k125_0
      have k2t := congrArg Int32.toInt k125_2
      have e90 : M46 90 = M44 90 := q90
      have nv := ixn (x := v47) (by omega)
      have iv : v47.toNatClampNeg = x3_15.toNatClampNeg + 1 := by omega
      have eI : M46 90 = roI (vC M) (M 2) (M 90) pb mq (M 1 0).toNatClampNeg v47.toNatClampNeg := by rw [e90, h90, j15_5, iv]; show upd (roI (vC M) (M 2) (M 90) pb mq (M 1 0).toNatClampNeg x3_15.toNatClampNeg) r36.toNatClampNeg 0 = upd (roI (vC M) (M 2) (M 90) pb mq (M 1 0).toNatClampNeg x3_15.toNatClampNeg) (roC (vC M) (M 2) (M 90) pb mq (M 1 0).toNatClampNeg x3_15.toNatClampNeg).toNatClampNeg 0; rw [er36]
      have eR : RP (M46 125 0) (M46 126) (M46 125 2) (M46 127) (M46 128) [] (twoR (roO (vC M) (M 2) (M 90) pb mq (M 1 0).toNatClampNeg v47.toNatClampNeg)) := by
        rw [iv]
        show RP (M46 125 0) (M46 126) (M46 125 2) (M46 127) (M46 128) [] (twoR (roO (vC M) (M 2) (M 90) pb mq (M 1 0).toNatClampNeg x3_15.toNatClampNeg ++ [roC (vC M) (M 2) (M 90) pb mq (M 1 0).toNatClampNeg x3_15.toNatClampNeg]))
        rw [twoR_app, ← er36]
        exact rp4
      exact ih_15 (v47, M46, L43) ⟨by show 0 ≤ v47.toInt; omega, by show v47.toInt ≤ (M 1 0).toInt - 1; omega, by show (M46 125 2).toInt = v47.toInt; omega, by show (M46 125 0).toInt = 0; omega, by show v47.toInt + (cI (M46 90) (M 1 0).toNatClampNeg : Int) = (M 1 0).toInt ∧ NIn (M46 90) (M 1 0).toInt; exact ⟨by rw [e90]; omega, by rw [e90]; exact hNI2⟩, by show M46 90 = roI (vC M) (M 2) (M 90) pb mq (M 1 0).toNatClampNeg v47.toNatClampNeg; exact eI, by show RP (M46 125 0) (M46 126) (M46 125 2) (M46 127) (M46 128) [] (twoR (roO (vC M) (M 2) (M 90) pb mq (M 1 0).toNatClampNeg v47.toNatClampNeg)); exact eR, by show ∀ j : Nat, j < v47.toNatClampNeg → M46 95 j = roC (vC M) (M 2) (M 90) pb mq (M 1 0).toNatClampNeg j; rw [iv]; exact a95, hI, hF, hG⟩ (by show (11 - v47.toInt).toNat < (11 - x3_15.toInt).toNat; omega)
    ·
      have f48 := feq rfl (by decide : ((-9) : Int32).toInt = (-9)) c39
      exact g_vret C hr ⟨(by exfalso; omega), hI, hF, hG⟩ dX5_runOff_43
set_option maxHeartbeats 4000000 in
set_option maxRecDepth 100000 in
theorem k_X5_ro_b (l : Launch) (D : va_G) (ad : Nat → Nat) (cs : Nat → ClassId) (M : MI) (L : ML)  (hI : IC M) {pb : Nat → Int32} {mq : Nat} (hLY : LY pb (M 89) mq) (hMN : (M 88 3).toInt = (cnP pb mq : Int)) (hD : DP (vC M)) (hNI0 : NIn (M 90) (M 1 0).toInt) (hcn : cI (M 90) (M 1 0).toNatClampNeg = (M 1 0).toNatClampNeg) (hg0 : (M 191 0).toInt = 0) (hm0 : (M 191 2).toInt = 0) (hn1 : 1 ≤ (M 1 0).toInt) (hs1 : 1 ≤ (M 88 4).toInt) : Cv l yX5_runOff wsX5_runOff ({ frames := 3, cells := 0, slots := 0, locals := 68 }) D ad cs [.ref (ad 93), .ref (ad 191)] M L (fun M1 L1 => (RP (M1 191 0) (M1 192) (M1 191 2) (M1 193) (M1 194) (roT (vC M) (M 2) (M 90) pb mq (M 1 0).toNatClampNeg ((M 1 0).toNatClampNeg - 1) (min ((M 1 0).toNatClampNeg - 1) ((M 88 4).toNatClampNeg - 1))) (twoR (roO (vC M) (M 2) (M 90) pb mq (M 1 0).toNatClampNeg ((M 1 0).toNatClampNeg - 1)) ++ [(1, roW (vC M) (M 2) (M 90) pb mq (M 1 0).toNatClampNeg ((M 1 0).toNatClampNeg - 1))])) ∧ IC M1 ∧ (∀ k i, k ≠ 90 ∧ k ≠ 95 ∧ ¬ (k = 191 ∧ i = 0) ∧ ¬ (k = 191 ∧ i = 2) ∧ k ≠ 192 ∧ k ≠ 193 ∧ k ≠ 194 → M1 k i = M k i) ∧ ∀ k i, k ≠ 91 ∧ k ≠ 92 ∧ ¬ (197 ≤ k ∧ k < 257) → L1 k i = L k i) := by
  refine enter_v RX5 rfl [(0, .ref (ad 93)), (1, .ref (ad 191))] rfl (Nat.le_of_ble_eq_true rfl) (by decide +kernel) rfl ?_
  intro p e s m below meth c C hr
  have hF : ∀ k i, k ≠ 90 ∧ k ≠ 95 ∧ ¬ (k = 191 ∧ i = 0) ∧ ¬ (k = 191 ∧ i = 2) ∧ k ≠ 192 ∧ k ≠ 193 ∧ k ≠ 194 → M k i = M k i := fun _ _ _ => rfl
  have hG : ∀ k i, k ≠ 91 ∧ k ≠ 92 ∧ ¬ (197 ≤ k ∧ k < 257) → L k i = L k i := fun _ _ _ => rfl
  have w0 : (vC M 0 0).toInt = (M 1 0).toInt := rfl
  have w1 : (vC M 0 1).toInt = (M 3 0).toInt := rfl
  have w2 : (vC M 0 2).toInt = (M 68 0).toInt := rfl
  have w3 : (vC M 0 3).toInt = (M 81 0).toInt := rfl
  obtain ⟨y0a, y0b⟩ := (show rg 0 10 (M 1 0) from hI 1 0 rfl)
  obtain ⟨y1a, y1b⟩ := (show rg 0 60 (M 3 0) from hI 3 0 rfl)
  obtain ⟨y2a, y2b⟩ := (show rg 0 8 (M 68 0) from hI 68 0 rfl)
  obtain ⟨y3a, y3b⟩ := (show rg 0 20 (M 81 0) from hI 81 0 rfl)
  have hI0 := hI
  obtain ⟨sa, sb⟩ := (show rg 0 30 (M 88 4) from (hI 88 4).2 rfl)
  have nsd := ixn sa
  have n02 := ixn y0a
  obtain ⟨ma, mb⟩ := (show rg 0 40 (M 88 3) from (hI 88 3).1 rfl)
  have k191_0 : M 191 0 = M 191 0 := rfl
  have k191_2 : M 191 2 = M 191 2 := rfl
  have p91 : L 91 = L 91 := rfl
  have p92 : L 92 = L 92 := rfl
  have q90 : M 90 = M 90 := rfl
  have q95 : M 95 = M 95 := rfl
  have q192 : M 192 = M 192 := rfl
  have q193 : M 193 = M 193 := rfl
  have q194 : M 194 = M 194 := rfl
  have hV : vC M = vC M := rfl
  refine g_aload_n C 0 dX5_runOff_0 rfl ?_
  refine g_get C (.ref (ad 88)) 0 in_X5_runOff_5 (List.mem_of_getElem? (i := 1) rfl) (by decide) (ce_plain ad cs _ _) rfl (by decide) rfl rfl dX5_runOff_1 ?_
  refine g_get C (.ref (ad 1)) 0 in_X5_runOff_6 (List.mem_of_getElem? (i := 2) rfl) (by decide) (ce_poll ad cs _ _) rfl (by decide) rfl rfl dX5_runOff_4 ?_
  refine g_get C (.int (M 1 0)) 0 in_X5_runOff_2 (List.mem_of_getElem? (i := 3) rfl) (by decide) (ce_cand ad cs _ _) rfl (by decide) rfl rfl dX5_runOff_7 ?_
  refine g_ni (fun v1 ev1 => ?_)
  have gv1 : v1 = vC M 0 0 := ev1
  have tv1 := congrArg Int32.toInt gv1
  obtain ⟨bv1, dv1⟩ := (show rg 0 10 v1 from (by rw [ev1]; exact hI 1 0 rfl))
  refine g_iconst C 1 dX5_runOff_10 (by decide) ?_
  refine g_isub C dX5_runOff_11 ?_
  refine g_ni (fun v2 ev2 => ?_)
  try have fv2 := fsub rfl (by decide : (1 : Int32).toInt = 1) ev2 (by omega) (by omega)
  refine g_istore_n C [(2, .int v2), (0, .ref (ad 93)), (1, .ref (ad 191))] dX5_runOff_12 (by decide) rfl ?_
  refine g_iconst C 0 dX5_runOff_13 (by decide) ?_
  refine g_istore_n C [(3, .int 0), (2, .int v2), (0, .ref (ad 93)), (1, .ref (ad 191))] dX5_runOff_14 (by decide) rfl ?_
  have zy3 : (0 : Int32).toInt = 0 := by decide
  refine g_loop (α := Int32 × MI × ML) (fun a => (11 - a.1.toInt).toNat) (fun a => (0 ≤ a.1.toInt) ∧ (a.1.toInt ≤ (M 1 0).toInt - 1) ∧ ((a.2.1 191 2).toInt = a.1.toInt) ∧ ((a.2.1 191 0).toInt = 0) ∧ (a.1.toInt + (cI (a.2.1 90) (M 1 0).toNatClampNeg : Int) = (M 1 0).toInt ∧ NIn (a.2.1 90) (M 1 0).toInt) ∧ (a.2.1 90 = roI (vC M) (M 2) (M 90) pb mq (M 1 0).toNatClampNeg a.1.toNatClampNeg) ∧ (RP (a.2.1 191 0) (a.2.1 192) (a.2.1 191 2) (a.2.1 193) (a.2.1 194) [] (twoR (roO (vC M) (M 2) (M 90) pb mq (M 1 0).toNatClampNeg a.1.toNatClampNeg))) ∧ (∀ j : Nat, j < a.1.toNatClampNeg → a.2.1 95 j = roC (vC M) (M 2) (M 90) pb mq (M 1 0).toNatClampNeg j) ∧ IC a.2.1 ∧ (∀ k i, k ≠ 90 ∧ k ≠ 95 ∧ ¬ (k = 191 ∧ i = 0) ∧ ¬ (k = 191 ∧ i = 2) ∧ k ≠ 192 ∧ k ≠ 193 ∧ k ≠ 194 → a.2.1 k i = M k i) ∧ (∀ k i, k ≠ 91 ∧ k ≠ 92 ∧ ¬ (197 ≤ k ∧ k < 257) → a.2.2 k i = L k i)) (fun a => a.2.1) (fun a => a.2.2) (fun a => [(3, .int a.1), (2, .int v2), (0, .ref (ad 93)), (1, .ref (ad 191))]) ((0 : Int32), M, L) ⟨by show 0 ≤ (0 : Int32).toInt; omega, by show (0 : Int32).toInt ≤ (M 1 0).toInt - 1; omega, by show (M 191 2).toInt = (0 : Int32).toInt; exact hm0, by show (M 191 0).toInt = 0; exact hg0, by show (0 : Int32).toInt + (cI (M 90) (M 1 0).toNatClampNeg : Int) = (M 1 0).toInt ∧ NIn (M 90) (M 1 0).toInt; exact ⟨by rw [hcn]; show (0 : Int32).toInt + _ = _; omega, hNI0⟩, by show M 90 = roI (vC M) (M 2) (M 90) pb mq (M 1 0).toNatClampNeg (0 : Int32).toNatClampNeg; rfl, by show RP (M 191 0) (M 192) (M 191 2) (M 193) (M 194) [] (twoR (roO (vC M) (M 2) (M 90) pb mq (M 1 0).toNatClampNeg (0 : Int32).toNatClampNeg)); exact RP_0 hg0 hm0, by show ∀ j : Nat, j < (0 : Int32).toNatClampNeg → M 95 j = roC (vC M) (M 2) (M 90) pb mq (M 1 0).toNatClampNeg j; intro j hj; exact absurd hj (by show ¬ j < 0; omega), hI, hF, hG⟩ rfl rfl rfl ?_
  rintro ⟨x3_15, M_15, L_15⟩ ⟨j15_0, j15_1, j15_2, j15_3, j15_4, j15_5, j15_6, j15_7, hI, hF, hG⟩ ih_15
  dsimp only at j15_0 j15_1 j15_2 j15_3 j15_4 j15_5 j15_6 j15_7 hI hF hG ih_15 ⊢
  have k191_0 : M_15 191 0 = M_15 191 0 := rfl
  have k191_2 : M_15 191 2 = M_15 191 2 := rfl
  have hV : vC M_15 = vC M_15 := rfl
  have p91 : L_15 91 = L_15 91 := rfl
  have p92 : L_15 92 = L_15 92 := rfl
  have q90 : M_15 90 = M_15 90 := rfl
  have q95 : M_15 95 = M_15 95 := rfl
  have q192 : M_15 192 = M_15 192 := rfl
  have q193 : M_15 193 = M_15 193 := rfl
  have q194 : M_15 194 = M_15 194 := rfl
  obtain ⟨hci9, hNI⟩ := j15_4
  have n3_ := ixn (x := x3_15) (by omega)
  refine g_iload_n C 0 dX5_runOff_15 rfl ?_
  refine g_iload_n C 1 dX5_runOff_16 rfl ?_
  refine g_icmp_ge C 80 dX5_runOff_17 (by decide) (fun c4 => ?_) (fun c4 => ?_)
  ·
    have f5 := fle rfl rfl c4
    have hr9 : x3_15.toNatClampNeg = (M 1 0).toNatClampNeg - 1 := by omega
    refine g_aload_n C 2 dX5_runOff_80 rfl ?_
    refine g_get C (.ref (ad 88)) 0 in_X5_runOff_5 (List.mem_of_getElem? (i := 1) rfl) (by decide) (ce_plain ad cs _ _) rfl (by decide) rfl rfl dX5_runOff_81 ?_
    have hF0 := hF
    refine g_callVv C (n := 0) (As := []) (st := []) (k_X6_tallyFirstIn l D ad cs _ _  hI ) gX5_runOff_X6_tallyFirstIn rfl rfl rfl (by decide +kernel) ⟨Nat.le_of_ble_eq_true rfl, Nat.le_of_ble_eq_true rfl⟩ rfl (Nat.le_of_ble_eq_true rfl) ⟨Nat.zero_le _, Nat.zero_le _⟩ (by decide) (ce_poll ad cs _ _) rfl rfl dX5_runOff_84 (fun M7 L8 hr6 => ?_)
    obtain ⟨hr6, hI, hFr6, hGr6⟩ := hr6
    have hF : ∀ k i, k ≠ 90 ∧ k ≠ 95 ∧ ¬ (k = 191 ∧ i = 0) ∧ ¬ (k = 191 ∧ i = 2) ∧ k ≠ 192 ∧ k ≠ 193 ∧ k ≠ 194 → M7 k i = M k i := fun k i hk => by (rw [hFr6 k i trivial]; try exact hF k i hk)
    have hG : ∀ k i, k ≠ 91 ∧ k ≠ 92 ∧ ¬ (197 ≤ k ∧ k < 257) → L8 k i = L k i := fun k i hk => by (rw [hGr6 k i (by omega)]; try exact hG k i hk)
    have hV : vC M7 = vC M_15 := by rw [vC_fr (fun k hk => funext (fun i => hFr6 k i trivial)), hV]
    have k191_0 : M7 191 0 = M_15 191 0 := (hFr6 191 0 trivial).trans k191_0
    have k191_2 : M7 191 2 = M_15 191 2 := (hFr6 191 2 trivial).trans k191_2
    have kt191_0 := congrArg Int32.toInt k191_0
    have kt191_2 := congrArg Int32.toInt k191_2
    have p91 : L8 91 = L8 91 := rfl
    have p92 : L8 92 = L8 92 := rfl
    have q90 : M7 90 = M_15 90 := (funext (fun i => hFr6 90 i trivial)).trans q90
    have q95 : M7 95 = M_15 95 := (funext (fun i => hFr6 95 i trivial)).trans q95
    have q192 : M7 192 = M_15 192 := (funext (fun i => hFr6 192 i trivial)).trans q192
    have q193 : M7 193 = M_15 193 := (funext (fun i => hFr6 193 i trivial)).trans q193
    have q194 : M7 194 = M_15 194 := (funext (fun i => hFr6 194 i trivial)).trans q194
    have htf := hr6
    rw [show vC M_15 = vC M from vC_fr (fun k hk => funext (fun i => hF0 k i (by omega))), show M_15 90 = (roI (vC M) (M 2) (M 90) pb mq (M 1 0).toNatClampNeg x3_15.toNatClampNeg) from j15_5, show M_15 89 = M 89 from funext (fun i => hF0 89 i (by omega)), show M_15 88 3 = M 88 3 from hF0 88 3 (by omega), foKP hLY (by have := ixn (x := M 88 3) (by omega); omega)] at htf
    refine g_aload_n C 2 dX5_runOff_87 rfl ?_
    refine g_get C (.ref (ad 88)) 0 in_X5_runOff_5 (List.mem_of_getElem? (i := 1) rfl) (by decide) (ce_plain ad cs _ _) rfl (by decide) rfl rfl dX5_runOff_88 ?_
    refine g_callVi C (n := 0) (As := []) (st := []) (k_X6_greatestIn l D ad cs _ _  hI (by rw [show vC M7 = vC M from vC_fr (fun k hk => funext (fun i => hF k i (by omega)))]; exact hD)) gX5_runOff_X6_greatestIn rfl rfl rfl (by decide +kernel) ⟨Nat.le_of_ble_eq_true rfl, Nat.le_of_ble_eq_true rfl⟩ rfl (Nat.le_of_ble_eq_true rfl) ⟨Nat.zero_le _, Nat.zero_le _⟩ (by decide) (ce_poll ad cs _ _) rfl rfl dX5_runOff_91 (fun r9 M10 L11 hr9 => ?_)
    obtain ⟨hq1, hq2, hr9⟩ := hr9
    obtain rfl := hq1.symm
    obtain rfl := hq2.symm
    obtain ⟨br9, ir9, xr9, yr9⟩ := hr9
    have w9 : (vC M7 0 0).toInt = (M 1 0).toInt := congrArg Int32.toInt (hF 1 0 (by omega))
    have hc90 : M7 90 = M_15 90 := q90
    have hpos : 0 < cI (M_15 90) (M 1 0).toNatClampNeg := by omega
    obtain ⟨c9, hc9, hi9⟩ := cI_ex _ hpos
    have hne9 := xr9 ⟨c9, by omega, by rw [hc90]; exact hi9⟩
    have nr9 := ixn (x := r9) (by omega)
    have hin9 := ir9 (by omega)
    rw [hc90] at hin9
    have hlt9 := hNI r9.toNatClampNeg (by omega) hin9
    rw [show M7 2 = M 2 from funext (fun i => hF 2 i (by omega)), hc90, show M7 1 0 = M 1 0 from hF 1 0 (by omega)] at yr9
    rw [show M_15 90 = roI (vC M) (M 2) (M 90) pb mq (M 1 0).toNatClampNeg x3_15.toNatClampNeg from j15_5] at yr9
    have er9 : r9 = roW (vC M) (M 2) (M 90) pb mq (M 1 0).toNatClampNeg x3_15.toNatClampNeg := yr9.trans (grF_ext (row := M 2) (D1 := fun _ => 1) (fun i => hI0 2 i) (fun _ _ => rfl) (fun c hc => (htf c hc).1) (fun c hc => (htf c hc).2) (M 1 0).toNatClampNeg).1
    refine g_istore_n C [(3, .int r9), (2, .int v2), (0, .ref (ad 93)), (1, .ref (ad 191))] dX5_runOff_94 (by decide) rfl ?_
    refine g_aload_n C 3 dX5_runOff_95 rfl ?_
    refine g_iconst C 1 dX5_runOff_96 (by decide) ?_
    refine g_iload_n C 0 dX5_runOff_97 rfl ?_
    refine g_aload_n C 2 dX5_runOff_98 rfl ?_
    refine g_get C (.ref (ad 88)) 0 in_X5_runOff_5 (List.mem_of_getElem? (i := 1) rfl) (by decide) (ce_plain ad cs _ _) rfl (by decide) rfl rfl dX5_runOff_99 ?_
    have hRb : RP (M_15 191 0) (M_15 192) (M_15 191 2) (M_15 193) (M_15 194) [] (twoR (roO (vC M) (M 2) (M 90) pb mq (M 1 0).toNatClampNeg x3_15.toNatClampNeg)) := j15_6
    rw [← k191_0, ← k191_2, ← q192, ← q193, ← q194] at hRb
    refine g_callVv C (n := 3) (As := [.int 1, .int r9, .ref (ad 88)]) (st := []) (k_X7_note_b l D ad cs _ _ 1 r9 hI (by omega)) gX5_runOff_X7_note rfl rfl rfl (by decide +kernel) ⟨Nat.le_of_ble_eq_true rfl, Nat.le_of_ble_eq_true rfl⟩ rfl (Nat.le_of_ble_eq_true rfl) ⟨Nat.zero_le _, Nat.zero_le _⟩ (by decide) (ce_rb ad cs _ _) rfl rfl dX5_runOff_102 (fun M13 L14 hr12 => ?_)
    obtain ⟨hr12, hI, hFr12, hGr12⟩ := hr12
    have hF : ∀ k i, k ≠ 90 ∧ k ≠ 95 ∧ ¬ (k = 191 ∧ i = 0) ∧ ¬ (k = 191 ∧ i = 2) ∧ k ≠ 192 ∧ k ≠ 193 ∧ k ≠ 194 → M13 k i = M k i := fun k i hk => by (rw [hFr12 k i (by omega)]; try exact hF k i hk)
    have hG : ∀ k i, k ≠ 91 ∧ k ≠ 92 ∧ ¬ (197 ≤ k ∧ k < 257) → L14 k i = L k i := fun k i hk => by (rw [hGr12 k i (by omega)]; try exact hG k i hk)
    have hV : vC M13 = vC M_15 := by rw [vC_fr (fun k hk => funext (fun i => hFr12 k i (by omega))), hV]
    have k191_0 : M13 191 0 = M_15 191 0 := (hFr12 191 0 (by omega)).trans k191_0
    have k191_2 : M13 191 2 = M13 191 2 := rfl
    have kt191_0 := congrArg Int32.toInt k191_0
    have kt191_2 := congrArg Int32.toInt k191_2
    have p91 : L14 91 = L8 91 := (funext (fun i => hGr12 91 i (by omega))).trans p91
    have p92 : L14 92 = L8 92 := (funext (fun i => hGr12 92 i (by omega))).trans p92
    have q90 : M13 90 = M_15 90 := (funext (fun i => hFr12 90 i (by omega))).trans q90
    have q95 : M13 95 = M_15 95 := (funext (fun i => hFr12 95 i (by omega))).trans q95
    have q192 : M13 192 = M_15 192 := (funext (fun i => hFr12 192 i (by omega))).trans q192
    have q193 : M13 193 = M13 193 := rfl
    have q194 : M13 194 = M13 194 := rfl
    obtain ⟨np2, npw, nph⟩ := hr12
    have np0 : M13 191 0 = M7 191 0 := hFr12 191 0 (by omega)
    have np0t := congrArg Int32.toInt np0
    have nps : M13 192 = M7 192 := funext (fun i => hFr12 192 i (by omega))
    have hb9 : RP (M7 191 0) (M7 192) (M7 191 2) (M7 193) (M7 194) _ _ := hRb
    rw [← np0, ← nps] at hb9
    have rp1 := RP_note hb9 np2 npw nph
    refine g_aload_n C 3 dX5_runOff_105 rfl ?_
    refine g_iload_n C 0 dX5_runOff_106 rfl ?_
    refine g_callVv C (n := 1) (As := [.int r9]) (st := []) (k_X7_give_b l D ad cs _ _ r9 hI (by omega)) gX5_runOff_X7_give rfl rfl rfl (by decide +kernel) ⟨Nat.le_of_ble_eq_true rfl, Nat.le_of_ble_eq_true rfl⟩ rfl (Nat.le_of_ble_eq_true rfl) ⟨Nat.zero_le _, Nat.zero_le _⟩ (by decide) (ce_rb ad cs _ _) rfl rfl dX5_runOff_107 (fun M16 L17 hr15 => ?_)
    obtain ⟨hr15, hI, hFr15, hGr15⟩ := hr15
    have hF : ∀ k i, k ≠ 90 ∧ k ≠ 95 ∧ ¬ (k = 191 ∧ i = 0) ∧ ¬ (k = 191 ∧ i = 2) ∧ k ≠ 192 ∧ k ≠ 193 ∧ k ≠ 194 → M16 k i = M k i := fun k i hk => by (rw [hFr15 k i (by omega)]; try exact hF k i hk)
    have hG : ∀ k i, k ≠ 91 ∧ k ≠ 92 ∧ ¬ (197 ≤ k ∧ k < 257) → L17 k i = L k i := fun k i hk => by (rw [hGr15 k i trivial]; try exact hG k i hk)
    have hV : vC M16 = vC M_15 := by rw [vC_fr (fun k hk => funext (fun i => hFr15 k i (by omega))), hV]
    have k191_2 : M16 191 2 = M13 191 2 := (hFr15 191 2 (by omega)).trans k191_2
    have k191_0 : M16 191 0 = M16 191 0 := rfl
    have kt191_0 := congrArg Int32.toInt k191_0
    have kt191_2 := congrArg Int32.toInt k191_2
    have p91 : L17 91 = L8 91 := (funext (fun i => hGr15 91 i trivial)).trans p91
    have p92 : L17 92 = L8 92 := (funext (fun i => hGr15 92 i trivial)).trans p92
    have q90 : M16 90 = M_15 90 := (funext (fun i => hFr15 90 i (by omega))).trans q90
    have q95 : M16 95 = M_15 95 := (funext (fun i => hFr15 95 i (by omega))).trans q95
    have q192 : M16 192 = M16 192 := rfl
    have q193 : M16 193 = M13 193 := (funext (fun i => hFr15 193 i (by omega))).trans q193
    have q194 : M16 194 = M13 194 := (funext (fun i => hFr15 194 i (by omega))).trans q194
    obtain ⟨gv0, gvs⟩ := hr15
    have gv2 : M16 191 2 = M13 191 2 := hFr15 191 2 (by omega)
    have gv2t := congrArg Int32.toInt gv2
    have gv193 : M16 193 = M13 193 := funext (fun i => hFr15 193 i (by omega))
    have gv194 : M16 194 = M13 194 := funext (fun i => hFr15 194 i (by omega))
    have hb9 : RP (M13 191 0) (M13 192) (M13 191 2) (M13 193) (M13 194) _ _ := rp1
    rw [← gv2, ← gv193, ← gv194] at hb9
    have rp2 := RP_give hb9 gv0 gvs
    refine g_iconst C 1 dX5_runOff_110 (by decide) ?_
    refine g_istore C [(4, .int 1), (3, .int r9), (2, .int v2), (0, .ref (ad 93)), (1, .ref (ad 191))] dX5_runOff_111 (by decide) rfl ?_
    have zy18 : (1 : Int32).toInt = 1 := by decide
    have k0t := congrArg Int32.toInt k191_0
    have rpw := rp2
    rw [er9] at rpw
    refine g_loop (α := Int32 × MI × ML) (fun a => (32 - a.1.toInt).toNat) (fun a => (1 ≤ a.1.toInt) ∧ (a.1.toInt ≤ x3_15.toInt + 1) ∧ ((a.2.1 191 0).toInt = a.1.toInt) ∧ (RP (a.2.1 191 0) (a.2.1 192) (a.2.1 191 2) (a.2.1 193) (a.2.1 194) (roT (vC M) (M 2) (M 90) pb mq (M 1 0).toNatClampNeg x3_15.toNatClampNeg (a.1.toInt - 1).toNat) (twoR (roO (vC M) (M 2) (M 90) pb mq (M 1 0).toNatClampNeg x3_15.toNatClampNeg) ++ [(1, roW (vC M) (M 2) (M 90) pb mq (M 1 0).toNatClampNeg x3_15.toNatClampNeg)])) ∧ (∀ j : Nat, j < x3_15.toNatClampNeg → a.2.1 95 j = roC (vC M) (M 2) (M 90) pb mq (M 1 0).toNatClampNeg j) ∧ (a.1.toInt ≤ (M 88 4).toInt) ∧ IC a.2.1 ∧ (∀ k i, k ≠ 90 ∧ k ≠ 95 ∧ ¬ (k = 191 ∧ i = 0) ∧ ¬ (k = 191 ∧ i = 2) ∧ k ≠ 192 ∧ k ≠ 193 ∧ k ≠ 194 → a.2.1 k i = M k i) ∧ (∀ k i, k ≠ 91 ∧ k ≠ 92 ∧ ¬ (197 ≤ k ∧ k < 257) → a.2.2 k i = L k i)) (fun a => a.2.1) (fun a => a.2.2) (fun a => [(4, .int a.1), (3, .int r9), (2, .int v2), (0, .ref (ad 93)), (1, .ref (ad 191))]) ((1 : Int32), M16, L17) ⟨by show 1 ≤ (1 : Int32).toInt; omega, by show (1 : Int32).toInt ≤ x3_15.toInt + 1; omega, by show (M16 191 0).toInt = (1 : Int32).toInt; omega, by show RP (M16 191 0) (M16 192) (M16 191 2) (M16 193) (M16 194) (roT (vC M) (M 2) (M 90) pb mq (M 1 0).toNatClampNeg x3_15.toNatClampNeg ((1 : Int32).toInt - 1).toNat) (twoR (roO (vC M) (M 2) (M 90) pb mq (M 1 0).toNatClampNeg x3_15.toNatClampNeg) ++ [(1, roW (vC M) (M 2) (M 90) pb mq (M 1 0).toNatClampNeg x3_15.toNatClampNeg)]); exact rpw, by show ∀ j : Nat, j < x3_15.toNatClampNeg → M16 95 j = roC (vC M) (M 2) (M 90) pb mq (M 1 0).toNatClampNeg j; intro j hj; rw [congrFun q95 j]; exact j15_7 j hj, by show (1 : Int32).toInt ≤ (M 88 4).toInt; omega, hI, hF, hG⟩ rfl rfl rfl ?_
    rintro ⟨x4_113, M_113, L_113⟩ ⟨j113_0, j113_1, j113_2, j113_3, j113_4, j113_5, hI, hF, hG⟩ ih_113
    dsimp only at j113_0 j113_1 j113_2 j113_3 j113_4 j113_5 hI hF hG ih_113 ⊢
    have k191_0 : M_113 191 0 = M_113 191 0 := rfl
    have k191_2 : M_113 191 2 = M_113 191 2 := rfl
    have hV : vC M_113 = vC M_113 := rfl
    have p91 : L_113 91 = L_113 91 := rfl
    have p92 : L_113 92 = L_113 92 := rfl
    have q90 : M_113 90 = M_113 90 := rfl
    have q95 : M_113 95 = M_113 95 := rfl
    have q192 : M_113 192 = M_113 192 := rfl
    have q193 : M_113 193 = M_113 193 := rfl
    have q194 : M_113 194 = M_113 194 := rfl
    refine g_iload C 0 dX5_runOff_113 rfl ?_
    refine g_aload_n C 3 dX5_runOff_115 rfl ?_
    refine g_get C (.ref (ad 88)) 0 in_X5_runOff_5 (List.mem_of_getElem? (i := 1) rfl) (by decide) (ce_plain ad cs _ _) rfl (by decide) rfl rfl dX5_runOff_116 ?_
    refine g_get C (.int (M_113 88 4)) 4 in_X5_runOff_6 (List.mem_of_getElem? (i := 6) rfl) (by decide) (ce_poll ad cs _ _) rfl (by decide) rfl rfl dX5_runOff_119 ?_
    refine g_ni (fun v19 ev19 => ?_)
    have gv19 : v19 = M 88 4 := ev19.trans (hF 88 4 (by omega))
    have tv19 := congrArg Int32.toInt gv19
    obtain ⟨bv19, dv19⟩ := (show rg 0 30 v19 from (by rw [ev19]; exact (hI 88 4).2 rfl))
    refine g_icmp_ge C 150 dX5_runOff_122 (by decide) (fun c20 => ?_) (fun c20 => ?_)
    ·
      have f21 := fle rfl rfl c20
      exact g_vret C hr ⟨(by have ej : (x4_113.toInt - 1).toNat = min ((M 1 0).toNatClampNeg - 1) ((M 88 4).toNatClampNeg - 1) := (by omega); rw [ej, hr9] at j113_3; exact j113_3), hI, hF, hG⟩ dX5_runOff_150
    ·
      have f22 := fnle rfl rfl c20
      refine g_iload C 0 dX5_runOff_125 rfl ?_
      refine g_iload_n C 2 dX5_runOff_127 rfl ?_
      refine g_icmp_gt C 150 dX5_runOff_128 (by decide) (fun c23 => ?_) (fun c23 => ?_)
      ·
        have f24 := fl rfl rfl c23
        exact g_vret C hr ⟨(by have ej : (x4_113.toInt - 1).toNat = min ((M 1 0).toNatClampNeg - 1) ((M 88 4).toNatClampNeg - 1) := (by omega); rw [ej, hr9] at j113_3; exact j113_3), hI, hF, hG⟩ dX5_runOff_150
      ·
        have f25 := fnl rfl rfl c23
        refine g_aload_n C 4 dX5_runOff_131 rfl ?_
        refine g_aload_n C 3 dX5_runOff_132 rfl ?_
        refine g_get C (.ref (ad 95)) 2 in_X5_runOff_5 (List.mem_of_getElem? (i := 5) rfl) (by decide) (ce_plain ad cs _ _) rfl (by decide) rfl rfl dX5_runOff_133 ?_
        refine g_iload_n C 2 dX5_runOff_136 rfl ?_
        refine g_iload C 0 dX5_runOff_137 rfl ?_
        refine g_isub C dX5_runOff_139 ?_
        refine g_ni (fun v26 ev26 => ?_)
        try have fv26 := fsub rfl rfl ev26 (by omega) (by omega)
        have nv26 := ixn (x := v26) (by omega)
        refine g_iald C (by decide) (ce_louts ad cs _ _) (fin' (n := 10) rfl (by omega) (by omega)) dX5_runOff_140 ?_
        refine g_ni (fun v27 ev27 => ?_)
        have gv27 : v27 = M_113 95 v26.toNatClampNeg := ev27.trans (congrFun q95 _)
        have tv27 := congrArg Int32.toInt gv27
        have n4_ := ixn (x := x4_113) (by omega)
        have gv27 : v27 = M_113 95 (x3_15.toNatClampNeg - x4_113.toNatClampNeg) := by rw [ev27, show v26.toNatClampNeg = x3_15.toNatClampNeg - x4_113.toNatClampNeg by (have := ixn (x := v26) (by omega); omega)]
        refine g_callVv C (n := 1) (As := [.int v27]) (st := []) (k_X7_give_b l D ad cs _ _ v27 hI (by omega)) gX5_runOff_X7_give rfl rfl rfl (by decide +kernel) ⟨Nat.le_of_ble_eq_true rfl, Nat.le_of_ble_eq_true rfl⟩ rfl (Nat.le_of_ble_eq_true rfl) ⟨Nat.zero_le _, Nat.zero_le _⟩ (by decide) (ce_rb ad cs _ _) rfl rfl dX5_runOff_141 (fun M29 L30 hr28 => ?_)
        obtain ⟨hr28, hI, hFr28, hGr28⟩ := hr28
        have hF : ∀ k i, k ≠ 90 ∧ k ≠ 95 ∧ ¬ (k = 191 ∧ i = 0) ∧ ¬ (k = 191 ∧ i = 2) ∧ k ≠ 192 ∧ k ≠ 193 ∧ k ≠ 194 → M29 k i = M k i := fun k i hk => by (rw [hFr28 k i (by omega)]; try exact hF k i hk)
        have hG : ∀ k i, k ≠ 91 ∧ k ≠ 92 ∧ ¬ (197 ≤ k ∧ k < 257) → L30 k i = L k i := fun k i hk => by (rw [hGr28 k i trivial]; try exact hG k i hk)
        have hV : vC M29 = vC M_113 := by rw [vC_fr (fun k hk => funext (fun i => hFr28 k i (by omega))), hV]
        have k191_2 : M29 191 2 = M_113 191 2 := (hFr28 191 2 (by omega)).trans k191_2
        have k191_0 : M29 191 0 = M29 191 0 := rfl
        have kt191_0 := congrArg Int32.toInt k191_0
        have kt191_2 := congrArg Int32.toInt k191_2
        have p91 : L30 91 = L_113 91 := (funext (fun i => hGr28 91 i trivial)).trans p91
        have p92 : L30 92 = L_113 92 := (funext (fun i => hGr28 92 i trivial)).trans p92
        have q90 : M29 90 = M_113 90 := (funext (fun i => hFr28 90 i (by omega))).trans q90
        have q95 : M29 95 = M_113 95 := (funext (fun i => hFr28 95 i (by omega))).trans q95
        have q192 : M29 192 = M29 192 := rfl
        have q193 : M29 193 = M_113 193 := (funext (fun i => hFr28 193 i (by omega))).trans q193
        have q194 : M29 194 = M_113 194 := (funext (fun i => hFr28 194 i (by omega))).trans q194
        obtain ⟨gv0, gvs⟩ := hr28
        have gv2 : M29 191 2 = M_113 191 2 := hFr28 191 2 (by omega)
        have gv2t := congrArg Int32.toInt gv2
        have gv193 : M29 193 = M_113 193 := funext (fun i => hFr28 193 i (by omega))
        have gv194 : M29 194 = M_113 194 := funext (fun i => hFr28 194 i (by omega))
        have hb9 : RP (M_113 191 0) (M_113 192) (M_113 191 2) (M_113 193) (M_113 194) _ _ := j113_3
        rw [← gv2, ← gv193, ← gv194] at hb9
        have rp2 := RP_give hb9 gv0 gvs
        have rpz := rp2
        rw [gv27] at rpz
        obtain ⟨v31, ev31⟩ : ∃ y : Int32, y = x4_113 + 1 := ⟨_, rfl⟩
        try have fv31 := fadd rfl (by decide : (1 : Int32).toInt = 1) ev31 (by omega) (by omega)
        refine g_iinc C 0 v31 [(4, .int v31), (3, .int r9), (2, .int v2), (0, .ref (ad 93)), (1, .ref (ad 191))] dX5_runOff_144 rfl (by rw [ev31]; rfl) (by decide) rfl ?_
        refine g_goto C 113 dX5_runOff_147 (by decide) ?_
        have k0t := congrArg Int32.toInt k191_0
        have nv := ixn (x := x4_113) (by omega)
        have iv : (v31.toInt - 1).toNat = (x4_113.toInt - 1).toNat + 1 := by omega
        have eR : RP (M29 191 0) (M29 192) (M29 191 2) (M29 193) (M29 194) (roT (vC M) (M 2) (M 90) pb mq (M 1 0).toNatClampNeg x3_15.toNatClampNeg (v31.toInt - 1).toNat) (twoR (roO (vC M) (M 2) (M 90) pb mq (M 1 0).toNatClampNeg x3_15.toNatClampNeg) ++ [(1, roW (vC M) (M 2) (M 90) pb mq (M 1 0).toNatClampNeg x3_15.toNatClampNeg)]) := by
          rw [iv]
          show RP (M29 191 0) (M29 192) (M29 191 2) (M29 193) (M29 194) (roT (vC M) (M 2) (M 90) pb mq (M 1 0).toNatClampNeg x3_15.toNatClampNeg (x4_113.toInt - 1).toNat ++ [roC (vC M) (M 2) (M 90) pb mq (M 1 0).toNatClampNeg (x3_15.toNatClampNeg - 1 - (x4_113.toInt - 1).toNat)]) (twoR (roO (vC M) (M 2) (M 90) pb mq (M 1 0).toNatClampNeg x3_15.toNatClampNeg) ++ [(1, roW (vC M) (M 2) (M 90) pb mq (M 1 0).toNatClampNeg x3_15.toNatClampNeg)])
          rw [show x3_15.toNatClampNeg - 1 - (x4_113.toInt - 1).toNat = (x3_15.toNatClampNeg - x4_113.toNatClampNeg) by omega, ← j113_4 (x3_15.toNatClampNeg - x4_113.toNatClampNeg) (by omega)]
          exact rpz
        exact ih_113 (v31, M29, L30) ⟨by show 1 ≤ v31.toInt; omega, by show v31.toInt ≤ x3_15.toInt + 1; omega, by show (M29 191 0).toInt = v31.toInt; omega, by show RP (M29 191 0) (M29 192) (M29 191 2) (M29 193) (M29 194) (roT (vC M) (M 2) (M 90) pb mq (M 1 0).toNatClampNeg x3_15.toNatClampNeg (v31.toInt - 1).toNat) (twoR (roO (vC M) (M 2) (M 90) pb mq (M 1 0).toNatClampNeg x3_15.toNatClampNeg) ++ [(1, roW (vC M) (M 2) (M 90) pb mq (M 1 0).toNatClampNeg x3_15.toNatClampNeg)]); exact eR, by show ∀ j : Nat, j < x3_15.toNatClampNeg → M29 95 j = roC (vC M) (M 2) (M 90) pb mq (M 1 0).toNatClampNeg j; intro j hj; rw [congrFun q95 j]; exact j113_4 j hj, by show v31.toInt ≤ (M 88 4).toInt; omega, hI, hF, hG⟩ (by show (32 - v31.toInt).toNat < (32 - x4_113.toInt).toNat; omega)
  ·
    have f32 := fnle rfl rfl c4
    refine g_aload_n C 2 dX5_runOff_20 rfl ?_
    refine g_get C (.ref (ad 88)) 0 in_X5_runOff_5 (List.mem_of_getElem? (i := 1) rfl) (by decide) (ce_plain ad cs _ _) rfl (by decide) rfl rfl dX5_runOff_21 ?_
    have hF0 := hF
    refine g_callVv C (n := 0) (As := []) (st := []) (k_X6_tallyFirstIn l D ad cs _ _  hI ) gX5_runOff_X6_tallyFirstIn rfl rfl rfl (by decide +kernel) ⟨Nat.le_of_ble_eq_true rfl, Nat.le_of_ble_eq_true rfl⟩ rfl (Nat.le_of_ble_eq_true rfl) ⟨Nat.zero_le _, Nat.zero_le _⟩ (by decide) (ce_poll ad cs _ _) rfl rfl dX5_runOff_24 (fun M34 L35 hr33 => ?_)
    obtain ⟨hr33, hI, hFr33, hGr33⟩ := hr33
    have hF : ∀ k i, k ≠ 90 ∧ k ≠ 95 ∧ ¬ (k = 191 ∧ i = 0) ∧ ¬ (k = 191 ∧ i = 2) ∧ k ≠ 192 ∧ k ≠ 193 ∧ k ≠ 194 → M34 k i = M k i := fun k i hk => by (rw [hFr33 k i trivial]; try exact hF k i hk)
    have hG : ∀ k i, k ≠ 91 ∧ k ≠ 92 ∧ ¬ (197 ≤ k ∧ k < 257) → L35 k i = L k i := fun k i hk => by (rw [hGr33 k i (by omega)]; try exact hG k i hk)
    have hV : vC M34 = vC M_15 := by rw [vC_fr (fun k hk => funext (fun i => hFr33 k i trivial)), hV]
    have k191_0 : M34 191 0 = M_15 191 0 := (hFr33 191 0 trivial).trans k191_0
    have k191_2 : M34 191 2 = M_15 191 2 := (hFr33 191 2 trivial).trans k191_2
    have kt191_0 := congrArg Int32.toInt k191_0
    have kt191_2 := congrArg Int32.toInt k191_2
    have p91 : L35 91 = L35 91 := rfl
    have p92 : L35 92 = L35 92 := rfl
    have q90 : M34 90 = M_15 90 := (funext (fun i => hFr33 90 i trivial)).trans q90
    have q95 : M34 95 = M_15 95 := (funext (fun i => hFr33 95 i trivial)).trans q95
    have q192 : M34 192 = M_15 192 := (funext (fun i => hFr33 192 i trivial)).trans q192
    have q193 : M34 193 = M_15 193 := (funext (fun i => hFr33 193 i trivial)).trans q193
    have q194 : M34 194 = M_15 194 := (funext (fun i => hFr33 194 i trivial)).trans q194
    have htf := hr33
    rw [show vC M_15 = vC M from vC_fr (fun k hk => funext (fun i => hF0 k i (by omega))), show M_15 90 = (roI (vC M) (M 2) (M 90) pb mq (M 1 0).toNatClampNeg x3_15.toNatClampNeg) from j15_5, show M_15 89 = M 89 from funext (fun i => hF0 89 i (by omega)), show M_15 88 3 = M 88 3 from hF0 88 3 (by omega), foKP hLY (by have := ixn (x := M 88 3) (by omega); omega)] at htf
    refine g_aload_n C 2 dX5_runOff_27 rfl ?_
    refine g_get C (.ref (ad 88)) 0 in_X5_runOff_5 (List.mem_of_getElem? (i := 1) rfl) (by decide) (ce_plain ad cs _ _) rfl (by decide) rfl rfl dX5_runOff_28 ?_
    refine g_callVi C (n := 0) (As := []) (st := []) (k_X6_leastIn l D ad cs _ _  hI (by rw [show vC M34 = vC M from vC_fr (fun k hk => funext (fun i => hF k i (by omega)))]; exact hD)) gX5_runOff_X6_leastIn rfl rfl rfl (by decide +kernel) ⟨Nat.le_of_ble_eq_true rfl, Nat.le_of_ble_eq_true rfl⟩ rfl (Nat.le_of_ble_eq_true rfl) ⟨Nat.zero_le _, Nat.zero_le _⟩ (by decide) (ce_poll ad cs _ _) rfl rfl dX5_runOff_31 (fun r36 M37 L38 hr36 => ?_)
    obtain ⟨hq1, hq2, hr36⟩ := hr36
    obtain rfl := hq1.symm
    obtain rfl := hq2.symm
    obtain ⟨br36, ir36, xr36, yr36⟩ := hr36
    have w9 : (vC M34 0 0).toInt = (M 1 0).toInt := congrArg Int32.toInt (hF 1 0 (by omega))
    have hc90 : M34 90 = M_15 90 := q90
    have hpos : 0 < cI (M_15 90) (M 1 0).toNatClampNeg := by omega
    obtain ⟨c9, hc9, hi9⟩ := cI_ex _ hpos
    have hne9 := xr36 ⟨c9, by omega, by rw [hc90]; exact hi9⟩
    have nr9 := ixn (x := r36) (by omega)
    have hin9 := ir36 (by omega)
    rw [hc90] at hin9
    have hlt9 := hNI r36.toNatClampNeg (by omega) hin9
    rw [show M34 2 = M 2 from funext (fun i => hF 2 i (by omega)), hc90, show M34 1 0 = M 1 0 from hF 1 0 (by omega)] at yr36
    rw [show M_15 90 = roI (vC M) (M 2) (M 90) pb mq (M 1 0).toNatClampNeg x3_15.toNatClampNeg from j15_5] at yr36
    have er36 : r36 = roC (vC M) (M 2) (M 90) pb mq (M 1 0).toNatClampNeg x3_15.toNatClampNeg := yr36.trans (leF_ext (row := M 2) (D1 := fun _ => 1) (fun i => hI0 2 i) (fun _ _ => rfl) (fun c hc => (htf c hc).1) (fun c hc => (htf c hc).2) (M 1 0).toNatClampNeg).1
    refine g_istore C [(4, .int r36), (3, .int x3_15), (2, .int v2), (0, .ref (ad 93)), (1, .ref (ad 191))] dX5_runOff_34 (by decide) rfl ?_
    refine g_iload C 0 dX5_runOff_36 rfl ?_
    refine g_bipush C (-9) dX5_runOff_38 (by decide) ?_
    refine g_icmp_ne C 44 dX5_runOff_40 (by decide) (fun c39 => ?_) (fun c39 => ?_)
    ·
      have f40 := fne rfl (by decide : ((-9) : Int32).toInt = (-9)) c39
      refine g_aload_n C 4 dX5_runOff_44 rfl ?_
      refine g_iconst C 2 dX5_runOff_45 (by decide) ?_
      refine g_iload C 0 dX5_runOff_46 rfl ?_
      refine g_aload_n C 3 dX5_runOff_48 rfl ?_
      refine g_get C (.ref (ad 88)) 0 in_X5_runOff_5 (List.mem_of_getElem? (i := 1) rfl) (by decide) (ce_plain ad cs _ _) rfl (by decide) rfl rfl dX5_runOff_49 ?_
      have hRb : RP (M_15 191 0) (M_15 192) (M_15 191 2) (M_15 193) (M_15 194) [] (twoR (roO (vC M) (M 2) (M 90) pb mq (M 1 0).toNatClampNeg x3_15.toNatClampNeg)) := j15_6
      rw [← k191_0, ← k191_2, ← q192, ← q193, ← q194] at hRb
      refine g_callVv C (n := 3) (As := [.int 2, .int r36, .ref (ad 88)]) (st := []) (k_X7_note_b l D ad cs _ _ 2 r36 hI (by omega)) gX5_runOff_X7_note rfl rfl rfl (by decide +kernel) ⟨Nat.le_of_ble_eq_true rfl, Nat.le_of_ble_eq_true rfl⟩ rfl (Nat.le_of_ble_eq_true rfl) ⟨Nat.zero_le _, Nat.zero_le _⟩ (by decide) (ce_rb ad cs _ _) rfl rfl dX5_runOff_52 (fun M42 L43 hr41 => ?_)
      obtain ⟨hr41, hI, hFr41, hGr41⟩ := hr41
      have hF : ∀ k i, k ≠ 90 ∧ k ≠ 95 ∧ ¬ (k = 191 ∧ i = 0) ∧ ¬ (k = 191 ∧ i = 2) ∧ k ≠ 192 ∧ k ≠ 193 ∧ k ≠ 194 → M42 k i = M k i := fun k i hk => by (rw [hFr41 k i (by omega)]; try exact hF k i hk)
      have hG : ∀ k i, k ≠ 91 ∧ k ≠ 92 ∧ ¬ (197 ≤ k ∧ k < 257) → L43 k i = L k i := fun k i hk => by (rw [hGr41 k i (by omega)]; try exact hG k i hk)
      have hV : vC M42 = vC M_15 := by rw [vC_fr (fun k hk => funext (fun i => hFr41 k i (by omega))), hV]
      have k191_0 : M42 191 0 = M_15 191 0 := (hFr41 191 0 (by omega)).trans k191_0
      have k191_2 : M42 191 2 = M42 191 2 := rfl
      have kt191_0 := congrArg Int32.toInt k191_0
      have kt191_2 := congrArg Int32.toInt k191_2
      have p91 : L43 91 = L35 91 := (funext (fun i => hGr41 91 i (by omega))).trans p91
      have p92 : L43 92 = L35 92 := (funext (fun i => hGr41 92 i (by omega))).trans p92
      have q90 : M42 90 = M_15 90 := (funext (fun i => hFr41 90 i (by omega))).trans q90
      have q95 : M42 95 = M_15 95 := (funext (fun i => hFr41 95 i (by omega))).trans q95
      have q192 : M42 192 = M_15 192 := (funext (fun i => hFr41 192 i (by omega))).trans q192
      have q193 : M42 193 = M42 193 := rfl
      have q194 : M42 194 = M42 194 := rfl
      obtain ⟨np2, npw, nph⟩ := hr41
      have np0 : M42 191 0 = M34 191 0 := hFr41 191 0 (by omega)
      have np0t := congrArg Int32.toInt np0
      have nps : M42 192 = M34 192 := funext (fun i => hFr41 192 i (by omega))
      have hb9 : RP (M34 191 0) (M34 192) (M34 191 2) (M34 193) (M34 194) _ _ := hRb
      rw [← np0, ← nps] at hb9
      have rp1 := RP_note hb9 np2 npw nph
      refine g_aload_n C 3 dX5_runOff_55 rfl ?_
      refine g_get C (.ref (ad 88)) 0 in_X5_runOff_5 (List.mem_of_getElem? (i := 1) rfl) (by decide) (ce_plain ad cs _ _) rfl (by decide) rfl rfl dX5_runOff_56 ?_
      refine g_get C (.ref (ad 90)) 5 in_X5_runOff_6 (List.mem_of_getElem? (i := 4) rfl) (by decide) (ce_poll ad cs _ _) rfl (by decide) rfl rfl dX5_runOff_59 ?_
      refine g_iload C 0 dX5_runOff_62 rfl ?_
      refine g_iconst C 0 dX5_runOff_64 (by decide) ?_
      have nr36 := ixn (x := r36) (by omega)
      refine g_zast C (by decide) (ce_pin ad cs _ _) (by rw [sI_k]; rfl) (fin' (n := 10) rfl (by omega) (by omega)) dX5_runOff_65 ?_
      refine g_nm (fun M44 hM44 => ?_)
      have zy45 : (0 : Int32).toInt = 0 := by decide
      have hI : IC M44 := by rw [hM44]; exact hI.st (bC_free (by decide) (by decide) (by decide) (by decide) (by decide) (by decide) (by decide))
      have hF : ∀ k i, k ≠ 90 ∧ k ≠ 95 ∧ ¬ (k = 191 ∧ i = 0) ∧ ¬ (k = 191 ∧ i = 2) ∧ k ≠ 192 ∧ k ≠ 193 ∧ k ≠ 194 → M44 k i = M k i := fun k i hk => by (rw [hM44, sI_at, if_neg (by omega)]; try exact hF k i hk)
      have k191_0 : M44 191 0 = M_15 191 0 := by rw [hM44, sI_n _ _ _ (by decide)]; try exact k191_0
      have k191_2 : M44 191 2 = M42 191 2 := by rw [hM44, sI_n _ _ _ (by decide)]; try exact k191_2
      have q95 : M44 95 = M_15 95 := by rw [hM44, sI_n _ _ _ (by decide)]; try exact q95
      have q192 : M44 192 = M_15 192 := by rw [hM44, sI_n _ _ _ (by decide)]; try exact q192
      have q193 : M44 193 = M42 193 := by rw [hM44, sI_n _ _ _ (by decide)]; try exact q193
      have q194 : M44 194 = M42 194 := by rw [hM44, sI_n _ _ _ (by decide)]; try exact q194
      have hV : vC M44 = vC M_15 := by rw [hM44, vC_z (by decide), hV]
      have h90 : M44 90 = upd (M_15 90) r36.toNatClampNeg 0 := by rw [hM44, sI_k, q90]; rfl
      have hcu := cI_upd (T := M_15 90) (b := r36.toNatClampNeg) hin9 (M 1 0).toNatClampNeg
      rw [if_pos (by omega), ← h90] at hcu
      have hNI2 : NIn (M44 90) (M 1 0).toInt := by rw [h90]; exact NIn_upd hNI _
      have q90 : M44 90 = M44 90 := rfl
      have e191 : M44 191 = M42 191 := by rw [hM44, sI_n _ _ _ (by decide)]
      have e192 : M44 192 = M42 192 := by rw [hM44, sI_n _ _ _ (by decide)]
      have e193 : M44 193 = M42 193 := by rw [hM44, sI_n _ _ _ (by decide)]
      have e194 : M44 194 = M42 194 := by rw [hM44, sI_n _ _ _ (by decide)]
      have rp3 : RP (M42 191 0) (M42 192) (M42 191 2) (M42 193) (M42 194) _ _ := rp1
      rw [← e191, ← e192, ← e193, ← e194] at rp3
      refine g_aload_n C 3 dX5_runOff_66 rfl ?_
      refine g_get C (.ref (ad 95)) 2 in_X5_runOff_5 (List.mem_of_getElem? (i := 5) rfl) (by decide) (ce_plain ad cs _ _) rfl (by decide) rfl rfl dX5_runOff_67 ?_
      refine g_iload_n C 1 dX5_runOff_70 rfl ?_
      refine g_iload C 0 dX5_runOff_71 rfl ?_
      have nx3_15 := ixn (x := x3_15) (by omega)
      refine g_iast C (by decide) (ce_louts ad cs _ _) (by rw [sI_k]; rfl) (fin' (n := 10) rfl (by omega) (by omega)) dX5_runOff_73 ?_
      refine g_nm (fun M46 hM46 => ?_)
      have hI : IC M46 := by rw [hM46]; exact hI.st (bC_free (by decide) (by decide) (by decide) (by decide) (by decide) (by decide) (by decide))
      have hF : ∀ k i, k ≠ 90 ∧ k ≠ 95 ∧ ¬ (k = 191 ∧ i = 0) ∧ ¬ (k = 191 ∧ i = 2) ∧ k ≠ 192 ∧ k ≠ 193 ∧ k ≠ 194 → M46 k i = M k i := fun k i hk => by (rw [hM46, sI_at, if_neg (by omega)]; try exact hF k i hk)
      have k191_0 : M46 191 0 = M_15 191 0 := by rw [hM46, sI_n _ _ _ (by decide)]; try exact k191_0
      have k191_2 : M46 191 2 = M42 191 2 := by rw [hM46, sI_n _ _ _ (by decide)]; try exact k191_2
      have q90 : M46 90 = M44 90 := by rw [hM46, sI_n _ _ _ (by decide)]; try exact q90
      have q192 : M46 192 = M_15 192 := by rw [hM46, sI_n _ _ _ (by decide)]; try exact q192
      have q193 : M46 193 = M42 193 := by rw [hM46, sI_n _ _ _ (by decide)]; try exact q193
      have q194 : M46 194 = M42 194 := by rw [hM46, sI_n _ _ _ (by decide)]; try exact q194
      have hV : vC M46 = vC M_15 := by rw [hM46, vC_z (by decide), hV]
      have a95 : ∀ j : Nat, j < x3_15.toNatClampNeg + 1 → M46 95 j = roC (vC M) (M 2) (M 90) pb mq (M 1 0).toNatClampNeg j := by
        intro j hj
        rw [hM46, sI_at]
        by_cases e9 : j = x3_15.toNatClampNeg
        · rw [if_pos ⟨rfl, e9⟩, e9]; exact er36
        · rw [if_neg (fun h => e9 h.2), congrFun q95 j]; exact j15_7 j (by omega)
      have f191 : M46 191 = M44 191 := by rw [hM46, sI_n _ _ _ (by decide)]
      have f192 : M46 192 = M44 192 := by rw [hM46, sI_n _ _ _ (by decide)]
      have f193 : M46 193 = M44 193 := by rw [hM46, sI_n _ _ _ (by decide)]
      have f194 : M46 194 = M44 194 := by rw [hM46, sI_n _ _ _ (by decide)]
      have rp4 := rp3
      rw [← f191, ← f192, ← f193, ← f194] at rp4
      obtain ⟨v47, ev47⟩ : ∃ y : Int32, y = x3_15 + 1 := ⟨_, rfl⟩
      try have fv47 := fadd rfl (by decide : (1 : Int32).toInt = 1) ev47 (by omega) (by omega)
      refine g_iinc C 1 v47 [(3, .int v47), (4, .int r36), (2, .int v2), (0, .ref (ad 93)), (1, .ref (ad 191))] dX5_runOff_74 rfl (by rw [ev47]; rfl) (by decide) rfl ?_
      refine g_goto C 15 dX5_runOff_77 (by decide) ?_
      refine g_lv [0, 2, 3, 4] [(3, .int v47), (2, .int v2), (0, .ref (ad 93)), (1, .ref (ad 191))] rfl ?_
      have k0t := congrArg Int32.toInt k191_0
      have k2t := congrArg Int32.toInt k191_2
      have e90 : M46 90 = M44 90 := q90
      have nv := ixn (x := v47) (by omega)
      have iv : v47.toNatClampNeg = x3_15.toNatClampNeg + 1 := by omega
      have eI : M46 90 = roI (vC M) (M 2) (M 90) pb mq (M 1 0).toNatClampNeg v47.toNatClampNeg := by rw [e90, h90, j15_5, iv]; show upd (roI (vC M) (M 2) (M 90) pb mq (M 1 0).toNatClampNeg x3_15.toNatClampNeg) r36.toNatClampNeg 0 = upd (roI (vC M) (M 2) (M 90) pb mq (M 1 0).toNatClampNeg x3_15.toNatClampNeg) (roC (vC M) (M 2) (M 90) pb mq (M 1 0).toNatClampNeg x3_15.toNatClampNeg).toNatClampNeg 0; rw [er36]
      have eR : RP (M46 191 0) (M46 192) (M46 191 2) (M46 193) (M46 194) [] (twoR (roO (vC M) (M 2) (M 90) pb mq (M 1 0).toNatClampNeg v47.toNatClampNeg)) := by
        rw [iv]
        show RP (M46 191 0) (M46 192) (M46 191 2) (M46 193) (M46 194) [] (twoR (roO (vC M) (M 2) (M 90) pb mq (M 1 0).toNatClampNeg x3_15.toNatClampNeg ++ [roC (vC M) (M 2) (M 90) pb mq (M 1 0).toNatClampNeg x3_15.toNatClampNeg]))
        rw [twoR_app, ← er36]
        exact rp4
      exact ih_15 (v47, M46, L43) ⟨by show 0 ≤ v47.toInt; omega, by show v47.toInt ≤ (M 1 0).toInt - 1; omega, by show (M46 191 2).toInt = v47.toInt; omega, by show (M46 191 0).toInt = 0; omega, by show v47.toInt + (cI (M46 90) (M 1 0).toNatClampNeg : Int) = (M 1 0).toInt ∧ NIn (M46 90) (M 1 0).toInt; exact ⟨by rw [e90]; omega, by rw [e90]; exact hNI2⟩, by show M46 90 = roI (vC M) (M 2) (M 90) pb mq (M 1 0).toNatClampNeg v47.toNatClampNeg; exact eI, by show RP (M46 191 0) (M46 192) (M46 191 2) (M46 193) (M46 194) [] (twoR (roO (vC M) (M 2) (M 90) pb mq (M 1 0).toNatClampNeg v47.toNatClampNeg)); exact eR, by show ∀ j : Nat, j < v47.toNatClampNeg → M46 95 j = roC (vC M) (M 2) (M 90) pb mq (M 1 0).toNatClampNeg j; rw [iv]; exact a95, hI, hF, hG⟩ (by show (11 - v47.toInt).toNat < (11 - x3_15.toInt).toNat; omega)
    ·
      have f48 := feq rfl (by decide : ((-9) : Int32).toInt = (-9)) c39
      exact g_vret C hr ⟨(by exfalso; omega), hI, hF, hG⟩ dX5_runOff_43
