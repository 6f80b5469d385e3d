set_option maxHeartbeats 4000000 in
set_option maxRecDepth 100000 in
theorem k_X8_leaveOut_a (l : Launch) (D : va_G) (ad : Nat → Nat) (cs : Nat → ClassId) (M : MI) (L : ML) (x : Int32) (hI : IC M) (hx : 0 ≤ x.toInt ∧ x.toInt < 10) (hr2 : (M 125 2).toInt < 30) : Ci l yX8_leaveOut wsX8_leaveOut ({ frames := 1, cells := 0, slots := 0, locals := 24 }) D ad cs [.ref (ad 120), .int x, .ref (ad 125)] M L (fun r M1 L1 => (r = 1 ∧ (M1 125 2).toInt = (M 125 2).toInt + 1 ∧ M1 127 = upd (M 127) ((M 125 2).toNatClampNeg) 2 ∧ M1 128 = upd (M 128) ((M 125 2).toNatClampNeg) x ∧ M1 90 = upd (M 90) (x.toNatClampNeg) 0) ∧ IC M1 ∧ (∀ k i, k ≠ 90 ∧ ¬ (k = 125 ∧ i = 2) ∧ k ≠ 127 ∧ k ≠ 128 → M1 k i = M k i) ∧ ∀ k i, ¬ (131 ≤ k ∧ k < 191) → L1 k i = L k i) := by
  refine enter_i RX8 rfl [(0, .ref (ad 120)), (1, .int x), (2, .ref (ad 125))] rfl (Nat.le_of_ble_eq_true rfl) (by decide +kernel) rfl ?_
  intro p e s m below meth c C hr
  have hF : ∀ k i, k ≠ 90 ∧ ¬ (k = 125 ∧ i = 2) ∧ k ≠ 127 ∧ k ≠ 128 → M k i = M k i := fun _ _ _ => rfl
  have hG : ∀ k i, ¬ (131 ≤ k ∧ k < 191) → L k i = L k i := fun _ _ _ => rfl
  have w0 : (vC M 0 0).toInt = (M 1 0).toInt := rfl
  have w1 : (vC M 0 1).toInt = (M 3 0).toInt := rfl
  have w2 : (vC M 0 2).toInt = (M 68 0).toInt := rfl
  have w3 : (vC M 0 3).toInt = (M 81 0).toInt := rfl
  obtain ⟨y0a, y0b⟩ := (show rg 0 10 (M 1 0) from hI 1 0 rfl)
  obtain ⟨y1a, y1b⟩ := (show rg 0 60 (M 3 0) from hI 3 0 rfl)
  obtain ⟨y2a, y2b⟩ := (show rg 0 8 (M 68 0) from hI 68 0 rfl)
  obtain ⟨y3a, y3b⟩ := (show rg 0 20 (M 81 0) from hI 81 0 rfl)
  obtain ⟨hx1, hx2⟩ := hx
  have k125_2 : M 125 2 = M 125 2 := rfl
  have q90 : M 90 = M 90 := rfl
  have q127 : M 127 = M 127 := rfl
  have q128 : M 128 = M 128 := rfl
  have hV : vC M = vC M := rfl
  refine g_iload_n C 1 dX8_leaveOut_0 rfl ?_
  refine g_bipush C (-9) dX8_leaveOut_1 (by decide) ?_
  refine g_icmp_ne C 8 dX8_leaveOut_3 (by decide) (fun c1 => ?_) (fun c1 => ?_)
  ·
    have f2 := fne rfl (by decide : ((-9) : Int32).toInt = (-9)) c1
    refine g_aload_n C 2 dX8_leaveOut_8 rfl ?_
    refine g_iconst C 2 dX8_leaveOut_9 (by decide) ?_
    refine g_iload_n C 1 dX8_leaveOut_10 rfl ?_
    refine g_aload_n C 0 dX8_leaveOut_11 rfl ?_
    refine g_get C (.ref (ad 88)) 0 in_X8_leaveOut_8 (List.mem_of_getElem? (i := 1) rfl) (by decide) (ce_trans ad cs _ _) rfl (by decide) rfl rfl dX8_leaveOut_12 ?_
    refine g_callVv C (n := 3) (As := [.int 2, .int x, .ref (ad 88)]) (st := []) (k_X7_note_a l D ad cs _ _ 2 x hI (by omega)) gX8_leaveOut_X7_note rfl rfl rfl (by decide +kernel) ⟨Nat.le_of_ble_eq_true rfl, Nat.le_of_ble_eq_true rfl⟩ rfl (Nat.le_of_ble_eq_true rfl) ⟨Nat.zero_le _, Nat.zero_le _⟩ (by decide) (ce_ra ad cs _ _) rfl rfl dX8_leaveOut_15 (fun M4 L5 hr3 => ?_)
    obtain ⟨hr3, hI, hFr3, hGr3⟩ := hr3
    have hF : ∀ k i, k ≠ 90 ∧ ¬ (k = 125 ∧ i = 2) ∧ k ≠ 127 ∧ k ≠ 128 → M4 k i = M k i := fun k i hk => by (rw [hFr3 k i (by omega)]; try exact hF k i hk)
    have hG : ∀ k i, ¬ (131 ≤ k ∧ k < 191) → L5 k i = L k i := fun k i hk => by (rw [hGr3 k i (by omega)]; try exact hG k i hk)
    have hV : vC M4 = vC M := by rw [vC_fr (fun k hk => funext (fun i => hFr3 k i (by omega))), hV]
    have k125_2 : M4 125 2 = M4 125 2 := rfl
    have kt125_2 := congrArg Int32.toInt k125_2
    have q90 : M4 90 = M 90 := (funext (fun i => hFr3 90 i (by omega))).trans q90
    have q127 : M4 127 = M4 127 := rfl
    have q128 : M4 128 = M4 128 := rfl
    obtain ⟨np2, npw, nph⟩ := hr3
    refine g_aload_n C 0 dX8_leaveOut_18 rfl ?_
    refine g_get C (.ref (ad 88)) 0 in_X8_leaveOut_8 (List.mem_of_getElem? (i := 1) rfl) (by decide) (ce_trans ad cs _ _) rfl (by decide) rfl rfl dX8_leaveOut_19 ?_
    refine g_get C (.ref (ad 90)) 5 in_X8_leaveOut_6 (List.mem_of_getElem? (i := 2) rfl) (by decide) (ce_poll ad cs _ _) rfl (by decide) rfl rfl dX8_leaveOut_22 ?_
    refine g_iload_n C 1 dX8_leaveOut_25 rfl ?_
    refine g_iconst C 0 dX8_leaveOut_26 (by decide) ?_
    have nx := ixn (x := x) (by omega)
    refine g_zast C (by decide) (ce_pin ad cs _ _) (by rw [sI_k]; rfl) (fin' (n := 10) rfl (by omega) (by omega)) dX8_leaveOut_27 ?_
    refine g_nm (fun M6 hM6 => ?_)
    have zy7 : (0 : Int32).toInt = 0 := by decide
    have hI : IC M6 := by rw [hM6]; exact hI.st (bC_free (by decide) (by decide) (by decide) (by decide) (by decide) (by decide) (by decide))
    have hF : ∀ k i, k ≠ 90 ∧ ¬ (k = 125 ∧ i = 2) ∧ k ≠ 127 ∧ k ≠ 128 → M6 k i = M k i := fun k i hk => by (rw [hM6, sI_at, if_neg (by omega)]; try exact hF k i hk)
    have k125_2 : M6 125 2 = M4 125 2 := by rw [hM6, sI_n _ _ _ (by decide)]; try exact k125_2
    have q127 : M6 127 = M4 127 := by rw [hM6, sI_n _ _ _ (by decide)]; try exact q127
    have q128 : M6 128 = M4 128 := by rw [hM6, sI_n _ _ _ (by decide)]; try exact q128
    have hV : vC M6 = vC M := by rw [hM6, vC_z (by decide), hV]
    have h90 : M6 90 = upd (M 90) x.toNatClampNeg 0 := by rw [hM6, sI_k, q90]; rfl
    refine g_iconst C 1 dX8_leaveOut_28 (by decide) ?_
    have zr9 : (1 : Int32).toInt = 1 := by decide
    exact g_zret C hr rfl ⟨⟨rfl, by rw [k125_2]; exact np2, by rw [q127]; exact npw, by rw [q128]; exact nph, h90⟩, hI, hF, hG⟩ dX8_leaveOut_29
  ·
    have f8 := feq rfl (by decide : ((-9) : Int32).toInt = (-9)) c1
    refine g_iconst C 0 dX8_leaveOut_6 (by decide) ?_
    have zr9 : (0 : Int32).toInt = 0 := by decide
    exact g_zret C hr rfl ⟨(by exfalso; omega), hI, hF, hG⟩ dX8_leaveOut_7
set_option maxHeartbeats 4000000 in
set_option maxRecDepth 100000 in
theorem k_X8_endRound_a (l : Launch) (D : va_G) (ad : Nat → Nat) (cs : Nat → ClassId) (M : MI) (L : ML) (x : Int32) (y : Int64) (hI : IC M) {tr : TR} (hx : 0 ≤ x.toInt ∧ x.toInt < 10) (hq : 1 ≤ y.toInt ∧ y.toInt ≤ 4000001) (hW : WTc L (M 88 3).toNatClampNeg) (hI9 : M 90 = tr.1) (hu : L 121 = tr.2.1.1) (hd : L 122 = tr.2.1.2) (hRR : RP (M 125 0) (M 126) (M 125 2) (M 127) (M 128) tr.2.2.1 tr.2.2.2.1) (hT : (qrT (vC M) (M 89) (M 88 3).toNatClampNeg tr).2.2 = true) (hTe : ∀ c, c < 10 → L 91 c = (qrT (vC M) (M 89) (M 88 3).toNatClampNeg tr).1 c ∧ L 92 c = (qrT (vC M) (M 89) (M 88 3).toNatClampNeg tr).2.1 c ∧ okF (L 91 c) (L 92 c)) (hown : ∀ k9 : Nat, k9 < (M 88 3).toNatClampNeg → M 123 k9 = fiV (vC M) (M 90) (M 89 k9).toNatClampNeg) (hc : x = qrC (vC M) (M 2) (M 89) (M 88 3).toNatClampNeg (M 1 0).toNatClampNeg tr) (hin : ¬ (M 90 x.toNatClampNeg).toInt = 0) (hD : DP (vC M)) (hNI : NIn (M 90) (M 1 0).toInt) (hr2 : (M 125 2).toInt < 30) (hg0 : (M 125 0).toInt < (M 88 4).toInt) (hC : (M 88 4).toInt ≤ (cI (M 90) (M 1 0).toNatClampNeg : Int) + (M 125 0).toInt) : Ci l yX8_endRound wsX8_endRound ({ frames := 3, cells := 0, slots := 0, locals := 88 }) D ad cs [.ref (ad 120), .int x, .long y, .ref (ad 125)] M L (fun r M1 L1 => (zo r ((qrF (vC M) (M 2) (M 89) (M 88 3).toNatClampNeg (M 1 0).toNatClampNeg (M 88 4).toNatClampNeg y tr).2.2.2.2 = true) ∧ ((qrF (vC M) (M 2) (M 89) (M 88 3).toNatClampNeg (M 1 0).toNatClampNeg (M 88 4).toNatClampNeg y tr).2.2.2.2 = true → M1 90 = (qrF (vC M) (M 2) (M 89) (M 88 3).toNatClampNeg (M 1 0).toNatClampNeg (M 88 4).toNatClampNeg y tr).1 ∧ L1 121 = (qrF (vC M) (M 2) (M 89) (M 88 3).toNatClampNeg (M 1 0).toNatClampNeg (M 88 4).toNatClampNeg y tr).2.1.1 ∧ L1 122 = (qrF (vC M) (M 2) (M 89) (M 88 3).toNatClampNeg (M 1 0).toNatClampNeg (M 88 4).toNatClampNeg y tr).2.1.2 ∧ RP (M1 125 0) (M1 126) (M1 125 2) (M1 127) (M1 128) (qrF (vC M) (M 2) (M 89) (M 88 3).toNatClampNeg (M 1 0).toNatClampNeg (M 88 4).toNatClampNeg y tr).2.2.1 (qrF (vC M) (M 2) (M 89) (M 88 3).toNatClampNeg (M 1 0).toNatClampNeg (M 88 4).toNatClampNeg y tr).2.2.2.1 ∧ WTc L1 (M 88 3).toNatClampNeg ∧ cI (M1 90) (M 1 0).toNatClampNeg + 1 = cI (M 90) (M 1 0).toNatClampNeg ∧ NIn (M1 90) (M 1 0).toInt ∧ (M 88 4).toInt ≤ (cI (M1 90) (M 1 0).toNatClampNeg : Int) + (M1 125 0).toInt ∧ (M1 125 2).toInt = (M 125 2).toInt + 1 ∧ (M1 125 0).toInt ≤ (M 88 4).toInt)) ∧ IC M1 ∧ (∀ k i, k ≠ 90 ∧ ¬ (k = 125 ∧ i = 0) ∧ ¬ (k = 125 ∧ i = 2) ∧ k ≠ 126 ∧ k ≠ 127 ∧ k ≠ 128 → M1 k i = M k i) ∧ ∀ k i, k ≠ 121 ∧ k ≠ 122 ∧ ¬ (k = 124 ∧ i = 0) ∧ ¬ (k = 124 ∧ i = 1) ∧ ¬ (131 ≤ k ∧ k < 191) → L1 k i = L k i) := by
  refine enter_i RX8 rfl [(0, .ref (ad 120)), (1, .int x), (2, .long y), (4, .ref (ad 125))] rfl (Nat.le_of_ble_eq_true rfl) (by decide +kernel) rfl ?_
  intro p e s m below meth c C hr
  have hF : ∀ k i, k ≠ 90 ∧ ¬ (k = 125 ∧ i = 0) ∧ ¬ (k = 125 ∧ i = 2) ∧ k ≠ 126 ∧ k ≠ 127 ∧ k ≠ 128 → M k i = M k i := fun _ _ _ => rfl
  have hG : ∀ k i, k ≠ 121 ∧ k ≠ 122 ∧ ¬ (k = 124 ∧ i = 0) ∧ ¬ (k = 124 ∧ i = 1) ∧ ¬ (131 ≤ k ∧ k < 191) → L k i = L k i := fun _ _ _ => rfl
  have w0 : (vC M 0 0).toInt = (M 1 0).toInt := rfl
  have w1 : (vC M 0 1).toInt = (M 3 0).toInt := rfl
  have w2 : (vC M 0 2).toInt = (M 68 0).toInt := rfl
  have w3 : (vC M 0 3).toInt = (M 81 0).toInt := rfl
  obtain ⟨y0a, y0b⟩ := (show rg 0 10 (M 1 0) from hI 1 0 rfl)
  obtain ⟨y1a, y1b⟩ := (show rg 0 60 (M 3 0) from hI 3 0 rfl)
  obtain ⟨y2a, y2b⟩ := (show rg 0 8 (M 68 0) from hI 68 0 rfl)
  obtain ⟨y3a, y3b⟩ := (show rg 0 20 (M 81 0) from hI 81 0 rfl)
  have hI0 := hI
  obtain ⟨hx1, hx2⟩ := hx
  have nxx := ixn hx1
  have n02 := ixn y0a
  obtain ⟨sa, sb⟩ := (show rg 0 30 (M 88 4) from (hI 88 4).2 rfl)
  have nsd := ixn sa
  have hNI9 : NIn (M 90) (((M 1 0).toNatClampNeg : Nat) : Int) := by rw [show (((M 1 0).toNatClampNeg : Nat) : Int) = (M 1 0).toInt by omega]; exact hNI
  have c10 := cI_10 (by omega) hNI9
  have hc10 := hTe x.toNatClampNeg (by omega)
  have hok := hc10.2.2
  have hok1 := hok
  unfold okF at hok
  have eU9 : L 91 x.toNatClampNeg = qrU (vC M) (M 2) (M 89) (M 88 3).toNatClampNeg (M 1 0).toNatClampNeg tr := by rw [hc10.1, hc]; rfl
  have eV9 : L 92 x.toNatClampNeg = qrV (vC M) (M 2) (M 89) (M 88 3).toNatClampNeg (M 1 0).toNatClampNeg tr := by rw [hc10.2.1, hc]; rfl
  have eS9 := hRR.1
  have hcI0 : cI tr.1 (M 1 0).toNatClampNeg = cI (M 90) (M 1 0).toNatClampNeg := by rw [hI9]
  obtain ⟨g0a, g0b⟩ := (show rg 0 30 (M 125 0) from hI 125 0 (Or.inl rfl))
  have hlt9 := hNI x.toNatClampNeg (by omega) hin
  have hcp : 0 < cI (M 90) (M 1 0).toNatClampNeg := by omega
  have k125_0 : M 125 0 = M 125 0 := rfl
  have k125_2 : M 125 2 = M 125 2 := rfl
  have l124_0 : L 124 0 = L 124 0 := rfl
  have l124_1 : L 124 1 = L 124 1 := rfl
  have p121 : L 121 = L 121 := rfl
  have p122 : L 122 = L 122 := rfl
  have q90 : M 90 = M 90 := rfl
  have q126 : M 126 = M 126 := rfl
  have q127 : M 127 = M 127 := rfl
  have q128 : M 128 = M 128 := rfl
  have hV : vC M = vC M := rfl
  refine g_aload_n C 0 dX8_endRound_0 rfl ?_
  refine g_get C (.ref (ad 88)) 0 in_X8_endRound_8 (List.mem_of_getElem? (i := 1) rfl) (by decide) (ce_trans ad cs _ _) rfl (by decide) rfl rfl dX8_endRound_1 ?_
  refine g_callVi C (n := 0) (As := []) (st := []) (k_X6_manyIn l D ad cs _ _  hI ) gX8_endRound_X6_manyIn rfl rfl rfl (by decide +kernel) ⟨Nat.le_of_ble_eq_true rfl, Nat.le_of_ble_eq_true rfl⟩ rfl (Nat.le_of_ble_eq_true rfl) ⟨Nat.zero_le _, Nat.zero_le _⟩ (by decide) (ce_poll ad cs _ _) rfl rfl dX8_endRound_4 (fun r1 M2 L3 hr1 => ?_)
  obtain ⟨hq1, hq2, hr1⟩ := hr1
  obtain rfl := hq1.symm
  obtain rfl := hq2.symm
  have tin := hr1
  rw [c10] at tin
  refine g_aload_n C 0 dX8_endRound_7 rfl ?_
  refine g_get C (.ref (ad 88)) 0 in_X8_endRound_8 (List.mem_of_getElem? (i := 1) rfl) (by decide) (ce_trans ad cs _ _) rfl (by decide) rfl rfl dX8_endRound_8 ?_
  refine g_get C (.int (M 88 4)) 4 in_X8_endRound_6 (List.mem_of_getElem? (i := 2) rfl) (by decide) (ce_poll ad cs _ _) rfl (by decide) rfl rfl dX8_endRound_11 ?_
  refine g_ni (fun v4 ev4 => ?_)
  have gv4 : v4 = M 88 4 := ev4
  have tv4 := congrArg Int32.toInt gv4
  obtain ⟨bv4, dv4⟩ := (show rg 0 30 v4 from (by rw [ev4]; exact (hI 88 4).2 rfl))
  refine g_aload C 3 dX8_endRound_14 rfl ?_
  refine g_get C (.int (M 125 0)) 0 in_X8_endRound_7 (List.mem_of_getElem? (i := 3) rfl) (by decide) (ce_ra ad cs _ _) rfl (by decide) rfl rfl dX8_endRound_16 ?_
  refine g_ni (fun v5 ev5 => ?_)
  have gv5 : v5 = M 125 0 := ev5.trans k125_0
  have tv5 := congrArg Int32.toInt gv5
  obtain ⟨bv5, dv5⟩ := (show rg 0 30 v5 from (by rw [ev5]; exact hI 125 0 (Or.inl rfl)))
  refine g_isub C dX8_endRound_19 ?_
  refine g_ni (fun v6 ev6 => ?_)
  try have fv6 := fsub rfl rfl ev6 (by omega) (by omega)
  refine g_icmp_gt C 27 dX8_endRound_20 (by decide) (fun c7 => ?_) (fun c7 => ?_)
  ·
    have f8 := fl rfl rfl c7
    refine g_iconst C 0 dX8_endRound_27 (by decide) ?_
    refine g_istore C [(5, .int 0), (0, .ref (ad 120)), (1, .int x), (2, .long y), (4, .ref (ad 125))] dX8_endRound_28 (by decide) rfl ?_
    refine g_aload_n C 1 dX8_endRound_30 rfl ?_
    refine g_get C (.ref (ad 88)) 0 in_X8_endRound_8 (List.mem_of_getElem? (i := 1) rfl) (by decide) (ce_trans ad cs _ _) rfl (by decide) rfl rfl dX8_endRound_31 ?_
    refine g_get C (.ref (ad 91)) 6 in_X8_endRound_6 (List.mem_of_getElem? (i := 4) rfl) (by decide) (ce_poll ad cs _ _) rfl (by decide) rfl rfl dX8_endRound_34 ?_
    refine g_iload_n C 2 dX8_endRound_37 rfl ?_
    have nx := ixn (x := x) (by omega)
    refine g_lald C (by decide) (ce_pupper ad cs _ _) (fin' (n := 10) rfl (by omega) (by omega)) dX8_endRound_38 ?_
    refine g_nl (fun v9 ev9 => ?_)
    have gv9 : v9 = L 91 x.toNatClampNeg := ev9
    have tv9 := congrArg Int64.toInt gv9
    refine g_lload_n C 3 dX8_endRound_39 rfl ?_
    refine g_aload_n C 1 dX8_endRound_40 rfl ?_
    refine g_get C (.ref (ad 88)) 0 in_X8_endRound_8 (List.mem_of_getElem? (i := 1) rfl) (by decide) (ce_trans ad cs _ _) rfl (by decide) rfl rfl dX8_endRound_41 ?_
    refine g_get C (.ref (ad 92)) 7 in_X8_endRound_6 (List.mem_of_getElem? (i := 5) rfl) (by decide) (ce_poll ad cs _ _) rfl (by decide) rfl rfl dX8_endRound_44 ?_
    refine g_iload_n C 2 dX8_endRound_47 rfl ?_
    have nx := ixn (x := x) (by omega)
    refine g_lald C (by decide) (ce_plower ad cs _ _) (fin' (n := 10) rfl (by omega) (by omega)) dX8_endRound_48 ?_
    refine g_nl (fun v10 ev10 => ?_)
    have gv10 : v10 = L 92 x.toNatClampNeg := ev10
    have tv10 := congrArg Int64.toInt gv10
    refine g_lmul C dX8_endRound_49 ?_
    refine g_nl (fun v11 ev11 => ?_)
    try have fv11 := prodI ev11
    have m1 := mul_le9 (a := y.toInt) (b := v10.toInt) (by omega) (by omega) (by omega) (by omega)
    have eB9 : v11 = y * qrV (vC M) (M 2) (M 89) (M 88 3).toNatClampNeg (M 1 0).toNatClampNeg tr := by rw [ev11, gv10, eV9]
    have eBt := congrArg Int64.toInt eB9
    have eUt : v9.toInt = (qrU (vC M) (M 2) (M 89) (M 88 3).toNatClampNeg (M 1 0).toNatClampNeg tr).toInt := by rw [gv9, eU9]
    have eB8 : y.toInt * (L 92 x.toNatClampNeg).toInt = v11.toInt := by rw [← tv10, fv11, bmod_id (by omega) (by omega)]
    refine g_lcmp C dX8_endRound_50 ?_
    refine g_ni (fun v12 ev12 => ?_)
    refine g_if_lt C 58 dX8_endRound_51 (by decide) (fun c13 => ?_) (fun c13 => ?_)
    ·
      have f14 := clt rfl rfl ev12 c13
      refine g_iconst C 0 dX8_endRound_58 (by decide) ?_
      refine g_istore C [(6, .int 0), (5, .int 0), (0, .ref (ad 120)), (1, .int x), (2, .long y), (4, .ref (ad 125))] dX8_endRound_59 (by decide) rfl ?_
      refine g_iload C 1 dX8_endRound_61 rfl ?_
      refine g_if_ne C 85 dX8_endRound_63 (by decide) (fun c15 => absurd c15 (by decide)) (fun _ => ?_)
      refine g_iload C 0 dX8_endRound_66 rfl ?_
      refine g_if_ne C 85 dX8_endRound_68 (by decide) (fun c16 => absurd c16 (by decide)) (fun _ => ?_)
      refine g_aload_n C 2 dX8_endRound_71 rfl ?_
      refine g_aload_n C 2 dX8_endRound_72 rfl ?_
      refine g_get C (.ref (ad 88)) 0 in_X8_endRound_8 (List.mem_of_getElem? (i := 1) rfl) (by decide) (ce_trans ad cs _ _) rfl (by decide) rfl rfl dX8_endRound_73 ?_
      refine g_callVi C (n := 0) (As := []) (st := [.ref (ad 120)]) (k_X6_leastIn l D ad cs _ _  hI hD) gX8_endRound_X6_leastIn rfl rfl rfl (by decide +kernel) ⟨Nat.le_of_ble_eq_true rfl, Nat.le_of_ble_eq_true rfl⟩ rfl (Nat.le_of_ble_eq_true rfl) ⟨Nat.zero_le _, Nat.zero_le _⟩ (by decide) (ce_poll ad cs _ _) rfl rfl dX8_endRound_76 (fun r17 M18 L19 hr17 => ?_)
      obtain ⟨hq1, hq2, hr17⟩ := hr17
      obtain rfl := hq1.symm
      obtain rfl := hq2.symm
      obtain ⟨br17, ir17, xr17, yr17⟩ := hr17
      obtain ⟨c9, hc9, hi9⟩ := cI_ex _ hcp
      have hne9 := xr17 ⟨c9, by omega, hi9⟩
      have nr9 := ixn (x := r17) (by omega)
      have hin8 := ir17 (by omega)
      have hlt8 := hNI r17.toNatClampNeg (by omega) hin8
      have el9 : r17 = qrL (vC M) (M 2) (M 89) (M 88 3).toNatClampNeg (M 1 0).toNatClampNeg tr := yr17.trans (leF_ext (row := M 2) (fun i => hI0 2 i) (fun c _ => congrFun hI9 c) (fun c hc => (hTe c hc).1) (fun c hc => (hTe c hc).2.1) (M 1 0).toNatClampNeg).1
      refine g_aload C 5 dX8_endRound_79 rfl ?_
      refine g_callVi C (n := 2) (As := [.int r17, .ref (ad 125)]) (st := []) (k_X8_leaveOut_a l D ad cs _ _ r17 hI ⟨by omega, by omega⟩ hr2) gX8_endRound_X8_leaveOut rfl rfl rfl (by decide +kernel) ⟨Nat.le_of_ble_eq_true rfl, Nat.le_of_ble_eq_true rfl⟩ rfl (Nat.le_of_ble_eq_true rfl) ⟨Nat.zero_le _, Nat.zero_le _⟩ (by decide) (ce_trans ad cs _ _) rfl rfl dX8_endRound_81 (fun r20 M21 L22 hr20 => ?_)
      obtain ⟨hr20, hI, hFr20, hGr20⟩ := hr20
      have hF : ∀ k i, k ≠ 90 ∧ ¬ (k = 125 ∧ i = 0) ∧ ¬ (k = 125 ∧ i = 2) ∧ k ≠ 126 ∧ k ≠ 127 ∧ k ≠ 128 → M21 k i = M k i := fun k i hk => by (rw [hFr20 k i (by omega)]; try exact hF k i hk)
      have hG : ∀ k i, k ≠ 121 ∧ k ≠ 122 ∧ ¬ (k = 124 ∧ i = 0) ∧ ¬ (k = 124 ∧ i = 1) ∧ ¬ (131 ≤ k ∧ k < 191) → L22 k i = L k i := fun k i hk => by (rw [hGr20 k i (by omega)]; try exact hG k i hk)
      have hV : vC M21 = vC M := by rw [vC_fr (fun k hk => funext (fun i => hFr20 k i (by omega))), hV]
      have k125_0 : M21 125 0 = M 125 0 := (hFr20 125 0 (by omega)).trans k125_0
      have k125_2 : M21 125 2 = M21 125 2 := rfl
      have kt125_0 := congrArg Int32.toInt k125_0
      have kt125_2 := congrArg Int32.toInt k125_2
      have l124_0 : L22 124 0 = L 124 0 := (hGr20 124 0 (by omega)).trans l124_0
      have l124_1 : L22 124 1 = L 124 1 := (hGr20 124 1 (by omega)).trans l124_1
      have p121 : L22 121 = L 121 := (funext (fun i => hGr20 121 i (by omega))).trans p121
      have p122 : L22 122 = L 122 := (funext (fun i => hGr20 122 i (by omega))).trans p122
      have q90 : M21 90 = M21 90 := rfl
      have q126 : M21 126 = M 126 := (funext (fun i => hFr20 126 i (by omega))).trans q126
      have q127 : M21 127 = M21 127 := rfl
      have q128 : M21 128 = M21 128 := rfl
      obtain ⟨hr1, np2, npw, nph, h90⟩ := hr20
      have np0 : M21 125 0 = M 125 0 := hFr20 125 0 (by omega)
      have np0t := congrArg Int32.toInt np0
      have nps : M21 126 = M 126 := funext (fun i => hFr20 126 i (by omega))
      have hb9 := hRR
      rw [← np0, ← nps] at hb9
      have rp1 := RP_note hb9 np2 npw nph
      have hcu := cI_upd (T := M 90) (b := r17.toNatClampNeg) hin8 (M 1 0).toNatClampNeg
      rw [if_pos (by omega), ← h90] at hcu
      have hr1t : r20.toInt = 1 := by rw [hr1]; decide
      have hNI2 : NIn (M21 90) (M 1 0).toInt := by rw [h90]; exact NIn_upd hNI _
      have eF : (qrF (vC M) (M 2) (M 89) (M 88 3).toNatClampNeg (M 1 0).toNatClampNeg (M 88 4).toNatClampNeg y tr) = (upd tr.1 (qrL (vC M) (M 2) (M 89) (M 88 3).toNatClampNeg (M 1 0).toNatClampNeg tr).toNatClampNeg 0, tr.2.1, tr.2.2.1, tr.2.2.2.1 ++ [(2, qrL (vC M) (M 2) (M 89) (M 88 3).toNatClampNeg (M 1 0).toNatClampNeg tr)], true) := by
        unfold qrF
        rw [if_neg (fun h9 => by rw [hT] at h9; exact Bool.noConfusion h9), if_neg (by omega), if_neg (by omega)]
      have hz9 := z_of (r := r20) (by omega) (by omega)
      exact g_zret C hr (by rcases hz9 with h9 | h9 <;> rw [h9] <;> rfl) ⟨⟨Or.inl ⟨hr1, by rw [eF]⟩, fun _ => by rw [eF]; exact ⟨by rw [h90, hI9, el9], by rw [p121]; exact hu, by rw [p122]; exact hd, by rw [el9] at rp1; exact rp1, fun i hi => by rw [congrFun p121 i, congrFun p122 i]; exact hW i hi, hcu, hNI2, by omega, np2, by omega⟩⟩, hI, hF, hG⟩ dX8_endRound_84
    ·
      have f23 := cnlt rfl rfl ev12 c13
      refine g_iconst C 1 dX8_endRound_54 (by decide) ?_
      refine g_goto C 59 dX8_endRound_55 (by decide) ?_
      refine g_istore C [(6, .int 1), (5, .int 0), (0, .ref (ad 120)), (1, .int x), (2, .long y), (4, .ref (ad 125))] dX8_endRound_59 (by decide) rfl ?_
      refine g_iload C 1 dX8_endRound_61 rfl ?_
      refine g_if_ne C 85 dX8_endRound_63 (by decide) (fun c24 => absurd c24 (by decide)) (fun _ => ?_)
      refine g_iload C 0 dX8_endRound_66 rfl ?_
      refine g_if_ne C 85 dX8_endRound_68 (by decide) (fun _ => ?_) (fun c25 => absurd c25 (by decide))
      refine g_aload C 5 dX8_endRound_85 rfl ?_
      refine g_iconst C 1 dX8_endRound_87 (by decide) ?_
      refine g_iload_n C 3 dX8_endRound_88 rfl ?_
      refine g_aload_n C 2 dX8_endRound_89 rfl ?_
      refine g_get C (.ref (ad 88)) 0 in_X8_endRound_8 (List.mem_of_getElem? (i := 1) rfl) (by decide) (ce_trans ad cs _ _) rfl (by decide) rfl rfl dX8_endRound_90 ?_
      refine g_callVv C (n := 3) (As := [.int 1, .int x, .ref (ad 88)]) (st := []) (k_X7_note_a l D ad cs _ _ 1 x hI (by omega)) gX8_endRound_X7_note rfl rfl rfl (by decide +kernel) ⟨Nat.le_of_ble_eq_true rfl, Nat.le_of_ble_eq_true rfl⟩ rfl (Nat.le_of_ble_eq_true rfl) ⟨Nat.zero_le _, Nat.zero_le _⟩ (by decide) (ce_ra ad cs _ _) rfl rfl dX8_endRound_93 (fun M27 L28 hr26 => ?_)
      obtain ⟨hr26, hI, hFr26, hGr26⟩ := hr26
      have hF : ∀ k i, k ≠ 90 ∧ ¬ (k = 125 ∧ i = 0) ∧ ¬ (k = 125 ∧ i = 2) ∧ k ≠ 126 ∧ k ≠ 127 ∧ k ≠ 128 → M27 k i = M k i := fun k i hk => by (rw [hFr26 k i (by omega)]; try exact hF k i hk)
      have hG : ∀ k i, k ≠ 121 ∧ k ≠ 122 ∧ ¬ (k = 124 ∧ i = 0) ∧ ¬ (k = 124 ∧ i = 1) ∧ ¬ (131 ≤ k ∧ k < 191) → L28 k i = L k i := fun k i hk => by (rw [hGr26 k i (by omega)]; try exact hG k i hk)
      have hV : vC M27 = vC M := by rw [vC_fr (fun k hk => funext (fun i => hFr26 k i (by omega))), hV]
      have k125_0 : M27 125 0 = M 125 0 := (hFr26 125 0 (by omega)).trans k125_0
      have k125_2 : M27 125 2 = M27 125 2 := rfl
      have kt125_0 := congrArg Int32.toInt k125_0
      have kt125_2 := congrArg Int32.toInt k125_2
      have l124_0 : L28 124 0 = L 124 0 := (hGr26 124 0 (by omega)).trans l124_0
      have l124_1 : L28 124 1 = L 124 1 := (hGr26 124 1 (by omega)).trans l124_1
      have p121 : L28 121 = L 121 := (funext (fun i => hGr26 121 i (by omega))).trans p121
      have p122 : L28 122 = L 122 := (funext (fun i => hGr26 122 i (by omega))).trans p122
      have q90 : M27 90 = M 90 := (funext (fun i => hFr26 90 i (by omega))).trans q90
      have q126 : M27 126 = M 126 := (funext (fun i => hFr26 126 i (by omega))).trans q126
      have q127 : M27 127 = M27 127 := rfl
      have q128 : M27 128 = M27 128 := rfl
      obtain ⟨np2, npw, nph⟩ := hr26
      have np0 : M27 125 0 = M 125 0 := hFr26 125 0 (by omega)
      have np0t := congrArg Int32.toInt np0
      have nps : M27 126 = M 126 := funext (fun i => hFr26 126 i (by omega))
      have hb9 : RP (M 125 0) (M 126) (M 125 2) (M 127) (M 128) _ _ := hRR
      rw [← np0, ← nps] at hb9
      have rp1 := RP_note hb9 np2 npw nph
      refine g_aload C 5 dX8_endRound_96 rfl ?_
      refine g_iload_n C 3 dX8_endRound_98 rfl ?_
      refine g_callVv C (n := 1) (As := [.int x]) (st := []) (k_X7_give_a l D ad cs _ _ x hI (by omega)) gX8_endRound_X7_give rfl rfl rfl (by decide +kernel) ⟨Nat.le_of_ble_eq_true rfl, Nat.le_of_ble_eq_true rfl⟩ rfl (Nat.le_of_ble_eq_true rfl) ⟨Nat.zero_le _, Nat.zero_le _⟩ (by decide) (ce_ra ad cs _ _) rfl rfl dX8_endRound_99 (fun M30 L31 hr29 => ?_)
      obtain ⟨hr29, hI, hFr29, hGr29⟩ := hr29
      have hF : ∀ k i, k ≠ 90 ∧ ¬ (k = 125 ∧ i = 0) ∧ ¬ (k = 125 ∧ i = 2) ∧ k ≠ 126 ∧ k ≠ 127 ∧ k ≠ 128 → M30 k i = M k i := fun k i hk => by (rw [hFr29 k i (by omega)]; try exact hF k i hk)
      have hG : ∀ k i, k ≠ 121 ∧ k ≠ 122 ∧ ¬ (k = 124 ∧ i = 0) ∧ ¬ (k = 124 ∧ i = 1) ∧ ¬ (131 ≤ k ∧ k < 191) → L31 k i = L k i := fun k i hk => by (rw [hGr29 k i trivial]; try exact hG k i hk)
      have hV : vC M30 = vC M := by rw [vC_fr (fun k hk => funext (fun i => hFr29 k i (by omega))), hV]
      have k125_2 : M30 125 2 = M27 125 2 := (hFr29 125 2 (by omega)).trans k125_2
      have k125_0 : M30 125 0 = M30 125 0 := rfl
      have kt125_0 := congrArg Int32.toInt k125_0
      have kt125_2 := congrArg Int32.toInt k125_2
      have l124_0 : L31 124 0 = L 124 0 := (hGr29 124 0 trivial).trans l124_0
      have l124_1 : L31 124 1 = L 124 1 := (hGr29 124 1 trivial).trans l124_1
      have p121 : L31 121 = L 121 := (funext (fun i => hGr29 121 i trivial)).trans p121
      have p122 : L31 122 = L 122 := (funext (fun i => hGr29 122 i trivial)).trans p122
      have q90 : M30 90 = M 90 := (funext (fun i => hFr29 90 i (by omega))).trans q90
      have q126 : M30 126 = M30 126 := rfl
      have q127 : M30 127 = M27 127 := (funext (fun i => hFr29 127 i (by omega))).trans q127
      have q128 : M30 128 = M27 128 := (funext (fun i => hFr29 128 i (by omega))).trans q128
      obtain ⟨gv0, gvs⟩ := hr29
      have gv2 : M30 125 2 = M27 125 2 := hFr29 125 2 (by omega)
      have gv2t := congrArg Int32.toInt gv2
      have gv127 : M30 127 = M27 127 := funext (fun i => hFr29 127 i (by omega))
      have gv128 : M30 128 = M27 128 := funext (fun i => hFr29 128 i (by omega))
      have hb9 : RP (M27 125 0) (M27 126) (M27 125 2) (M27 127) (M27 128) _ _ := rp1
      rw [← gv2, ← gv127, ← gv128] at hb9
      have rp2 := RP_give hb9 gv0 gvs
      refine g_aload_n C 2 dX8_endRound_102 rfl ?_
      refine g_get C (.ref (ad 88)) 0 in_X8_endRound_8 (List.mem_of_getElem? (i := 1) rfl) (by decide) (ce_trans ad cs _ _) rfl (by decide) rfl rfl dX8_endRound_103 ?_
      refine g_get C (.ref (ad 90)) 5 in_X8_endRound_6 (List.mem_of_getElem? (i := 6) rfl) (by decide) (ce_poll ad cs _ _) rfl (by decide) rfl rfl dX8_endRound_106 ?_
      refine g_iload_n C 3 dX8_endRound_109 rfl ?_
      refine g_iconst C 0 dX8_endRound_110 (by decide) ?_
      have nx := ixn (x := x) (by omega)
      refine g_zast C (by decide) (ce_pin ad cs _ _) (by rw [sI_k]; rfl) (fin' (n := 10) rfl (by omega) (by omega)) dX8_endRound_111 ?_
      refine g_nm (fun M32 hM32 => ?_)
      have zy33 : (0 : Int32).toInt = 0 := by decide
      have hI : IC M32 := by rw [hM32]; exact hI.st (bC_free (by decide) (by decide) (by decide) (by decide) (by decide) (by decide) (by decide))
      have hF : ∀ k i, k ≠ 90 ∧ ¬ (k = 125 ∧ i = 0) ∧ ¬ (k = 125 ∧ i = 2) ∧ k ≠ 126 ∧ k ≠ 127 ∧ k ≠ 128 → M32 k i = M k i := fun k i hk => by (rw [hM32, sI_at, if_neg (by omega)]; try exact hF k i hk)
      have k125_0 : M32 125 0 = M30 125 0 := by rw [hM32, sI_n _ _ _ (by decide)]; try exact k125_0
      have k125_2 : M32 125 2 = M27 125 2 := by rw [hM32, sI_n _ _ _ (by decide)]; try exact k125_2
      have q126 : M32 126 = M30 126 := by rw [hM32, sI_n _ _ _ (by decide)]; try exact q126
      have q127 : M32 127 = M27 127 := by rw [hM32, sI_n _ _ _ (by decide)]; try exact q127
      have q128 : M32 128 = M27 128 := by rw [hM32, sI_n _ _ _ (by decide)]; try exact q128
      have hV : vC M32 = vC M := by rw [hM32, vC_z (by decide), hV]
      have h90 : M32 90 = upd (M 90) x.toNatClampNeg 0 := by rw [hM32, sI_k, q90]; rfl
      have hcu := cI_upd (T := M 90) (b := x.toNatClampNeg) hin (M 1 0).toNatClampNeg
      rw [if_pos (by omega), ← h90] at hcu
      have hNI2 : NIn (M32 90) (M 1 0).toInt := by rw [h90]; exact NIn_upd hNI _
      have e125 : M32 125 = M30 125 := by rw [hM32, sI_n _ _ _ (by decide)]
      have e126 : M32 126 = M30 126 := by rw [hM32, sI_n _ _ _ (by decide)]
      have e127 : M32 127 = M30 127 := by rw [hM32, sI_n _ _ _ (by decide)]
      have e128 : M32 128 = M30 128 := by rw [hM32, sI_n _ _ _ (by decide)]
      have rp3 : RP (M30 125 0) (M30 126) (M30 125 2) (M30 127) (M30 128) _ _ := rp2
      rw [← e125, ← e126, ← e127, ← e128] at rp3
      have k0t := congrArg Int32.toInt k125_0
      have k2t := congrArg Int32.toInt k125_2
      have q90 : M32 90 = M32 90 := rfl
      refine g_iload C 1 dX8_endRound_112 rfl ?_
      refine g_if_ne C 126 dX8_endRound_114 (by decide) (fun c34 => absurd c34 (by decide)) (fun _ => ?_)
      refine g_aload_n C 2 dX8_endRound_117 rfl ?_
      refine g_iload_n C 3 dX8_endRound_118 rfl ?_
      refine g_lload_n C 4 dX8_endRound_119 rfl ?_
      have eVc : vC M32 = vC M := vC_fr (fun k hk => funext (fun i => hF k i (by omega)))
      have e89c : M32 89 = M 89 := funext (fun i => hF 89 i (by omega))
      have e88c : M32 88 3 = M 88 3 := hF 88 3 (by omega)
      have e123c : M32 123 = M 123 := funext (fun i => hF 123 i (by omega))
      have e91c : L31 91 = L 91 := funext (fun i => hG 91 i (by omega))
      have e92c : L31 92 = L 92 := funext (fun i => hG 92 i (by omega))
      have e121c : L31 121 = L 121 := p121
      have e122c : L31 122 = L 122 := p122
      have hWc : WTc L31 (M32 88 3).toNatClampNeg := by unfold WTc; rw [e88c, e121c, e122c]; exact hW
      refine g_callVi C (n := 2) (As := [.int x, .long y]) (st := []) (k_X8_passOn l D ad cs _ _ x y hI (I0 := M 90) ⟨by omega, by omega⟩ hq hWc (by rw [e91c, e92c]; exact hok1) (by rw [e91c, e92c]; omega) (by rw [e88c, e123c, eVc, e89c]; exact hown)) gX8_endRound_X8_passOn rfl rfl rfl (by decide +kernel) ⟨Nat.le_of_ble_eq_true rfl, Nat.le_of_ble_eq_true rfl⟩ rfl (Nat.le_of_ble_eq_true rfl) ⟨Nat.zero_le _, Nat.zero_le _⟩ (by decide) (ce_trans ad cs _ _) rfl rfl dX8_endRound_120 (fun r35 M36 L37 hr35 => ?_)
      obtain ⟨hr35, hI, hFr35, hGr35⟩ := hr35
      have hF : ∀ k i, k ≠ 90 ∧ ¬ (k = 125 ∧ i = 0) ∧ ¬ (k = 125 ∧ i = 2) ∧ k ≠ 126 ∧ k ≠ 127 ∧ k ≠ 128 → M36 k i = M k i := fun k i hk => by (rw [hFr35 k i trivial]; try exact hF k i hk)
      have hG : ∀ k i, k ≠ 121 ∧ k ≠ 122 ∧ ¬ (k = 124 ∧ i = 0) ∧ ¬ (k = 124 ∧ i = 1) ∧ ¬ (131 ≤ k ∧ k < 191) → L37 k i = L k i := fun k i hk => by (rw [hGr35 k i (by omega)]; try exact hG k i hk)
      have hV : vC M36 = vC M := by rw [vC_fr (fun k hk => funext (fun i => hFr35 k i trivial)), hV]
      have k125_0 : M36 125 0 = M30 125 0 := (hFr35 125 0 trivial).trans k125_0
      have k125_2 : M36 125 2 = M27 125 2 := (hFr35 125 2 trivial).trans k125_2
      have kt125_0 := congrArg Int32.toInt k125_0
      have kt125_2 := congrArg Int32.toInt k125_2
      have l124_0 : L37 124 0 = L37 124 0 := rfl
      have l124_1 : L37 124 1 = L37 124 1 := rfl
      have p121 : L37 121 = L37 121 := rfl
      have p122 : L37 122 = L37 122 := rfl
      have q90 : M36 90 = M32 90 := (funext (fun i => hFr35 90 i trivial)).trans q90
      have q126 : M36 126 = M30 126 := (funext (fun i => hFr35 126 i trivial)).trans q126
      have q127 : M36 127 = M27 127 := (funext (fun i => hFr35 127 i trivial)).trans q127
      have q128 : M36 128 = M27 128 := (funext (fun i => hFr35 128 i trivial)).trans q128
      have hFp := hFr35
      obtain ⟨pz, pe⟩ := hr35
      rw [eVc, e89c, e88c, e91c, e92c, e121c, e122c, eU9, eV9, hu, hd, hI9] at pz pe
      rw [hc] at pz pe
      have pz : zo r35 (lg2 (qrU (vC M) (M 2) (M 89) (M 88 3).toNatClampNeg (M 1 0).toNatClampNeg tr) (qrV (vC M) (M 2) (M 89) (M 88 3).toNatClampNeg (M 1 0).toNatClampNeg tr) y ∧ (qrW (vC M) (M 2) (M 89) (M 88 3).toNatClampNeg (M 1 0).toNatClampNeg y tr).2.2 = true) := pz
      have pe : lg2 (qrU (vC M) (M 2) (M 89) (M 88 3).toNatClampNeg (M 1 0).toNatClampNeg tr) (qrV (vC M) (M 2) (M 89) (M 88 3).toNatClampNeg (M 1 0).toNatClampNeg tr) y → (qrW (vC M) (M 2) (M 89) (M 88 3).toNatClampNeg (M 1 0).toNatClampNeg y tr).2.2 = true → L37 121 = (qrW (vC M) (M 2) (M 89) (M 88 3).toNatClampNeg (M 1 0).toNatClampNeg y tr).1 ∧ L37 122 = (qrW (vC M) (M 2) (M 89) (M 88 3).toNatClampNeg (M 1 0).toNatClampNeg y tr).2.1 ∧ WTc L37 (M 88 3).toNatClampNeg := pe
      obtain ⟨bar35, bbr35⟩ := zo_b pz
      refine g_if_eq C 130 dX8_endRound_123 (by decide) (fun c38 => ?_) (fun c38 => ?_)
      ·
        have f39 := feq rfl (by decide : (0 : Int32).toInt = 0) c38
        have hnpo := zo_f pz c38
        refine g_iconst C 0 dX8_endRound_130 (by decide) ?_
        have eF : (qrF (vC M) (M 2) (M 89) (M 88 3).toNatClampNeg (M 1 0).toNatClampNeg (M 88 4).toNatClampNeg y tr) = (tr.1, tr.2.1, tr.2.2.1, tr.2.2.2.1, false) := by
          unfold qrF
          rw [if_neg (fun h9 => by rw [hT] at h9; exact Bool.noConfusion h9), if_neg (by omega), if_pos (by omega), if_neg hnpo]
        have zr9 : (0 : Int32).toInt = 0 := by decide
        exact g_zret C hr rfl ⟨⟨Or.inr ⟨rfl, fun h9 => by rw [eF] at h9; exact Bool.noConfusion h9⟩, fun h9 => by rw [eF] at h9; exact Bool.noConfusion h9⟩, hI, hF, hG⟩ dX8_endRound_131
      ·
        have f40 := fne rfl (by decide : (0 : Int32).toInt = 0) c38
        have hpo := zo_t pz c38
        refine g_iconst C 1 dX8_endRound_126 (by decide) ?_
        refine g_goto C 131 dX8_endRound_127 (by decide) ?_
        have eF : (qrF (vC M) (M 2) (M 89) (M 88 3).toNatClampNeg (M 1 0).toNatClampNeg (M 88 4).toNatClampNeg y tr) = (upd tr.1 (qrC (vC M) (M 2) (M 89) (M 88 3).toNatClampNeg (M 1 0).toNatClampNeg tr).toNatClampNeg 0, ((qrW (vC M) (M 2) (M 89) (M 88 3).toNatClampNeg (M 1 0).toNatClampNeg y tr).1, (qrW (vC M) (M 2) (M 89) (M 88 3).toNatClampNeg (M 1 0).toNatClampNeg y tr).2.1), tr.2.2.1 ++ [qrC (vC M) (M 2) (M 89) (M 88 3).toNatClampNeg (M 1 0).toNatClampNeg tr], tr.2.2.2.1 ++ [(1, qrC (vC M) (M 2) (M 89) (M 88 3).toNatClampNeg (M 1 0).toNatClampNeg tr)], true) := by
          unfold qrF
          rw [if_neg (fun h9 => by rw [hT] at h9; exact Bool.noConfusion h9), if_neg (by omega), if_pos (by omega), if_pos hpo]
        have e90z := q90
        have rpz := rp3
        have kz0 := congrArg Int32.toInt k125_0
        have kz2 := congrArg Int32.toInt k125_2
        have rpz : RP (M36 125 0) (M36 126) (M36 125 2) (M36 127) (M36 128) (tr.2.2.1 ++ [x]) (tr.2.2.2.1 ++ [(1, x)]) := by
          rw [show M36 125 = M32 125 from funext (fun i => hFp 125 i trivial), show M36 126 = M32 126 from funext (fun i => hFp 126 i trivial), show M36 127 = M32 127 from funext (fun i => hFp 127 i trivial), show M36 128 = M32 128 from funext (fun i => hFp 128 i trivial)]
          exact rp3
        have zr9 : (1 : Int32).toInt = 1 := by decide
        exact g_zret C hr rfl ⟨⟨Or.inl ⟨rfl, by rw [eF]⟩, fun _ => by rw [eF]; exact ⟨by rw [q90, h90, hI9, ← hc], (pe hpo.1 hpo.2).1, (pe hpo.1 hpo.2).2.1, by rw [hc] at rpz; exact rpz, (pe hpo.1 hpo.2).2.2, by rw [q90]; exact hcu, by rw [q90]; exact hNI2, by rw [q90]; omega, by omega, by omega⟩⟩, hI, hF, hG⟩ dX8_endRound_131
  ·
    have f41 := fnl rfl rfl c7
    refine g_iconst C 1 dX8_endRound_23 (by decide) ?_
    refine g_goto C 28 dX8_endRound_24 (by decide) ?_
    refine g_istore C [(5, .int 1), (0, .ref (ad 120)), (1, .int x), (2, .long y), (4, .ref (ad 125))] dX8_endRound_28 (by decide) rfl ?_
    refine g_aload_n C 1 dX8_endRound_30 rfl ?_
    refine g_get C (.ref (ad 88)) 0 in_X8_endRound_8 (List.mem_of_getElem? (i := 1) rfl) (by decide) (ce_trans ad cs _ _) rfl (by decide) rfl rfl dX8_endRound_31 ?_
    refine g_get C (.ref (ad 91)) 6 in_X8_endRound_6 (List.mem_of_getElem? (i := 4) rfl) (by decide) (ce_poll ad cs _ _) rfl (by decide) rfl rfl dX8_endRound_34 ?_
    refine g_iload_n C 2 dX8_endRound_37 rfl ?_
    have nx := ixn (x := x) (by omega)
    refine g_lald C (by decide) (ce_pupper ad cs _ _) (fin' (n := 10) rfl (by omega) (by omega)) dX8_endRound_38 ?_
    refine g_nl (fun v42 ev42 => ?_)
    have gv42 : v42 = L 91 x.toNatClampNeg := ev42
    have tv42 := congrArg Int64.toInt gv42
    refine g_lload_n C 3 dX8_endRound_39 rfl ?_
    refine g_aload_n C 1 dX8_endRound_40 rfl ?_
    refine g_get C (.ref (ad 88)) 0 in_X8_endRound_8 (List.mem_of_getElem? (i := 1) rfl) (by decide) (ce_trans ad cs _ _) rfl (by decide) rfl rfl dX8_endRound_41 ?_
    refine g_get C (.ref (ad 92)) 7 in_X8_endRound_6 (List.mem_of_getElem? (i := 5) rfl) (by decide) (ce_poll ad cs _ _) rfl (by decide) rfl rfl dX8_endRound_44 ?_
    refine g_iload_n C 2 dX8_endRound_47 rfl ?_
    have nx := ixn (x := x) (by omega)
    refine g_lald C (by decide) (ce_plower ad cs _ _) (fin' (n := 10) rfl (by omega) (by omega)) dX8_endRound_48 ?_
    refine g_nl (fun v43 ev43 => ?_)
    have gv43 : v43 = L 92 x.toNatClampNeg := ev43
    have tv43 := congrArg Int64.toInt gv43
    refine g_lmul C dX8_endRound_49 ?_
    refine g_nl (fun v44 ev44 => ?_)
    try have fv44 := prodI ev44
    have m1 := mul_le9 (a := y.toInt) (b := v43.toInt) (by omega) (by omega) (by omega) (by omega)
    have eB9 : v44 = y * qrV (vC M) (M 2) (M 89) (M 88 3).toNatClampNeg (M 1 0).toNatClampNeg tr := by rw [ev44, gv43, eV9]
    have eBt := congrArg Int64.toInt eB9
    have eUt : v42.toInt = (qrU (vC M) (M 2) (M 89) (M 88 3).toNatClampNeg (M 1 0).toNatClampNeg tr).toInt := by rw [gv42, eU9]
    have eB8 : y.toInt * (L 92 x.toNatClampNeg).toInt = v44.toInt := by rw [← tv43, fv44, bmod_id (by omega) (by omega)]
    refine g_lcmp C dX8_endRound_50 ?_
    refine g_ni (fun v45 ev45 => ?_)
    refine g_if_lt C 58 dX8_endRound_51 (by decide) (fun c46 => ?_) (fun c46 => ?_)
    ·
      have f47 := clt rfl rfl ev45 c46
      refine g_iconst C 0 dX8_endRound_58 (by decide) ?_
      refine g_istore C [(6, .int 0), (5, .int 1), (0, .ref (ad 120)), (1, .int x), (2, .long y), (4, .ref (ad 125))] dX8_endRound_59 (by decide) rfl ?_
      refine g_iload C 1 dX8_endRound_61 rfl ?_
      refine g_if_ne C 85 dX8_endRound_63 (by decide) (fun _ => ?_) (fun c48 => absurd c48 (by decide))
      refine g_aload C 5 dX8_endRound_85 rfl ?_
      refine g_iconst C 1 dX8_endRound_87 (by decide) ?_
      refine g_iload_n C 3 dX8_endRound_88 rfl ?_
      refine g_aload_n C 2 dX8_endRound_89 rfl ?_
      refine g_get C (.ref (ad 88)) 0 in_X8_endRound_8 (List.mem_of_getElem? (i := 1) rfl) (by decide) (ce_trans ad cs _ _) rfl (by decide) rfl rfl dX8_endRound_90 ?_
      refine g_callVv C (n := 3) (As := [.int 1, .int x, .ref (ad 88)]) (st := []) (k_X7_note_a l D ad cs _ _ 1 x hI (by omega)) gX8_endRound_X7_note rfl rfl rfl (by decide +kernel) ⟨Nat.le_of_ble_eq_true rfl, Nat.le_of_ble_eq_true rfl⟩ rfl (Nat.le_of_ble_eq_true rfl) ⟨Nat.zero_le _, Nat.zero_le _⟩ (by decide) (ce_ra ad cs _ _) rfl rfl dX8_endRound_93 (fun M50 L51 hr49 => ?_)
      obtain ⟨hr49, hI, hFr49, hGr49⟩ := hr49
      have hF : ∀ k i, k ≠ 90 ∧ ¬ (k = 125 ∧ i = 0) ∧ ¬ (k = 125 ∧ i = 2) ∧ k ≠ 126 ∧ k ≠ 127 ∧ k ≠ 128 → M50 k i = M k i := fun k i hk => by (rw [hFr49 k i (by omega)]; try exact hF k i hk)
      have hG : ∀ k i, k ≠ 121 ∧ k ≠ 122 ∧ ¬ (k = 124 ∧ i = 0) ∧ ¬ (k = 124 ∧ i = 1) ∧ ¬ (131 ≤ k ∧ k < 191) → L51 k i = L k i := fun k i hk => by (rw [hGr49 k i (by omega)]; try exact hG k i hk)
      have hV : vC M50 = vC M := by rw [vC_fr (fun k hk => funext (fun i => hFr49 k i (by omega))), hV]
      have k125_0 : M50 125 0 = M 125 0 := (hFr49 125 0 (by omega)).trans k125_0
      have k125_2 : M50 125 2 = M50 125 2 := rfl
      have kt125_0 := congrArg Int32.toInt k125_0
      have kt125_2 := congrArg Int32.toInt k125_2
      have l124_0 : L51 124 0 = L 124 0 := (hGr49 124 0 (by omega)).trans l124_0
      have l124_1 : L51 124 1 = L 124 1 := (hGr49 124 1 (by omega)).trans l124_1
      have p121 : L51 121 = L 121 := (funext (fun i => hGr49 121 i (by omega))).trans p121
      have p122 : L51 122 = L 122 := (funext (fun i => hGr49 122 i (by omega))).trans p122
      have q90 : M50 90 = M 90 := (funext (fun i => hFr49 90 i (by omega))).trans q90
      have q126 : M50 126 = M 126 := (funext (fun i => hFr49 126 i (by omega))).trans q126
      have q127 : M50 127 = M50 127 := rfl
      have q128 : M50 128 = M50 128 := rfl
      obtain ⟨np2, npw, nph⟩ := hr49
      have np0 : M50 125 0 = M 125 0 := hFr49 125 0 (by omega)
      have np0t := congrArg Int32.toInt np0
      have nps : M50 126 = M 126 := funext (fun i => hFr49 126 i (by omega))
      have hb9 : RP (M 125 0) (M 126) (M 125 2) (M 127) (M 128) _ _ := hRR
      rw [← np0, ← nps] at hb9
      have rp1 := RP_note hb9 np2 npw nph
      refine g_aload C 5 dX8_endRound_96 rfl ?_
      refine g_iload_n C 3 dX8_endRound_98 rfl ?_
      refine g_callVv C (n := 1) (As := [.int x]) (st := []) (k_X7_give_a l D ad cs _ _ x hI (by omega)) gX8_endRound_X7_give rfl rfl rfl (by decide +kernel) ⟨Nat.le_of_ble_eq_true rfl, Nat.le_of_ble_eq_true rfl⟩ rfl (Nat.le_of_ble_eq_true rfl) ⟨Nat.zero_le _, Nat.zero_le _⟩ (by decide) (ce_ra ad cs _ _) rfl rfl dX8_endRound_99 (fun M53 L54 hr52 => ?_)
      obtain ⟨hr52, hI, hFr52, hGr52⟩ := hr52
      have hF : ∀ k i, k ≠ 90 ∧ ¬ (k = 125 ∧ i = 0) ∧ ¬ (k = 125 ∧ i = 2) ∧ k ≠ 126 ∧ k ≠ 127 ∧ k ≠ 128 → M53 k i = M k i := fun k i hk => by (rw [hFr52 k i (by omega)]; try exact hF k i hk)
      have hG : ∀ k i, k ≠ 121 ∧ k ≠ 122 ∧ ¬ (k = 124 ∧ i = 0) ∧ ¬ (k = 124 ∧ i = 1) ∧ ¬ (131 ≤ k ∧ k < 191) → L54 k i = L k i := fun k i hk => by (rw [hGr52 k i trivial]; try exact hG k i hk)
      have hV : vC M53 = vC M := by rw [vC_fr (fun k hk => funext (fun i => hFr52 k i (by omega))), hV]
      have k125_2 : M53 125 2 = M50 125 2 := (hFr52 125 2 (by omega)).trans k125_2
      have k125_0 : M53 125 0 = M53 125 0 := rfl
      have kt125_0 := congrArg Int32.toInt k125_0
      have kt125_2 := congrArg Int32.toInt k125_2
      have l124_0 : L54 124 0 = L 124 0 := (hGr52 124 0 trivial).trans l124_0
      have l124_1 : L54 124 1 = L 124 1 := (hGr52 124 1 trivial).trans l124_1
      have p121 : L54 121 = L 121 := (funext (fun i => hGr52 121 i trivial)).trans p121
      have p122 : L54 122 = L 122 := (funext (fun i => hGr52 122 i trivial)).trans p122
      have q90 : M53 90 = M 90 := (funext (fun i => hFr52 90 i (by omega))).trans q90
      have q126 : M53 126 = M53 126 := rfl
      have q127 : M53 127 = M50 127 := (funext (fun i => hFr52 127 i (by omega))).trans q127
      have q128 : M53 128 = M50 128 := (funext (fun i => hFr52 128 i (by omega))).trans q128
      obtain ⟨gv0, gvs⟩ := hr52
      have gv2 : M53 125 2 = M50 125 2 := hFr52 125 2 (by omega)
      have gv2t := congrArg Int32.toInt gv2
      have gv127 : M53 127 = M50 127 := funext (fun i => hFr52 127 i (by omega))
      have gv128 : M53 128 = M50 128 := funext (fun i => hFr52 128 i (by omega))
      have hb9 : RP (M50 125 0) (M50 126) (M50 125 2) (M50 127) (M50 128) _ _ := rp1
      rw [← gv2, ← gv127, ← gv128] at hb9
      have rp2 := RP_give hb9 gv0 gvs
      refine g_aload_n C 2 dX8_endRound_102 rfl ?_
      refine g_get C (.ref (ad 88)) 0 in_X8_endRound_8 (List.mem_of_getElem? (i := 1) rfl) (by decide) (ce_trans ad cs _ _) rfl (by decide) rfl rfl dX8_endRound_103 ?_
      refine g_get C (.ref (ad 90)) 5 in_X8_endRound_6 (List.mem_of_getElem? (i := 6) rfl) (by decide) (ce_poll ad cs _ _) rfl (by decide) rfl rfl dX8_endRound_106 ?_
      refine g_iload_n C 3 dX8_endRound_109 rfl ?_
      refine g_iconst C 0 dX8_endRound_110 (by decide) ?_
      have nx := ixn (x := x) (by omega)
      refine g_zast C (by decide) (ce_pin ad cs _ _) (by rw [sI_k]; rfl) (fin' (n := 10) rfl (by omega) (by omega)) dX8_endRound_111 ?_
      refine g_nm (fun M55 hM55 => ?_)
      have zy56 : (0 : Int32).toInt = 0 := by decide
      have hI : IC M55 := by rw [hM55]; exact hI.st (bC_free (by decide) (by decide) (by decide) (by decide) (by decide) (by decide) (by decide))
      have hF : ∀ k i, k ≠ 90 ∧ ¬ (k = 125 ∧ i = 0) ∧ ¬ (k = 125 ∧ i = 2) ∧ k ≠ 126 ∧ k ≠ 127 ∧ k ≠ 128 → M55 k i = M k i := fun k i hk => by (rw [hM55, sI_at, if_neg (by omega)]; try exact hF k i hk)
      have k125_0 : M55 125 0 = M53 125 0 := by rw [hM55, sI_n _ _ _ (by decide)]; try exact k125_0
      have k125_2 : M55 125 2 = M50 125 2 := by rw [hM55, sI_n _ _ _ (by decide)]; try exact k125_2
      have q126 : M55 126 = M53 126 := by rw [hM55, sI_n _ _ _ (by decide)]; try exact q126
      have q127 : M55 127 = M50 127 := by rw [hM55, sI_n _ _ _ (by decide)]; try exact q127
      have q128 : M55 128 = M50 128 := by rw [hM55, sI_n _ _ _ (by decide)]; try exact q128
      have hV : vC M55 = vC M := by rw [hM55, vC_z (by decide), hV]
      have h90 : M55 90 = upd (M 90) x.toNatClampNeg 0 := by rw [hM55, sI_k, q90]; rfl
      have hcu := cI_upd (T := M 90) (b := x.toNatClampNeg) hin (M 1 0).toNatClampNeg
      rw [if_pos (by omega), ← h90] at hcu
      have hNI2 : NIn (M55 90) (M 1 0).toInt := by rw [h90]; exact NIn_upd hNI _
      have e125 : M55 125 = M53 125 := by rw [hM55, sI_n _ _ _ (by decide)]
      have e126 : M55 126 = M53 126 := by rw [hM55, sI_n _ _ _ (by decide)]
      have e127 : M55 127 = M53 127 := by rw [hM55, sI_n _ _ _ (by decide)]
      have e128 : M55 128 = M53 128 := by rw [hM55, sI_n _ _ _ (by decide)]
      have rp3 : RP (M53 125 0) (M53 126) (M53 125 2) (M53 127) (M53 128) _ _ := rp2
      rw [← e125, ← e126, ← e127, ← e128] at rp3
      have k0t := congrArg Int32.toInt k125_0
      have k2t := congrArg Int32.toInt k125_2
      have q90 : M55 90 = M55 90 := rfl
      refine g_iload C 1 dX8_endRound_112 rfl ?_
      refine g_if_ne C 126 dX8_endRound_114 (by decide) (fun _ => ?_) (fun c57 => absurd c57 (by decide))
      refine g_iconst C 1 dX8_endRound_126 (by decide) ?_
      refine g_goto C 131 dX8_endRound_127 (by decide) ?_
      have eF : (qrF (vC M) (M 2) (M 89) (M 88 3).toNatClampNeg (M 1 0).toNatClampNeg (M 88 4).toNatClampNeg y tr) = (upd tr.1 (qrC (vC M) (M 2) (M 89) (M 88 3).toNatClampNeg (M 1 0).toNatClampNeg tr).toNatClampNeg 0, tr.2.1, tr.2.2.1 ++ [qrC (vC M) (M 2) (M 89) (M 88 3).toNatClampNeg (M 1 0).toNatClampNeg tr], tr.2.2.2.1 ++ [(1, qrC (vC M) (M 2) (M 89) (M 88 3).toNatClampNeg (M 1 0).toNatClampNeg tr)], true) := by
        unfold qrF
        rw [if_neg (fun h9 => by rw [hT] at h9; exact Bool.noConfusion h9), if_pos (by omega)]
      have zr9 : (1 : Int32).toInt = 1 := by decide
      exact g_zret C hr rfl ⟨⟨Or.inl ⟨rfl, by rw [eF]⟩, fun _ => by rw [eF]; exact ⟨by rw [h90, hI9, ← hc], by rw [p121]; exact hu, by rw [p122]; exact hd, by have rpz := rp3; rw [hc] at rpz; exact rpz, fun i hi => by rw [congrFun p121 i, congrFun p122 i]; exact hW i hi, hcu, hNI2, by omega, by omega, by omega⟩⟩, hI, hF, hG⟩ dX8_endRound_131
    ·
      have f58 := cnlt rfl rfl ev45 c46
      refine g_iconst C 1 dX8_endRound_54 (by decide) ?_
      refine g_goto C 59 dX8_endRound_55 (by decide) ?_
      refine g_istore C [(6, .int 1), (5, .int 1), (0, .ref (ad 120)), (1, .int x), (2, .long y), (4, .ref (ad 125))] dX8_endRound_59 (by decide) rfl ?_
      refine g_iload C 1 dX8_endRound_61 rfl ?_
      refine g_if_ne C 85 dX8_endRound_63 (by decide) (fun _ => ?_) (fun c59 => absurd c59 (by decide))
      refine g_aload C 5 dX8_endRound_85 rfl ?_
      refine g_iconst C 1 dX8_endRound_87 (by decide) ?_
      refine g_iload_n C 3 dX8_endRound_88 rfl ?_
      refine g_aload_n C 2 dX8_endRound_89 rfl ?_
      refine g_get C (.ref (ad 88)) 0 in_X8_endRound_8 (List.mem_of_getElem? (i := 1) rfl) (by decide) (ce_trans ad cs _ _) rfl (by decide) rfl rfl dX8_endRound_90 ?_
      refine g_callVv C (n := 3) (As := [.int 1, .int x, .ref (ad 88)]) (st := []) (k_X7_note_a l D ad cs _ _ 1 x hI (by omega)) gX8_endRound_X7_note rfl rfl rfl (by decide +kernel) ⟨Nat.le_of_ble_eq_true rfl, Nat.le_of_ble_eq_true rfl⟩ rfl (Nat.le_of_ble_eq_true rfl) ⟨Nat.zero_le _, Nat.zero_le _⟩ (by decide) (ce_ra ad cs _ _) rfl rfl dX8_endRound_93 (fun M61 L62 hr60 => ?_)
      obtain ⟨hr60, hI, hFr60, hGr60⟩ := hr60
      have hF : ∀ k i, k ≠ 90 ∧ ¬ (k = 125 ∧ i = 0) ∧ ¬ (k = 125 ∧ i = 2) ∧ k ≠ 126 ∧ k ≠ 127 ∧ k ≠ 128 → M61 k i = M k i := fun k i hk => by (rw [hFr60 k i (by omega)]; try exact hF k i hk)
      have hG : ∀ k i, k ≠ 121 ∧ k ≠ 122 ∧ ¬ (k = 124 ∧ i = 0) ∧ ¬ (k = 124 ∧ i = 1) ∧ ¬ (131 ≤ k ∧ k < 191) → L62 k i = L k i := fun k i hk => by (rw [hGr60 k i (by omega)]; try exact hG k i hk)
      have hV : vC M61 = vC M := by rw [vC_fr (fun k hk => funext (fun i => hFr60 k i (by omega))), hV]
      have k125_0 : M61 125 0 = M 125 0 := (hFr60 125 0 (by omega)).trans k125_0
      have k125_2 : M61 125 2 = M61 125 2 := rfl
      have kt125_0 := congrArg Int32.toInt k125_0
      have kt125_2 := congrArg Int32.toInt k125_2
      have l124_0 : L62 124 0 = L 124 0 := (hGr60 124 0 (by omega)).trans l124_0
      have l124_1 : L62 124 1 = L 124 1 := (hGr60 124 1 (by omega)).trans l124_1
      have p121 : L62 121 = L 121 := (funext (fun i => hGr60 121 i (by omega))).trans p121
      have p122 : L62 122 = L 122 := (funext (fun i => hGr60 122 i (by omega))).trans p122
      have q90 : M61 90 = M 90 := (funext (fun i => hFr60 90 i (by omega))).trans q90
      have q126 : M61 126 = M 126 := (funext (fun i => hFr60 126 i (by omega))).trans q126
      have q127 : M61 127 = M61 127 := rfl
      have q128 : M61 128 = M61 128 := rfl
      obtain ⟨np2, npw, nph⟩ := hr60
      have np0 : M61 125 0 = M 125 0 := hFr60 125 0 (by omega)
      have np0t := congrArg Int32.toInt np0
      have nps : M61 126 = M 126 := funext (fun i => hFr60 126 i (by omega))
      have hb9 : RP (M 125 0) (M 126) (M 125 2) (M 127) (M 128) _ _ := hRR
      rw [← np0, ← nps] at hb9
      have rp1 := RP_note hb9 np2 npw nph
      refine g_aload C 5 dX8_endRound_96 rfl ?_
      refine g_iload_n C 3 dX8_endRound_98 rfl ?_
      refine g_callVv C (n := 1) (As := [.int x]) (st := []) (k_X7_give_a l D ad cs _ _ x hI (by omega)) gX8_endRound_X7_give rfl rfl rfl (by decide +kernel) ⟨Nat.le_of_ble_eq_true rfl, Nat.le_of_ble_eq_true rfl⟩ rfl (Nat.le_of_ble_eq_true rfl) ⟨Nat.zero_le _, Nat.zero_le _⟩ (by decide) (ce_ra ad cs _ _) rfl rfl dX8_endRound_99 (fun M64 L65 hr63 => ?_)
      obtain ⟨hr63, hI, hFr63, hGr63⟩ := hr63
      have hF : ∀ k i, k ≠ 90 ∧ ¬ (k = 125 ∧ i = 0) ∧ ¬ (k = 125 ∧ i = 2) ∧ k ≠ 126 ∧ k ≠ 127 ∧ k ≠ 128 → M64 k i = M k i := fun k i hk => by (rw [hFr63 k i (by omega)]; try exact hF k i hk)
      have hG : ∀ k i, k ≠ 121 ∧ k ≠ 122 ∧ ¬ (k = 124 ∧ i = 0) ∧ ¬ (k = 124 ∧ i = 1) ∧ ¬ (131 ≤ k ∧ k < 191) → L65 k i = L k i := fun k i hk => by (rw [hGr63 k i trivial]; try exact hG k i hk)
      have hV : vC M64 = vC M := by rw [vC_fr (fun k hk => funext (fun i => hFr63 k i (by omega))), hV]
      have k125_2 : M64 125 2 = M61 125 2 := (hFr63 125 2 (by omega)).trans k125_2
      have k125_0 : M64 125 0 = M64 125 0 := rfl
      have kt125_0 := congrArg Int32.toInt k125_0
      have kt125_2 := congrArg Int32.toInt k125_2
      have l124_0 : L65 124 0 = L 124 0 := (hGr63 124 0 trivial).trans l124_0
      have l124_1 : L65 124 1 = L 124 1 := (hGr63 124 1 trivial).trans l124_1
      have p121 : L65 121 = L 121 := (funext (fun i => hGr63 121 i trivial)).trans p121
      have p122 : L65 122 = L 122 := (funext (fun i => hGr63 122 i trivial)).trans p122
      have q90 : M64 90 = M 90 := (funext (fun i => hFr63 90 i (by omega))).trans q90
      have q126 : M64 126 = M64 126 := rfl
      have q127 : M64 127 = M61 127 := (funext (fun i => hFr63 127 i (by omega))).trans q127
      have q128 : M64 128 = M61 128 := (funext (fun i => hFr63 128 i (by omega))).trans q128
      obtain ⟨gv0, gvs⟩ := hr63
      have gv2 : M64 125 2 = M61 125 2 := hFr63 125 2 (by omega)
      have gv2t := congrArg Int32.toInt gv2
      have gv127 : M64 127 = M61 127 := funext (fun i => hFr63 127 i (by omega))
      have gv128 : M64 128 = M61 128 := funext (fun i => hFr63 128 i (by omega))
      have hb9 : RP (M61 125 0) (M61 126) (M61 125 2) (M61 127) (M61 128) _ _ := rp1
      rw [← gv2, ← gv127, ← gv128] at hb9
      have rp2 := RP_give hb9 gv0 gvs
      refine g_aload_n C 2 dX8_endRound_102 rfl ?_
      refine g_get C (.ref (ad 88)) 0 in_X8_endRound_8 (List.mem_of_getElem? (i := 1) rfl) (by decide) (ce_trans ad cs _ _) rfl (by decide) rfl rfl dX8_endRound_103 ?_
      refine g_get C (.ref (ad 90)) 5 in_X8_endRound_6 (List.mem_of_getElem? (i := 6) rfl) (by decide) (ce_poll ad cs _ _) rfl (by decide) rfl rfl dX8_endRound_106 ?_
      refine g_iload_n C 3 dX8_endRound_109 rfl ?_
      refine g_iconst C 0 dX8_endRound_110 (by decide) ?_
      have nx := ixn (x := x) (by omega)
      refine g_zast C (by decide) (ce_pin ad cs _ _) (by rw [sI_k]; rfl) (fin' (n := 10) rfl (by omega) (by omega)) dX8_endRound_111 ?_
      refine g_nm (fun M66 hM66 => ?_)
      have zy67 : (0 : Int32).toInt = 0 := by decide
      have hI : IC M66 := by rw [hM66]; exact hI.st (bC_free (by decide) (by decide) (by decide) (by decide) (by decide) (by decide) (by decide))
      have hF : ∀ k i, k ≠ 90 ∧ ¬ (k = 125 ∧ i = 0) ∧ ¬ (k = 125 ∧ i = 2) ∧ k ≠ 126 ∧ k ≠ 127 ∧ k ≠ 128 → M66 k i = M k i := fun k i hk => by (rw [hM66, sI_at, if_neg (by omega)]; try exact hF k i hk)
      have k125_0 : M66 125 0 = M64 125 0 := by rw [hM66, sI_n _ _ _ (by decide)]; try exact k125_0
      have k125_2 : M66 125 2 = M61 125 2 := by rw [hM66, sI_n _ _ _ (by decide)]; try exact k125_2
      have q126 : M66 126 = M64 126 := by rw [hM66, sI_n _ _ _ (by decide)]; try exact q126
      have q127 : M66 127 = M61 127 := by rw [hM66, sI_n _ _ _ (by decide)]; try exact q127
      have q128 : M66 128 = M61 128 := by rw [hM66, sI_n _ _ _ (by decide)]; try exact q128
      have hV : vC M66 = vC M := by rw [hM66, vC_z (by decide), hV]
      have h90 : M66 90 = upd (M 90) x.toNatClampNeg 0 := by rw [hM66, sI_k, q90]; rfl
      have hcu := cI_upd (T := M 90) (b := x.toNatClampNeg) hin (M 1 0).toNatClampNeg
      rw [if_pos (by omega), ← h90] at hcu
      have hNI2 : NIn (M66 90) (M 1 0).toInt := by rw [h90]; exact NIn_upd hNI _
      have e125 : M66 125 = M64 125 := by rw [hM66, sI_n _ _ _ (by decide)]
      have e126 : M66 126 = M64 126 := by rw [hM66, sI_n _ _ _ (by decide)]
      have e127 : M66 127 = M64 127 := by rw [hM66, sI_n _ _ _ (by decide)]
      have e128 : M66 128 = M64 128 := by rw [hM66, sI_n _ _ _ (by decide)]
      have rp3 : RP (M64 125 0) (M64 126) (M64 125 2) (M64 127) (M64 128) _ _ := rp2
      rw [← e125, ← e126, ← e127, ← e128] at rp3
      have k0t := congrArg Int32.toInt k125_0
      have k2t := congrArg Int32.toInt k125_2
      have q90 : M66 90 = M66 90 := rfl
      refine g_iload C 1 dX8_endRound_112 rfl ?_
      refine g_if_ne C 126 dX8_endRound_114 (by decide) (fun _ => ?_) (fun c68 => absurd c68 (by decide))
      refine g_iconst C 1 dX8_endRound_126 (by decide) ?_
      refine g_goto C 131 dX8_endRound_127 (by decide) ?_
      have eF : (qrF (vC M) (M 2) (M 89) (M 88 3).toNatClampNeg (M 1 0).toNatClampNeg (M 88 4).toNatClampNeg y tr) = (upd tr.1 (qrC (vC M) (M 2) (M 89) (M 88 3).toNatClampNeg (M 1 0).toNatClampNeg tr).toNatClampNeg 0, tr.2.1, tr.2.2.1 ++ [qrC (vC M) (M 2) (M 89) (M 88 3).toNatClampNeg (M 1 0).toNatClampNeg tr], tr.2.2.2.1 ++ [(1, qrC (vC M) (M 2) (M 89) (M 88 3).toNatClampNeg (M 1 0).toNatClampNeg tr)], true) := by
        unfold qrF
        rw [if_neg (fun h9 => by rw [hT] at h9; exact Bool.noConfusion h9), if_pos (by omega)]
      have zr9 : (1 : Int32).toInt = 1 := by decide
      exact g_zret C hr rfl ⟨⟨Or.inl ⟨rfl, by rw [eF]⟩, fun _ => by rw [eF]; exact ⟨by rw [h90, hI9, ← hc], by rw [p121]; exact hu, by rw [p122]; exact hd, by have rpz := rp3; rw [hc] at rpz; exact rpz, fun i hi => by rw [congrFun p121 i, congrFun p122 i]; exact hW i hi, hcu, hNI2, by omega, by omega, by omega⟩⟩, hI, hF, hG⟩ dX8_endRound_131
set_option maxHeartbeats 4000000 in
set_option maxRecDepth 100000 in
theorem k_X8_leaveOut_b (l : Launch) (D : va_G) (ad : Nat → Nat) (cs : Nat → ClassId) (M : MI) (L : ML) (x : Int32) (hI : IC M) (hx : 0 ≤ x.toInt ∧ x.toInt < 10) (hr2 : (M 191 2).toInt < 30) : Ci l yX8_leaveOut wsX8_leaveOut ({ frames := 1, cells := 0, slots := 0, locals := 24 }) D ad cs [.ref (ad 120), .int x, .ref (ad 191)] M L (fun r M1 L1 => (r = 1 ∧ (M1 191 2).toInt = (M 191 2).toInt + 1 ∧ M1 193 = upd (M 193) ((M 191 2).toNatClampNeg) 2 ∧ M1 194 = upd (M 194) ((M 191 2).toNatClampNeg) x ∧ M1 90 = upd (M 90) (x.toNatClampNeg) 0) ∧ IC M1 ∧ (∀ k i, k ≠ 90 ∧ ¬ (k = 191 ∧ i = 2) ∧ k ≠ 193 ∧ k ≠ 194 → M1 k i = M k i) ∧ ∀ k i, ¬ (197 ≤ k ∧ k < 257) → L1 k i = L k i) := by
  refine enter_i RX8 rfl [(0, .ref (ad 120)), (1, .int x), (2, .ref (ad 191))] rfl (Nat.le_of_ble_eq_true rfl) (by decide +kernel) rfl ?_
  intro p e s m below meth c C hr
  have hF : ∀ k i, k ≠ 90 ∧ ¬ (k = 191 ∧ i = 2) ∧ k ≠ 193 ∧ k ≠ 194 → M k i = M k i := fun _ _ _ => rfl
  have hG : ∀ k i, ¬ (197 ≤ k ∧ k < 257) → L k i = L k i := fun _ _ _ => rfl
  have w0 : (vC M 0 0).toInt = (M 1 0).toInt := rfl
  have w1 : (vC M 0 1).toInt = (M 3 0).toInt := rfl
  have w2 : (vC M 0 2).toInt = (M 68 0).toInt := rfl
  have w3 : (vC M 0 3).toInt = (M 81 0).toInt := rfl
  obtain ⟨y0a, y0b⟩ := (show rg 0 10 (M 1 0) from hI 1 0 rfl)
  obtain ⟨y1a, y1b⟩ := (show rg 0 60 (M 3 0) from hI 3 0 rfl)
  obtain ⟨y2a, y2b⟩ := (show rg 0 8 (M 68 0) from hI 68 0 rfl)
  obtain ⟨y3a, y3b⟩ := (show rg 0 20 (M 81 0) from hI 81 0 rfl)
  obtain ⟨hx1, hx2⟩ := hx
  have k191_2 : M 191 2 = M 191 2 := rfl
  have q90 : M 90 = M 90 := rfl
  have q193 : M 193 = M 193 := rfl
  have q194 : M 194 = M 194 := rfl
  have hV : vC M = vC M := rfl
  refine g_iload_n C 1 dX8_leaveOut_0 rfl ?_
  refine g_bipush C (-9) dX8_leaveOut_1 (by decide) ?_
  refine g_icmp_ne C 8 dX8_leaveOut_3 (by decide) (fun c1 => ?_) (fun c1 => ?_)
  ·
    have f2 := fne rfl (by decide : ((-9) : Int32).toInt = (-9)) c1
    refine g_aload_n C 2 dX8_leaveOut_8 rfl ?_
    refine g_iconst C 2 dX8_leaveOut_9 (by decide) ?_
    refine g_iload_n C 1 dX8_leaveOut_10 rfl ?_
    refine g_aload_n C 0 dX8_leaveOut_11 rfl ?_
    refine g_get C (.ref (ad 88)) 0 in_X8_leaveOut_8 (List.mem_of_getElem? (i := 1) rfl) (by decide) (ce_trans ad cs _ _) rfl (by decide) rfl rfl dX8_leaveOut_12 ?_
    refine g_callVv C (n := 3) (As := [.int 2, .int x, .ref (ad 88)]) (st := []) (k_X7_note_b l D ad cs _ _ 2 x hI (by omega)) gX8_leaveOut_X7_note rfl rfl rfl (by decide +kernel) ⟨Nat.le_of_ble_eq_true rfl, Nat.le_of_ble_eq_true rfl⟩ rfl (Nat.le_of_ble_eq_true rfl) ⟨Nat.zero_le _, Nat.zero_le _⟩ (by decide) (ce_rb ad cs _ _) rfl rfl dX8_leaveOut_15 (fun M4 L5 hr3 => ?_)
    obtain ⟨hr3, hI, hFr3, hGr3⟩ := hr3
    have hF : ∀ k i, k ≠ 90 ∧ ¬ (k = 191 ∧ i = 2) ∧ k ≠ 193 ∧ k ≠ 194 → M4 k i = M k i := fun k i hk => by (rw [hFr3 k i (by omega)]; try exact hF k i hk)
    have hG : ∀ k i, ¬ (197 ≤ k ∧ k < 257) → L5 k i = L k i := fun k i hk => by (rw [hGr3 k i (by omega)]; try exact hG k i hk)
    have hV : vC M4 = vC M := by rw [vC_fr (fun k hk => funext (fun i => hFr3 k i (by omega))), hV]
    have k191_2 : M4 191 2 = M4 191 2 := rfl
    have kt191_2 := congrArg Int32.toInt k191_2
    have q90 : M4 90 = M 90 := (funext (fun i => hFr3 90 i (by omega))).trans q90
    have q193 : M4 193 = M4 193 := rfl
    have q194 : M4 194 = M4 194 := rfl
    obtain ⟨np2, npw, nph⟩ := hr3
    refine g_aload_n C 0 dX8_leaveOut_18 rfl ?_
    refine g_get C (.ref (ad 88)) 0 in_X8_leaveOut_8 (List.mem_of_getElem? (i := 1) rfl) (by decide) (ce_trans ad cs _ _) rfl (by decide) rfl rfl dX8_leaveOut_19 ?_
    refine g_get C (.ref (ad 90)) 5 in_X8_leaveOut_6 (List.mem_of_getElem? (i := 2) rfl) (by decide) (ce_poll ad cs _ _) rfl (by decide) rfl rfl dX8_leaveOut_22 ?_
    refine g_iload_n C 1 dX8_leaveOut_25 rfl ?_
    refine g_iconst C 0 dX8_leaveOut_26 (by decide) ?_
    have nx := ixn (x := x) (by omega)
    refine g_zast C (by decide) (ce_pin ad cs _ _) (by rw [sI_k]; rfl) (fin' (n := 10) rfl (by omega) (by omega)) dX8_leaveOut_27 ?_
    refine g_nm (fun M6 hM6 => ?_)
    have zy7 : (0 : Int32).toInt = 0 := by decide
    have hI : IC M6 := by rw [hM6]; exact hI.st (bC_free (by decide) (by decide) (by decide) (by decide) (by decide) (by decide) (by decide))
    have hF : ∀ k i, k ≠ 90 ∧ ¬ (k = 191 ∧ i = 2) ∧ k ≠ 193 ∧ k ≠ 194 → M6 k i = M k i := fun k i hk => by (rw [hM6, sI_at, if_neg (by omega)]; try exact hF k i hk)
    have k191_2 : M6 191 2 = M4 191 2 := by rw [hM6, sI_n _ _ _ (by decide)]; try exact k191_2
    have q193 : M6 193 = M4 193 := by rw [hM6, sI_n _ _ _ (by decide)]; try exact q193
    have q194 : M6 194 = M4 194 := by rw [hM6, sI_n _ _ _ (by decide)]; try exact q194
    have hV : vC M6 = vC M := by rw [hM6, vC_z (by decide), hV]
    have h90 : M6 90 = upd (M 90) x.toNatClampNeg 0 := by rw [hM6, sI_k, q90]; rfl
    refine g_iconst C 1 dX8_leaveOut_28 (by decide) ?_
    have zr9 : (1 : Int32).toInt = 1 := by decide
    exact g_zret C hr rfl ⟨⟨rfl, by rw [k191_2]; exact np2, by rw [q193]; exact npw, by rw [q194]; exact nph, h90⟩, hI, hF, hG⟩ dX8_leaveOut_29
  ·
    have f8 := feq rfl (by decide : ((-9) : Int32).toInt = (-9)) c1
    refine g_iconst C 0 dX8_leaveOut_6 (by decide) ?_
    have zr9 : (0 : Int32).toInt = 0 := by decide
    exact g_zret C hr rfl ⟨(by exfalso; omega), hI, hF, hG⟩ dX8_leaveOut_7
set_option maxHeartbeats 4000000 in
set_option maxRecDepth 100000 in
theorem k_X8_endRound_b (l : Launch) (D : va_G) (ad : Nat → Nat) (cs : Nat → ClassId) (M : MI) (L : ML) (x : Int32) (y : Int64) (hI : IC M) {tr : TR} (hx : 0 ≤ x.toInt ∧ x.toInt < 10) (hq : 1 ≤ y.toInt ∧ y.toInt ≤ 4000001) (hW : WTc L (M 88 3).toNatClampNeg) (hI9 : M 90 = tr.1) (hu : L 121 = tr.2.1.1) (hd : L 122 = tr.2.1.2) (hRR : RP (M 191 0) (M 192) (M 191 2) (M 193) (M 194) tr.2.2.1 tr.2.2.2.1) (hT : (qrT (vC M) (M 89) (M 88 3).toNatClampNeg tr).2.2 = true) (hTe : ∀ c, c < 10 → L 91 c = (qrT (vC M) (M 89) (M 88 3).toNatClampNeg tr).1 c ∧ L 92 c = (qrT (vC M) (M 89) (M 88 3).toNatClampNeg tr).2.1 c ∧ okF (L 91 c) (L 92 c)) (hown : ∀ k9 : Nat, k9 < (M 88 3).toNatClampNeg → M 123 k9 = fiV (vC M) (M 90) (M 89 k9).toNatClampNeg) (hc : x = qrC (vC M) (M 2) (M 89) (M 88 3).toNatClampNeg (M 1 0).toNatClampNeg tr) (hin : ¬ (M 90 x.toNatClampNeg).toInt = 0) (hD : DP (vC M)) (hNI : NIn (M 90) (M 1 0).toInt) (hr2 : (M 191 2).toInt < 30) (hg0 : (M 191 0).toInt < (M 88 4).toInt) (hC : (M 88 4).toInt ≤ (cI (M 90) (M 1 0).toNatClampNeg : Int) + (M 191 0).toInt) : Ci l yX8_endRound wsX8_endRound ({ frames := 3, cells := 0, slots := 0, locals := 88 }) D ad cs [.ref (ad 120), .int x, .long y, .ref (ad 191)] M L (fun r M1 L1 => (zo r ((qrF (vC M) (M 2) (M 89) (M 88 3).toNatClampNeg (M 1 0).toNatClampNeg (M 88 4).toNatClampNeg y tr).2.2.2.2 = true) ∧ ((qrF (vC M) (M 2) (M 89) (M 88 3).toNatClampNeg (M 1 0).toNatClampNeg (M 88 4).toNatClampNeg y tr).2.2.2.2 = true → M1 90 = (qrF (vC M) (M 2) (M 89) (M 88 3).toNatClampNeg (M 1 0).toNatClampNeg (M 88 4).toNatClampNeg y tr).1 ∧ L1 121 = (qrF (vC M) (M 2) (M 89) (M 88 3).toNatClampNeg (M 1 0).toNatClampNeg (M 88 4).toNatClampNeg y tr).2.1.1 ∧ L1 122 = (qrF (vC M) (M 2) (M 89) (M 88 3).toNatClampNeg (M 1 0).toNatClampNeg (M 88 4).toNatClampNeg y tr).2.1.2 ∧ RP (M1 191 0) (M1 192) (M1 191 2) (M1 193) (M1 194) (qrF (vC M) (M 2) (M 89) (M 88 3).toNatClampNeg (M 1 0).toNatClampNeg (M 88 4).toNatClampNeg y tr).2.2.1 (qrF (vC M) (M 2) (M 89) (M 88 3).toNatClampNeg (M 1 0).toNatClampNeg (M 88 4).toNatClampNeg y tr).2.2.2.1 ∧ WTc L1 (M 88 3).toNatClampNeg ∧ cI (M1 90) (M 1 0).toNatClampNeg + 1 = cI (M 90) (M 1 0).toNatClampNeg ∧ NIn (M1 90) (M 1 0).toInt ∧ (M 88 4).toInt ≤ (cI (M1 90) (M 1 0).toNatClampNeg : Int) + (M1 191 0).toInt ∧ (M1 191 2).toInt = (M 191 2).toInt + 1 ∧ (M1 191 0).toInt ≤ (M 88 4).toInt)) ∧ IC M1 ∧ (∀ k i, k ≠ 90 ∧ ¬ (k = 191 ∧ i = 0) ∧ ¬ (k = 191 ∧ i = 2) ∧ k ≠ 192 ∧ k ≠ 193 ∧ k ≠ 194 → M1 k i = M k i) ∧ ∀ k i, k ≠ 121 ∧ k ≠ 122 ∧ ¬ (k = 124 ∧ i = 0) ∧ ¬ (k = 124 ∧ i = 1) ∧ ¬ (197 ≤ k ∧ k < 257) → L1 k i = L k i) := by
  refine enter_i RX8 rfl [(0, .ref (ad 120)), (1, .int x), (2, .long y), (4, .ref (ad 191))] rfl (Nat.le_of_ble_eq_true rfl) (by decide +kernel) rfl ?_
  intro p e s m below meth c C hr
  have hF : ∀ k i, k ≠ 90 ∧ ¬ (k = 191 ∧ i = 0) ∧ ¬ (k = 191 ∧ i = 2) ∧ k ≠ 192 ∧ k ≠ 193 ∧ k ≠ 194 → M k i = M k i := fun _ _ _ => rfl
  have hG : ∀ k i, k ≠ 121 ∧ k ≠ 122 ∧ ¬ (k = 124 ∧ i = 0) ∧ ¬ (k = 124 ∧ i = 1) ∧ ¬ (197 ≤ k ∧ k < 257) → L k i = L k i := fun _ _ _ => rfl
  have w0 : (vC M 0 0).toInt = (M 1 0).toInt := rfl
  have w1 : (vC M 0 1).toInt = (M 3 0).toInt := rfl
  have w2 : (vC M 0 2).toInt = (M 68 0).toInt := rfl
  have w3 : (vC M 0 3).toInt = (M 81 0).toInt := rfl
  obtain ⟨y0a, y0b⟩ := (show rg 0 10 (M 1 0) from hI 1 0 rfl)
  obtain ⟨y1a, y1b⟩ := (show rg 0 60 (M 3 0) from hI 3 0 rfl)
  obtain ⟨y2a, y2b⟩ := (show rg 0 8 (M 68 0) from hI 68 0 rfl)
  obtain ⟨y3a, y3b⟩ := (show rg 0 20 (M 81 0) from hI 81 0 rfl)
  have hI0 := hI
  obtain ⟨hx1, hx2⟩ := hx
  have nxx := ixn hx1
  have n02 := ixn y0a
  obtain ⟨sa, sb⟩ := (show rg 0 30 (M 88 4) from (hI 88 4).2 rfl)
  have nsd := ixn sa
  have hNI9 : NIn (M 90) (((M 1 0).toNatClampNeg : Nat) : Int) := by rw [show (((M 1 0).toNatClampNeg : Nat) : Int) = (M 1 0).toInt by omega]; exact hNI
  have c10 := cI_10 (by omega) hNI9
  have hc10 := hTe x.toNatClampNeg (by omega)
  have hok := hc10.2.2
  have hok1 := hok
  unfold okF at hok
  have eU9 : L 91 x.toNatClampNeg = qrU (vC M) (M 2) (M 89) (M 88 3).toNatClampNeg (M 1 0).toNatClampNeg tr := by rw [hc10.1, hc]; rfl
  have eV9 : L 92 x.toNatClampNeg = qrV (vC M) (M 2) (M 89) (M 88 3).toNatClampNeg (M 1 0).toNatClampNeg tr := by rw [hc10.2.1, hc]; rfl
  have eS9 := hRR.1
  have hcI0 : cI tr.1 (M 1 0).toNatClampNeg = cI (M 90) (M 1 0).toNatClampNeg := by rw [hI9]
  obtain ⟨g0a, g0b⟩ := (show rg 0 30 (M 191 0) from hI 191 0 (Or.inl rfl))
  have hlt9 := hNI x.toNatClampNeg (by omega) hin
  have hcp : 0 < cI (M 90) (M 1 0).toNatClampNeg := by omega
  have k191_0 : M 191 0 = M 191 0 := rfl
  have k191_2 : M 191 2 = M 191 2 := rfl
  have l124_0 : L 124 0 = L 124 0 := rfl
  have l124_1 : L 124 1 = L 124 1 := rfl
  have p121 : L 121 = L 121 := rfl
  have p122 : L 122 = L 122 := rfl
  have q90 : M 90 = M 90 := rfl
  have q192 : M 192 = M 192 := rfl
  have q193 : M 193 = M 193 := rfl
  have q194 : M 194 = M 194 := rfl
  have hV : vC M = vC M := rfl
  refine g_aload_n C 0 dX8_endRound_0 rfl ?_
  refine g_get C (.ref (ad 88)) 0 in_X8_endRound_8 (List.mem_of_getElem? (i := 1) rfl) (by decide) (ce_trans ad cs _ _) rfl (by decide) rfl rfl dX8_endRound_1 ?_
  refine g_callVi C (n := 0) (As := []) (st := []) (k_X6_manyIn l D ad cs _ _  hI ) gX8_endRound_X6_manyIn rfl rfl rfl (by decide +kernel) ⟨Nat.le_of_ble_eq_true rfl, Nat.le_of_ble_eq_true rfl⟩ rfl (Nat.le_of_ble_eq_true rfl) ⟨Nat.zero_le _, Nat.zero_le _⟩ (by decide) (ce_poll ad cs _ _) rfl rfl dX8_endRound_4 (fun r1 M2 L3 hr1 => ?_)
  obtain ⟨hq1, hq2, hr1⟩ := hr1
  obtain rfl := hq1.symm
  obtain rfl := hq2.symm
  have tin := hr1
  rw [c10] at tin
  refine g_aload_n C 0 dX8_endRound_7 rfl ?_
  refine g_get C (.ref (ad 88)) 0 in_X8_endRound_8 (List.mem_of_getElem? (i := 1) rfl) (by decide) (ce_trans ad cs _ _) rfl (by decide) rfl rfl dX8_endRound_8 ?_
  refine g_get C (.int (M 88 4)) 4 in_X8_endRound_6 (List.mem_of_getElem? (i := 2) rfl) (by decide) (ce_poll ad cs _ _) rfl (by decide) rfl rfl dX8_endRound_11 ?_
  refine g_ni (fun v4 ev4 => ?_)
  have gv4 : v4 = M 88 4 := ev4
  have tv4 := congrArg Int32.toInt gv4
  obtain ⟨bv4, dv4⟩ := (show rg 0 30 v4 from (by rw [ev4]; exact (hI 88 4).2 rfl))
  refine g_aload C 3 dX8_endRound_14 rfl ?_
  refine g_get C (.int (M 191 0)) 0 in_X8_endRound_7 (List.mem_of_getElem? (i := 3) rfl) (by decide) (ce_rb ad cs _ _) rfl (by decide) rfl rfl dX8_endRound_16 ?_
  refine g_ni (fun v5 ev5 => ?_)
  have gv5 : v5 = M 191 0 := ev5.trans k191_0
  have tv5 := congrArg Int32.toInt gv5
  obtain ⟨bv5, dv5⟩ := (show rg 0 30 v5 from (by rw [ev5]; exact hI 191 0 (Or.inl rfl)))
  refine g_isub C dX8_endRound_19 ?_
  refine g_ni (fun v6 ev6 => ?_)
  try have fv6 := fsub rfl rfl ev6 (by omega) (by omega)
  refine g_icmp_gt C 27 dX8_endRound_20 (by decide) (fun c7 => ?_) (fun c7 => ?_)
  ·
    have f8 := fl rfl rfl c7
    refine g_iconst C 0 dX8_endRound_27 (by decide) ?_
    refine g_istore C [(5, .int 0), (0, .ref (ad 120)), (1, .int x), (2, .long y), (4, .ref (ad 191))] dX8_endRound_28 (by decide) rfl ?_
    refine g_aload_n C 1 dX8_endRound_30 rfl ?_
    refine g_get C (.ref (ad 88)) 0 in_X8_endRound_8 (List.mem_of_getElem? (i := 1) rfl) (by decide) (ce_trans ad cs _ _) rfl (by decide) rfl rfl dX8_endRound_31 ?_
    refine g_get C (.ref (ad 91)) 6 in_X8_endRound_6 (List.mem_of_getElem? (i := 4) rfl) (by decide) (ce_poll ad cs _ _) rfl (by decide) rfl rfl dX8_endRound_34 ?_
    refine g_iload_n C 2 dX8_endRound_37 rfl ?_
    have nx := ixn (x := x) (by omega)
    refine g_lald C (by decide) (ce_pupper ad cs _ _) (fin' (n := 10) rfl (by omega) (by omega)) dX8_endRound_38 ?_
    refine g_nl (fun v9 ev9 => ?_)
    have gv9 : v9 = L 91 x.toNatClampNeg := ev9
    have tv9 := congrArg Int64.toInt gv9
    refine g_lload_n C 3 dX8_endRound_39 rfl ?_
    refine g_aload_n C 1 dX8_endRound_40 rfl ?_
    refine g_get C (.ref (ad 88)) 0 in_X8_endRound_8 (List.mem_of_getElem? (i := 1) rfl) (by decide) (ce_trans ad cs _ _) rfl (by decide) rfl rfl dX8_endRound_41 ?_
    refine g_get C (.ref (ad 92)) 7 in_X8_endRound_6 (List.mem_of_getElem? (i := 5) rfl) (by decide) (ce_poll ad cs _ _) rfl (by decide) rfl rfl dX8_endRound_44 ?_
    refine g_iload_n C 2 dX8_endRound_47 rfl ?_
    have nx := ixn (x := x) (by omega)
    refine g_lald C (by decide) (ce_plower ad cs _ _) (fin' (n := 10) rfl (by omega) (by omega)) dX8_endRound_48 ?_
    refine g_nl (fun v10 ev10 => ?_)
    have gv10 : v10 = L 92 x.toNatClampNeg := ev10
    have tv10 := congrArg Int64.toInt gv10
    refine g_lmul C dX8_endRound_49 ?_
    refine g_nl (fun v11 ev11 => ?_)
    try have fv11 := prodI ev11
    have m1 := mul_le9 (a := y.toInt) (b := v10.toInt) (by omega) (by omega) (by omega) (by omega)
    have eB9 : v11 = y * qrV (vC M) (M 2) (M 89) (M 88 3).toNatClampNeg (M 1 0).toNatClampNeg tr := by rw [ev11, gv10, eV9]
    have eBt := congrArg Int64.toInt eB9
    have eUt : v9.toInt = (qrU (vC M) (M 2) (M 89) (M 88 3).toNatClampNeg (M 1 0).toNatClampNeg tr).toInt := by rw [gv9, eU9]
    have eB8 : y.toInt * (L 92 x.toNatClampNeg).toInt = v11.toInt := by rw [← tv10, fv11, bmod_id (by omega) (by omega)]
    refine g_lcmp C dX8_endRound_50 ?_
    refine g_ni (fun v12 ev12 => ?_)
    refine g_if_lt C 58 dX8_endRound_51 (by decide) (fun c13 => ?_) (fun c13 => ?_)
    ·
      have f14 := clt rfl rfl ev12 c13
      refine g_iconst C 0 dX8_endRound_58 (by decide) ?_
      refine g_istore C [(6, .int 0), (5, .int 0), (0, .ref (ad 120)), (1, .int x), (2, .long y), (4, .ref (ad 191))] dX8_endRound_59 (by decide) rfl ?_
      refine g_iload C 1 dX8_endRound_61 rfl ?_
      refine g_if_ne C 85 dX8_endRound_63 (by decide) (fun c15 => absurd c15 (by decide)) (fun _ => ?_)
      refine g_iload C 0 dX8_endRound_66 rfl ?_
      refine g_if_ne C 85 dX8_endRound_68 (by decide) (fun c16 => absurd c16 (by decide)) (fun _ => ?_)
      refine g_aload_n C 2 dX8_endRound_71 rfl ?_
      refine g_aload_n C 2 dX8_endRound_72 rfl ?_
      refine g_get C (.ref (ad 88)) 0 in_X8_endRound_8 (List.mem_of_getElem? (i := 1) rfl) (by decide) (ce_trans ad cs _ _) rfl (by decide) rfl rfl dX8_endRound_73 ?_
      refine g_callVi C (n := 0) (As := []) (st := [.ref (ad 120)]) (k_X6_leastIn l D ad cs _ _  hI hD) gX8_endRound_X6_leastIn rfl rfl rfl (by decide +kernel) ⟨Nat.le_of_ble_eq_true rfl, Nat.le_of_ble_eq_true rfl⟩ rfl (Nat.le_of_ble_eq_true rfl) ⟨Nat.zero_le _, Nat.zero_le _⟩ (by decide) (ce_poll ad cs _ _) rfl rfl dX8_endRound_76 (fun r17 M18 L19 hr17 => ?_)
      obtain ⟨hq1, hq2, hr17⟩ := hr17
      obtain rfl := hq1.symm
      obtain rfl := hq2.symm
      obtain ⟨br17, ir17, xr17, yr17⟩ := hr17
      obtain ⟨c9, hc9, hi9⟩ := cI_ex _ hcp
      have hne9 := xr17 ⟨c9, by omega, hi9⟩
      have nr9 := ixn (x := r17) (by omega)
      have hin8 := ir17 (by omega)
      have hlt8 := hNI r17.toNatClampNeg (by omega) hin8
      have el9 : r17 = qrL (vC M) (M 2) (M 89) (M 88 3).toNatClampNeg (M 1 0).toNatClampNeg tr := yr17.trans (leF_ext (row := M 2) (fun i => hI0 2 i) (fun c _ => congrFun hI9 c) (fun c hc => (hTe c hc).1) (fun c hc => (hTe c hc).2.1) (M 1 0).toNatClampNeg).1
      refine g_aload C 5 dX8_endRound_79 rfl ?_
      refine g_callVi C (n := 2) (As := [.int r17, .ref (ad 191)]) (st := []) (k_X8_leaveOut_b l D ad cs _ _ r17 hI ⟨by omega, by omega⟩ hr2) gX8_endRound_X8_leaveOut rfl rfl rfl (by decide +kernel) ⟨Nat.le_of_ble_eq_true rfl, Nat.le_of_ble_eq_true rfl⟩ rfl (Nat.le_of_ble_eq_true rfl) ⟨Nat.zero_le _, Nat.zero_le _⟩ (by decide) (ce_trans ad cs _ _) rfl rfl dX8_endRound_81 (fun r20 M21 L22 hr20 => ?_)
      obtain ⟨hr20, hI, hFr20, hGr20⟩ := hr20
      have hF : ∀ k i, k ≠ 90 ∧ ¬ (k = 191 ∧ i = 0) ∧ ¬ (k = 191 ∧ i = 2) ∧ k ≠ 192 ∧ k ≠ 193 ∧ k ≠ 194 → M21 k i = M k i := fun k i hk => by (rw [hFr20 k i (by omega)]; try exact hF k i hk)
      have hG : ∀ k i, k ≠ 121 ∧ k ≠ 122 ∧ ¬ (k = 124 ∧ i = 0) ∧ ¬ (k = 124 ∧ i = 1) ∧ ¬ (197 ≤ k ∧ k < 257) → L22 k i = L k i := fun k i hk => by (rw [hGr20 k i (by omega)]; try exact hG k i hk)
      have hV : vC M21 = vC M := by rw [vC_fr (fun k hk => funext (fun i => hFr20 k i (by omega))), hV]
      have k191_0 : M21 191 0 = M 191 0 := (hFr20 191 0 (by omega)).trans k191_0
      have k191_2 : M21 191 2 = M21 191 2 := rfl
      have kt191_0 := congrArg Int32.toInt k191_0
      have kt191_2 := congrArg Int32.toInt k191_2
      have l124_0 : L22 124 0 = L 124 0 := (hGr20 124 0 (by omega)).trans l124_0
      have l124_1 : L22 124 1 = L 124 1 := (hGr20 124 1 (by omega)).trans l124_1
      have p121 : L22 121 = L 121 := (funext (fun i => hGr20 121 i (by omega))).trans p121
      have p122 : L22 122 = L 122 := (funext (fun i => hGr20 122 i (by omega))).trans p122
      have q90 : M21 90 = M21 90 := rfl
      have q192 : M21 192 = M 192 := (funext (fun i => hFr20 192 i (by omega))).trans q192
      have q193 : M21 193 = M21 193 := rfl
      have q194 : M21 194 = M21 194 := rfl
      obtain ⟨hr1, np2, npw, nph, h90⟩ := hr20
      have np0 : M21 191 0 = M 191 0 := hFr20 191 0 (by omega)
      have np0t := congrArg Int32.toInt np0
      have nps : M21 192 = M 192 := funext (fun i => hFr20 192 i (by omega))
      have hb9 := hRR
      rw [← np0, ← nps] at hb9
      have rp1 := RP_note hb9 np2 npw nph
      have hcu := cI_upd (T := M 90) (b := r17.toNatClampNeg) hin8 (M 1 0).toNatClampNeg
      rw [if_pos (by omega), ← h90] at hcu
      have hr1t : r20.toInt = 1 := by rw [hr1]; decide
      have hNI2 : NIn (M21 90) (M 1 0).toInt := by rw [h90]; exact NIn_upd hNI _
      have eF : (qrF (vC M) (M 2) (M 89) (M 88 3).toNatClampNeg (M 1 0).toNatClampNeg (M 88 4).toNatClampNeg y tr) = (upd tr.1 (qrL (vC M) (M 2) (M 89) (M 88 3).toNatClampNeg (M 1 0).toNatClampNeg tr).toNatClampNeg 0, tr.2.1, tr.2.2.1, tr.2.2.2.1 ++ [(2, qrL (vC M) (M 2) (M 89) (M 88 3).toNatClampNeg (M 1 0).toNatClampNeg tr)], true) := by
        unfold qrF
        rw [if_neg (fun h9 => by rw [hT] at h9; exact Bool.noConfusion h9), if_neg (by omega), if_neg (by omega)]
      have hz9 := z_of (r := r20) (by omega) (by omega)
      exact g_zret C hr (by rcases hz9 with h9 | h9 <;> rw [h9] <;> rfl) ⟨⟨Or.inl ⟨hr1, by rw [eF]⟩, fun _ => by rw [eF]; exact ⟨by rw [h90, hI9, el9], by rw [p121]; exact hu, by rw [p122]; exact hd, by rw [el9] at rp1; exact rp1, fun i hi => by rw [congrFun p121 i, congrFun p122 i]; exact hW i hi, hcu, hNI2, by omega, np2, by omega⟩⟩, hI, hF, hG⟩ dX8_endRound_84
    ·
      have f23 := cnlt rfl rfl ev12 c13
      refine g_iconst C 1 dX8_endRound_54 (by decide) ?_
      refine g_goto C 59 dX8_endRound_55 (by decide) ?_
      refine g_istore C [(6, .int 1), (5, .int 0), (0, .ref (ad 120)), (1, .int x), (2, .long y), (4, .ref (ad 191))] dX8_endRound_59 (by decide) rfl ?_
      refine g_iload C 1 dX8_endRound_61 rfl ?_
      refine g_if_ne C 85 dX8_endRound_63 (by decide) (fun c24 => absurd c24 (by decide)) (fun _ => ?_)
      refine g_iload C 0 dX8_endRound_66 rfl ?_
      refine g_if_ne C 85 dX8_endRound_68 (by decide) (fun _ => ?_) (fun c25 => absurd c25 (by decide))
      refine g_aload C 5 dX8_endRound_85 rfl ?_
      refine g_iconst C 1 dX8_endRound_87 (by decide) ?_
      refine g_iload_n C 3 dX8_endRound_88 rfl ?_
      refine g_aload_n C 2 dX8_endRound_89 rfl ?_
      refine g_get C (.ref (ad 88)) 0 in_X8_endRound_8 (List.mem_of_getElem? (i := 1) rfl) (by decide) (ce_trans ad cs _ _) rfl (by decide) rfl rfl dX8_endRound_90 ?_
      refine g_callVv C (n := 3) (As := [.int 1, .int x, .ref (ad 88)]) (st := []) (k_X7_note_b l D ad cs _ _ 1 x hI (by omega)) gX8_endRound_X7_note rfl rfl rfl (by decide +kernel) ⟨Nat.le_of_ble_eq_true rfl, Nat.le_of_ble_eq_true rfl⟩ rfl (Nat.le_of_ble_eq_true rfl) ⟨Nat.zero_le _, Nat.zero_le _⟩ (by decide) (ce_rb ad cs _ _) rfl rfl dX8_endRound_93 (fun M27 L28 hr26 => ?_)
      obtain ⟨hr26, hI, hFr26, hGr26⟩ := hr26
      have hF : ∀ k i, k ≠ 90 ∧ ¬ (k = 191 ∧ i = 0) ∧ ¬ (k = 191 ∧ i = 2) ∧ k ≠ 192 ∧ k ≠ 193 ∧ k ≠ 194 → M27 k i = M k i := fun k i hk => by (rw [hFr26 k i (by omega)]; try exact hF k i hk)
      have hG : ∀ k i, k ≠ 121 ∧ k ≠ 122 ∧ ¬ (k = 124 ∧ i = 0) ∧ ¬ (k = 124 ∧ i = 1) ∧ ¬ (197 ≤ k ∧ k < 257) → L28 k i = L k i := fun k i hk => by (rw [hGr26 k i (by omega)]; try exact hG k i hk)
      have hV : vC M27 = vC M := by rw [vC_fr (fun k hk => funext (fun i => hFr26 k i (by omega))), hV]
      have k191_0 : M27 191 0 = M 191 0 := (hFr26 191 0 (by omega)).trans k191_0
      have k191_2 : M27 191 2 = M27 191 2 := rfl
      have kt191_0 := congrArg Int32.toInt k191_0
      have kt191_2 := congrArg Int32.toInt k191_2
      have l124_0 : L28 124 0 = L 124 0 := (hGr26 124 0 (by omega)).trans l124_0
      have l124_1 : L28 124 1 = L 124 1 := (hGr26 124 1 (by omega)).trans l124_1
      have p121 : L28 121 = L 121 := (funext (fun i => hGr26 121 i (by omega))).trans p121
      have p122 : L28 122 = L 122 := (funext (fun i => hGr26 122 i (by omega))).trans p122
      have q90 : M27 90 = M 90 := (funext (fun i => hFr26 90 i (by omega))).trans q90
      have q192 : M27 192 = M 192 := (funext (fun i => hFr26 192 i (by omega))).trans q192
      have q193 : M27 193 = M27 193 := rfl
      have q194 : M27 194 = M27 194 := rfl
      obtain ⟨np2, npw, nph⟩ := hr26
      have np0 : M27 191 0 = M 191 0 := hFr26 191 0 (by omega)
      have np0t := congrArg Int32.toInt np0
      have nps : M27 192 = M 192 := funext (fun i => hFr26 192 i (by omega))
      have hb9 : RP (M 191 0) (M 192) (M 191 2) (M 193) (M 194) _ _ := hRR
      rw [← np0, ← nps] at hb9
      have rp1 := RP_note hb9 np2 npw nph
      refine g_aload C 5 dX8_endRound_96 rfl ?_
      refine g_iload_n C 3 dX8_endRound_98 rfl ?_
      refine g_callVv C (n := 1) (As := [.int x]) (st := []) (k_X7_give_b l D ad cs _ _ x hI (by omega)) gX8_endRound_X7_give rfl rfl rfl (by decide +kernel) ⟨Nat.le_of_ble_eq_true rfl, Nat.le_of_ble_eq_true rfl⟩ rfl (Nat.le_of_ble_eq_true rfl) ⟨Nat.zero_le _, Nat.zero_le _⟩ (by decide) (ce_rb ad cs _ _) rfl rfl dX8_endRound_99 (fun M30 L31 hr29 => ?_)
      obtain ⟨hr29, hI, hFr29, hGr29⟩ := hr29
      have hF : ∀ k i, k ≠ 90 ∧ ¬ (k = 191 ∧ i = 0) ∧ ¬ (k = 191 ∧ i = 2) ∧ k ≠ 192 ∧ k ≠ 193 ∧ k ≠ 194 → M30 k i = M k i := fun k i hk => by (rw [hFr29 k i (by omega)]; try exact hF k i hk)
      have hG : ∀ k i, k ≠ 121 ∧ k ≠ 122 ∧ ¬ (k = 124 ∧ i = 0) ∧ ¬ (k = 124 ∧ i = 1) ∧ ¬ (197 ≤ k ∧ k < 257) → L31 k i = L k i := fun k i hk => by (rw [hGr29 k i trivial]; try exact hG k i hk)
      have hV : vC M30 = vC M := by rw [vC_fr (fun k hk => funext (fun i => hFr29 k i (by omega))), hV]
      have k191_2 : M30 191 2 = M27 191 2 := (hFr29 191 2 (by omega)).trans k191_2
      have k191_0 : M30 191 0 = M30 191 0 := rfl
      have kt191_0 := congrArg Int32.toInt k191_0
      have kt191_2 := congrArg Int32.toInt k191_2
      have l124_0 : L31 124 0 = L 124 0 := (hGr29 124 0 trivial).trans l124_0
      have l124_1 : L31 124 1 = L 124 1 := (hGr29 124 1 trivial).trans l124_1
      have p121 : L31 121 = L 121 := (funext (fun i => hGr29 121 i trivial)).trans p121
      have p122 : L31 122 = L 122 := (funext (fun i => hGr29 122 i trivial)).trans p122
      have q90 : M30 90 = M 90 := (funext (fun i => hFr29 90 i (by omega))).trans q90
      have q192 : M30 192 = M30 192 := rfl
      have q193 : M30 193 = M27 193 := (funext (fun i => hFr29 193 i (by omega))).trans q193
      have q194 : M30 194 = M27 194 := (funext (fun i => hFr29 194 i (by omega))).trans q194
      obtain ⟨gv0, gvs⟩ := hr29
      have gv2 : M30 191 2 = M27 191 2 := hFr29 191 2 (by omega)
      have gv2t := congrArg Int32.toInt gv2
      have gv193 : M30 193 = M27 193 := funext (fun i => hFr29 193 i (by omega))
      have gv194 : M30 194 = M27 194 := funext (fun i => hFr29 194 i (by omega))
      have hb9 : RP (M27 191 0) (M27 192) (M27 191 2) (M27 193) (M27 194) _ _ := rp1
      rw [← gv2, ← gv193, ← gv194] at hb9
      have rp2 := RP_give hb9 gv0 gvs
      refine g_aload_n C 2 dX8_endRound_102 rfl ?_
      refine g_get C (.ref (ad 88)) 0 in_X8_endRound_8 (List.mem_of_getElem? (i := 1) rfl) (by decide) (ce_trans ad cs _ _) rfl (by decide) rfl rfl dX8_endRound_103 ?_
      refine g_get C (.ref (ad 90)) 5 in_X8_endRound_6 (List.mem_of_getElem? (i := 6) rfl) (by decide) (ce_poll ad cs _ _) rfl (by decide) rfl rfl dX8_endRound_106 ?_
      refine g_iload_n C 3 dX8_endRound_109 rfl ?_
      refine g_iconst C 0 dX8_endRound_110 (by decide) ?_
      have nx := ixn (x := x) (by omega)
      refine g_zast C (by decide) (ce_pin ad cs _ _) (by rw [sI_k]; rfl) (fin' (n := 10) rfl (by omega) (by omega)) dX8_endRound_111 ?_
      refine g_nm (fun M32 hM32 => ?_)
      have zy33 : (0 : Int32).toInt = 0 := by decide
      have hI : IC M32 := by rw [hM32]; exact hI.st (bC_free (by decide) (by decide) (by decide) (by decide) (by decide) (by decide) (by decide))
      have hF : ∀ k i, k ≠ 90 ∧ ¬ (k = 191 ∧ i = 0) ∧ ¬ (k = 191 ∧ i = 2) ∧ k ≠ 192 ∧ k ≠ 193 ∧ k ≠ 194 → M32 k i = M k i := fun k i hk => by (rw [hM32, sI_at, if_neg (by omega)]; try exact hF k i hk)
      have k191_0 : M32 191 0 = M30 191 0 := by rw [hM32, sI_n _ _ _ (by decide)]; try exact k191_0
      have k191_2 : M32 191 2 = M27 191 2 := by rw [hM32, sI_n _ _ _ (by decide)]; try exact k191_2
      have q192 : M32 192 = M30 192 := by rw [hM32, sI_n _ _ _ (by decide)]; try exact q192
      have q193 : M32 193 = M27 193 := by rw [hM32, sI_n _ _ _ (by decide)]; try exact q193
      have q194 : M32 194 = M27 194 := by rw [hM32, sI_n _ _ _ (by decide)]; try exact q194
      have hV : vC M32 = vC M := by rw [hM32, vC_z (by decide), hV]
      have h90 : M32 90 = upd (M 90) x.toNatClampNeg 0 := by rw [hM32, sI_k, q90]; rfl
      have hcu := cI_upd (T := M 90) (b := x.toNatClampNeg) hin (M 1 0).toNatClampNeg
      rw [if_pos (by omega), ← h90] at hcu
      have hNI2 : NIn (M32 90) (M 1 0).toInt := by rw [h90]; exact NIn_upd hNI _
      have e191 : M32 191 = M30 191 := by rw [hM32, sI_n _ _ _ (by decide)]
      have e192 : M32 192 = M30 192 := by rw [hM32, sI_n _ _ _ (by decide)]
      have e193 : M32 193 = M30 193 := by rw [hM32, sI_n _ _ _ (by decide)]
      have e194 : M32 194 = M30 194 := by rw [hM32, sI_n _ _ _ (by decide)]
      have rp3 : RP (M30 191 0) (M30 192) (M30 191 2) (M30 193) (M30 194) _ _ := rp2
      rw [← e191, ← e192, ← e193, ← e194] at rp3
      have k0t := congrArg Int32.toInt k191_0
      have k2t := congrArg Int32.toInt k191_2
      have q90 : M32 90 = M32 90 := rfl
      refine g_iload C 1 dX8_endRound_112 rfl ?_
      refine g_if_ne C 126 dX8_endRound_114 (by decide) (fun c34 => absurd c34 (by decide)) (fun _ => ?_)
      refine g_aload_n C 2 dX8_endRound_117 rfl ?_
      refine g_iload_n C 3 dX8_endRound_118 rfl ?_
      refine g_lload_n C 4 dX8_endRound_119 rfl ?_
      have eVc : vC M32 = vC M := vC_fr (fun k hk => funext (fun i => hF k i (by omega)))
      have e89c : M32 89 = M 89 := funext (fun i => hF 89 i (by omega))
      have e88c : M32 88 3 = M 88 3 := hF 88 3 (by omega)
      have e123c : M32 123 = M 123 := funext (fun i => hF 123 i (by omega))
      have e91c : L31 91 = L 91 := funext (fun i => hG 91 i (by omega))
      have e92c : L31 92 = L 92 := funext (fun i => hG 92 i (by omega))
      have e121c : L31 121 = L 121 := p121
      have e122c : L31 122 = L 122 := p122
      have hWc : WTc L31 (M32 88 3).toNatClampNeg := by unfold WTc; rw [e88c, e121c, e122c]; exact hW
      refine g_callVi C (n := 2) (As := [.int x, .long y]) (st := []) (k_X8_passOn l D ad cs _ _ x y hI (I0 := M 90) ⟨by omega, by omega⟩ hq hWc (by rw [e91c, e92c]; exact hok1) (by rw [e91c, e92c]; omega) (by rw [e88c, e123c, eVc, e89c]; exact hown)) gX8_endRound_X8_passOn rfl rfl rfl (by decide +kernel) ⟨Nat.le_of_ble_eq_true rfl, Nat.le_of_ble_eq_true rfl⟩ rfl (Nat.le_of_ble_eq_true rfl) ⟨Nat.zero_le _, Nat.zero_le _⟩ (by decide) (ce_trans ad cs _ _) rfl rfl dX8_endRound_120 (fun r35 M36 L37 hr35 => ?_)
      obtain ⟨hr35, hI, hFr35, hGr35⟩ := hr35
      have hF : ∀ k i, k ≠ 90 ∧ ¬ (k = 191 ∧ i = 0) ∧ ¬ (k = 191 ∧ i = 2) ∧ k ≠ 192 ∧ k ≠ 193 ∧ k ≠ 194 → M36 k i = M k i := fun k i hk => by (rw [hFr35 k i trivial]; try exact hF k i hk)
      have hG : ∀ k i, k ≠ 121 ∧ k ≠ 122 ∧ ¬ (k = 124 ∧ i = 0) ∧ ¬ (k = 124 ∧ i = 1) ∧ ¬ (197 ≤ k ∧ k < 257) → L37 k i = L k i := fun k i hk => by (rw [hGr35 k i (by omega)]; try exact hG k i hk)
      have hV : vC M36 = vC M := by rw [vC_fr (fun k hk => funext (fun i => hFr35 k i trivial)), hV]
      have k191_0 : M36 191 0 = M30 191 0 := (hFr35 191 0 trivial).trans k191_0
      have k191_2 : M36 191 2 = M27 191 2 := (hFr35 191 2 trivial).trans k191_2
      have kt191_0 := congrArg Int32.toInt k191_0
      have kt191_2 := congrArg Int32.toInt k191_2
      have l124_0 : L37 124 0 = L37 124 0 := rfl
      have l124_1 : L37 124 1 = L37 124 1 := rfl
      have p121 : L37 121 = L37 121 := rfl
      have p122 : L37 122 = L37 122 := rfl
      have q90 : M36 90 = M32 90 := (funext (fun i => hFr35 90 i trivial)).trans q90
      have q192 : M36 192 = M30 192 := (funext (fun i => hFr35 192 i trivial)).trans q192
      have q193 : M36 193 = M27 193 := (funext (fun i => hFr35 193 i trivial)).trans q193
      have q194 : M36 194 = M27 194 := (funext (fun i => hFr35 194 i trivial)).trans q194
      have hFp := hFr35
      obtain ⟨pz, pe⟩ := hr35
      rw [eVc, e89c, e88c, e91c, e92c, e121c, e122c, eU9, eV9, hu, hd, hI9] at pz pe
      rw [hc] at pz pe
      have pz : zo r35 (lg2 (qrU (vC M) (M 2) (M 89) (M 88 3).toNatClampNeg (M 1 0).toNatClampNeg tr) (qrV (vC M) (M 2) (M 89) (M 88 3).toNatClampNeg (M 1 0).toNatClampNeg tr) y ∧ (qrW (vC M) (M 2) (M 89) (M 88 3).toNatClampNeg (M 1 0).toNatClampNeg y tr).2.2 = true) := pz
      have pe : lg2 (qrU (vC M) (M 2) (M 89) (M 88 3).toNatClampNeg (M 1 0).toNatClampNeg tr) (qrV (vC M) (M 2) (M 89) (M 88 3).toNatClampNeg (M 1 0).toNatClampNeg tr) y → (qrW (vC M) (M 2) (M 89) (M 88 3).toNatClampNeg (M 1 0).toNatClampNeg y tr).2.2 = true → L37 121 = (qrW (vC M) (M 2) (M 89) (M 88 3).toNatClampNeg (M 1 0).toNatClampNeg y tr).1 ∧ L37 122 = (qrW (vC M) (M 2) (M 89) (M 88 3).toNatClampNeg (M 1 0).toNatClampNeg y tr).2.1 ∧ WTc L37 (M 88 3).toNatClampNeg := pe
      obtain ⟨bar35, bbr35⟩ := zo_b pz
      refine g_if_eq C 130 dX8_endRound_123 (by decide) (fun c38 => ?_) (fun c38 => ?_)
      ·
        have f39 := feq rfl (by decide : (0 : Int32).toInt = 0) c38
        have hnpo := zo_f pz c38
        refine g_iconst C 0 dX8_endRound_130 (by decide) ?_
        have eF : (qrF (vC M) (M 2) (M 89) (M 88 3).toNatClampNeg (M 1 0).toNatClampNeg (M 88 4).toNatClampNeg y tr) = (tr.1, tr.2.1, tr.2.2.1, tr.2.2.2.1, false) := by
          unfold qrF
          rw [if_neg (fun h9 => by rw [hT] at h9; exact Bool.noConfusion h9), if_neg (by omega), if_pos (by omega), if_neg hnpo]
        have zr9 : (0 : Int32).toInt = 0 := by decide
        exact g_zret C hr rfl ⟨⟨Or.inr ⟨rfl, fun h9 => by rw [eF] at h9; exact Bool.noConfusion h9⟩, fun h9 => by rw [eF] at h9; exact Bool.noConfusion h9⟩, hI, hF, hG⟩ dX8_endRound_131
      ·
        have f40 := fne rfl (by decide : (0 : Int32).toInt = 0) c38
        have hpo := zo_t pz c38
        refine g_iconst C 1 dX8_endRound_126 (by decide) ?_
        refine g_goto C 131 dX8_endRound_127 (by decide) ?_
        have eF : (qrF (vC M) (M 2) (M 89) (M 88 3).toNatClampNeg (M 1 0).toNatClampNeg (M 88 4).toNatClampNeg y tr) = (upd tr.1 (qrC (vC M) (M 2) (M 89) (M 88 3).toNatClampNeg (M 1 0).toNatClampNeg tr).toNatClampNeg 0, ((qrW (vC M) (M 2) (M 89) (M 88 3).toNatClampNeg (M 1 0).toNatClampNeg y tr).1, (qrW (vC M) (M 2) (M 89) (M 88 3).toNatClampNeg (M 1 0).toNatClampNeg y tr).2.1), tr.2.2.1 ++ [qrC (vC M) (M 2) (M 89) (M 88 3).toNatClampNeg (M 1 0).toNatClampNeg tr], tr.2.2.2.1 ++ [(1, qrC (vC M) (M 2) (M 89) (M 88 3).toNatClampNeg (M 1 0).toNatClampNeg tr)], true) := by
          unfold qrF
          rw [if_neg (fun h9 => by rw [hT] at h9; exact Bool.noConfusion h9), if_neg (by omega), if_pos (by omega), if_pos hpo]
        have e90z := q90
        have rpz := rp3
        have kz0 := congrArg Int32.toInt k191_0
        have kz2 := congrArg Int32.toInt k191_2
        have rpz : RP (M36 191 0) (M36 192) (M36 191 2) (M36 193) (M36 194) (tr.2.2.1 ++ [x]) (tr.2.2.2.1 ++ [(1, x)]) := by
          rw [show M36 191 = M32 191 from funext (fun i => hFp 191 i trivial), show M36 192 = M32 192 from funext (fun i => hFp 192 i trivial), show M36 193 = M32 193 from funext (fun i => hFp 193 i trivial), show M36 194 = M32 194 from funext (fun i => hFp 194 i trivial)]
          exact rp3
        have zr9 : (1 : Int32).toInt = 1 := by decide
        exact g_zret C hr rfl ⟨⟨Or.inl ⟨rfl, by rw [eF]⟩, fun _ => by rw [eF]; exact ⟨by rw [q90, h90, hI9, ← hc], (pe hpo.1 hpo.2).1, (pe hpo.1 hpo.2).2.1, by rw [hc] at rpz; exact rpz, (pe hpo.1 hpo.2).2.2, by rw [q90]; exact hcu, by rw [q90]; exact hNI2, by rw [q90]; omega, by omega, by omega⟩⟩, hI, hF, hG⟩ dX8_endRound_131
  ·
    have f41 := fnl rfl rfl c7
    refine g_iconst C 1 dX8_endRound_23 (by decide) ?_
    refine g_goto C 28 dX8_endRound_24 (by decide) ?_
    refine g_istore C [(5, .int 1), (0, .ref (ad 120)), (1, .int x), (2, .long y), (4, .ref (ad 191))] dX8_endRound_28 (by decide) rfl ?_
    refine g_aload_n C 1 dX8_endRound_30 rfl ?_
    refine g_get C (.ref (ad 88)) 0 in_X8_endRound_8 (List.mem_of_getElem? (i := 1) rfl) (by decide) (ce_trans ad cs _ _) rfl (by decide) rfl rfl dX8_endRound_31 ?_
    refine g_get C (.ref (ad 91)) 6 in_X8_endRound_6 (List.mem_of_getElem? (i := 4) rfl) (by decide) (ce_poll ad cs _ _) rfl (by decide) rfl rfl dX8_endRound_34 ?_
    refine g_iload_n C 2 dX8_endRound_37 rfl ?_
    have nx := ixn (x := x) (by omega)
    refine g_lald C (by decide) (ce_pupper ad cs _ _) (fin' (n := 10) rfl (by omega) (by omega)) dX8_endRound_38 ?_
    refine g_nl (fun v42 ev42 => ?_)
    have gv42 : v42 = L 91 x.toNatClampNeg := ev42
    have tv42 := congrArg Int64.toInt gv42
    refine g_lload_n C 3 dX8_endRound_39 rfl ?_
    refine g_aload_n C 1 dX8_endRound_40 rfl ?_
    refine g_get C (.ref (ad 88)) 0 in_X8_endRound_8 (List.mem_of_getElem? (i := 1) rfl) (by decide) (ce_trans ad cs _ _) rfl (by decide) rfl rfl dX8_endRound_41 ?_
    refine g_get C (.ref (ad 92)) 7 in_X8_endRound_6 (List.mem_of_getElem? (i := 5) rfl) (by decide) (ce_poll ad cs _ _) rfl (by decide) rfl rfl dX8_endRound_44 ?_
    refine g_iload_n C 2 dX8_endRound_47 rfl ?_
    have nx := ixn (x := x) (by omega)
    refine g_lald C (by decide) (ce_plower ad cs _ _) (fin' (n := 10) rfl (by omega) (by omega)) dX8_endRound_48 ?_
    refine g_nl (fun v43 ev43 => ?_)
    have gv43 : v43 = L 92 x.toNatClampNeg := ev43
    have tv43 := congrArg Int64.toInt gv43
    refine g_lmul C dX8_endRound_49 ?_
    refine g_nl (fun v44 ev44 => ?_)
    try have fv44 := prodI ev44
    have m1 := mul_le9 (a := y.toInt) (b := v43.toInt) (by omega) (by omega) (by omega) (by omega)
    have eB9 : v44 = y * qrV (vC M) (M 2) (M 89) (M 88 3).toNatClampNeg (M 1 0).toNatClampNeg tr := by rw [ev44, gv43, eV9]
    have eBt := congrArg Int64.toInt eB9
    have eUt : v42.toInt = (qrU (vC M) (M 2) (M 89) (M 88 3).toNatClampNeg (M 1 0).toNatClampNeg tr).toInt := by rw [gv42, eU9]
    have eB8 : y.toInt * (L 92 x.toNatClampNeg).toInt = v44.toInt := by rw [← tv43, fv44, bmod_id (by omega) (by omega)]
    refine g_lcmp C dX8_endRound_50 ?_
    refine g_ni (fun v45 ev45 => ?_)
    refine g_if_lt C 58 dX8_endRound_51 (by decide) (fun c46 => ?_) (fun c46 => ?_)
    ·
      have f47 := clt rfl rfl ev45 c46
      refine g_iconst C 0 dX8_endRound_58 (by decide) ?_
      refine g_istore C [(6, .int 0), (5, .int 1), (0, .ref (ad 120)), (1, .int x), (2, .long y), (4, .ref (ad 191))] dX8_endRound_59 (by decide) rfl ?_
      refine g_iload C 1 dX8_endRound_61 rfl ?_
      refine g_if_ne C 85 dX8_endRound_63 (by decide) (fun _ => ?_) (fun c48 => absurd c48 (by decide))
      refine g_aload C 5 dX8_endRound_85 rfl ?_
      refine g_iconst C 1 dX8_endRound_87 (by decide) ?_
      refine g_iload_n C 3 dX8_endRound_88 rfl ?_
      refine g_aload_n C 2 dX8_endRound_89 rfl ?_
      refine g_get C (.ref (ad 88)) 0 in_X8_endRound_8 (List.mem_of_getElem? (i := 1) rfl) (by decide) (ce_trans ad cs _ _) rfl (by decide) rfl rfl dX8_endRound_90 ?_
      refine g_callVv C (n := 3) (As := [.int 1, .int x, .ref (ad 88)]) (st := []) (k_X7_note_b l D ad cs _ _ 1 x hI (by omega)) gX8_endRound_X7_note rfl rfl rfl (by decide +kernel) ⟨Nat.le_of_ble_eq_true rfl, Nat.le_of_ble_eq_true rfl⟩ rfl (Nat.le_of_ble_eq_true rfl) ⟨Nat.zero_le _, Nat.zero_le _⟩ (by decide) (ce_rb ad cs _ _) rfl rfl dX8_endRound_93 (fun M50 L51 hr49 => ?_)
      obtain ⟨hr49, hI, hFr49, hGr49⟩ := hr49
      have hF : ∀ k i, k ≠ 90 ∧ ¬ (k = 191 ∧ i = 0) ∧ ¬ (k = 191 ∧ i = 2) ∧ k ≠ 192 ∧ k ≠ 193 ∧ k ≠ 194 → M50 k i = M k i := fun k i hk => by (rw [hFr49 k i (by omega)]; try exact hF k i hk)
      have hG : ∀ k i, k ≠ 121 ∧ k ≠ 122 ∧ ¬ (k = 124 ∧ i = 0) ∧ ¬ (k = 124 ∧ i = 1) ∧ ¬ (197 ≤ k ∧ k < 257) → L51 k i = L k i := fun k i hk => by (rw [hGr49 k i (by omega)]; try exact hG k i hk)
      have hV : vC M50 = vC M := by rw [vC_fr (fun k hk => funext (fun i => hFr49 k i (by omega))), hV]
      have k191_0 : M50 191 0 = M 191 0 := (hFr49 191 0 (by omega)).trans k191_0
      have k191_2 : M50 191 2 = M50 191 2 := rfl
      have kt191_0 := congrArg Int32.toInt k191_0
      have kt191_2 := congrArg Int32.toInt k191_2
      have l124_0 : L51 124 0 = L 124 0 := (hGr49 124 0 (by omega)).trans l124_0
      have l124_1 : L51 124 1 = L 124 1 := (hGr49 124 1 (by omega)).trans l124_1
      have p121 : L51 121 = L 121 := (funext (fun i => hGr49 121 i (by omega))).trans p121
      have p122 : L51 122 = L 122 := (funext (fun i => hGr49 122 i (by omega))).trans p122
      have q90 : M50 90 = M 90 := (funext (fun i => hFr49 90 i (by omega))).trans q90
      have q192 : M50 192 = M 192 := (funext (fun i => hFr49 192 i (by omega))).trans q192
      have q193 : M50 193 = M50 193 := rfl
      have q194 : M50 194 = M50 194 := rfl
      obtain ⟨np2, npw, nph⟩ := hr49
      have np0 : M50 191 0 = M 191 0 := hFr49 191 0 (by omega)
      have np0t := congrArg Int32.toInt np0
      have nps : M50 192 = M 192 := funext (fun i => hFr49 192 i (by omega))
      have hb9 : RP (M 191 0) (M 192) (M 191 2) (M 193) (M 194) _ _ := hRR
      rw [← np0, ← nps] at hb9
      have rp1 := RP_note hb9 np2 npw nph
      refine g_aload C 5 dX8_endRound_96 rfl ?_
      refine g_iload_n C 3 dX8_endRound_98 rfl ?_
      refine g_callVv C (n := 1) (As := [.int x]) (st := []) (k_X7_give_b l D ad cs _ _ x hI (by omega)) gX8_endRound_X7_give rfl rfl rfl (by decide +kernel) ⟨Nat.le_of_ble_eq_true rfl, Nat.le_of_ble_eq_true rfl⟩ rfl (Nat.le_of_ble_eq_true rfl) ⟨Nat.zero_le _, Nat.zero_le _⟩ (by decide) (ce_rb ad cs _ _) rfl rfl dX8_endRound_99 (fun M53 L54 hr52 => ?_)
      obtain ⟨hr52, hI, hFr52, hGr52⟩ := hr52
      have hF : ∀ k i, k ≠ 90 ∧ ¬ (k = 191 ∧ i = 0) ∧ ¬ (k = 191 ∧ i = 2) ∧ k ≠ 192 ∧ k ≠ 193 ∧ k ≠ 194 → M53 k i = M k i := fun k i hk => by (rw [hFr52 k i (by omega)]; try exact hF k i hk)
      have hG : ∀ k i, k ≠ 121 ∧ k ≠ 122 ∧ ¬ (k = 124 ∧ i = 0) ∧ ¬ (k = 124 ∧ i = 1) ∧ ¬ (197 ≤ k ∧ k < 257) → L54 k i = L k i := fun k i hk => by (rw [hGr52 k i trivial]; try exact hG k i hk)
      have hV : vC M53 = vC M := by rw [vC_fr (fun k hk => funext (fun i => hFr52 k i (by omega))), hV]
      have k191_2 : M53 191 2 = M50 191 2 := (hFr52 191 2 (by omega)).trans k191_2
      have k191_0 : M53 191 0 = M53 191 0 := rfl
      have kt191_0 := congrArg Int32.toInt k191_0
      have kt191_2 := congrArg Int32.toInt k191_2
      have l124_0 : L54 124 0 = L 124 0 := (hGr52 124 0 trivial).trans l124_0
      have l124_1 : L54 124 1 = L 124 1 := (hGr52 124 1 trivial).trans l124_1
      have p121 : L54 121 = L 121 := (funext (fun i => hGr52 121 i trivial)).trans p121
      have p122 : L54 122 = L 122 := (funext (fun i => hGr52 122 i trivial)).trans p122
      have q90 : M53 90 = M 90 := (funext (fun i => hFr52 90 i (by omega))).trans q90
      have q192 : M53 192 = M53 192 := rfl
      have q193 : M53 193 = M50 193 := (funext (fun i => hFr52 193 i (by omega))).trans q193
      have q194 : M53 194 = M50 194 := (funext (fun i => hFr52 194 i (by omega))).trans q194
      obtain ⟨gv0, gvs⟩ := hr52
      have gv2 : M53 191 2 = M50 191 2 := hFr52 191 2 (by omega)
      have gv2t := congrArg Int32.toInt gv2
      have gv193 : M53 193 = M50 193 := funext (fun i => hFr52 193 i (by omega))
      have gv194 : M53 194 = M50 194 := funext (fun i => hFr52 194 i (by omega))
      have hb9 : RP (M50 191 0) (M50 192) (M50 191 2) (M50 193) (M50 194) _ _ := rp1
      rw [← gv2, ← gv193, ← gv194] at hb9
      have rp2 := RP_give hb9 gv0 gvs
      refine g_aload_n C 2 dX8_endRound_102 rfl ?_
      refine g_get C (.ref (ad 88)) 0 in_X8_endRound_8 (List.mem_of_getElem? (i := 1) rfl) (by decide) (ce_trans ad cs _ _) rfl (by decide) rfl rfl dX8_endRound_103 ?_
      refine g_get C (.ref (ad 90)) 5 in_X8_endRound_6 (List.mem_of_getElem? (i := 6) rfl) (by decide) (ce_poll ad cs _ _) rfl (by decide) rfl rfl dX8_endRound_106 ?_
      refine g_iload_n C 3 dX8_endRound_109 rfl ?_
      refine g_iconst C 0 dX8_endRound_110 (by decide) ?_
      have nx := ixn (x := x) (by omega)
      refine g_zast C (by decide) (ce_pin ad cs _ _) (by rw [sI_k]; rfl) (fin' (n := 10) rfl (by omega) (by omega)) dX8_endRound_111 ?_
      refine g_nm (fun M55 hM55 => ?_)
      have zy56 : (0 : Int32).toInt = 0 := by decide
      have hI : IC M55 := by rw [hM55]; exact hI.st (bC_free (by decide) (by decide) (by decide) (by decide) (by decide) (by decide) (by decide))
      have hF : ∀ k i, k ≠ 90 ∧ ¬ (k = 191 ∧ i = 0) ∧ ¬ (k = 191 ∧ i = 2) ∧ k ≠ 192 ∧ k ≠ 193 ∧ k ≠ 194 → M55 k i = M k i := fun k i hk => by (rw [hM55, sI_at, if_neg (by omega)]; try exact hF k i hk)
      have k191_0 : M55 191 0 = M53 191 0 := by rw [hM55, sI_n _ _ _ (by decide)]; try exact k191_0
      have k191_2 : M55 191 2 = M50 191 2 := by rw [hM55, sI_n _ _ _ (by decide)]; try exact k191_2
      have q192 : M55 192 = M53 192 := by rw [hM55, sI_n _ _ _ (by decide)]; try exact q192
      have q193 : M55 193 = M50 193 := by rw [hM55, sI_n _ _ _ (by decide)]; try exact q193
      have q194 : M55 194 = M50 194 := by rw [hM55, sI_n _ _ _ (by decide)]; try exact q194
      have hV : vC M55 = vC M := by rw [hM55, vC_z (by decide), hV]
      have h90 : M55 90 = upd (M 90) x.toNatClampNeg 0 := by rw [hM55, sI_k, q90]; rfl
      have hcu := cI_upd (T := M 90) (b := x.toNatClampNeg) hin (M 1 0).toNatClampNeg
      rw [if_pos (by omega), ← h90] at hcu
      have hNI2 : NIn (M55 90) (M 1 0).toInt := by rw [h90]; exact NIn_upd hNI _
      have e191 : M55 191 = M53 191 := by rw [hM55, sI_n _ _ _ (by decide)]
      have e192 : M55 192 = M53 192 := by rw [hM55, sI_n _ _ _ (by decide)]
      have e193 : M55 193 = M53 193 := by rw [hM55, sI_n _ _ _ (by decide)]
      have e194 : M55 194 = M53 194 := by rw [hM55, sI_n _ _ _ (by decide)]
      have rp3 : RP (M53 191 0) (M53 192) (M53 191 2) (M53 193) (M53 194) _ _ := rp2
      rw [← e191, ← e192, ← e193, ← e194] at rp3
      have k0t := congrArg Int32.toInt k191_0
      have k2t := congrArg Int32.toInt k191_2
      have q90 : M55 90 = M55 90 := rfl
      refine g_iload C 1 dX8_endRound_112 rfl ?_
      refine g_if_ne C 126 dX8_endRound_114 (by decide) (fun _ => ?_) (fun c57 => absurd c57 (by decide))
      refine g_iconst C 1 dX8_endRound_126 (by decide) ?_
      refine g_goto C 131 dX8_endRound_127 (by decide) ?_
      have eF : (qrF (vC M) (M 2) (M 89) (M 88 3).toNatClampNeg (M 1 0).toNatClampNeg (M 88 4).toNatClampNeg y tr) = (upd tr.1 (qrC (vC M) (M 2) (M 89) (M 88 3).toNatClampNeg (M 1 0).toNatClampNeg tr).toNatClampNeg 0, tr.2.1, tr.2.2.1 ++ [qrC (vC M) (M 2) (M 89) (M 88 3).toNatClampNeg (M 1 0).toNatClampNeg tr], tr.2.2.2.1 ++ [(1, qrC (vC M) (M 2) (M 89) (M 88 3).toNatClampNeg (M 1 0).toNatClampNeg tr)], true) := by
        unfold qrF
        rw [if_neg (fun h9 => by rw [hT] at h9; exact Bool.noConfusion h9), if_pos (by omega)]
      have zr9 : (1 : Int32).toInt = 1 := by decide
      exact g_zret C hr rfl ⟨⟨Or.inl ⟨rfl, by rw [eF]⟩, fun _ => by rw [eF]; exact ⟨by rw [h90, hI9, ← hc], by rw [p121]; exact hu, by rw [p122]; exact hd, by have rpz := rp3; rw [hc] at rpz; exact rpz, fun i hi => by rw [congrFun p121 i, congrFun p122 i]; exact hW i hi, hcu, hNI2, by omega, by omega, by omega⟩⟩, hI, hF, hG⟩ dX8_endRound_131
    ·
      have f58 := cnlt rfl rfl ev45 c46
      refine g_iconst C 1 dX8_endRound_54 (by decide) ?_
      refine g_goto C 59 dX8_endRound_55 (by decide) ?_
      refine g_istore C [(6, .int 1), (5, .int 1), (0, .ref (ad 120)), (1, .int x), (2, .long y), (4, .ref (ad 191))] dX8_endRound_59 (by decide) rfl ?_
      refine g_iload C 1 dX8_endRound_61 rfl ?_
      refine g_if_ne C 85 dX8_endRound_63 (by decide) (fun _ => ?_) (fun c59 => absurd c59 (by decide))
      refine g_aload C 5 dX8_endRound_85 rfl ?_
      refine g_iconst C 1 dX8_endRound_87 (by decide) ?_
      refine g_iload_n C 3 dX8_endRound_88 rfl ?_
      refine g_aload_n C 2 dX8_endRound_89 rfl ?_
      refine g_get C (.ref (ad 88)) 0 in_X8_endRound_8 (List.mem_of_getElem? (i := 1) rfl) (by decide) (ce_trans ad cs _ _) rfl (by decide) rfl rfl dX8_endRound_90 ?_
      refine g_callVv C (n := 3) (As := [.int 1, .int x, .ref (ad 88)]) (st := []) (k_X7_note_b l D ad cs _ _ 1 x hI (by omega)) gX8_endRound_X7_note rfl rfl rfl (by decide +kernel) ⟨Nat.le_of_ble_eq_true rfl, Nat.le_of_ble_eq_true rfl⟩ rfl (Nat.le_of_ble_eq_true rfl) ⟨Nat.zero_le _, Nat.zero_le _⟩ (by decide) (ce_rb ad cs _ _) rfl rfl dX8_endRound_93 (fun M61 L62 hr60 => ?_)
      obtain ⟨hr60, hI, hFr60, hGr60⟩ := hr60
      have hF : ∀ k i, k ≠ 90 ∧ ¬ (k = 191 ∧ i = 0) ∧ ¬ (k = 191 ∧ i = 2) ∧ k ≠ 192 ∧ k ≠ 193 ∧ k ≠ 194 → M61 k i = M k i := fun k i hk => by (rw [hFr60 k i (by omega)]; try exact hF k i hk)
      have hG : ∀ k i, k ≠ 121 ∧ k ≠ 122 ∧ ¬ (k = 124 ∧ i = 0) ∧ ¬ (k = 124 ∧ i = 1) ∧ ¬ (197 ≤ k ∧ k < 257) → L62 k i = L k i := fun k i hk => by (rw [hGr60 k i (by omega)]; try exact hG k i hk)
      have hV : vC M61 = vC M := by rw [vC_fr (fun k hk => funext (fun i => hFr60 k i (by omega))), hV]
      have k191_0 : M61 191 0 = M 191 0 := (hFr60 191 0 (by omega)).trans k191_0
      have k191_2 : M61 191 2 = M61 191 2 := rfl
      have kt191_0 := congrArg Int32.toInt k191_0
      have kt191_2 := congrArg Int32.toInt k191_2
      have l124_0 : L62 124 0 = L 124 0 := (hGr60 124 0 (by omega)).trans l124_0
      have l124_1 : L62 124 1 = L 124 1 := (hGr60 124 1 (by omega)).trans l124_1
      have p121 : L62 121 = L 121 := (funext (fun i => hGr60 121 i (by omega))).trans p121
      have p122 : L62 122 = L 122 := (funext (fun i => hGr60 122 i (by omega))).trans p122
      have q90 : M61 90 = M 90 := (funext (fun i => hFr60 90 i (by omega))).trans q90
      have q192 : M61 192 = M 192 := (funext (fun i => hFr60 192 i (by omega))).trans q192
      have q193 : M61 193 = M61 193 := rfl
      have q194 : M61 194 = M61 194 := rfl
      obtain ⟨np2, npw, nph⟩ := hr60
      have np0 : M61 191 0 = M 191 0 := hFr60 191 0 (by omega)
      have np0t := congrArg Int32.toInt np0
      have nps : M61 192 = M 192 := funext (fun i => hFr60 192 i (by omega))
      have hb9 : RP (M 191 0) (M 192) (M 191 2) (M 193) (M 194) _ _ := hRR
      rw [← np0, ← nps] at hb9
      have rp1 := RP_note hb9 np2 npw nph
      refine g_aload C 5 dX8_endRound_96 rfl ?_
      refine g_iload_n C 3 dX8_endRound_98 rfl ?_
      refine g_callVv C (n := 1) (As := [.int x]) (st := []) (k_X7_give_b l D ad cs _ _ x hI (by omega)) gX8_endRound_X7_give rfl rfl rfl (by decide +kernel) ⟨Nat.le_of_ble_eq_true rfl, Nat.le_of_ble_eq_true rfl⟩ rfl (Nat.le_of_ble_eq_true rfl) ⟨Nat.zero_le _, Nat.zero_le _⟩ (by decide) (ce_rb ad cs _ _) rfl rfl dX8_endRound_99 (fun M64 L65 hr63 => ?_)
      obtain ⟨hr63, hI, hFr63, hGr63⟩ := hr63
      have hF : ∀ k i, k ≠ 90 ∧ ¬ (k = 191 ∧ i = 0) ∧ ¬ (k = 191 ∧ i = 2) ∧ k ≠ 192 ∧ k ≠ 193 ∧ k ≠ 194 → M64 k i = M k i := fun k i hk => by (rw [hFr63 k i (by omega)]; try exact hF k i hk)
      have hG : ∀ k i, k ≠ 121 ∧ k ≠ 122 ∧ ¬ (k = 124 ∧ i = 0) ∧ ¬ (k = 124 ∧ i = 1) ∧ ¬ (197 ≤ k ∧ k < 257) → L65 k i = L k i := fun k i hk => by (rw [hGr63 k i trivial]; try exact hG k i hk)
      have hV : vC M64 = vC M := by rw [vC_fr (fun k hk => funext (fun i => hFr63 k i (by omega))), hV]
      have k191_2 : M64 191 2 = M61 191 2 := (hFr63 191 2 (by omega)).trans k191_2
      have k191_0 : M64 191 0 = M64 191 0 := rfl
      have kt191_0 := congrArg Int32.toInt k191_0
      have kt191_2 := congrArg Int32.toInt k191_2
      have l124_0 : L65 124 0 = L 124 0 := (hGr63 124 0 trivial).trans l124_0
      have l124_1 : L65 124 1 = L 124 1 := (hGr63 124 1 trivial).trans l124_1
      have p121 : L65 121 = L 121 := (funext (fun i => hGr63 121 i trivial)).trans p121
      have p122 : L65 122 = L 122 := (funext (fun i => hGr63 122 i trivial)).trans p122
      have q90 : M64 90 = M 90 := (funext (fun i => hFr63 90 i (by omega))).trans q90
      have q192 : M64 192 = M64 192 := rfl
      have q193 : M64 193 = M61 193 := (funext (fun i => hFr63 193 i (by omega))).trans q193
      have q194 : M64 194 = M61 194 := (funext (fun i => hFr63 194 i (by omega))).trans q194
      obtain ⟨gv0, gvs⟩ := hr63
      have gv2 : M64 191 2 = M61 191 2 := hFr63 191 2 (by omega)
      have gv2t := congrArg Int32.toInt gv2
      have gv193 : M64 193 = M61 193 := funext (fun i => hFr63 193 i (by omega))
      have gv194 : M64 194 = M61 194 := funext (fun i => hFr63 194 i (by omega))
      have hb9 : RP (M61 191 0) (M61 192) (M61 191 2) (M61 193) (M61 194) _ _ := rp1
      rw [← gv2, ← gv193, ← gv194] at hb9
      have rp2 := RP_give hb9 gv0 gvs
      refine g_aload_n C 2 dX8_endRound_102 rfl ?_
      refine g_get C (.ref (ad 88)) 0 in_X8_endRound_8 (List.mem_of_getElem? (i := 1) rfl) (by decide) (ce_trans ad cs _ _) rfl (by decide) rfl rfl dX8_endRound_103 ?_
      refine g_get C (.ref (ad 90)) 5 in_X8_endRound_6 (List.mem_of_getElem? (i := 6) rfl) (by decide) (ce_poll ad cs _ _) rfl (by decide) rfl rfl dX8_endRound_106 ?_
      refine g_iload_n C 3 dX8_endRound_109 rfl ?_
      refine g_iconst C 0 dX8_endRound_110 (by decide) ?_
      have nx := ixn (x := x) (by omega)
      refine g_zast C (by decide) (ce_pin ad cs _ _) (by rw [sI_k]; rfl) (fin' (n := 10) rfl (by omega) (by omega)) dX8_endRound_111 ?_
      refine g_nm (fun M66 hM66 => ?_)
      have zy67 : (0 : Int32).toInt = 0 := by decide
      have hI : IC M66 := by rw [hM66]; exact hI.st (bC_free (by decide) (by decide) (by decide) (by decide) (by decide) (by decide) (by decide))
      have hF : ∀ k i, k ≠ 90 ∧ ¬ (k = 191 ∧ i = 0) ∧ ¬ (k = 191 ∧ i = 2) ∧ k ≠ 192 ∧ k ≠ 193 ∧ k ≠ 194 → M66 k i = M k i := fun k i hk => by (rw [hM66, sI_at, if_neg (by omega)]; try exact hF k i hk)
      have k191_0 : M66 191 0 = M64 191 0 := by rw [hM66, sI_n _ _ _ (by decide)]; try exact k191_0
      have k191_2 : M66 191 2 = M61 191 2 := by rw [hM66, sI_n _ _ _ (by decide)]; try exact k191_2
      have q192 : M66 192 = M64 192 := by rw [hM66, sI_n _ _ _ (by decide)]; try exact q192
      have q193 : M66 193 = M61 193 := by rw [hM66, sI_n _ _ _ (by decide)]; try exact q193
      have q194 : M66 194 = M61 194 := by rw [hM66, sI_n _ _ _ (by decide)]; try exact q194
      have hV : vC M66 = vC M := by rw [hM66, vC_z (by decide), hV]
      have h90 : M66 90 = upd (M 90) x.toNatClampNeg 0 := by rw [hM66, sI_k, q90]; rfl
      have hcu := cI_upd (T := M 90) (b := x.toNatClampNeg) hin (M 1 0).toNatClampNeg
      rw [if_pos (by omega), ← h90] at hcu
      have hNI2 : NIn (M66 90) (M 1 0).toInt := by rw [h90]; exact NIn_upd hNI _
      have e191 : M66 191 = M64 191 := by rw [hM66, sI_n _ _ _ (by decide)]
      have e192 : M66 192 = M64 192 := by rw [hM66, sI_n _ _ _ (by decide)]
      have e193 : M66 193 = M64 193 := by rw [hM66, sI_n _ _ _ (by decide)]
      have e194 : M66 194 = M64 194 := by rw [hM66, sI_n _ _ _ (by decide)]
      have rp3 : RP (M64 191 0) (M64 192) (M64 191 2) (M64 193) (M64 194) _ _ := rp2
      rw [← e191, ← e192, ← e193, ← e194] at rp3
      have k0t := congrArg Int32.toInt k191_0
      have k2t := congrArg Int32.toInt k191_2
      have q90 : M66 90 = M66 90 := rfl
      refine g_iload C 1 dX8_endRound_112 rfl ?_
      refine g_if_ne C 126 dX8_endRound_114 (by decide) (fun _ => ?_) (fun c68 => absurd c68 (by decide))
      refine g_iconst C 1 dX8_endRound_126 (by decide) ?_
      refine g_goto C 131 dX8_endRound_127 (by decide) ?_
      have eF : (qrF (vC M) (M 2) (M 89) (M 88 3).toNatClampNeg (M 1 0).toNatClampNeg (M 88 4).toNatClampNeg y tr) = (upd tr.1 (qrC (vC M) (M 2) (M 89) (M 88 3).toNatClampNeg (M 1 0).toNatClampNeg tr).toNatClampNeg 0, tr.2.1, tr.2.2.1 ++ [qrC (vC M) (M 2) (M 89) (M 88 3).toNatClampNeg (M 1 0).toNatClampNeg tr], tr.2.2.2.1 ++ [(1, qrC (vC M) (M 2) (M 89) (M 88 3).toNatClampNeg (M 1 0).toNatClampNeg tr)], true) := by
        unfold qrF
        rw [if_neg (fun h9 => by rw [hT] at h9; exact Bool.noConfusion h9), if_pos (by omega)]
      have zr9 : (1 : Int32).toInt = 1 := by decide
      exact g_zret C hr rfl ⟨⟨Or.inl ⟨rfl, by rw [eF]⟩, fun _ => by rw [eF]; exact ⟨by rw [h90, hI9, ← hc], by rw [p121]; exact hu, by rw [p122]; exact hd, by have rpz := rp3; rw [hc] at rpz; exact rpz, fun i hi => by rw [congrFun p121 i, congrFun p122 i]; exact hW i hi, hcu, hNI2, by omega, by omega, by omega⟩⟩, hI, hF, hG⟩ dX8_endRound_131
