set_option maxHeartbeats 4000000 in
set_option maxRecDepth 100000 in
theorem k_X10_countBy_a (l : Launch) (D : va_G) (ad : Nat → Nat) (cs : Nat → ClassId) (M : MI) (L : ML) (x : Int32) (hI : IC M) {wu wd : Nat → Int64} {pb : Nat → Int32} {mq : Nat} (hLY : LY pb (M 89) mq) (hMN : (M 88 3).toInt = (cnP pb mq : Int)) (hmq : mq ≤ 40) (hWp : ∀ i, i < mq → (pb i).toInt ≠ -9 → wu i = (vC M 3 (pb i).toNatClampNeg).toInt64 ∧ wd i = 1) (hP3 : ∀ b, 0 ≤ (vC M 3 b).toInt ∧ (vC M 3 b).toInt ≤ 100000) (hct : ∀ j : Nat, j < 10 → L 91 j = 0 ∧ L 92 j = 1) (hA3 : ∀ b : Nat, b < 60 → ∀ i : Nat, (i : Int) < (vC M 4 b).toInt → (vC M 5 (10 * b + i)).toInt < (vC M 0 0).toInt) (hdis : ∀ b : Nat, b < 60 → ∀ i j : Nat, i < j → (j : Int) < (vC M 4 b).toInt → (vC M 5 (10 * b + i)).toInt ≠ (vC M 5 (10 * b + j)).toInt) (hl4 : ∀ b : Nat, b < 60 → (vC M 4 b).toInt ≤ (vC M 0 0).toInt) (hrl : ∀ i, i < (M 1 0).toNatClampNeg → (M 2 i).toInt < ((M 1 0).toNatClampNeg : Int)) (hD : DP (vC M)) (hNI0 : NIn (M 90) (M 1 0).toInt) (hcn : cI (M 90) (M 1 0).toNatClampNeg = (M 1 0).toNatClampNeg) (hg0 : (M 125 0).toInt = 0) (hm0 : (M 125 2).toInt = 0) (hn1 : 1 ≤ (M 1 0).toInt) (hs1 : 1 ≤ (M 88 4).toInt) (hk8 : 0 ≤ x.toInt ∧ x.toInt < 8) (hC : x.toInt ≠ 6 → x.toInt ≠ 7 → (M 88 4).toInt ≤ (cI (M 90) (M 1 0).toNatClampNeg : Int)) : Ci l yX10_countBy wsX10_countBy ({ frames := 5, cells := 0, slots := 0, locals := 139 }) D ad cs [.ref (ad 0), .int x, .ref (ad 125)] M L (fun r M1 L1 => (∃ ok S R, CRo (vC M) (M 2) (M 90) pb mq (M 1 0).toNatClampNeg (M 88 4).toNatClampNeg x wu wd ((foK (fun _ b u => u + vC M 3 b) (M 89) (M 88 3).toNatClampNeg (0 : Int32) / (M 88 4 + 1)).toInt64 + 1) ok S R ∧ zo r (ok = true) ∧ (ok = true → RP (M1 125 0) (M1 126) (M1 125 2) (M1 127) (M1 128) S R)) ∧ IC M1 ∧ (∀ k i, k ≠ 90 ∧ k ≠ 94 ∧ k ≠ 95 ∧ k ≠ 97 ∧ ¬ (100 ≤ k ∧ k < 110) ∧ ¬ (110 ≤ k ∧ k < 120) ∧ k ≠ 123 ∧ ¬ (k = 125 ∧ i = 0) ∧ ¬ (k = 125 ∧ i = 2) ∧ k ≠ 126 ∧ k ≠ 127 ∧ k ≠ 128 → M1 k i = M k i) ∧ ∀ k i, k ≠ 91 ∧ k ≠ 92 ∧ k ≠ 121 ∧ k ≠ 122 ∧ ¬ (k = 124 ∧ i = 0) ∧ ¬ (k = 124 ∧ i = 1) ∧ ¬ (131 ≤ k ∧ k < 191) → L1 k i = L k i) := by
  refine enter_i RX10 rfl [(0, .ref (ad 0)), (1, .int x), (2, .ref (ad 125))] rfl (Nat.le_of_ble_eq_true rfl) (by decide +kernel) rfl ?_
  intro p e s m below meth c C hr
  have hF : ∀ k i, k ≠ 90 ∧ k ≠ 94 ∧ k ≠ 95 ∧ k ≠ 97 ∧ ¬ (100 ≤ k ∧ k < 110) ∧ ¬ (110 ≤ k ∧ k < 120) ∧ k ≠ 123 ∧ ¬ (k = 125 ∧ i = 0) ∧ ¬ (k = 125 ∧ i = 2) ∧ k ≠ 126 ∧ k ≠ 127 ∧ k ≠ 128 → M k i = M k i := fun _ _ _ => rfl
  have hG : ∀ k i, k ≠ 91 ∧ k ≠ 92 ∧ k ≠ 121 ∧ k ≠ 122 ∧ ¬ (k = 124 ∧ i = 0) ∧ ¬ (k = 124 ∧ i = 1) ∧ ¬ (131 ≤ k ∧ k < 191) → L k i = L k i := fun _ _ _ => rfl
  have w0 : (vC M 0 0).toInt = (M 1 0).toInt := rfl
  have w1 : (vC M 0 1).toInt = (M 3 0).toInt := rfl
  have w2 : (vC M 0 2).toInt = (M 68 0).toInt := rfl
  have w3 : (vC M 0 3).toInt = (M 81 0).toInt := rfl
  obtain ⟨y0a, y0b⟩ := (show rg 0 10 (M 1 0) from hI 1 0 rfl)
  obtain ⟨y1a, y1b⟩ := (show rg 0 60 (M 3 0) from hI 3 0 rfl)
  obtain ⟨y2a, y2b⟩ := (show rg 0 8 (M 68 0) from hI 68 0 rfl)
  obtain ⟨y3a, y3b⟩ := (show rg 0 20 (M 81 0) from hI 81 0 rfl)
  have hI0 := hI
  obtain ⟨hk8a, hk8b⟩ := hk8
  obtain ⟨sa, sb⟩ := (show rg 0 30 (M 88 4) from (hI 88 4).2 rfl)
  have nsd := ixn sa
  obtain ⟨ma, mb⟩ := (show rg 0 40 (M 88 3) from (hI 88 3).1 rfl)
  have eMN : (M 88 3).toNatClampNeg = cnP pb mq := by have := ixn (x := M 88 3) (by omega); omega
  have n02 := ixn y0a
  have k125_0 : M 125 0 = M 125 0 := rfl
  have k125_2 : M 125 2 = M 125 2 := rfl
  have l124_0 : L 124 0 = L 124 0 := rfl
  have l124_1 : L 124 1 = L 124 1 := rfl
  have p91 : L 91 = L 91 := rfl
  have p92 : L 92 = L 92 := rfl
  have p121 : L 121 = L 121 := rfl
  have p122 : L 122 = L 122 := rfl
  have q90 : M 90 = M 90 := rfl
  have q94 : M 94 = M 94 := rfl
  have q95 : M 95 = M 95 := rfl
  have q97 : M 97 = M 97 := rfl
  have q123 : M 123 = M 123 := rfl
  have q126 : M 126 = M 126 := rfl
  have q127 : M 127 = M 127 := rfl
  have q128 : M 128 = M 128 := rfl
  have q100 : ∀ k, 100 ≤ k ∧ k < 110 → M k = M k := fun _ _ => rfl
  have q110 : ∀ k, 110 ≤ k ∧ k < 120 → M k = M k := fun _ _ => rfl
  have hV : vC M = vC M := rfl
  refine g_iload_n C 1 dX10_countBy_0 rfl ?_
  by_cases hsw : x.toInt < 3 ∨ 7 < x.toInt
  ·
    refine g_tableOut C 87 dX10_countBy_1 hsw (by decide) ?_
    refine g_aload_n C 0 dX10_countBy_87 rfl ?_
    refine g_get C (.ref (ad 93)) 5 in_X10_countBy_10 (List.mem_of_getElem? (i := 1) rfl) (by decide) (ce_house ad cs _ _) rfl (by decide) rfl rfl dX10_countBy_88 ?_
    refine g_iload_n C 1 dX10_countBy_91 rfl ?_
    refine g_aload_n C 2 dX10_countBy_92 rfl ?_
    refine g_callVv C (n := 2) (As := [.int x, .ref (ad 125)]) (st := []) (k_X5_sbt_a l D ad cs _ _ x hI hP3 hct hA3 hdis hl4 hD hNI0 hg0 hm0 (hC (by omega) (by omega))) gX10_countBy_X5_seatByTallies rfl rfl rfl (by decide +kernel) ⟨Nat.le_of_ble_eq_true rfl, Nat.le_of_ble_eq_true rfl⟩ rfl (Nat.le_of_ble_eq_true rfl) ⟨Nat.zero_le _, Nat.zero_le _⟩ (by decide) (ce_plain ad cs _ _) rfl rfl dX10_countBy_93 (fun M2 L3 hr1 => ?_)
    obtain ⟨hr1, hI, hFr1, hGr1⟩ := hr1
    have hF : ∀ k i, k ≠ 90 ∧ k ≠ 94 ∧ k ≠ 95 ∧ k ≠ 97 ∧ ¬ (100 ≤ k ∧ k < 110) ∧ ¬ (110 ≤ k ∧ k < 120) ∧ k ≠ 123 ∧ ¬ (k = 125 ∧ i = 0) ∧ ¬ (k = 125 ∧ i = 2) ∧ k ≠ 126 ∧ k ≠ 127 ∧ k ≠ 128 → M2 k i = M k i := fun k i hk => by (rw [hFr1 k i (by omega)]; try exact hF k i hk)
    have hG : ∀ k i, k ≠ 91 ∧ k ≠ 92 ∧ k ≠ 121 ∧ k ≠ 122 ∧ ¬ (k = 124 ∧ i = 0) ∧ ¬ (k = 124 ∧ i = 1) ∧ ¬ (131 ≤ k ∧ k < 191) → L3 k i = L k i := fun k i hk => by (rw [hGr1 k i (by omega)]; try exact hG k i hk)
    have hV : vC M2 = vC M := by rw [vC_fr (fun k hk => funext (fun i => hFr1 k i (by omega))), hV]
    have k125_0 : M2 125 0 = M2 125 0 := rfl
    have k125_2 : M2 125 2 = M2 125 2 := rfl
    have kt125_0 := congrArg Int32.toInt k125_0
    have kt125_2 := congrArg Int32.toInt k125_2
    have l124_0 : L3 124 0 = L 124 0 := (hGr1 124 0 (by omega)).trans l124_0
    have l124_1 : L3 124 1 = L 124 1 := (hGr1 124 1 (by omega)).trans l124_1
    have p91 : L3 91 = L3 91 := rfl
    have p92 : L3 92 = L3 92 := rfl
    have p121 : L3 121 = L 121 := (funext (fun i => hGr1 121 i (by omega))).trans p121
    have p122 : L3 122 = L 122 := (funext (fun i => hGr1 122 i (by omega))).trans p122
    have q100 : ∀ k, 100 ≤ k ∧ k < 110 → M2 k = M k := fun k hk => (funext (fun i => hFr1 k i (by omega))).trans (q100 k hk)
    have q110 : ∀ k, 110 ≤ k ∧ k < 120 → M2 k = M k := fun k hk => (funext (fun i => hFr1 k i (by omega))).trans (q110 k hk)
    have q90 : M2 90 = M2 90 := rfl
    have q94 : M2 94 = M 94 := (funext (fun i => hFr1 94 i (by omega))).trans q94
    have q95 : M2 95 = M 95 := (funext (fun i => hFr1 95 i (by omega))).trans q95
    have q97 : M2 97 = M 97 := (funext (fun i => hFr1 97 i (by omega))).trans q97
    have q123 : M2 123 = M 123 := (funext (fun i => hFr1 123 i (by omega))).trans q123
    have q126 : M2 126 = M2 126 := rfl
    have q127 : M2 127 = M2 127 := rfl
    have q128 : M2 128 = M2 128 := rfl
    have hrr := hr1
    refine g_iconst C 1 dX10_countBy_96 (by decide) ?_
    have zr9 : (1 : Int32).toInt = 1 := by decide
    exact g_zret C hr rfl ⟨(by
      have hty : ∀ U9 : Nat → Int64, tyU (vC M) (M 90) (M 89) (M 88 3).toNatClampNeg (M 1 0).toNatClampNeg x = U9 → RP (M2 125 0) (M2 126) (M2 125 2) (M2 127) (M2 128) (btS (M 2) (M 90) U9 (fun _ => 1) (M 1 0).toNatClampNeg (M 88 4).toNatClampNeg) (oneR (btS (M 2) (M 90) U9 (fun _ => 1) (M 1 0).toNatClampNeg (M 88 4).toNatClampNeg)) := fun U9 e9 => by rw [e9] at hrr; exact hrr
      rcases (show x.toInt = 0 ∨ x.toInt = 1 ∨ x.toInt = 2 by omega) with hq9 | hq9 | hq9
      · exact ⟨true, (btS (M 2) (M 90) (tfV (vC M) (M 90) pb mq) (fun _ => 1) (M 1 0).toNatClampNeg (M 88 4).toNatClampNeg), oneR (btS (M 2) (M 90) (tfV (vC M) (M 90) pb mq) (fun _ => 1) (M 1 0).toNatClampNeg (M 88 4).toNatClampNeg), by unfold CRo; rw [if_pos (by omega)]; exact ⟨rfl, rfl, rfl⟩, Or.inl ⟨rfl, rfl⟩, fun _ => hty _ (by unfold tyU; rw [if_neg (by omega), if_neg (by omega)]; exact foKP hLY eMN)⟩
      · exact ⟨true, (btS (M 2) (M 90) (foP (stP (vC M) (ptX (vC M) 0) (M 1 0).toNatClampNeg) pb mq (fun _ => 0)) (fun _ => 1) (M 1 0).toNatClampNeg (M 88 4).toNatClampNeg), oneR (btS (M 2) (M 90) (foP (stP (vC M) (ptX (vC M) 0) (M 1 0).toNatClampNeg) pb mq (fun _ => 0)) (fun _ => 1) (M 1 0).toNatClampNeg (M 88 4).toNatClampNeg), by unfold CRo; rw [if_neg (by omega)]; rw [if_pos (by omega)]; exact ⟨rfl, rfl, rfl⟩, Or.inl ⟨rfl, rfl⟩, fun _ => hty _ (by unfold tyU; rw [if_pos (by omega)]; exact foKP2 hLY eMN)⟩
      · exact ⟨true, (btS (M 2) (M 90) (foP (stP (vC M) (ptX (vC M) 1) (M 1 0).toNatClampNeg) pb mq (fun _ => 0)) (fun _ => 1) (M 1 0).toNatClampNeg (M 88 4).toNatClampNeg), oneR (btS (M 2) (M 90) (foP (stP (vC M) (ptX (vC M) 1) (M 1 0).toNatClampNeg) pb mq (fun _ => 0)) (fun _ => 1) (M 1 0).toNatClampNeg (M 88 4).toNatClampNeg), by unfold CRo; rw [if_neg (by omega)]; rw [if_neg (by omega)]; rw [if_pos (by omega)]; exact ⟨rfl, rfl, rfl⟩, Or.inl ⟨rfl, rfl⟩, fun _ => hty _ (by unfold tyU; rw [if_neg (by omega), if_pos (by omega)]; exact foKP2 hLY eMN)⟩), hI, hF, hG⟩ dX10_countBy_97
  ·
    have hsw1 : ¬ x.toInt < 3 := fun h => hsw (Or.inl h)
    have hsw2 : ¬ 7 < x.toInt := fun h => hsw (Or.inr h)
    rcases (show x.toInt = 3 ∨ x.toInt = 4 ∨ x.toInt = 5 ∨ x.toInt = 6 ∨ x.toInt = 7 by omega) with hq | hq | hq | hq | hq
    ·
      refine g_tableIn C 36 dX10_countBy_1 hsw1 hsw2 (off := 35) (by rw [hq]; rfl) (by decide) ?_
      refine g_aload_n C 0 dX10_countBy_36 rfl ?_
      refine g_get C (.ref (ad 93)) 5 in_X10_countBy_10 (List.mem_of_getElem? (i := 1) rfl) (by decide) (ce_house ad cs _ _) rfl (by decide) rfl rfl dX10_countBy_37 ?_
      refine g_aload_n C 2 dX10_countBy_40 rfl ?_
      refine g_callVv C (n := 1) (As := [.ref (ad 125)]) (st := []) (k_X5_ro_a l D ad cs _ _  hI hLY hMN hD hNI0 hcn hg0 hm0 hn1 hs1) gX10_countBy_X5_runOff rfl rfl rfl (by decide +kernel) ⟨Nat.le_of_ble_eq_true rfl, Nat.le_of_ble_eq_true rfl⟩ rfl (Nat.le_of_ble_eq_true rfl) ⟨Nat.zero_le _, Nat.zero_le _⟩ (by decide) (ce_plain ad cs _ _) rfl rfl dX10_countBy_41 (fun M5 L6 hr4 => ?_)
      obtain ⟨hr4, hI, hFr4, hGr4⟩ := hr4
      have hF : ∀ k i, k ≠ 90 ∧ k ≠ 94 ∧ k ≠ 95 ∧ k ≠ 97 ∧ ¬ (100 ≤ k ∧ k < 110) ∧ ¬ (110 ≤ k ∧ k < 120) ∧ k ≠ 123 ∧ ¬ (k = 125 ∧ i = 0) ∧ ¬ (k = 125 ∧ i = 2) ∧ k ≠ 126 ∧ k ≠ 127 ∧ k ≠ 128 → M5 k i = M k i := fun k i hk => by (rw [hFr4 k i (by omega)]; try exact hF k i hk)
      have hG : ∀ k i, k ≠ 91 ∧ k ≠ 92 ∧ k ≠ 121 ∧ k ≠ 122 ∧ ¬ (k = 124 ∧ i = 0) ∧ ¬ (k = 124 ∧ i = 1) ∧ ¬ (131 ≤ k ∧ k < 191) → L6 k i = L k i := fun k i hk => by (rw [hGr4 k i (by omega)]; try exact hG k i hk)
      have hV : vC M5 = vC M := by rw [vC_fr (fun k hk => funext (fun i => hFr4 k i (by omega))), hV]
      have k125_0 : M5 125 0 = M5 125 0 := rfl
      have k125_2 : M5 125 2 = M5 125 2 := rfl
      have kt125_0 := congrArg Int32.toInt k125_0
      have kt125_2 := congrArg Int32.toInt k125_2
      have l124_0 : L6 124 0 = L 124 0 := (hGr4 124 0 (by omega)).trans l124_0
      have l124_1 : L6 124 1 = L 124 1 := (hGr4 124 1 (by omega)).trans l124_1
      have p91 : L6 91 = L6 91 := rfl
      have p92 : L6 92 = L6 92 := rfl
      have p121 : L6 121 = L 121 := (funext (fun i => hGr4 121 i (by omega))).trans p121
      have p122 : L6 122 = L 122 := (funext (fun i => hGr4 122 i (by omega))).trans p122
      have q100 : ∀ k, 100 ≤ k ∧ k < 110 → M5 k = M k := fun k hk => (funext (fun i => hFr4 k i (by omega))).trans (q100 k hk)
      have q110 : ∀ k, 110 ≤ k ∧ k < 120 → M5 k = M k := fun k hk => (funext (fun i => hFr4 k i (by omega))).trans (q110 k hk)
      have q90 : M5 90 = M5 90 := rfl
      have q94 : M5 94 = M 94 := (funext (fun i => hFr4 94 i (by omega))).trans q94
      have q95 : M5 95 = M5 95 := rfl
      have q97 : M5 97 = M 97 := (funext (fun i => hFr4 97 i (by omega))).trans q97
      have q123 : M5 123 = M 123 := (funext (fun i => hFr4 123 i (by omega))).trans q123
      have q126 : M5 126 = M5 126 := rfl
      have q127 : M5 127 = M5 127 := rfl
      have q128 : M5 128 = M5 128 := rfl
      have hrr := hr4
      refine g_iconst C 1 dX10_countBy_44 (by decide) ?_
      have zr9 : (1 : Int32).toInt = 1 := by decide
      exact g_zret C hr rfl ⟨(⟨true, roT (vC M) (M 2) (M 90) pb mq (M 1 0).toNatClampNeg (cI (M 90) (M 1 0).toNatClampNeg - 1) (min (cI (M 90) (M 1 0).toNatClampNeg - 1) ((M 88 4).toNatClampNeg - 1)), twoR (roO (vC M) (M 2) (M 90) pb mq (M 1 0).toNatClampNeg (cI (M 90) (M 1 0).toNatClampNeg - 1)) ++ [(1, roW (vC M) (M 2) (M 90) pb mq (M 1 0).toNatClampNeg (cI (M 90) (M 1 0).toNatClampNeg - 1))], by unfold CRo; rw [if_neg (by omega)]; rw [if_neg (by omega)]; rw [if_neg (by omega)]; rw [if_pos (by omega)]; exact ⟨rfl, rfl, rfl⟩, Or.inl ⟨rfl, rfl⟩, fun _ => by rw [hcn]; exact hrr⟩), hI, hF, hG⟩ dX10_countBy_45
    ·
      refine g_tableIn C 46 dX10_countBy_1 hsw1 hsw2 (off := 45) (by rw [hq]; rfl) (by decide) ?_
      refine g_aload_n C 0 dX10_countBy_46 rfl ?_
      refine g_get C (.ref (ad 96)) 6 in_X10_countBy_10 (List.mem_of_getElem? (i := 2) rfl) (by decide) (ce_house ad cs _ _) rfl (by decide) rfl rfl dX10_countBy_47 ?_
      refine g_aload_n C 2 dX10_countBy_50 rfl ?_
      refine g_callVv C (n := 1) (As := [.ref (ad 125)]) (st := []) (k_X9_sbw_a l D ad cs _ _  hI hLY hMN hmq hP3 hrl hD hNI0 hg0 hm0 (hC (by omega) (by omega))) gX10_countBy_X9_seatByWays rfl rfl rfl (by decide +kernel) ⟨Nat.le_of_ble_eq_true rfl, Nat.le_of_ble_eq_true rfl⟩ rfl (Nat.le_of_ble_eq_true rfl) ⟨Nat.zero_le _, Nat.zero_le _⟩ (by decide) (ce_ways ad cs _ _) rfl rfl dX10_countBy_51 (fun M8 L9 hr7 => ?_)
      obtain ⟨hr7, hI, hFr7, hGr7⟩ := hr7
      have hF : ∀ k i, k ≠ 90 ∧ k ≠ 94 ∧ k ≠ 95 ∧ k ≠ 97 ∧ ¬ (100 ≤ k ∧ k < 110) ∧ ¬ (110 ≤ k ∧ k < 120) ∧ k ≠ 123 ∧ ¬ (k = 125 ∧ i = 0) ∧ ¬ (k = 125 ∧ i = 2) ∧ k ≠ 126 ∧ k ≠ 127 ∧ k ≠ 128 → M8 k i = M k i := fun k i hk => by (rw [hFr7 k i (by omega)]; try exact hF k i hk)
      have hG : ∀ k i, k ≠ 91 ∧ k ≠ 92 ∧ k ≠ 121 ∧ k ≠ 122 ∧ ¬ (k = 124 ∧ i = 0) ∧ ¬ (k = 124 ∧ i = 1) ∧ ¬ (131 ≤ k ∧ k < 191) → L9 k i = L k i := fun k i hk => by (rw [hGr7 k i (by omega)]; try exact hG k i hk)
      have hV : vC M8 = vC M := by rw [vC_fr (fun k hk => funext (fun i => hFr7 k i (by omega))), hV]
      have k125_0 : M8 125 0 = M8 125 0 := rfl
      have k125_2 : M8 125 2 = M8 125 2 := rfl
      have kt125_0 := congrArg Int32.toInt k125_0
      have kt125_2 := congrArg Int32.toInt k125_2
      have l124_0 : L9 124 0 = L 124 0 := (hGr7 124 0 (by omega)).trans l124_0
      have l124_1 : L9 124 1 = L 124 1 := (hGr7 124 1 (by omega)).trans l124_1
      have p91 : L9 91 = L9 91 := rfl
      have p92 : L9 92 = L9 92 := rfl
      have p121 : L9 121 = L 121 := (funext (fun i => hGr7 121 i (by omega))).trans p121
      have p122 : L9 122 = L 122 := (funext (fun i => hGr7 122 i (by omega))).trans p122
      have q100 : ∀ k, 100 ≤ k ∧ k < 110 → M8 k = M8 k := fun _ _ => rfl
      have q110 : ∀ k, 110 ≤ k ∧ k < 120 → M8 k = M8 k := fun _ _ => rfl
      have q90 : M8 90 = M8 90 := rfl
      have q94 : M8 94 = M 94 := (funext (fun i => hFr7 94 i (by omega))).trans q94
      have q95 : M8 95 = M 95 := (funext (fun i => hFr7 95 i (by omega))).trans q95
      have q97 : M8 97 = M8 97 := rfl
      have q123 : M8 123 = M 123 := (funext (fun i => hFr7 123 i (by omega))).trans q123
      have q126 : M8 126 = M8 126 := rfl
      have q127 : M8 127 = M8 127 := rfl
      have q128 : M8 128 = M8 128 := rfl
      have hrr := hr7
      refine g_iconst C 1 dX10_countBy_54 (by decide) ?_
      have zr9 : (1 : Int32).toInt = 1 := by decide
      exact g_zret C hr rfl ⟨(by obtain ⟨S9, w1, w2, w3⟩ := hrr; exact ⟨true, S9, oneR S9, by unfold CRo; rw [if_neg (by omega)]; rw [if_neg (by omega)]; rw [if_neg (by omega)]; rw [if_neg (by omega)]; rw [if_pos (by omega)]; exact ⟨rfl, ⟨_, w1⟩, by omega, rfl⟩, Or.inl ⟨rfl, rfl⟩, fun _ => w3⟩), hI, hF, hG⟩ dX10_countBy_55
    ·
      refine g_tableIn C 56 dX10_countBy_1 hsw1 hsw2 (off := 55) (by rw [hq]; rfl) (by decide) ?_
      refine g_aload_n C 0 dX10_countBy_56 rfl ?_
      refine g_get C (.ref (ad 120)) 7 in_X10_countBy_10 (List.mem_of_getElem? (i := 3) rfl) (by decide) (ce_house ad cs _ _) rfl (by decide) rfl rfl dX10_countBy_57 ?_
      refine g_aload_n C 2 dX10_countBy_60 rfl ?_
      refine g_callVi C (n := 1) (As := [.ref (ad 125)]) (st := []) (k_X8_sbq_a l D ad cs _ _  hI hP3 hD hNI0 hs1 hg0 hm0 (hC (by omega) (by omega))) gX10_countBy_X8_seatByQuota rfl rfl rfl (by decide +kernel) ⟨Nat.le_of_ble_eq_true rfl, Nat.le_of_ble_eq_true rfl⟩ rfl (Nat.le_of_ble_eq_true rfl) ⟨Nat.zero_le _, Nat.zero_le _⟩ (by decide) (ce_trans ad cs _ _) rfl rfl dX10_countBy_61 (fun r10 M11 L12 hr10 => ?_)
      obtain ⟨hr10, hI, hFr10, hGr10⟩ := hr10
      have hF : ∀ k i, k ≠ 90 ∧ k ≠ 94 ∧ k ≠ 95 ∧ k ≠ 97 ∧ ¬ (100 ≤ k ∧ k < 110) ∧ ¬ (110 ≤ k ∧ k < 120) ∧ k ≠ 123 ∧ ¬ (k = 125 ∧ i = 0) ∧ ¬ (k = 125 ∧ i = 2) ∧ k ≠ 126 ∧ k ≠ 127 ∧ k ≠ 128 → M11 k i = M k i := fun k i hk => by (rw [hFr10 k i (by omega)]; try exact hF k i hk)
      have hG : ∀ k i, k ≠ 91 ∧ k ≠ 92 ∧ k ≠ 121 ∧ k ≠ 122 ∧ ¬ (k = 124 ∧ i = 0) ∧ ¬ (k = 124 ∧ i = 1) ∧ ¬ (131 ≤ k ∧ k < 191) → L12 k i = L k i := fun k i hk => by (rw [hGr10 k i (by omega)]; try exact hG k i hk)
      have hV : vC M11 = vC M := by rw [vC_fr (fun k hk => funext (fun i => hFr10 k i (by omega))), hV]
      have k125_0 : M11 125 0 = M11 125 0 := rfl
      have k125_2 : M11 125 2 = M11 125 2 := rfl
      have kt125_0 := congrArg Int32.toInt k125_0
      have kt125_2 := congrArg Int32.toInt k125_2
      have l124_0 : L12 124 0 = L12 124 0 := rfl
      have l124_1 : L12 124 1 = L12 124 1 := rfl
      have p91 : L12 91 = L12 91 := rfl
      have p92 : L12 92 = L12 92 := rfl
      have p121 : L12 121 = L12 121 := rfl
      have p122 : L12 122 = L12 122 := rfl
      have q100 : ∀ k, 100 ≤ k ∧ k < 110 → M11 k = M k := fun k hk => (funext (fun i => hFr10 k i (by omega))).trans (q100 k hk)
      have q110 : ∀ k, 110 ≤ k ∧ k < 120 → M11 k = M k := fun k hk => (funext (fun i => hFr10 k i (by omega))).trans (q110 k hk)
      have q90 : M11 90 = M11 90 := rfl
      have q94 : M11 94 = M 94 := (funext (fun i => hFr10 94 i (by omega))).trans q94
      have q95 : M11 95 = M 95 := (funext (fun i => hFr10 95 i (by omega))).trans q95
      have q97 : M11 97 = M 97 := (funext (fun i => hFr10 97 i (by omega))).trans q97
      have q123 : M11 123 = M11 123 := rfl
      have q126 : M11 126 = M11 126 := rfl
      have q127 : M11 127 = M11 127 := rfl
      have q128 : M11 128 = M11 128 := rfl
      have hrr := hr10
      obtain ⟨wu1, wd1, k9, w1, w2, w3, w4, w5⟩ := hrr
      obtain ⟨bar10, bbr10⟩ := zo_b w4
      have hno : ∀ j, j < cnP pb mq → ¬ (M 89 j).toInt = -9 := fun j _ => by have h9 : rg 0 59 (M 89 j) := hI0 89 _; have h8 := h9.1; omega
      have hWE : WE pb mq wu1 wd1 wu wd := WE_of hLY hWp (by rw [← eMN]; exact w1)
      generalize hQ9 : ((foK (fun _ b u => u + vC M 3 b) (M 89) (M 88 3).toNatClampNeg (0 : Int32) / (M 88 4 + 1)).toInt64 + 1) = Q9 at w2 w3 w4 w5 ⊢
      rw [eMN] at w2 w3 w4 w5
      obtain ⟨v1, v2, v3⟩ := QL_out hLY hno hWE w2 w3
      rw [v3] at w4 w5
      have hz9 := z_of (r := r10) (by omega) (by omega)
      exact g_zret C hr (by rcases hz9 with h9 | h9 <;> rw [h9] <;> rfl) ⟨⟨(qrN (vC M) (M 2) pb mq (M 1 0).toNatClampNeg (M 88 4).toNatClampNeg Q9 (M 90, (wu, wd), [], [], true) k9).2.2.2.2, (qrN (vC M) (M 2) pb mq (M 1 0).toNatClampNeg (M 88 4).toNatClampNeg Q9 (M 90, (wu, wd), [], [], true) k9).2.2.1, (qrN (vC M) (M 2) pb mq (M 1 0).toNatClampNeg (M 88 4).toNatClampNeg Q9 (M 90, (wu, wd), [], [], true) k9).2.2.2.1, by unfold CRo; rw [if_neg (by omega)]; rw [if_neg (by omega)]; rw [if_neg (by omega)]; rw [if_neg (by omega)]; rw [if_neg (by omega)]; rw [if_pos (by omega)]; exact ⟨k9, v1, v2, rfl, fun _ => ⟨rfl, rfl⟩⟩, w4, w5⟩, hI, hF, hG⟩ dX10_countBy_64
    ·
      refine g_tableIn C 65 dX10_countBy_1 hsw1 hsw2 (off := 64) (by rw [hq]; rfl) (by decide) ?_
      refine g_aload_n C 0 dX10_countBy_65 rfl ?_
      refine g_get C (.ref (ad 93)) 5 in_X10_countBy_10 (List.mem_of_getElem? (i := 1) rfl) (by decide) (ce_house ad cs _ _) rfl (by decide) rfl rfl dX10_countBy_66 ?_
      refine g_iconst C 1 dX10_countBy_69 (by decide) ?_
      refine g_aload_n C 2 dX10_countBy_70 rfl ?_
      refine g_callVv C (n := 2) (As := [.int 1, .ref (ad 125)]) (st := []) (k_X5_sbd_a l D ad cs _ _ 1 hI hg0 hm0 hn1) gX10_countBy_X5_seatByDivisors rfl rfl rfl (by decide +kernel) ⟨Nat.le_of_ble_eq_true rfl, Nat.le_of_ble_eq_true rfl⟩ rfl (Nat.le_of_ble_eq_true rfl) ⟨Nat.zero_le _, Nat.zero_le _⟩ (by decide) (ce_plain ad cs _ _) rfl rfl dX10_countBy_71 (fun M14 L15 hr13 => ?_)
      obtain ⟨hr13, hI, hFr13, hGr13⟩ := hr13
      have hF : ∀ k i, k ≠ 90 ∧ k ≠ 94 ∧ k ≠ 95 ∧ k ≠ 97 ∧ ¬ (100 ≤ k ∧ k < 110) ∧ ¬ (110 ≤ k ∧ k < 120) ∧ k ≠ 123 ∧ ¬ (k = 125 ∧ i = 0) ∧ ¬ (k = 125 ∧ i = 2) ∧ k ≠ 126 ∧ k ≠ 127 ∧ k ≠ 128 → M14 k i = M k i := fun k i hk => by (rw [hFr13 k i (by omega)]; try exact hF k i hk)
      have hG : ∀ k i, k ≠ 91 ∧ k ≠ 92 ∧ k ≠ 121 ∧ k ≠ 122 ∧ ¬ (k = 124 ∧ i = 0) ∧ ¬ (k = 124 ∧ i = 1) ∧ ¬ (131 ≤ k ∧ k < 191) → L15 k i = L k i := fun k i hk => by (rw [hGr13 k i (by omega)]; try exact hG k i hk)
      have hV : vC M14 = vC M := by rw [vC_fr (fun k hk => funext (fun i => hFr13 k i (by omega))), hV]
      have k125_0 : M14 125 0 = M14 125 0 := rfl
      have k125_2 : M14 125 2 = M14 125 2 := rfl
      have kt125_0 := congrArg Int32.toInt k125_0
      have kt125_2 := congrArg Int32.toInt k125_2
      have l124_0 : L15 124 0 = L 124 0 := (hGr13 124 0 (by omega)).trans l124_0
      have l124_1 : L15 124 1 = L 124 1 := (hGr13 124 1 (by omega)).trans l124_1
      have p91 : L15 91 = L15 91 := rfl
      have p92 : L15 92 = L15 92 := rfl
      have p121 : L15 121 = L 121 := (funext (fun i => hGr13 121 i (by omega))).trans p121
      have p122 : L15 122 = L 122 := (funext (fun i => hGr13 122 i (by omega))).trans p122
      have q100 : ∀ k, 100 ≤ k ∧ k < 110 → M14 k = M k := fun k hk => (funext (fun i => hFr13 k i (by omega))).trans (q100 k hk)
      have q110 : ∀ k, 110 ≤ k ∧ k < 120 → M14 k = M k := fun k hk => (funext (fun i => hFr13 k i (by omega))).trans (q110 k hk)
      have q90 : M14 90 = M 90 := (funext (fun i => hFr13 90 i (by omega))).trans q90
      have q94 : M14 94 = M14 94 := rfl
      have q95 : M14 95 = M 95 := (funext (fun i => hFr13 95 i (by omega))).trans q95
      have q97 : M14 97 = M 97 := (funext (fun i => hFr13 97 i (by omega))).trans q97
      have q123 : M14 123 = M 123 := (funext (fun i => hFr13 123 i (by omega))).trans q123
      have q126 : M14 126 = M14 126 := rfl
      have q127 : M14 127 = M14 127 := rfl
      have q128 : M14 128 = M14 128 := rfl
      have hrr := hr13
      refine g_iconst C 1 dX10_countBy_74 (by decide) ?_
      rw [foKP hLY eMN] at hrr
      have zr9 : (1 : Int32).toInt = 1 := by decide
      exact g_zret C hr rfl ⟨(⟨true, (dvS (M 2) (tfV (vC M) (M 90) pb mq) 1 (M 1 0).toNatClampNeg (M 88 4).toNatClampNeg), oneR (dvS (M 2) (tfV (vC M) (M 90) pb mq) 1 (M 1 0).toNatClampNeg (M 88 4).toNatClampNeg), by unfold CRo; rw [if_neg (by omega)]; rw [if_neg (by omega)]; rw [if_neg (by omega)]; rw [if_neg (by omega)]; rw [if_neg (by omega)]; rw [if_neg (by omega)]; rw [if_neg (by omega)]; exact ⟨rfl, rfl, rfl⟩, Or.inl ⟨rfl, rfl⟩, fun _ => hrr⟩), hI, hF, hG⟩ dX10_countBy_75
    ·
      refine g_tableIn C 76 dX10_countBy_1 hsw1 hsw2 (off := 75) (by rw [hq]; rfl) (by decide) ?_
      refine g_aload_n C 0 dX10_countBy_76 rfl ?_
      refine g_get C (.ref (ad 93)) 5 in_X10_countBy_10 (List.mem_of_getElem? (i := 1) rfl) (by decide) (ce_house ad cs _ _) rfl (by decide) rfl rfl dX10_countBy_77 ?_
      refine g_iconst C 2 dX10_countBy_80 (by decide) ?_
      refine g_aload_n C 2 dX10_countBy_81 rfl ?_
      refine g_callVv C (n := 2) (As := [.int 2, .ref (ad 125)]) (st := []) (k_X5_sbd_a l D ad cs _ _ 2 hI hg0 hm0 hn1) gX10_countBy_X5_seatByDivisors rfl rfl rfl (by decide +kernel) ⟨Nat.le_of_ble_eq_true rfl, Nat.le_of_ble_eq_true rfl⟩ rfl (Nat.le_of_ble_eq_true rfl) ⟨Nat.zero_le _, Nat.zero_le _⟩ (by decide) (ce_plain ad cs _ _) rfl rfl dX10_countBy_82 (fun M17 L18 hr16 => ?_)
      obtain ⟨hr16, hI, hFr16, hGr16⟩ := hr16
      have hF : ∀ k i, k ≠ 90 ∧ k ≠ 94 ∧ k ≠ 95 ∧ k ≠ 97 ∧ ¬ (100 ≤ k ∧ k < 110) ∧ ¬ (110 ≤ k ∧ k < 120) ∧ k ≠ 123 ∧ ¬ (k = 125 ∧ i = 0) ∧ ¬ (k = 125 ∧ i = 2) ∧ k ≠ 126 ∧ k ≠ 127 ∧ k ≠ 128 → M17 k i = M k i := fun k i hk => by (rw [hFr16 k i (by omega)]; try exact hF k i hk)
      have hG : ∀ k i, k ≠ 91 ∧ k ≠ 92 ∧ k ≠ 121 ∧ k ≠ 122 ∧ ¬ (k = 124 ∧ i = 0) ∧ ¬ (k = 124 ∧ i = 1) ∧ ¬ (131 ≤ k ∧ k < 191) → L18 k i = L k i := fun k i hk => by (rw [hGr16 k i (by omega)]; try exact hG k i hk)
      have hV : vC M17 = vC M := by rw [vC_fr (fun k hk => funext (fun i => hFr16 k i (by omega))), hV]
      have k125_0 : M17 125 0 = M17 125 0 := rfl
      have k125_2 : M17 125 2 = M17 125 2 := rfl
      have kt125_0 := congrArg Int32.toInt k125_0
      have kt125_2 := congrArg Int32.toInt k125_2
      have l124_0 : L18 124 0 = L 124 0 := (hGr16 124 0 (by omega)).trans l124_0
      have l124_1 : L18 124 1 = L 124 1 := (hGr16 124 1 (by omega)).trans l124_1
      have p91 : L18 91 = L18 91 := rfl
      have p92 : L18 92 = L18 92 := rfl
      have p121 : L18 121 = L 121 := (funext (fun i => hGr16 121 i (by omega))).trans p121
      have p122 : L18 122 = L 122 := (funext (fun i => hGr16 122 i (by omega))).trans p122
      have q100 : ∀ k, 100 ≤ k ∧ k < 110 → M17 k = M k := fun k hk => (funext (fun i => hFr16 k i (by omega))).trans (q100 k hk)
      have q110 : ∀ k, 110 ≤ k ∧ k < 120 → M17 k = M k := fun k hk => (funext (fun i => hFr16 k i (by omega))).trans (q110 k hk)
      have q90 : M17 90 = M 90 := (funext (fun i => hFr16 90 i (by omega))).trans q90
      have q94 : M17 94 = M17 94 := rfl
      have q95 : M17 95 = M 95 := (funext (fun i => hFr16 95 i (by omega))).trans q95
      have q97 : M17 97 = M 97 := (funext (fun i => hFr16 97 i (by omega))).trans q97
      have q123 : M17 123 = M 123 := (funext (fun i => hFr16 123 i (by omega))).trans q123
      have q126 : M17 126 = M17 126 := rfl
      have q127 : M17 127 = M17 127 := rfl
      have q128 : M17 128 = M17 128 := rfl
      have hrr := hr16
      refine g_iconst C 1 dX10_countBy_85 (by decide) ?_
      rw [foKP hLY eMN] at hrr
      have zr9 : (1 : Int32).toInt = 1 := by decide
      exact g_zret C hr rfl ⟨(⟨true, (dvS (M 2) (tfV (vC M) (M 90) pb mq) 2 (M 1 0).toNatClampNeg (M 88 4).toNatClampNeg), oneR (dvS (M 2) (tfV (vC M) (M 90) pb mq) 2 (M 1 0).toNatClampNeg (M 88 4).toNatClampNeg), by unfold CRo; rw [if_neg (by omega)]; rw [if_neg (by omega)]; rw [if_neg (by omega)]; rw [if_neg (by omega)]; rw [if_neg (by omega)]; rw [if_neg (by omega)]; rw [if_pos (by omega)]; exact ⟨rfl, rfl, rfl⟩, Or.inl ⟨rfl, rfl⟩, fun _ => hrr⟩), hI, hF, hG⟩ dX10_countBy_86
set_option maxHeartbeats 4000000 in
set_option maxRecDepth 100000 in
theorem k_X10_countBy_b (l : Launch) (D : va_G) (ad : Nat → Nat) (cs : Nat → ClassId) (M : MI) (L : ML) (x : Int32) (hI : IC M) {wu wd : Nat → Int64} {pb : Nat → Int32} {mq : Nat} (hLY : LY pb (M 89) mq) (hMN : (M 88 3).toInt = (cnP pb mq : Int)) (hmq : mq ≤ 40) (hWp : ∀ i, i < mq → (pb i).toInt ≠ -9 → wu i = (vC M 3 (pb i).toNatClampNeg).toInt64 ∧ wd i = 1) (hP3 : ∀ b, 0 ≤ (vC M 3 b).toInt ∧ (vC M 3 b).toInt ≤ 100000) (hct : ∀ j : Nat, j < 10 → L 91 j = 0 ∧ L 92 j = 1) (hA3 : ∀ b : Nat, b < 60 → ∀ i : Nat, (i : Int) < (vC M 4 b).toInt → (vC M 5 (10 * b + i)).toInt < (vC M 0 0).toInt) (hdis : ∀ b : Nat, b < 60 → ∀ i j : Nat, i < j → (j : Int) < (vC M 4 b).toInt → (vC M 5 (10 * b + i)).toInt ≠ (vC M 5 (10 * b + j)).toInt) (hl4 : ∀ b : Nat, b < 60 → (vC M 4 b).toInt ≤ (vC M 0 0).toInt) (hrl : ∀ i, i < (M 1 0).toNatClampNeg → (M 2 i).toInt < ((M 1 0).toNatClampNeg : Int)) (hD : DP (vC M)) (hNI0 : NIn (M 90) (M 1 0).toInt) (hcn : cI (M 90) (M 1 0).toNatClampNeg = (M 1 0).toNatClampNeg) (hg0 : (M 191 0).toInt = 0) (hm0 : (M 191 2).toInt = 0) (hn1 : 1 ≤ (M 1 0).toInt) (hs1 : 1 ≤ (M 88 4).toInt) (hk8 : 0 ≤ x.toInt ∧ x.toInt < 8) (hC : x.toInt ≠ 6 → x.toInt ≠ 7 → (M 88 4).toInt ≤ (cI (M 90) (M 1 0).toNatClampNeg : Int)) : Ci l yX10_countBy wsX10_countBy ({ frames := 5, cells := 0, slots := 0, locals := 139 }) D ad cs [.ref (ad 0), .int x, .ref (ad 191)] M L (fun r M1 L1 => (∃ ok S R, CRo (vC M) (M 2) (M 90) pb mq (M 1 0).toNatClampNeg (M 88 4).toNatClampNeg x wu wd ((foK (fun _ b u => u + vC M 3 b) (M 89) (M 88 3).toNatClampNeg (0 : Int32) / (M 88 4 + 1)).toInt64 + 1) ok S R ∧ zo r (ok = true) ∧ (ok = true → RP (M1 191 0) (M1 192) (M1 191 2) (M1 193) (M1 194) S R)) ∧ IC M1 ∧ (∀ k i, k ≠ 90 ∧ k ≠ 94 ∧ k ≠ 95 ∧ k ≠ 97 ∧ ¬ (100 ≤ k ∧ k < 110) ∧ ¬ (110 ≤ k ∧ k < 120) ∧ k ≠ 123 ∧ ¬ (k = 191 ∧ i = 0) ∧ ¬ (k = 191 ∧ i = 2) ∧ k ≠ 192 ∧ k ≠ 193 ∧ k ≠ 194 → M1 k i = M k i) ∧ ∀ k i, k ≠ 91 ∧ k ≠ 92 ∧ k ≠ 121 ∧ k ≠ 122 ∧ ¬ (k = 124 ∧ i = 0) ∧ ¬ (k = 124 ∧ i = 1) ∧ ¬ (197 ≤ k ∧ k < 257) → L1 k i = L k i) := by
  refine enter_i RX10 rfl [(0, .ref (ad 0)), (1, .int x), (2, .ref (ad 191))] rfl (Nat.le_of_ble_eq_true rfl) (by decide +kernel) rfl ?_
  intro p e s m below meth c C hr
  have hF : ∀ k i, k ≠ 90 ∧ k ≠ 94 ∧ k ≠ 95 ∧ k ≠ 97 ∧ ¬ (100 ≤ k ∧ k < 110) ∧ ¬ (110 ≤ k ∧ k < 120) ∧ k ≠ 123 ∧ ¬ (k = 191 ∧ i = 0) ∧ ¬ (k = 191 ∧ i = 2) ∧ k ≠ 192 ∧ k ≠ 193 ∧ k ≠ 194 → M k i = M k i := fun _ _ _ => rfl
  have hG : ∀ k i, k ≠ 91 ∧ k ≠ 92 ∧ k ≠ 121 ∧ k ≠ 122 ∧ ¬ (k = 124 ∧ i = 0) ∧ ¬ (k = 124 ∧ i = 1) ∧ ¬ (197 ≤ k ∧ k < 257) → L k i = L k i := fun _ _ _ => rfl
  have w0 : (vC M 0 0).toInt = (M 1 0).toInt := rfl
  have w1 : (vC M 0 1).toInt = (M 3 0).toInt := rfl
  have w2 : (vC M 0 2).toInt = (M 68 0).toInt := rfl
  have w3 : (vC M 0 3).toInt = (M 81 0).toInt := rfl
  obtain ⟨y0a, y0b⟩ := (show rg 0 10 (M 1 0) from hI 1 0 rfl)
  obtain ⟨y1a, y1b⟩ := (show rg 0 60 (M 3 0) from hI 3 0 rfl)
  obtain ⟨y2a, y2b⟩ := (show rg 0 8 (M 68 0) from hI 68 0 rfl)
  obtain ⟨y3a, y3b⟩ := (show rg 0 20 (M 81 0) from hI 81 0 rfl)
  have hI0 := hI
  obtain ⟨hk8a, hk8b⟩ := hk8
  obtain ⟨sa, sb⟩ := (show rg 0 30 (M 88 4) from (hI 88 4).2 rfl)
  have nsd := ixn sa
  obtain ⟨ma, mb⟩ := (show rg 0 40 (M 88 3) from (hI 88 3).1 rfl)
  have eMN : (M 88 3).toNatClampNeg = cnP pb mq := by have := ixn (x := M 88 3) (by omega); omega
  have n02 := ixn y0a
  have k191_0 : M 191 0 = M 191 0 := rfl
  have k191_2 : M 191 2 = M 191 2 := rfl
  have l124_0 : L 124 0 = L 124 0 := rfl
  have l124_1 : L 124 1 = L 124 1 := rfl
  have p91 : L 91 = L 91 := rfl
  have p92 : L 92 = L 92 := rfl
  have p121 : L 121 = L 121 := rfl
  have p122 : L 122 = L 122 := rfl
  have q90 : M 90 = M 90 := rfl
  have q94 : M 94 = M 94 := rfl
  have q95 : M 95 = M 95 := rfl
  have q97 : M 97 = M 97 := rfl
  have q123 : M 123 = M 123 := rfl
  have q192 : M 192 = M 192 := rfl
  have q193 : M 193 = M 193 := rfl
  have q194 : M 194 = M 194 := rfl
  have q100 : ∀ k, 100 ≤ k ∧ k < 110 → M k = M k := fun _ _ => rfl
  have q110 : ∀ k, 110 ≤ k ∧ k < 120 → M k = M k := fun _ _ => rfl
  have hV : vC M = vC M := rfl
  refine g_iload_n C 1 dX10_countBy_0 rfl ?_
  by_cases hsw : x.toInt < 3 ∨ 7 < x.toInt
  ·
    refine g_tableOut C 87 dX10_countBy_1 hsw (by decide) ?_
    refine g_aload_n C 0 dX10_countBy_87 rfl ?_
    refine g_get C (.ref (ad 93)) 5 in_X10_countBy_10 (List.mem_of_getElem? (i := 1) rfl) (by decide) (ce_house ad cs _ _) rfl (by decide) rfl rfl dX10_countBy_88 ?_
    refine g_iload_n C 1 dX10_countBy_91 rfl ?_
    refine g_aload_n C 2 dX10_countBy_92 rfl ?_
    refine g_callVv C (n := 2) (As := [.int x, .ref (ad 191)]) (st := []) (k_X5_sbt_b l D ad cs _ _ x hI hP3 hct hA3 hdis hl4 hD hNI0 hg0 hm0 (hC (by omega) (by omega))) gX10_countBy_X5_seatByTallies rfl rfl rfl (by decide +kernel) ⟨Nat.le_of_ble_eq_true rfl, Nat.le_of_ble_eq_true rfl⟩ rfl (Nat.le_of_ble_eq_true rfl) ⟨Nat.zero_le _, Nat.zero_le _⟩ (by decide) (ce_plain ad cs _ _) rfl rfl dX10_countBy_93 (fun M2 L3 hr1 => ?_)
    obtain ⟨hr1, hI, hFr1, hGr1⟩ := hr1
    have hF : ∀ k i, k ≠ 90 ∧ k ≠ 94 ∧ k ≠ 95 ∧ k ≠ 97 ∧ ¬ (100 ≤ k ∧ k < 110) ∧ ¬ (110 ≤ k ∧ k < 120) ∧ k ≠ 123 ∧ ¬ (k = 191 ∧ i = 0) ∧ ¬ (k = 191 ∧ i = 2) ∧ k ≠ 192 ∧ k ≠ 193 ∧ k ≠ 194 → M2 k i = M k i := fun k i hk => by (rw [hFr1 k i (by omega)]; try exact hF k i hk)
    have hG : ∀ k i, k ≠ 91 ∧ k ≠ 92 ∧ k ≠ 121 ∧ k ≠ 122 ∧ ¬ (k = 124 ∧ i = 0) ∧ ¬ (k = 124 ∧ i = 1) ∧ ¬ (197 ≤ k ∧ k < 257) → L3 k i = L k i := fun k i hk => by (rw [hGr1 k i (by omega)]; try exact hG k i hk)
    have hV : vC M2 = vC M := by rw [vC_fr (fun k hk => funext (fun i => hFr1 k i (by omega))), hV]
    have k191_0 : M2 191 0 = M2 191 0 := rfl
    have k191_2 : M2 191 2 = M2 191 2 := rfl
    have kt191_0 := congrArg Int32.toInt k191_0
    have kt191_2 := congrArg Int32.toInt k191_2
    have l124_0 : L3 124 0 = L 124 0 := (hGr1 124 0 (by omega)).trans l124_0
    have l124_1 : L3 124 1 = L 124 1 := (hGr1 124 1 (by omega)).trans l124_1
    have p91 : L3 91 = L3 91 := rfl
    have p92 : L3 92 = L3 92 := rfl
    have p121 : L3 121 = L 121 := (funext (fun i => hGr1 121 i (by omega))).trans p121
    have p122 : L3 122 = L 122 := (funext (fun i => hGr1 122 i (by omega))).trans p122
    have q100 : ∀ k, 100 ≤ k ∧ k < 110 → M2 k = M k := fun k hk => (funext (fun i => hFr1 k i (by omega))).trans (q100 k hk)
    have q110 : ∀ k, 110 ≤ k ∧ k < 120 → M2 k = M k := fun k hk => (funext (fun i => hFr1 k i (by omega))).trans (q110 k hk)
    have q90 : M2 90 = M2 90 := rfl
    have q94 : M2 94 = M 94 := (funext (fun i => hFr1 94 i (by omega))).trans q94
    have q95 : M2 95 = M 95 := (funext (fun i => hFr1 95 i (by omega))).trans q95
    have q97 : M2 97 = M 97 := (funext (fun i => hFr1 97 i (by omega))).trans q97
    have q123 : M2 123 = M 123 := (funext (fun i => hFr1 123 i (by omega))).trans q123
    have q192 : M2 192 = M2 192 := rfl
    have q193 : M2 193 = M2 193 := rfl
    have q194 : M2 194 = M2 194 := rfl
    have hrr := hr1
    refine g_iconst C 1 dX10_countBy_96 (by decide) ?_
    have zr9 : (1 : Int32).toInt = 1 := by decide
    exact g_zret C hr rfl ⟨(by
      have hty : ∀ U9 : Nat → Int64, tyU (vC M) (M 90) (M 89) (M 88 3).toNatClampNeg (M 1 0).toNatClampNeg x = U9 → RP (M2 191 0) (M2 192) (M2 191 2) (M2 193) (M2 194) (btS (M 2) (M 90) U9 (fun _ => 1) (M 1 0).toNatClampNeg (M 88 4).toNatClampNeg) (oneR (btS (M 2) (M 90) U9 (fun _ => 1) (M 1 0).toNatClampNeg (M 88 4).toNatClampNeg)) := fun U9 e9 => by rw [e9] at hrr; exact hrr
      rcases (show x.toInt = 0 ∨ x.toInt = 1 ∨ x.toInt = 2 by omega) with hq9 | hq9 | hq9
      · exact ⟨true, (btS (M 2) (M 90) (tfV (vC M) (M 90) pb mq) (fun _ => 1) (M 1 0).toNatClampNeg (M 88 4).toNatClampNeg), oneR (btS (M 2) (M 90) (tfV (vC M) (M 90) pb mq) (fun _ => 1) (M 1 0).toNatClampNeg (M 88 4).toNatClampNeg), by unfold CRo; rw [if_pos (by omega)]; exact ⟨rfl, rfl, rfl⟩, Or.inl ⟨rfl, rfl⟩, fun _ => hty _ (by unfold tyU; rw [if_neg (by omega), if_neg (by omega)]; exact foKP hLY eMN)⟩
      · exact ⟨true, (btS (M 2) (M 90) (foP (stP (vC M) (ptX (vC M) 0) (M 1 0).toNatClampNeg) pb mq (fun _ => 0)) (fun _ => 1) (M 1 0).toNatClampNeg (M 88 4).toNatClampNeg), oneR (btS (M 2) (M 90) (foP (stP (vC M) (ptX (vC M) 0) (M 1 0).toNatClampNeg) pb mq (fun _ => 0)) (fun _ => 1) (M 1 0).toNatClampNeg (M 88 4).toNatClampNeg), by unfold CRo; rw [if_neg (by omega)]; rw [if_pos (by omega)]; exact ⟨rfl, rfl, rfl⟩, Or.inl ⟨rfl, rfl⟩, fun _ => hty _ (by unfold tyU; rw [if_pos (by omega)]; exact foKP2 hLY eMN)⟩
      · exact ⟨true, (btS (M 2) (M 90) (foP (stP (vC M) (ptX (vC M) 1) (M 1 0).toNatClampNeg) pb mq (fun _ => 0)) (fun _ => 1) (M 1 0).toNatClampNeg (M 88 4).toNatClampNeg), oneR (btS (M 2) (M 90) (foP (stP (vC M) (ptX (vC M) 1) (M 1 0).toNatClampNeg) pb mq (fun _ => 0)) (fun _ => 1) (M 1 0).toNatClampNeg (M 88 4).toNatClampNeg), by unfold CRo; rw [if_neg (by omega)]; rw [if_neg (by omega)]; rw [if_pos (by omega)]; exact ⟨rfl, rfl, rfl⟩, Or.inl ⟨rfl, rfl⟩, fun _ => hty _ (by unfold tyU; rw [if_neg (by omega), if_pos (by omega)]; exact foKP2 hLY eMN)⟩), hI, hF, hG⟩ dX10_countBy_97
  ·
    have hsw1 : ¬ x.toInt < 3 := fun h => hsw (Or.inl h)
    have hsw2 : ¬ 7 < x.toInt := fun h => hsw (Or.inr h)
    rcases (show x.toInt = 3 ∨ x.toInt = 4 ∨ x.toInt = 5 ∨ x.toInt = 6 ∨ x.toInt = 7 by omega) with hq | hq | hq | hq | hq
    ·
      refine g_tableIn C 36 dX10_countBy_1 hsw1 hsw2 (off := 35) (by rw [hq]; rfl) (by decide) ?_
      refine g_aload_n C 0 dX10_countBy_36 rfl ?_
      refine g_get C (.ref (ad 93)) 5 in_X10_countBy_10 (List.mem_of_getElem? (i := 1) rfl) (by decide) (ce_house ad cs _ _) rfl (by decide) rfl rfl dX10_countBy_37 ?_
      refine g_aload_n C 2 dX10_countBy_40 rfl ?_
      refine g_callVv C (n := 1) (As := [.ref (ad 191)]) (st := []) (k_X5_ro_b l D ad cs _ _  hI hLY hMN hD hNI0 hcn hg0 hm0 hn1 hs1) gX10_countBy_X5_runOff rfl rfl rfl (by decide +kernel) ⟨Nat.le_of_ble_eq_true rfl, Nat.le_of_ble_eq_true rfl⟩ rfl (Nat.le_of_ble_eq_true rfl) ⟨Nat.zero_le _, Nat.zero_le _⟩ (by decide) (ce_plain ad cs _ _) rfl rfl dX10_countBy_41 (fun M5 L6 hr4 => ?_)
      obtain ⟨hr4, hI, hFr4, hGr4⟩ := hr4
      have hF : ∀ k i, k ≠ 90 ∧ k ≠ 94 ∧ k ≠ 95 ∧ k ≠ 97 ∧ ¬ (100 ≤ k ∧ k < 110) ∧ ¬ (110 ≤ k ∧ k < 120) ∧ k ≠ 123 ∧ ¬ (k = 191 ∧ i = 0) ∧ ¬ (k = 191 ∧ i = 2) ∧ k ≠ 192 ∧ k ≠ 193 ∧ k ≠ 194 → M5 k i = M k i := fun k i hk => by (rw [hFr4 k i (by omega)]; try exact hF k i hk)
      have hG : ∀ k i, k ≠ 91 ∧ k ≠ 92 ∧ k ≠ 121 ∧ k ≠ 122 ∧ ¬ (k = 124 ∧ i = 0) ∧ ¬ (k = 124 ∧ i = 1) ∧ ¬ (197 ≤ k ∧ k < 257) → L6 k i = L k i := fun k i hk => by (rw [hGr4 k i (by omega)]; try exact hG k i hk)
      have hV : vC M5 = vC M := by rw [vC_fr (fun k hk => funext (fun i => hFr4 k i (by omega))), hV]
      have k191_0 : M5 191 0 = M5 191 0 := rfl
      have k191_2 : M5 191 2 = M5 191 2 := rfl
      have kt191_0 := congrArg Int32.toInt k191_0
      have kt191_2 := congrArg Int32.toInt k191_2
      have l124_0 : L6 124 0 = L 124 0 := (hGr4 124 0 (by omega)).trans l124_0
      have l124_1 : L6 124 1 = L 124 1 := (hGr4 124 1 (by omega)).trans l124_1
      have p91 : L6 91 = L6 91 := rfl
      have p92 : L6 92 = L6 92 := rfl
      have p121 : L6 121 = L 121 := (funext (fun i => hGr4 121 i (by omega))).trans p121
      have p122 : L6 122 = L 122 := (funext (fun i => hGr4 122 i (by omega))).trans p122
      have q100 : ∀ k, 100 ≤ k ∧ k < 110 → M5 k = M k := fun k hk => (funext (fun i => hFr4 k i (by omega))).trans (q100 k hk)
      have q110 : ∀ k, 110 ≤ k ∧ k < 120 → M5 k = M k := fun k hk => (funext (fun i => hFr4 k i (by omega))).trans (q110 k hk)
      have q90 : M5 90 = M5 90 := rfl
      have q94 : M5 94 = M 94 := (funext (fun i => hFr4 94 i (by omega))).trans q94
      have q95 : M5 95 = M5 95 := rfl
      have q97 : M5 97 = M 97 := (funext (fun i => hFr4 97 i (by omega))).trans q97
      have q123 : M5 123 = M 123 := (funext (fun i => hFr4 123 i (by omega))).trans q123
      have q192 : M5 192 = M5 192 := rfl
      have q193 : M5 193 = M5 193 := rfl
      have q194 : M5 194 = M5 194 := rfl
      have hrr := hr4
      refine g_iconst C 1 dX10_countBy_44 (by decide) ?_
      have zr9 : (1 : Int32).toInt = 1 := by decide
      exact g_zret C hr rfl ⟨(⟨true, roT (vC M) (M 2) (M 90) pb mq (M 1 0).toNatClampNeg (cI (M 90) (M 1 0).toNatClampNeg - 1) (min (cI (M 90) (M 1 0).toNatClampNeg - 1) ((M 88 4).toNatClampNeg - 1)), twoR (roO (vC M) (M 2) (M 90) pb mq (M 1 0).toNatClampNeg (cI (M 90) (M 1 0).toNatClampNeg - 1)) ++ [(1, roW (vC M) (M 2) (M 90) pb mq (M 1 0).toNatClampNeg (cI (M 90) (M 1 0).toNatClampNeg - 1))], by unfold CRo; rw [if_neg (by omega)]; rw [if_neg (by omega)]; rw [if_neg (by omega)]; rw [if_pos (by omega)]; exact ⟨rfl, rfl, rfl⟩, Or.inl ⟨rfl, rfl⟩, fun _ => by rw [hcn]; exact hrr⟩), hI, hF, hG⟩ dX10_countBy_45
    ·
      refine g_tableIn C 46 dX10_countBy_1 hsw1 hsw2 (off := 45) (by rw [hq]; rfl) (by decide) ?_
      refine g_aload_n C 0 dX10_countBy_46 rfl ?_
      refine g_get C (.ref (ad 96)) 6 in_X10_countBy_10 (List.mem_of_getElem? (i := 2) rfl) (by decide) (ce_house ad cs _ _) rfl (by decide) rfl rfl dX10_countBy_47 ?_
      refine g_aload_n C 2 dX10_countBy_50 rfl ?_
      refine g_callVv C (n := 1) (As := [.ref (ad 191)]) (st := []) (k_X9_sbw_b l D ad cs _ _  hI hLY hMN hmq hP3 hrl hD hNI0 hg0 hm0 (hC (by omega) (by omega))) gX10_countBy_X9_seatByWays rfl rfl rfl (by decide +kernel) ⟨Nat.le_of_ble_eq_true rfl, Nat.le_of_ble_eq_true rfl⟩ rfl (Nat.le_of_ble_eq_true rfl) ⟨Nat.zero_le _, Nat.zero_le _⟩ (by decide) (ce_ways ad cs _ _) rfl rfl dX10_countBy_51 (fun M8 L9 hr7 => ?_)
      obtain ⟨hr7, hI, hFr7, hGr7⟩ := hr7
      have hF : ∀ k i, k ≠ 90 ∧ k ≠ 94 ∧ k ≠ 95 ∧ k ≠ 97 ∧ ¬ (100 ≤ k ∧ k < 110) ∧ ¬ (110 ≤ k ∧ k < 120) ∧ k ≠ 123 ∧ ¬ (k = 191 ∧ i = 0) ∧ ¬ (k = 191 ∧ i = 2) ∧ k ≠ 192 ∧ k ≠ 193 ∧ k ≠ 194 → M8 k i = M k i := fun k i hk => by (rw [hFr7 k i (by omega)]; try exact hF k i hk)
      have hG : ∀ k i, k ≠ 91 ∧ k ≠ 92 ∧ k ≠ 121 ∧ k ≠ 122 ∧ ¬ (k = 124 ∧ i = 0) ∧ ¬ (k = 124 ∧ i = 1) ∧ ¬ (197 ≤ k ∧ k < 257) → L9 k i = L k i := fun k i hk => by (rw [hGr7 k i (by omega)]; try exact hG k i hk)
      have hV : vC M8 = vC M := by rw [vC_fr (fun k hk => funext (fun i => hFr7 k i (by omega))), hV]
      have k191_0 : M8 191 0 = M8 191 0 := rfl
      have k191_2 : M8 191 2 = M8 191 2 := rfl
      have kt191_0 := congrArg Int32.toInt k191_0
      have kt191_2 := congrArg Int32.toInt k191_2
      have l124_0 : L9 124 0 = L 124 0 := (hGr7 124 0 (by omega)).trans l124_0
      have l124_1 : L9 124 1 = L 124 1 := (hGr7 124 1 (by omega)).trans l124_1
      have p91 : L9 91 = L9 91 := rfl
      have p92 : L9 92 = L9 92 := rfl
      have p121 : L9 121 = L 121 := (funext (fun i => hGr7 121 i (by omega))).trans p121
      have p122 : L9 122 = L 122 := (funext (fun i => hGr7 122 i (by omega))).trans p122
      have q100 : ∀ k, 100 ≤ k ∧ k < 110 → M8 k = M8 k := fun _ _ => rfl
      have q110 : ∀ k, 110 ≤ k ∧ k < 120 → M8 k = M8 k := fun _ _ => rfl
      have q90 : M8 90 = M8 90 := rfl
      have q94 : M8 94 = M 94 := (funext (fun i => hFr7 94 i (by omega))).trans q94
      have q95 : M8 95 = M 95 := (funext (fun i => hFr7 95 i (by omega))).trans q95
      have q97 : M8 97 = M8 97 := rfl
      have q123 : M8 123 = M 123 := (funext (fun i => hFr7 123 i (by omega))).trans q123
      have q192 : M8 192 = M8 192 := rfl
      have q193 : M8 193 = M8 193 := rfl
      have q194 : M8 194 = M8 194 := rfl
      have hrr := hr7
      refine g_iconst C 1 dX10_countBy_54 (by decide) ?_
      have zr9 : (1 : Int32).toInt = 1 := by decide
      exact g_zret C hr rfl ⟨(by obtain ⟨S9, w1, w2, w3⟩ := hrr; exact ⟨true, S9, oneR S9, by unfold CRo; rw [if_neg (by omega)]; rw [if_neg (by omega)]; rw [if_neg (by omega)]; rw [if_neg (by omega)]; rw [if_pos (by omega)]; exact ⟨rfl, ⟨_, w1⟩, by omega, rfl⟩, Or.inl ⟨rfl, rfl⟩, fun _ => w3⟩), hI, hF, hG⟩ dX10_countBy_55
    ·
      refine g_tableIn C 56 dX10_countBy_1 hsw1 hsw2 (off := 55) (by rw [hq]; rfl) (by decide) ?_
      refine g_aload_n C 0 dX10_countBy_56 rfl ?_
      refine g_get C (.ref (ad 120)) 7 in_X10_countBy_10 (List.mem_of_getElem? (i := 3) rfl) (by decide) (ce_house ad cs _ _) rfl (by decide) rfl rfl dX10_countBy_57 ?_
      refine g_aload_n C 2 dX10_countBy_60 rfl ?_
      refine g_callVi C (n := 1) (As := [.ref (ad 191)]) (st := []) (k_X8_sbq_b l D ad cs _ _  hI hP3 hD hNI0 hs1 hg0 hm0 (hC (by omega) (by omega))) gX10_countBy_X8_seatByQuota rfl rfl rfl (by decide +kernel) ⟨Nat.le_of_ble_eq_true rfl, Nat.le_of_ble_eq_true rfl⟩ rfl (Nat.le_of_ble_eq_true rfl) ⟨Nat.zero_le _, Nat.zero_le _⟩ (by decide) (ce_trans ad cs _ _) rfl rfl dX10_countBy_61 (fun r10 M11 L12 hr10 => ?_)
      obtain ⟨hr10, hI, hFr10, hGr10⟩ := hr10
      have hF : ∀ k i, k ≠ 90 ∧ k ≠ 94 ∧ k ≠ 95 ∧ k ≠ 97 ∧ ¬ (100 ≤ k ∧ k < 110) ∧ ¬ (110 ≤ k ∧ k < 120) ∧ k ≠ 123 ∧ ¬ (k = 191 ∧ i = 0) ∧ ¬ (k = 191 ∧ i = 2) ∧ k ≠ 192 ∧ k ≠ 193 ∧ k ≠ 194 → M11 k i = M k i := fun k i hk => by (rw [hFr10 k i (by omega)]; try exact hF k i hk)
      have hG : ∀ k i, k ≠ 91 ∧ k ≠ 92 ∧ k ≠ 121 ∧ k ≠ 122 ∧ ¬ (k = 124 ∧ i = 0) ∧ ¬ (k = 124 ∧ i = 1) ∧ ¬ (197 ≤ k ∧ k < 257) → L12 k i = L k i := fun k i hk => by (rw [hGr10 k i (by omega)]; try exact hG k i hk)
      have hV : vC M11 = vC M := by rw [vC_fr (fun k hk => funext (fun i => hFr10 k i (by omega))), hV]
      have k191_0 : M11 191 0 = M11 191 0 := rfl
      have k191_2 : M11 191 2 = M11 191 2 := rfl
      have kt191_0 := congrArg Int32.toInt k191_0
      have kt191_2 := congrArg Int32.toInt k191_2
      have l124_0 : L12 124 0 = L12 124 0 := rfl
      have l124_1 : L12 124 1 = L12 124 1 := rfl
      have p91 : L12 91 = L12 91 := rfl
      have p92 : L12 92 = L12 92 := rfl
      have p121 : L12 121 = L12 121 := rfl
      have p122 : L12 122 = L12 122 := rfl
      have q100 : ∀ k, 100 ≤ k ∧ k < 110 → M11 k = M k := fun k hk => (funext (fun i => hFr10 k i (by omega))).trans (q100 k hk)
      have q110 : ∀ k, 110 ≤ k ∧ k < 120 → M11 k = M k := fun k hk => (funext (fun i => hFr10 k i (by omega))).trans (q110 k hk)
      have q90 : M11 90 = M11 90 := rfl
      have q94 : M11 94 = M 94 := (funext (fun i => hFr10 94 i (by omega))).trans q94
      have q95 : M11 95 = M 95 := (funext (fun i => hFr10 95 i (by omega))).trans q95
      have q97 : M11 97 = M 97 := (funext (fun i => hFr10 97 i (by omega))).trans q97
      have q123 : M11 123 = M11 123 := rfl
      have q192 : M11 192 = M11 192 := rfl
      have q193 : M11 193 = M11 193 := rfl
      have q194 : M11 194 = M11 194 := rfl
      have hrr := hr10
      obtain ⟨wu1, wd1, k9, w1, w2, w3, w4, w5⟩ := hrr
      obtain ⟨bar10, bbr10⟩ := zo_b w4
      have hno : ∀ j, j < cnP pb mq → ¬ (M 89 j).toInt = -9 := fun j _ => by have h9 : rg 0 59 (M 89 j) := hI0 89 _; have h8 := h9.1; omega
      have hWE : WE pb mq wu1 wd1 wu wd := WE_of hLY hWp (by rw [← eMN]; exact w1)
      generalize hQ9 : ((foK (fun _ b u => u + vC M 3 b) (M 89) (M 88 3).toNatClampNeg (0 : Int32) / (M 88 4 + 1)).toInt64 + 1) = Q9 at w2 w3 w4 w5 ⊢
      rw [eMN] at w2 w3 w4 w5
      obtain ⟨v1, v2, v3⟩ := QL_out hLY hno hWE w2 w3
      rw [v3] at w4 w5
      have hz9 := z_of (r := r10) (by omega) (by omega)
      exact g_zret C hr (by rcases hz9 with h9 | h9 <;> rw [h9] <;> rfl) ⟨⟨(qrN (vC M) (M 2) pb mq (M 1 0).toNatClampNeg (M 88 4).toNatClampNeg Q9 (M 90, (wu, wd), [], [], true) k9).2.2.2.2, (qrN (vC M) (M 2) pb mq (M 1 0).toNatClampNeg (M 88 4).toNatClampNeg Q9 (M 90, (wu, wd), [], [], true) k9).2.2.1, (qrN (vC M) (M 2) pb mq (M 1 0).toNatClampNeg (M 88 4).toNatClampNeg Q9 (M 90, (wu, wd), [], [], true) k9).2.2.2.1, by unfold CRo; rw [if_neg (by omega)]; rw [if_neg (by omega)]; rw [if_neg (by omega)]; rw [if_neg (by omega)]; rw [if_neg (by omega)]; rw [if_pos (by omega)]; exact ⟨k9, v1, v2, rfl, fun _ => ⟨rfl, rfl⟩⟩, w4, w5⟩, hI, hF, hG⟩ dX10_countBy_64
    ·
      refine g_tableIn C 65 dX10_countBy_1 hsw1 hsw2 (off := 64) (by rw [hq]; rfl) (by decide) ?_
      refine g_aload_n C 0 dX10_countBy_65 rfl ?_
      refine g_get C (.ref (ad 93)) 5 in_X10_countBy_10 (List.mem_of_getElem? (i := 1) rfl) (by decide) (ce_house ad cs _ _) rfl (by decide) rfl rfl dX10_countBy_66 ?_
      refine g_iconst C 1 dX10_countBy_69 (by decide) ?_
      refine g_aload_n C 2 dX10_countBy_70 rfl ?_
      refine g_callVv C (n := 2) (As := [.int 1, .ref (ad 191)]) (st := []) (k_X5_sbd_b l D ad cs _ _ 1 hI hg0 hm0 hn1) gX10_countBy_X5_seatByDivisors rfl rfl rfl (by decide +kernel) ⟨Nat.le_of_ble_eq_true rfl, Nat.le_of_ble_eq_true rfl⟩ rfl (Nat.le_of_ble_eq_true rfl) ⟨Nat.zero_le _, Nat.zero_le _⟩ (by decide) (ce_plain ad cs _ _) rfl rfl dX10_countBy_71 (fun M14 L15 hr13 => ?_)
      obtain ⟨hr13, hI, hFr13, hGr13⟩ := hr13
      have hF : ∀ k i, k ≠ 90 ∧ k ≠ 94 ∧ k ≠ 95 ∧ k ≠ 97 ∧ ¬ (100 ≤ k ∧ k < 110) ∧ ¬ (110 ≤ k ∧ k < 120) ∧ k ≠ 123 ∧ ¬ (k = 191 ∧ i = 0) ∧ ¬ (k = 191 ∧ i = 2) ∧ k ≠ 192 ∧ k ≠ 193 ∧ k ≠ 194 → M14 k i = M k i := fun k i hk => by (rw [hFr13 k i (by omega)]; try exact hF k i hk)
      have hG : ∀ k i, k ≠ 91 ∧ k ≠ 92 ∧ k ≠ 121 ∧ k ≠ 122 ∧ ¬ (k = 124 ∧ i = 0) ∧ ¬ (k = 124 ∧ i = 1) ∧ ¬ (197 ≤ k ∧ k < 257) → L15 k i = L k i := fun k i hk => by (rw [hGr13 k i (by omega)]; try exact hG k i hk)
      have hV : vC M14 = vC M := by rw [vC_fr (fun k hk => funext (fun i => hFr13 k i (by omega))), hV]
      have k191_0 : M14 191 0 = M14 191 0 := rfl
      have k191_2 : M14 191 2 = M14 191 2 := rfl
      have kt191_0 := congrArg Int32.toInt k191_0
      have kt191_2 := congrArg Int32.toInt k191_2
      have l124_0 : L15 124 0 = L 124 0 := (hGr13 124 0 (by omega)).trans l124_0
      have l124_1 : L15 124 1 = L 124 1 := (hGr13 124 1 (by omega)).trans l124_1
      have p91 : L15 91 = L15 91 := rfl
      have p92 : L15 92 = L15 92 := rfl
      have p121 : L15 121 = L 121 := (funext (fun i => hGr13 121 i (by omega))).trans p121
      have p122 : L15 122 = L 122 := (funext (fun i => hGr13 122 i (by omega))).trans p122
      have q100 : ∀ k, 100 ≤ k ∧ k < 110 → M14 k = M k := fun k hk => (funext (fun i => hFr13 k i (by omega))).trans (q100 k hk)
      have q110 : ∀ k, 110 ≤ k ∧ k < 120 → M14 k = M k := fun k hk => (funext (fun i => hFr13 k i (by omega))).trans (q110 k hk)
      have q90 : M14 90 = M 90 := (funext (fun i => hFr13 90 i (by omega))).trans q90
      have q94 : M14 94 = M14 94 := rfl
      have q95 : M14 95 = M 95 := (funext (fun i => hFr13 95 i (by omega))).trans q95
      have q97 : M14 97 = M 97 := (funext (fun i => hFr13 97 i (by omega))).trans q97
      have q123 : M14 123 = M 123 := (funext (fun i => hFr13 123 i (by omega))).trans q123
      have q192 : M14 192 = M14 192 := rfl
      have q193 : M14 193 = M14 193 := rfl
      have q194 : M14 194 = M14 194 := rfl
      have hrr := hr13
      refine g_iconst C 1 dX10_countBy_74 (by decide) ?_
      rw [foKP hLY eMN] at hrr
      have zr9 : (1 : Int32).toInt = 1 := by decide
      exact g_zret C hr rfl ⟨(⟨true, (dvS (M 2) (tfV (vC M) (M 90) pb mq) 1 (M 1 0).toNatClampNeg (M 88 4).toNatClampNeg), oneR (dvS (M 2) (tfV (vC M) (M 90) pb mq) 1 (M 1 0).toNatClampNeg (M 88 4).toNatClampNeg), by unfold CRo; rw [if_neg (by omega)]; rw [if_neg (by omega)]; rw [if_neg (by omega)]; rw [if_neg (by omega)]; rw [if_neg (by omega)]; rw [if_neg (by omega)]; rw [if_neg (by omega)]; exact ⟨rfl, rfl, rfl⟩, Or.inl ⟨rfl, rfl⟩, fun _ => hrr⟩), hI, hF, hG⟩ dX10_countBy_75
    ·
      refine g_tableIn C 76 dX10_countBy_1 hsw1 hsw2 (off := 75) (by rw [hq]; rfl) (by decide) ?_
      refine g_aload_n C 0 dX10_countBy_76 rfl ?_
      refine g_get C (.ref (ad 93)) 5 in_X10_countBy_10 (List.mem_of_getElem? (i := 1) rfl) (by decide) (ce_house ad cs _ _) rfl (by decide) rfl rfl dX10_countBy_77 ?_
      refine g_iconst C 2 dX10_countBy_80 (by decide) ?_
      refine g_aload_n C 2 dX10_countBy_81 rfl ?_
      refine g_callVv C (n := 2) (As := [.int 2, .ref (ad 191)]) (st := []) (k_X5_sbd_b l D ad cs _ _ 2 hI hg0 hm0 hn1) gX10_countBy_X5_seatByDivisors rfl rfl rfl (by decide +kernel) ⟨Nat.le_of_ble_eq_true rfl, Nat.le_of_ble_eq_true rfl⟩ rfl (Nat.le_of_ble_eq_true rfl) ⟨Nat.zero_le _, Nat.zero_le _⟩ (by decide) (ce_plain ad cs _ _) rfl rfl dX10_countBy_82 (fun M17 L18 hr16 => ?_)
      obtain ⟨hr16, hI, hFr16, hGr16⟩ := hr16
      have hF : ∀ k i, k ≠ 90 ∧ k ≠ 94 ∧ k ≠ 95 ∧ k ≠ 97 ∧ ¬ (100 ≤ k ∧ k < 110) ∧ ¬ (110 ≤ k ∧ k < 120) ∧ k ≠ 123 ∧ ¬ (k = 191 ∧ i = 0) ∧ ¬ (k = 191 ∧ i = 2) ∧ k ≠ 192 ∧ k ≠ 193 ∧ k ≠ 194 → M17 k i = M k i := fun k i hk => by (rw [hFr16 k i (by omega)]; try exact hF k i hk)
      have hG : ∀ k i, k ≠ 91 ∧ k ≠ 92 ∧ k ≠ 121 ∧ k ≠ 122 ∧ ¬ (k = 124 ∧ i = 0) ∧ ¬ (k = 124 ∧ i = 1) ∧ ¬ (197 ≤ k ∧ k < 257) → L18 k i = L k i := fun k i hk => by (rw [hGr16 k i (by omega)]; try exact hG k i hk)
      have hV : vC M17 = vC M := by rw [vC_fr (fun k hk => funext (fun i => hFr16 k i (by omega))), hV]
      have k191_0 : M17 191 0 = M17 191 0 := rfl
      have k191_2 : M17 191 2 = M17 191 2 := rfl
      have kt191_0 := congrArg Int32.toInt k191_0
      have kt191_2 := congrArg Int32.toInt k191_2
      have l124_0 : L18 124 0 = L 124 0 := (hGr16 124 0 (by omega)).trans l124_0
      have l124_1 : L18 124 1 = L 124 1 := (hGr16 124 1 (by omega)).trans l124_1
      have p91 : L18 91 = L18 91 := rfl
      have p92 : L18 92 = L18 92 := rfl
      have p121 : L18 121 = L 121 := (funext (fun i => hGr16 121 i (by omega))).trans p121
      have p122 : L18 122 = L 122 := (funext (fun i => hGr16 122 i (by omega))).trans p122
      have q100 : ∀ k, 100 ≤ k ∧ k < 110 → M17 k = M k := fun k hk => (funext (fun i => hFr16 k i (by omega))).trans (q100 k hk)
      have q110 : ∀ k, 110 ≤ k ∧ k < 120 → M17 k = M k := fun k hk => (funext (fun i => hFr16 k i (by omega))).trans (q110 k hk)
      have q90 : M17 90 = M 90 := (funext (fun i => hFr16 90 i (by omega))).trans q90
      have q94 : M17 94 = M17 94 := rfl
      have q95 : M17 95 = M 95 := (funext (fun i => hFr16 95 i (by omega))).trans q95
      have q97 : M17 97 = M 97 := (funext (fun i => hFr16 97 i (by omega))).trans q97
      have q123 : M17 123 = M 123 := (funext (fun i => hFr16 123 i (by omega))).trans q123
      have q192 : M17 192 = M17 192 := rfl
      have q193 : M17 193 = M17 193 := rfl
      have q194 : M17 194 = M17 194 := rfl
      have hrr := hr16
      refine g_iconst C 1 dX10_countBy_85 (by decide) ?_
      rw [foKP hLY eMN] at hrr
      have zr9 : (1 : Int32).toInt = 1 := by decide
      exact g_zret C hr rfl ⟨(⟨true, (dvS (M 2) (tfV (vC M) (M 90) pb mq) 2 (M 1 0).toNatClampNeg (M 88 4).toNatClampNeg), oneR (dvS (M 2) (tfV (vC M) (M 90) pb mq) 2 (M 1 0).toNatClampNeg (M 88 4).toNatClampNeg), by unfold CRo; rw [if_neg (by omega)]; rw [if_neg (by omega)]; rw [if_neg (by omega)]; rw [if_neg (by omega)]; rw [if_neg (by omega)]; rw [if_neg (by omega)]; rw [if_pos (by omega)]; exact ⟨rfl, rfl, rfl⟩, Or.inl ⟨rfl, rfl⟩, fun _ => hrr⟩), hI, hF, hG⟩ dX10_countBy_86
