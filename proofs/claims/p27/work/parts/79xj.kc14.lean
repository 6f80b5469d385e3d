set_option maxHeartbeats 4000000 in
set_option maxRecDepth 100000 in
theorem k_X8_tallyWeights (l : Launch) (D : va_G) (ad : Nat → Nat) (cs : Nat → ClassId) (M : MI) (L : ML)  (hI : IC M) (hW : WTc L (M 88 3).toNatClampNeg) : Ci l yX8_tallyWeights wsX8_tallyWeights ({ frames := 3, cells := 0, slots := 0, locals := 77 }) D ad cs [.ref (ad 120)] M L (fun r M1 L1 => (zo r ((foP (stW (vC M) (M 90) (L 121) (L 122)) (M 89) (M 88 3).toNatClampNeg ts0).2.2 = true) ∧ ((foP (stW (vC M) (M 90) (L 121) (L 122)) (M 89) (M 88 3).toNatClampNeg ts0).2.2 = true → (∀ c, c < 10 → L1 91 c = (foP (stW (vC M) (M 90) (L 121) (L 122)) (M 89) (M 88 3).toNatClampNeg ts0).1 c ∧ L1 92 c = (foP (stW (vC M) (M 90) (L 121) (L 122)) (M 89) (M 88 3).toNatClampNeg ts0).2.1 c ∧ okF (L1 91 c) (L1 92 c) ∧ lowF (L1 91 c) (L1 92 c)) ∧ ∀ k9 : Nat, k9 < (M 88 3).toNatClampNeg → M1 123 k9 = fiV (vC M) (M 90) (M 89 k9).toNatClampNeg)) ∧ IC M1 ∧ (∀ k i, k ≠ 123 → M1 k i = M k i) ∧ ∀ k i, k ≠ 91 ∧ k ≠ 92 ∧ ¬ (k = 124 ∧ i = 0) ∧ ¬ (k = 124 ∧ i = 1) → L1 k i = L k i) := by
  refine enter_i RX8 rfl [(0, .ref (ad 120))] rfl (Nat.le_of_ble_eq_true rfl) (by decide +kernel) rfl ?_
  intro p e s m below meth c C hr
  have hF : ∀ k i, k ≠ 123 → M k i = M k i := fun _ _ _ => rfl
  have hG : ∀ k i, k ≠ 91 ∧ k ≠ 92 ∧ ¬ (k = 124 ∧ i = 0) ∧ ¬ (k = 124 ∧ i = 1) → L k i = L k i := fun _ _ _ => rfl
  have w0 : (vC M 0 0).toInt = (M 1 0).toInt := rfl
  have w1 : (vC M 0 1).toInt = (M 3 0).toInt := rfl
  have w2 : (vC M 0 2).toInt = (M 68 0).toInt := rfl
  have w3 : (vC M 0 3).toInt = (M 81 0).toInt := rfl
  obtain ⟨y0a, y0b⟩ := (show rg 0 10 (M 1 0) from hI 1 0 rfl)
  obtain ⟨y1a, y1b⟩ := (show rg 0 60 (M 3 0) from hI 3 0 rfl)
  obtain ⟨y2a, y2b⟩ := (show rg 0 8 (M 68 0) from hI 68 0 rfl)
  obtain ⟨y3a, y3b⟩ := (show rg 0 20 (M 81 0) from hI 81 0 rfl)
  have hI0 := hI
  obtain ⟨ma, mb⟩ := (show rg 0 40 (M 88 3) from (hI 88 3).1 rfl)
  have nm := ixn ma
  have l124_0 : L 124 0 = L 124 0 := rfl
  have l124_1 : L 124 1 = L 124 1 := rfl
  have p91 : L 91 = L 91 := rfl
  have p92 : L 92 = L 92 := rfl
  have q123 : M 123 = M 123 := rfl
  have hV : vC M = vC M := rfl
  refine g_aload_n C 0 dX8_tallyWeights_0 rfl ?_
  refine g_get C (.ref (ad 88)) 0 in_X8_tallyWeights_8 (List.mem_of_getElem? (i := 1) rfl) (by decide) (ce_trans ad cs _ _) rfl (by decide) rfl rfl dX8_tallyWeights_1 ?_
  refine g_callVv C (n := 0) (As := []) (st := []) (k_X6_clearTallies l D ad cs _ _  hI ) gX8_tallyWeights_X6_clearTallies rfl rfl rfl (by decide +kernel) ⟨Nat.le_of_ble_eq_true rfl, Nat.le_of_ble_eq_true rfl⟩ rfl (Nat.le_of_ble_eq_true rfl) ⟨Nat.zero_le _, Nat.zero_le _⟩ (by decide) (ce_poll ad cs _ _) rfl rfl dX8_tallyWeights_4 (fun M2 L3 hr1 => ?_)
  obtain ⟨hr1, hI, hFr1, hGr1⟩ := hr1
  have hF : ∀ k i, k ≠ 123 → M2 k i = M k i := fun k i hk => by (rw [hFr1 k i trivial]; try exact hF k i hk)
  have hG : ∀ k i, k ≠ 91 ∧ k ≠ 92 ∧ ¬ (k = 124 ∧ i = 0) ∧ ¬ (k = 124 ∧ i = 1) → L3 k i = L k i := fun k i hk => by (rw [hGr1 k i (by omega)]; try exact hG k i hk)
  have hV : vC M2 = vC M := by rw [vC_fr (fun k hk => funext (fun i => hFr1 k i trivial)), hV]
  have l124_0 : L3 124 0 = L 124 0 := (hGr1 124 0 (by omega)).trans l124_0
  have l124_1 : L3 124 1 = L 124 1 := (hGr1 124 1 (by omega)).trans l124_1
  have p91 : L3 91 = L3 91 := rfl
  have p92 : L3 92 = L3 92 := rfl
  have q123 : M2 123 = M 123 := (funext (fun i => hFr1 123 i trivial)).trans q123
  have hnt := hr1
  refine g_iconst C 0 dX8_tallyWeights_7 (by decide) ?_
  refine g_istore_n C [(1, .int 0), (0, .ref (ad 120))] dX8_tallyWeights_8 (by decide) rfl ?_
  have zy4 : (0 : Int32).toInt = 0 := by decide
  refine g_loop (α := Int32 × MI × ML) (fun a => (41 - a.1.toInt).toNat) (fun a => (0 ≤ a.1.toInt) ∧ (a.1.toInt ≤ (M 88 3).toInt) ∧ ((foP (stW (vC M) (M 90) (L 121) (L 122)) (M 89) a.1.toNatClampNeg ts0).2.2 = true) ∧ (∀ c, c < 10 → a.2.2 91 c = (foP (stW (vC M) (M 90) (L 121) (L 122)) (M 89) a.1.toNatClampNeg ts0).1 c ∧ a.2.2 92 c = (foP (stW (vC M) (M 90) (L 121) (L 122)) (M 89) a.1.toNatClampNeg ts0).2.1 c ∧ okF (a.2.2 91 c) (a.2.2 92 c) ∧ lowF (a.2.2 91 c) (a.2.2 92 c)) ∧ (∀ k9 : Nat, k9 < a.1.toNatClampNeg → a.2.1 123 k9 = fiV (vC M) (M 90) (M 89 k9).toNatClampNeg) ∧ IC a.2.1 ∧ (∀ k i, k ≠ 123 → a.2.1 k i = M k i) ∧ (∀ k i, k ≠ 91 ∧ k ≠ 92 ∧ ¬ (k = 124 ∧ i = 0) ∧ ¬ (k = 124 ∧ i = 1) → a.2.2 k i = L k i)) (fun a => a.2.1) (fun a => a.2.2) (fun a => [(1, .int a.1), (0, .ref (ad 120))]) ((0 : Int32), M2, L3) ⟨by show 0 ≤ (0 : Int32).toInt; omega, by show (0 : Int32).toInt ≤ (M 88 3).toInt; omega, by show (foP (stW (vC M) (M 90) (L 121) (L 122)) (M 89) (0 : Int32).toNatClampNeg ts0).2.2 = true; rfl, by show ∀ c, c < 10 → L3 91 c = (foP (stW (vC M) (M 90) (L 121) (L 122)) (M 89) (0 : Int32).toNatClampNeg ts0).1 c ∧ L3 92 c = (foP (stW (vC M) (M 90) (L 121) (L 122)) (M 89) (0 : Int32).toNatClampNeg ts0).2.1 c ∧ okF (L3 91 c) (L3 92 c) ∧ lowF (L3 91 c) (L3 92 c); intro c hc; rw [(hnt c hc).1, (hnt c hc).2]; exact ⟨rfl, rfl, by unfold okF; decide, low_01⟩, by show ∀ k9 : Nat, k9 < (0 : Int32).toNatClampNeg → M2 123 k9 = fiV (vC M) (M 90) (M 89 k9).toNatClampNeg; intro k9 hk9; exact absurd hk9 (by show ¬ k9 < 0; omega), hI, hF, hG⟩ rfl rfl rfl ?_
  rintro ⟨x1_9, M_9, L_9⟩ ⟨j9_0, j9_1, j9_2, j9_3, j9_4, hI, hF, hG⟩ ih_9
  dsimp only at j9_0 j9_1 j9_2 j9_3 j9_4 hI hF hG ih_9 ⊢
  have hV : vC M_9 = vC M_9 := rfl
  have l124_0 : L_9 124 0 = L_9 124 0 := rfl
  have l124_1 : L_9 124 1 = L_9 124 1 := rfl
  have p91 : L_9 91 = L_9 91 := rfl
  have p92 : L_9 92 = L_9 92 := rfl
  have q123 : M_9 123 = M_9 123 := rfl
  have n1 := ixn (x := x1_9) (by omega)
  have eV : vC M_9 = vC M := vC_fr (fun k hk => funext (fun i => hF k i (by omega)))
  have e90 : M_9 90 = M 90 := funext (fun i => hF 90 i (by omega))
  have e89 : M_9 89 = M 89 := funext (fun i => hF 89 i (by omega))
  have e121 : L_9 121 = L 121 := funext (fun i => hG 121 i (by omega))
  have e122 : L_9 122 = L 122 := funext (fun i => hG 122 i (by omega))
  obtain ⟨ly1, ly2⟩ := (show rg 0 59 (M 89 x1_9.toNatClampNeg) from hI0 89 _)
  have eT : (foP (stW (vC M) (M 90) (L 121) (L 122)) (M 89) (x1_9.toNatClampNeg + 1) ts0) = stW (vC M) (M 90) (L 121) (L 122) x1_9.toNatClampNeg (M 89 x1_9.toNatClampNeg).toNatClampNeg (foP (stW (vC M) (M 90) (L 121) (L 122)) (M 89) x1_9.toNatClampNeg ts0) := foP_s (by omega)
  refine g_iload_n C 0 dX8_tallyWeights_9 rfl ?_
  refine g_aload_n C 1 dX8_tallyWeights_10 rfl ?_
  refine g_get C (.ref (ad 88)) 0 in_X8_tallyWeights_8 (List.mem_of_getElem? (i := 1) rfl) (by decide) (ce_trans ad cs _ _) rfl (by decide) rfl rfl dX8_tallyWeights_11 ?_
  refine g_get C (.int (M_9 88 3)) 3 in_X8_tallyWeights_6 (List.mem_of_getElem? (i := 2) rfl) (by decide) (ce_poll ad cs _ _) rfl (by decide) rfl rfl dX8_tallyWeights_14 ?_
  refine g_ni (fun v5 ev5 => ?_)
  have gv5 : v5 = M 88 3 := ev5.trans (hF 88 3 (by omega))
  have tv5 := congrArg Int32.toInt gv5
  obtain ⟨bv5, dv5⟩ := (show rg 0 40 v5 from (by rw [ev5]; exact (hI 88 3).1 rfl))
  refine g_icmp_ge C 59 dX8_tallyWeights_17 (by decide) (fun c6 => ?_) (fun c6 => ?_)
  ·
    have f7 := fle rfl rfl c6
    refine g_iconst C 1 dX8_tallyWeights_59 (by decide) ?_
    have zr9 : (1 : Int32).toInt = 1 := by decide
    exact g_zret C hr rfl ⟨(by have e9 : x1_9.toNatClampNeg = (M 88 3).toNatClampNeg := (by omega); rw [e9] at j9_2 j9_3 j9_4; exact ⟨Or.inl ⟨rfl, j9_2⟩, fun _ => ⟨j9_3, j9_4⟩⟩), hI, hF, hG⟩ dX8_tallyWeights_60
  ·
    have f8 := fnle rfl rfl c6
    refine g_aload_n C 1 dX8_tallyWeights_20 rfl ?_
    refine g_get C (.ref (ad 88)) 0 in_X8_tallyWeights_8 (List.mem_of_getElem? (i := 1) rfl) (by decide) (ce_trans ad cs _ _) rfl (by decide) rfl rfl dX8_tallyWeights_21 ?_
    refine g_iload_n C 0 dX8_tallyWeights_24 rfl ?_
    refine g_callVi C (n := 1) (As := [.int x1_9]) (st := []) (k_X6_firstIn l D ad cs _ _ x1_9 hI ⟨by omega, by omega⟩) gX8_tallyWeights_X6_firstIn rfl rfl rfl (by decide +kernel) ⟨Nat.le_of_ble_eq_true rfl, Nat.le_of_ble_eq_true rfl⟩ rfl (Nat.le_of_ble_eq_true rfl) ⟨Nat.zero_le _, Nat.zero_le _⟩ (by decide) (ce_poll ad cs _ _) rfl rfl dX8_tallyWeights_25 (fun r9 M10 L11 hr9 => ?_)
    obtain ⟨hq1, hq2, hr9⟩ := hr9
    obtain rfl := hq1.symm
    obtain rfl := hq2.symm
    rw [eV, e90, e89] at hr9
    have tr9 := congrArg Int32.toInt hr9
    have fin9 : r9.toInt = -9 ∨ (0 ≤ r9.toInt ∧ r9.toInt ≤ 9) := by rw [hr9]; exact (fiF_in (V := vC M) (vC5b hI0) _ _).elim Or.inl (fun q9 => Or.inr ⟨q9.1, q9.2.1⟩)
    refine g_istore_n C [(2, .int r9), (1, .int x1_9), (0, .ref (ad 120))] dX8_tallyWeights_28 (by decide) rfl ?_
    refine g_aload_n C 2 dX8_tallyWeights_29 rfl ?_
    refine g_get C (.ref (ad 123)) 3 in_X8_tallyWeights_8 (List.mem_of_getElem? (i := 3) rfl) (by decide) (ce_trans ad cs _ _) rfl (by decide) rfl rfl dX8_tallyWeights_30 ?_
    refine g_iload_n C 1 dX8_tallyWeights_33 rfl ?_
    refine g_iload_n C 0 dX8_tallyWeights_34 rfl ?_
    have nx1_9 := ixn (x := x1_9) (by omega)
    refine g_iast C (by decide) (ce_towner ad cs _ _) (by rw [sI_k]; rfl) (fin' (n := 40) rfl (by omega) (by omega)) dX8_tallyWeights_35 ?_
    refine g_nm (fun M12 hM12 => ?_)
    have hI : IC M12 := by rw [hM12]; exact hI.st (bC_free (by decide) (by decide) (by decide) (by decide) (by decide) (by decide) (by decide))
    have hF : ∀ k i, k ≠ 123 → M12 k i = M k i := fun k i hk => by (rw [hM12, sI_at, if_neg (by omega)]; try exact hF k i hk)
    have hV : vC M12 = vC M_9 := by rw [hM12, vC_z (by decide), hV]
    have how : ∀ k9 : Nat, k9 < (x1_9.toNatClampNeg + 1) → M12 123 k9 = fiV (vC M) (M 90) (M 89 k9).toNatClampNeg := by
      intro k9 hk9
      rw [hM12, sI_at]
      by_cases e9 : k9 = x1_9.toNatClampNeg
      · rw [if_pos ⟨rfl, e9⟩, e9]; exact hr9
      · rw [if_neg (fun h => e9 h.2)]; exact j9_4 k9 (by omega)
    have q123 : M12 123 = M12 123 := rfl
    refine g_iload_n C 0 dX8_tallyWeights_36 rfl ?_
    refine g_bipush C (-9) dX8_tallyWeights_37 (by decide) ?_
    refine g_icmp_eq C 53 dX8_tallyWeights_39 (by decide) (fun c13 => ?_) (fun c13 => ?_)
    ·
      have f14 := feq rfl (by decide : ((-9) : Int32).toInt = (-9)) c13
      obtain ⟨v15, ev15⟩ : ∃ y : Int32, y = x1_9 + 1 := ⟨_, rfl⟩
      try have fv15 := fadd rfl (by decide : (1 : Int32).toInt = 1) ev15 (by omega) (by omega)
      refine g_iinc C 1 v15 [(1, .int v15), (2, .int r9), (0, .ref (ad 120))] dX8_tallyWeights_53 rfl (by rw [ev15]; rfl) (by decide) rfl ?_
      refine g_goto C 9 dX8_tallyWeights_56 (by decide) ?_
      refine g_lv [0, 2] [(1, .int v15), (0, .ref (ad 120))] rfl ?_
      have nv := ixn (x := v15) (by omega)
      have iv : v15.toNatClampNeg = x1_9.toNatClampNeg + 1 := by omega
      have how2 : ∀ k9 : Nat, k9 < (x1_9.toNatClampNeg + 1) → M12 123 k9 = fiV (vC M) (M 90) (M 89 k9).toNatClampNeg := fun k9 hk9 => by rw [congrFun q123 k9]; exact how k9 hk9
      have sT : (foP (stW (vC M) (M 90) (L 121) (L 122)) (M 89) (x1_9.toNatClampNeg + 1) ts0) = (foP (stW (vC M) (M 90) (L 121) (L 122)) (M 89) x1_9.toNatClampNeg ts0) := eT.trans (stW_e (by rw [← hr9]; omega))
      have n2 := j9_2
      have n3 := j9_3
      rw [← sT] at n2 n3
      exact ih_9 (v15, M12, L_9) ⟨by show 0 ≤ v15.toInt; omega, by show v15.toInt ≤ (M 88 3).toInt; omega, by show (foP (stW (vC M) (M 90) (L 121) (L 122)) (M 89) v15.toNatClampNeg ts0).2.2 = true; rw [iv]; exact n2, by show ∀ c, c < 10 → L_9 91 c = (foP (stW (vC M) (M 90) (L 121) (L 122)) (M 89) v15.toNatClampNeg ts0).1 c ∧ L_9 92 c = (foP (stW (vC M) (M 90) (L 121) (L 122)) (M 89) v15.toNatClampNeg ts0).2.1 c ∧ okF (L_9 91 c) (L_9 92 c) ∧ lowF (L_9 91 c) (L_9 92 c); rw [iv]; exact n3, by show ∀ k9 : Nat, k9 < v15.toNatClampNeg → M12 123 k9 = fiV (vC M) (M 90) (M 89 k9).toNatClampNeg; rw [iv]; exact how2, hI, hF, hG⟩ (by show (41 - v15.toInt).toNat < (41 - x1_9.toInt).toNat; omega)
    ·
      have f16 := fne rfl (by decide : ((-9) : Int32).toInt = (-9)) c13
      refine g_aload_n C 2 dX8_tallyWeights_42 rfl ?_
      refine g_iload_n C 1 dX8_tallyWeights_43 rfl ?_
      refine g_iload_n C 0 dX8_tallyWeights_44 rfl ?_
      refine g_callVi C (n := 2) (As := [.int x1_9, .int r9]) (st := []) (k_X8_addWeight l D ad cs _ _ x1_9 r9 hI ⟨by omega, by omega⟩ ⟨by omega, by omega⟩ (j9_3 r9.toNatClampNeg (by have := ixn (x := r9) (by omega); omega)).2.2.1 (by rw [e121, e122]; exact (hW x1_9.toNatClampNeg (by omega)).1) (j9_3 r9.toNatClampNeg (by have := ixn (x := r9) (by omega); omega)).2.2.2) gX8_tallyWeights_X8_addWeight rfl rfl rfl (by decide +kernel) ⟨Nat.le_of_ble_eq_true rfl, Nat.le_of_ble_eq_true rfl⟩ rfl (Nat.le_of_ble_eq_true rfl) ⟨Nat.zero_le _, Nat.zero_le _⟩ (by decide) (ce_trans ad cs _ _) rfl rfl dX8_tallyWeights_45 (fun r17 M18 L19 hr17 => ?_)
      obtain ⟨hr17, hI, hFr17, hGr17⟩ := hr17
      have hF : ∀ k i, k ≠ 123 → M18 k i = M k i := fun k i hk => by (rw [hFr17 k i trivial]; try exact hF k i hk)
      have hG : ∀ k i, k ≠ 91 ∧ k ≠ 92 ∧ ¬ (k = 124 ∧ i = 0) ∧ ¬ (k = 124 ∧ i = 1) → L19 k i = L k i := fun k i hk => by (rw [hGr17 k i (by omega)]; try exact hG k i hk)
      have hV : vC M18 = vC M_9 := by rw [vC_fr (fun k hk => funext (fun i => hFr17 k i trivial)), hV]
      have l124_0 : L19 124 0 = L19 124 0 := rfl
      have l124_1 : L19 124 1 = L19 124 1 := rfl
      have p91 : L19 91 = L19 91 := rfl
      have p92 : L19 92 = L19 92 := rfl
      have q123 : M18 123 = M12 123 := (funext (fun i => hFr17 123 i trivial)).trans q123
      obtain ⟨hz9, hu9, hd9⟩ := hr17
      rw [e121, e122] at hz9 hu9 hd9
      obtain ⟨ta, tb⟩ := tw_c (S := (foP (stW (vC M) (M 90) (L 121) (L 122)) (M 89) x1_9.toNatClampNeg ts0)) (c := r9.toNatClampNeg) (by have := ixn (x := r9) (by omega); omega) j9_3 (hW x1_9.toNatClampNeg (by omega)).1 hu9 hd9
      have eT2 : (foP (stW (vC M) (M 90) (L 121) (L 122)) (M 89) (x1_9.toNatClampNeg + 1) ts0) = addS (foP (stW (vC M) (M 90) (L 121) (L 122)) (M 89) x1_9.toNatClampNeg ts0) r9.toNatClampNeg (L 121 x1_9.toNatClampNeg) (L 122 x1_9.toNatClampNeg) := eT.trans (by rw [stW_t (by rw [← hr9]; omega) j9_2, ← hr9])
      rw [← eT2] at ta tb
      obtain ⟨bar17, bbr17⟩ := zo_b hz9
      refine g_if_ne C 53 dX8_tallyWeights_48 (by decide) (fun c20 => ?_) (fun c20 => ?_)
      ·
        have f21 := fne rfl (by decide : (0 : Int32).toInt = 0) c20
        have hft := ta.mpr (zo_t hz9 c20)
        obtain ⟨v22, ev22⟩ : ∃ y : Int32, y = x1_9 + 1 := ⟨_, rfl⟩
        try have fv22 := fadd rfl (by decide : (1 : Int32).toInt = 1) ev22 (by omega) (by omega)
        refine g_iinc C 1 v22 [(1, .int v22), (2, .int r9), (0, .ref (ad 120))] dX8_tallyWeights_53 rfl (by rw [ev22]; rfl) (by decide) rfl ?_
        refine g_goto C 9 dX8_tallyWeights_56 (by decide) ?_
        refine g_lv [0, 2] [(1, .int v22), (0, .ref (ad 120))] rfl ?_
        have nv := ixn (x := v22) (by omega)
        have iv : v22.toNatClampNeg = x1_9.toNatClampNeg + 1 := by omega
        have how2 : ∀ k9 : Nat, k9 < (x1_9.toNatClampNeg + 1) → M18 123 k9 = fiV (vC M) (M 90) (M 89 k9).toNatClampNeg := fun k9 hk9 => by rw [congrFun q123 k9]; exact how k9 hk9
        have n2 := hft
        have n3 := tb hft
        exact ih_9 (v22, M18, L19) ⟨by show 0 ≤ v22.toInt; omega, by show v22.toInt ≤ (M 88 3).toInt; omega, by show (foP (stW (vC M) (M 90) (L 121) (L 122)) (M 89) v22.toNatClampNeg ts0).2.2 = true; rw [iv]; exact n2, by show ∀ c, c < 10 → L19 91 c = (foP (stW (vC M) (M 90) (L 121) (L 122)) (M 89) v22.toNatClampNeg ts0).1 c ∧ L19 92 c = (foP (stW (vC M) (M 90) (L 121) (L 122)) (M 89) v22.toNatClampNeg ts0).2.1 c ∧ okF (L19 91 c) (L19 92 c) ∧ lowF (L19 91 c) (L19 92 c); rw [iv]; exact n3, by show ∀ k9 : Nat, k9 < v22.toNatClampNeg → M18 123 k9 = fiV (vC M) (M 90) (M 89 k9).toNatClampNeg; rw [iv]; exact how2, hI, hF, hG⟩ (by show (41 - v22.toInt).toNat < (41 - x1_9.toInt).toNat; omega)
      ·
        have f23 := feq rfl (by decide : (0 : Int32).toInt = 0) c20
        have hnf : ¬ (foP (stW (vC M) (M 90) (L 121) (L 122)) (M 89) (x1_9.toNatClampNeg + 1) ts0).2.2 = true := fun h9 => zo_f hz9 c20 (ta.mp h9)
        refine g_iconst C 0 dX8_tallyWeights_51 (by decide) ?_
        have zr9 : (0 : Int32).toInt = 0 := by decide
        exact g_zret C hr rfl ⟨⟨Or.inr ⟨rfl, fun h9 => by rw [stW_stay2 (bt_ff hnf) (by omega)] at h9; exact Bool.noConfusion h9⟩, fun h9 => by rw [stW_stay2 (bt_ff hnf) (by omega)] at h9; exact Bool.noConfusion h9⟩, hI, hF, hG⟩ dX8_tallyWeights_52
