set_option maxHeartbeats 4000000 in
set_option maxRecDepth 100000 in
theorem k_X8_addWeight (l : Launch) (D : va_G) (ad : Nat → Nat) (cs : Nat → ClassId) (M : MI) (L : ML) (x : Int32) (y : Int32) (hI : IC M) (hx : 0 ≤ x.toInt ∧ x.toInt < 40) (hy : 0 ≤ y.toInt ∧ y.toInt < 10) (hk : okF (L 91 (y.toNatClampNeg)) (L 92 (y.toNatClampNeg))) (hw : okF (L 121 (x.toNatClampNeg)) (L 122 (x.toNatClampNeg))) (hlow : frU (L 91 (y.toNatClampNeg)) (L 92 (y.toNatClampNeg)) = L 91 (y.toNatClampNeg) ∧ frD (L 91 (y.toNatClampNeg)) (L 92 (y.toNatClampNeg)) = L 92 (y.toNatClampNeg)) : Ci l yX8_addWeight wsX8_addWeight ({ frames := 2, cells := 0, slots := 0, locals := 55 }) D ad cs [.ref (ad 120), .int x, .int y] M L (fun r M1 L1 => (zo r (fitF (frU ((L 91 y.toNatClampNeg) * (L 122 x.toNatClampNeg) + (L 121 x.toNatClampNeg) * (L 92 y.toNatClampNeg)) ((L 92 y.toNatClampNeg) * (L 122 x.toNatClampNeg))) (frD ((L 91 y.toNatClampNeg) * (L 122 x.toNatClampNeg) + (L 121 x.toNatClampNeg) * (L 92 y.toNatClampNeg)) ((L 92 y.toNatClampNeg) * (L 122 x.toNatClampNeg)))) ∧ L1 91 = vp_updL (L 91) (y.toNatClampNeg) (frU ((L 91 y.toNatClampNeg) * (L 122 x.toNatClampNeg) + (L 121 x.toNatClampNeg) * (L 92 y.toNatClampNeg)) ((L 92 y.toNatClampNeg) * (L 122 x.toNatClampNeg))) ∧ L1 92 = vp_updL (L 92) (y.toNatClampNeg) (frD ((L 91 y.toNatClampNeg) * (L 122 x.toNatClampNeg) + (L 121 x.toNatClampNeg) * (L 92 y.toNatClampNeg)) ((L 92 y.toNatClampNeg) * (L 122 x.toNatClampNeg)))) ∧ IC M1 ∧ (∀ k i, True → M1 k i = M k i) ∧ ∀ k i, k ≠ 91 ∧ k ≠ 92 ∧ ¬ (k = 124 ∧ i = 0) ∧ ¬ (k = 124 ∧ i = 1) → L1 k i = L k i) := by
  refine enter_i RX8 rfl [(0, .ref (ad 120)), (1, .int x), (2, .int y)] rfl (Nat.le_of_ble_eq_true rfl) (by decide +kernel) rfl ?_
  intro p e s m below meth c C hr
  have hF : ∀ k i, True → M k i = M k i := fun _ _ _ => rfl
  have hG : ∀ k i, k ≠ 91 ∧ k ≠ 92 ∧ ¬ (k = 124 ∧ i = 0) ∧ ¬ (k = 124 ∧ i = 1) → L k i = L k i := fun _ _ _ => rfl
  have w0 : (vC M 0 0).toInt = (M 1 0).toInt := rfl
  have w1 : (vC M 0 1).toInt = (M 3 0).toInt := rfl
  have w2 : (vC M 0 2).toInt = (M 68 0).toInt := rfl
  have w3 : (vC M 0 3).toInt = (M 81 0).toInt := rfl
  obtain ⟨y0a, y0b⟩ := (show rg 0 10 (M 1 0) from hI 1 0 rfl)
  obtain ⟨y1a, y1b⟩ := (show rg 0 60 (M 3 0) from hI 3 0 rfl)
  obtain ⟨y2a, y2b⟩ := (show rg 0 8 (M 68 0) from hI 68 0 rfl)
  obtain ⟨y3a, y3b⟩ := (show rg 0 20 (M 81 0) from hI 81 0 rfl)
  obtain ⟨hx1, hx2⟩ := hx
  obtain ⟨hy1, hy2⟩ := hy
  have hf9 := okF_fr hk hw
  have hk9 := hk
  unfold okF at hk9
  have l124_0 : L 124 0 = L 124 0 := rfl
  have l124_1 : L 124 1 = L 124 1 := rfl
  have p91 : L 91 = L 91 := rfl
  have p92 : L 92 = L 92 := rfl
  refine g_aload_n C 0 dX8_addWeight_0 rfl ?_
  refine g_get C (.ref (ad 124)) 4 in_X8_addWeight_8 (List.mem_of_getElem? (i := 1) rfl) (by decide) (ce_trans ad cs _ _) rfl (by decide) rfl rfl dX8_addWeight_1 ?_
  refine g_aload_n C 0 dX8_addWeight_4 rfl ?_
  refine g_get C (.ref (ad 88)) 0 in_X8_addWeight_8 (List.mem_of_getElem? (i := 2) rfl) (by decide) (ce_trans ad cs _ _) rfl (by decide) rfl rfl dX8_addWeight_5 ?_
  refine g_get C (.ref (ad 91)) 6 in_X8_addWeight_6 (List.mem_of_getElem? (i := 3) rfl) (by decide) (ce_poll ad cs _ _) rfl (by decide) rfl rfl dX8_addWeight_8 ?_
  refine g_iload_n C 2 dX8_addWeight_11 rfl ?_
  have ny := ixn (x := y) (by omega)
  refine g_lald C (by decide) (ce_pupper ad cs _ _) (fin' (n := 10) rfl (by omega) (by omega)) dX8_addWeight_12 ?_
  refine g_nl (fun v1 ev1 => ?_)
  have gv1 : v1 = L 91 y.toNatClampNeg := ev1.trans (congrFun p91 _)
  have tv1 := congrArg Int64.toInt gv1
  refine g_aload_n C 0 dX8_addWeight_13 rfl ?_
  refine g_get C (.ref (ad 88)) 0 in_X8_addWeight_8 (List.mem_of_getElem? (i := 2) rfl) (by decide) (ce_trans ad cs _ _) rfl (by decide) rfl rfl dX8_addWeight_14 ?_
  refine g_get C (.ref (ad 92)) 7 in_X8_addWeight_6 (List.mem_of_getElem? (i := 4) rfl) (by decide) (ce_poll ad cs _ _) rfl (by decide) rfl rfl dX8_addWeight_17 ?_
  refine g_iload_n C 2 dX8_addWeight_20 rfl ?_
  have ny := ixn (x := y) (by omega)
  refine g_lald C (by decide) (ce_plower ad cs _ _) (fin' (n := 10) rfl (by omega) (by omega)) dX8_addWeight_21 ?_
  refine g_nl (fun v2 ev2 => ?_)
  have gv2 : v2 = L 92 y.toNatClampNeg := ev2.trans (congrFun p92 _)
  have tv2 := congrArg Int64.toInt gv2
  refine g_callVv C (n := 2) (As := [.long v1, .long v2]) (st := []) (k_X3_become l D ad cs _ _ v1 v2 hI (by rw [gv1]; omega) (by rw [gv2]; omega)) gX8_addWeight_X3_become rfl rfl rfl (by decide +kernel) ⟨Nat.le_of_ble_eq_true rfl, Nat.le_of_ble_eq_true rfl⟩ rfl (Nat.le_of_ble_eq_true rfl) ⟨Nat.zero_le _, Nat.zero_le _⟩ (by decide) (ce_frac ad cs _ _) rfl rfl dX8_addWeight_22 (fun M4 L5 hr3 => ?_)
  obtain ⟨hr3, hI, hFr3, hGr3⟩ := hr3
  have hF : ∀ k i, True → M4 k i = M k i := fun k i hk => by (rw [hFr3 k i trivial]; try exact hF k i hk)
  have hG : ∀ k i, k ≠ 91 ∧ k ≠ 92 ∧ ¬ (k = 124 ∧ i = 0) ∧ ¬ (k = 124 ∧ i = 1) → L5 k i = L k i := fun k i hk => by (rw [hGr3 k i (by omega)]; try exact hG k i hk)
  have l124_0 : L5 124 0 = L5 124 0 := rfl
  have l124_1 : L5 124 1 = L5 124 1 := rfl
  have p91 : L5 91 = L 91 := (funext (fun i => hGr3 91 i (by omega))).trans p91
  have p92 : L5 92 = L 92 := (funext (fun i => hGr3 92 i (by omega))).trans p92
  obtain ⟨bu, bd⟩ := hr3
  rw [gv1, gv2, hlow.1] at bu
  rw [gv1, gv2, hlow.2] at bd
  refine g_aload_n C 0 dX8_addWeight_25 rfl ?_
  refine g_get C (.ref (ad 124)) 4 in_X8_addWeight_8 (List.mem_of_getElem? (i := 1) rfl) (by decide) (ce_trans ad cs _ _) rfl (by decide) rfl rfl dX8_addWeight_26 ?_
  refine g_aload_n C 0 dX8_addWeight_29 rfl ?_
  refine g_get C (.ref (ad 121)) 1 in_X8_addWeight_8 (List.mem_of_getElem? (i := 5) rfl) (by decide) (ce_trans ad cs _ _) rfl (by decide) rfl rfl dX8_addWeight_30 ?_
  refine g_iload_n C 1 dX8_addWeight_33 rfl ?_
  have nx := ixn (x := x) (by omega)
  refine g_lald C (by decide) (ce_tup ad cs _ _) (fin' (n := 40) rfl (by omega) (by omega)) dX8_addWeight_34 ?_
  refine g_nl (fun v6 ev6 => ?_)
  have gv6 : v6 = L 121 x.toNatClampNeg := ev6.trans (hG 121 _ (by omega))
  have tv6 := congrArg Int64.toInt gv6
  refine g_aload_n C 0 dX8_addWeight_35 rfl ?_
  refine g_get C (.ref (ad 122)) 2 in_X8_addWeight_8 (List.mem_of_getElem? (i := 6) rfl) (by decide) (ce_trans ad cs _ _) rfl (by decide) rfl rfl dX8_addWeight_36 ?_
  refine g_iload_n C 1 dX8_addWeight_39 rfl ?_
  have nx := ixn (x := x) (by omega)
  refine g_lald C (by decide) (ce_tlow ad cs _ _) (fin' (n := 40) rfl (by omega) (by omega)) dX8_addWeight_40 ?_
  refine g_nl (fun v7 ev7 => ?_)
  have gv7 : v7 = L 122 x.toNatClampNeg := ev7.trans (hG 122 _ (by omega))
  have tv7 := congrArg Int64.toInt gv7
  refine g_callVv C (n := 2) (As := [.long v6, .long v7]) (st := []) (k_X3_add l D ad cs _ _ v6 v7 hI (by rw [bu, bd, gv6, gv7]; exact hf9.1) (by rw [bd, gv7]; exact hf9.2.1)) gX8_addWeight_X3_add rfl rfl rfl (by decide +kernel) ⟨Nat.le_of_ble_eq_true rfl, Nat.le_of_ble_eq_true rfl⟩ rfl (Nat.le_of_ble_eq_true rfl) ⟨Nat.zero_le _, Nat.zero_le _⟩ (by decide) (ce_frac ad cs _ _) rfl rfl dX8_addWeight_41 (fun M9 L10 hr8 => ?_)
  obtain ⟨hr8, hI, hFr8, hGr8⟩ := hr8
  have hF : ∀ k i, True → M9 k i = M k i := fun k i hk => by (rw [hFr8 k i trivial]; try exact hF k i hk)
  have hG : ∀ k i, k ≠ 91 ∧ k ≠ 92 ∧ ¬ (k = 124 ∧ i = 0) ∧ ¬ (k = 124 ∧ i = 1) → L10 k i = L k i := fun k i hk => by (rw [hGr8 k i (by omega)]; try exact hG k i hk)
  have l124_0 : L10 124 0 = L10 124 0 := rfl
  have l124_1 : L10 124 1 = L10 124 1 := rfl
  have p91 : L10 91 = L 91 := (funext (fun i => hGr8 91 i (by omega))).trans p91
  have p92 : L10 92 = L 92 := (funext (fun i => hGr8 92 i (by omega))).trans p92
  obtain ⟨au, ad9⟩ := hr8
  rw [bu, bd, gv6, gv7] at au ad9
  have p91o := p91
  have p92o := p92
  refine g_aload_n C 0 dX8_addWeight_44 rfl ?_
  refine g_get C (.ref (ad 88)) 0 in_X8_addWeight_8 (List.mem_of_getElem? (i := 2) rfl) (by decide) (ce_trans ad cs _ _) rfl (by decide) rfl rfl dX8_addWeight_45 ?_
  refine g_get C (.ref (ad 91)) 6 in_X8_addWeight_6 (List.mem_of_getElem? (i := 3) rfl) (by decide) (ce_poll ad cs _ _) rfl (by decide) rfl rfl dX8_addWeight_48 ?_
  refine g_iload_n C 2 dX8_addWeight_51 rfl ?_
  refine g_aload_n C 0 dX8_addWeight_52 rfl ?_
  refine g_get C (.ref (ad 124)) 4 in_X8_addWeight_8 (List.mem_of_getElem? (i := 1) rfl) (by decide) (ce_trans ad cs _ _) rfl (by decide) rfl rfl dX8_addWeight_53 ?_
  refine g_get C (.long (L10 124 0)) 0 in_X8_addWeight_3 (List.mem_of_getElem? (i := 7) rfl) (by decide) (ce_frac ad cs _ _) rfl (by decide) rfl rfl dX8_addWeight_56 ?_
  refine g_nl (fun v11 ev11 => ?_)
  have gv11 : v11 = L10 124 0 := ev11.trans l124_0
  have tv11 := congrArg Int64.toInt gv11
  have ny := ixn (x := y) (by omega)
  refine g_last C (by decide) (ce_pupper ad cs _ _) (by rw [sJ_k]; rfl) (fin' (n := 10) rfl (by omega) (by omega)) dX8_addWeight_59 ?_
  refine g_nmL (fun L12 hL12 => ?_)
  have hG : ∀ k i, k ≠ 91 ∧ k ≠ 92 ∧ ¬ (k = 124 ∧ i = 0) ∧ ¬ (k = 124 ∧ i = 1) → L12 k i = L k i := fun k i hk => by (rw [hL12, sJ_at, if_neg (by omega)]; try exact hG k i hk)
  have l124_0 : L12 124 0 = L10 124 0 := by rw [hL12, sJ_at, if_neg (by omega)]; try exact l124_0
  have l124_1 : L12 124 1 = L10 124 1 := by rw [hL12, sJ_at, if_neg (by omega)]; try exact l124_1
  have p92 : L12 92 = L 92 := by rw [hL12, sJ_n _ _ _ (by decide)]; try exact p92
  have p92a := p92
  refine g_aload_n C 0 dX8_addWeight_60 rfl ?_
  refine g_get C (.ref (ad 88)) 0 in_X8_addWeight_8 (List.mem_of_getElem? (i := 2) rfl) (by decide) (ce_trans ad cs _ _) rfl (by decide) rfl rfl dX8_addWeight_61 ?_
  refine g_get C (.ref (ad 92)) 7 in_X8_addWeight_6 (List.mem_of_getElem? (i := 4) rfl) (by decide) (ce_poll ad cs _ _) rfl (by decide) rfl rfl dX8_addWeight_64 ?_
  refine g_iload_n C 2 dX8_addWeight_67 rfl ?_
  refine g_aload_n C 0 dX8_addWeight_68 rfl ?_
  refine g_get C (.ref (ad 124)) 4 in_X8_addWeight_8 (List.mem_of_getElem? (i := 1) rfl) (by decide) (ce_trans ad cs _ _) rfl (by decide) rfl rfl dX8_addWeight_69 ?_
  refine g_get C (.long (L12 124 1)) 1 in_X8_addWeight_3 (List.mem_of_getElem? (i := 8) rfl) (by decide) (ce_frac ad cs _ _) rfl (by decide) rfl rfl dX8_addWeight_72 ?_
  refine g_nl (fun v13 ev13 => ?_)
  have gv13 : v13 = L10 124 1 := ev13.trans l124_1
  have tv13 := congrArg Int64.toInt gv13
  have ny := ixn (x := y) (by omega)
  refine g_last C (by decide) (ce_plower ad cs _ _) (by rw [sJ_k]; rfl) (fin' (n := 10) rfl (by omega) (by omega)) dX8_addWeight_75 ?_
  refine g_nmL (fun L14 hL14 => ?_)
  have hG : ∀ k i, k ≠ 91 ∧ k ≠ 92 ∧ ¬ (k = 124 ∧ i = 0) ∧ ¬ (k = 124 ∧ i = 1) → L14 k i = L k i := fun k i hk => by (rw [hL14, sJ_at, if_neg (by omega)]; try exact hG k i hk)
  have l124_0 : L14 124 0 = L10 124 0 := by rw [hL14, sJ_at, if_neg (by omega)]; try exact l124_0
  have l124_1 : L14 124 1 = L10 124 1 := by rw [hL14, sJ_at, if_neg (by omega)]; try exact l124_1
  have e91 : L14 91 = vp_updL (L 91) y.toNatClampNeg (frU ((L 91 y.toNatClampNeg) * (L 122 x.toNatClampNeg) + (L 121 x.toNatClampNeg) * (L 92 y.toNatClampNeg)) ((L 92 y.toNatClampNeg) * (L 122 x.toNatClampNeg))) := by rw [hL14, sJ_n _ _ _ (by decide), hL12, sJ_k, p91o, gv11, au]
  have e92 : L14 92 = vp_updL (L 92) y.toNatClampNeg (frD ((L 91 y.toNatClampNeg) * (L 122 x.toNatClampNeg) + (L 121 x.toNatClampNeg) * (L 92 y.toNatClampNeg)) ((L 92 y.toNatClampNeg) * (L 122 x.toNatClampNeg))) := by rw [hL14, sJ_k, p92a, gv13, ad9]
  have f0 : L14 124 0 = frU ((L 91 y.toNatClampNeg) * (L 122 x.toNatClampNeg) + (L 121 x.toNatClampNeg) * (L 92 y.toNatClampNeg)) ((L 92 y.toNatClampNeg) * (L 122 x.toNatClampNeg)) := by rw [l124_0, au]
  have f1 : L14 124 1 = frD ((L 91 y.toNatClampNeg) * (L 122 x.toNatClampNeg) + (L 121 x.toNatClampNeg) * (L 92 y.toNatClampNeg)) ((L 92 y.toNatClampNeg) * (L 122 x.toNatClampNeg)) := by rw [l124_1, ad9]
  refine g_aload_n C 0 dX8_addWeight_76 rfl ?_
  refine g_get C (.ref (ad 124)) 4 in_X8_addWeight_8 (List.mem_of_getElem? (i := 1) rfl) (by decide) (ce_trans ad cs _ _) rfl (by decide) rfl rfl dX8_addWeight_77 ?_
  refine g_callVi C (n := 0) (As := []) (st := []) (k_X3_fits l D ad cs _ _  hI ) gX8_addWeight_X3_fits rfl rfl rfl (by decide +kernel) ⟨Nat.le_of_ble_eq_true rfl, Nat.le_of_ble_eq_true rfl⟩ rfl (Nat.le_of_ble_eq_true rfl) ⟨Nat.zero_le _, Nat.zero_le _⟩ (by decide) (ce_frac ad cs _ _) rfl rfl dX8_addWeight_80 (fun r15 M16 L17 hr15 => ?_)
  obtain ⟨hq1, hq2, hr15⟩ := hr15
  obtain rfl := hq1.symm
  obtain rfl := hq2.symm
  obtain ⟨bar15, bbr15⟩ := zo_b hr15
  have hz9 := z_of (r := r15) (by omega) (by omega)
  exact g_zret C hr (by rcases hz9 with h9 | h9 <;> rw [h9] <;> rfl) ⟨⟨by have h9 := hr15; rw [f0, f1] at h9; exact h9, e91, e92⟩, hI, hF, hG⟩ dX8_addWeight_83
