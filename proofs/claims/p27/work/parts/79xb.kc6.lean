set_option maxHeartbeats 4000000 in
set_option maxRecDepth 100000 in
theorem k_X5_tallyPoints (l : Launch) (D : va_G) (ad : Nat → Nat) (cs : Nat → ClassId) (M : MI) (L : ML)  (hI : IC M) (hP3 : ∀ b, 0 ≤ (vC M 3 b).toInt ∧ (vC M 3 b).toInt ≤ 100000) (hct : ∀ j : Nat, j < 10 → L 91 j = 0 ∧ L 92 j = 1) : Cv l yX5_tallyPoints wsX5_tallyPoints ({ frames := 1, cells := 0, slots := 0, locals := 21 }) D ad cs [.ref (ad 93)] M L (fun M1 L1 => (∀ c, c < 10 → L1 91 c = foK (stP (vC M) (ptX (vC M) 0) (M 1 0).toNatClampNeg) (M 89) (M 88 3).toNatClampNeg (fun _ => 0) c ∧ L1 92 c = 1) ∧ IC M1 ∧ (∀ k i, True → M1 k i = M k i) ∧ ∀ k i, k ≠ 91 ∧ k ≠ 92 → L1 k i = L k i) := by
  refine enter_v RX5 rfl [(0, .ref (ad 93))] rfl (Nat.le_of_ble_eq_true rfl) (by decide +kernel) rfl ?_
  intro p e s m below meth c C hr
  have hF : ∀ k i, True → M k i = M k i := fun _ _ _ => rfl
  have hG : ∀ k i, k ≠ 91 ∧ k ≠ 92 → L k i = L k i := fun _ _ _ => rfl
  have w0 : (vC M 0 0).toInt = (M 1 0).toInt := rfl
  have w1 : (vC M 0 1).toInt = (M 3 0).toInt := rfl
  have w2 : (vC M 0 2).toInt = (M 68 0).toInt := rfl
  have w3 : (vC M 0 3).toInt = (M 81 0).toInt := rfl
  obtain ⟨y0a, y0b⟩ := (show rg 0 10 (M 1 0) from hI 1 0 rfl)
  obtain ⟨y1a, y1b⟩ := (show rg 0 60 (M 3 0) from hI 3 0 rfl)
  obtain ⟨y2a, y2b⟩ := (show rg 0 8 (M 68 0) from hI 68 0 rfl)
  obtain ⟨y3a, y3b⟩ := (show rg 0 20 (M 81 0) from hI 81 0 rfl)
  have hI0 := hI
  obtain ⟨ma, mb⟩ := (show rg 0 40 (M 88 3) from (hI 88 3).1 rfl)
  have nm := ixn ma
  have n02 := ixn y0a
  have p91 : L 91 = L 91 := rfl
  have p92 : L 92 = L 92 := rfl
  refine g_iconst C 0 dX5_tallyPoints_0 (by decide) ?_
  refine g_istore_n C [(1, .int 0), (0, .ref (ad 93))] dX5_tallyPoints_1 (by decide) rfl ?_
  have zy1 : (0 : Int32).toInt = 0 := by decide
  refine g_loop (α := Int32 × MI × ML) (fun a => (41 - a.1.toInt).toNat) (fun a => (0 ≤ a.1.toInt) ∧ (a.1.toInt ≤ (M 88 3).toInt) ∧ (∀ c, c < 10 → a.2.2 91 c = foK (stP (vC M) (ptX (vC M) 0) (M 1 0).toNatClampNeg) (M 89) a.1.toNatClampNeg (fun _ => 0) c ∧ a.2.2 92 c = 1) ∧ IC a.2.1 ∧ (∀ k i, True → a.2.1 k i = M k i) ∧ (∀ k i, k ≠ 91 ∧ k ≠ 92 → a.2.2 k i = L k i)) (fun a => a.2.1) (fun a => a.2.2) (fun a => [(1, .int a.1), (0, .ref (ad 93))]) ((0 : Int32), M, L) ⟨by show 0 ≤ (0 : Int32).toInt; omega, by show (0 : Int32).toInt ≤ (M 88 3).toInt; omega, by show ∀ c, c < 10 → L 91 c = foK (stP (vC M) (ptX (vC M) 0) (M 1 0).toNatClampNeg) (M 89) (0 : Int32).toNatClampNeg (fun _ => 0) c ∧ L 92 c = 1; exact hct, hI, hF, hG⟩ rfl rfl rfl ?_
  rintro ⟨x1_2, M_2, L_2⟩ ⟨j2_0, j2_1, j2_2, hI, hF, hG⟩ ih_2
  dsimp only at j2_0 j2_1 j2_2 hI hF hG ih_2 ⊢
  have p91 : L_2 91 = L_2 91 := rfl
  have p92 : L_2 92 = L_2 92 := rfl
  have n1 := ixn (x := x1_2) (by omega)
  refine g_iload_n C 0 dX5_tallyPoints_2 rfl ?_
  refine g_aload_n C 1 dX5_tallyPoints_3 rfl ?_
  refine g_get C (.ref (ad 88)) 0 in_X5_tallyPoints_5 (List.mem_of_getElem? (i := 1) rfl) (by decide) (ce_plain ad cs _ _) rfl (by decide) rfl rfl dX5_tallyPoints_4 ?_
  refine g_get C (.int (M_2 88 3)) 3 in_X5_tallyPoints_6 (List.mem_of_getElem? (i := 2) rfl) (by decide) (ce_poll ad cs _ _) rfl (by decide) rfl rfl dX5_tallyPoints_7 ?_
  refine g_ni (fun v2 ev2 => ?_)
  have gv2 : v2 = M 88 3 := ev2.trans (hF 88 3 trivial)
  have tv2 := congrArg Int32.toInt gv2
  obtain ⟨bv2, dv2⟩ := (show rg 0 40 v2 from (by rw [ev2]; exact (hI 88 3).1 rfl))
  refine g_icmp_ge C 85 dX5_tallyPoints_10 (by decide) (fun c3 => ?_) (fun c3 => ?_)
  ·
    have f4 := fle rfl rfl c3
    exact g_vret C hr ⟨(by have e9 : x1_2.toNatClampNeg = (M 88 3).toNatClampNeg := (by omega); rw [e9] at j2_2; exact j2_2), hI, hF, hG⟩ dX5_tallyPoints_85
  ·
    have f5 := fnle rfl rfl c3
    refine g_iconst C 0 dX5_tallyPoints_13 (by decide) ?_
    refine g_istore_n C [(2, .int 0), (1, .int x1_2), (0, .ref (ad 93))] dX5_tallyPoints_14 (by decide) rfl ?_
    have zy6 : (0 : Int32).toInt = 0 := by decide
    refine g_loop (α := Int32 × MI × ML) (fun a => (11 - a.1.toInt).toNat) (fun a => (0 ≤ a.1.toInt) ∧ (a.1.toInt ≤ (M 1 0).toInt) ∧ (∀ c, c < 10 → a.2.2 91 c = (if c < a.1.toNatClampNeg then (foK (stP (vC M) (ptX (vC M) 0) (M 1 0).toNatClampNeg) (M 89) x1_2.toNatClampNeg (fun _ => 0)) c + (vC M 3 (M 89 x1_2.toNatClampNeg).toNatClampNeg).toInt64 * (ptX (vC M) 0 (M 89 x1_2.toNatClampNeg).toNatClampNeg c).toInt64 else (foK (stP (vC M) (ptX (vC M) 0) (M 1 0).toNatClampNeg) (M 89) x1_2.toNatClampNeg (fun _ => 0)) c) ∧ a.2.2 92 c = 1) ∧ IC a.2.1 ∧ (∀ k i, True → a.2.1 k i = M k i) ∧ (∀ k i, k ≠ 91 ∧ k ≠ 92 → a.2.2 k i = L k i)) (fun a => a.2.1) (fun a => a.2.2) (fun a => [(2, .int a.1), (1, .int x1_2), (0, .ref (ad 93))]) ((0 : Int32), M_2, L_2) ⟨by show 0 ≤ (0 : Int32).toInt; omega, by show (0 : Int32).toInt ≤ (M 1 0).toInt; omega, by show ∀ c, c < 10 → L_2 91 c = (if c < (0 : Int32).toNatClampNeg then (foK (stP (vC M) (ptX (vC M) 0) (M 1 0).toNatClampNeg) (M 89) x1_2.toNatClampNeg (fun _ => 0)) c + (vC M 3 (M 89 x1_2.toNatClampNeg).toNatClampNeg).toInt64 * (ptX (vC M) 0 (M 89 x1_2.toNatClampNeg).toNatClampNeg c).toInt64 else (foK (stP (vC M) (ptX (vC M) 0) (M 1 0).toNatClampNeg) (M 89) x1_2.toNatClampNeg (fun _ => 0)) c) ∧ L_2 92 c = 1; intro c hc; rw [if_neg (by show ¬ c < 0; omega)]; exact j2_2 c hc, hI, hF, hG⟩ rfl rfl rfl ?_
    rintro ⟨x2_15, M_15, L_15⟩ ⟨j15_0, j15_1, j15_2, hI, hF, hG⟩ ih_15
    dsimp only at j15_0 j15_1 j15_2 hI hF hG ih_15 ⊢
    have p91 : L_15 91 = L_15 91 := rfl
    have p92 : L_15 92 = L_15 92 := rfl
    have n2 := ixn (x := x2_15) (by omega)
    refine g_iload_n C 0 dX5_tallyPoints_15 rfl ?_
    refine g_aload_n C 2 dX5_tallyPoints_16 rfl ?_
    refine g_get C (.ref (ad 88)) 0 in_X5_tallyPoints_5 (List.mem_of_getElem? (i := 1) rfl) (by decide) (ce_plain ad cs _ _) rfl (by decide) rfl rfl dX5_tallyPoints_17 ?_
    refine g_get C (.ref (ad 1)) 0 in_X5_tallyPoints_6 (List.mem_of_getElem? (i := 3) rfl) (by decide) (ce_poll ad cs _ _) rfl (by decide) rfl rfl dX5_tallyPoints_20 ?_
    refine g_get C (.int (M_15 1 0)) 0 in_X5_tallyPoints_2 (List.mem_of_getElem? (i := 4) rfl) (by decide) (ce_cand ad cs _ _) rfl (by decide) rfl rfl dX5_tallyPoints_23 ?_
    refine g_ni (fun v7 ev7 => ?_)
    have gv7 : v7 = vC M 0 0 := ev7.trans (hF 1 0 trivial)
    have tv7 := congrArg Int32.toInt gv7
    obtain ⟨bv7, dv7⟩ := (show rg 0 10 v7 from (by rw [ev7]; exact hI 1 0 rfl))
    refine g_icmp_ge C 79 dX5_tallyPoints_26 (by decide) (fun c8 => ?_) (fun c8 => ?_)
    ·
      have f9 := fle rfl rfl c8
      obtain ⟨v10, ev10⟩ : ∃ y : Int32, y = x1_2 + 1 := ⟨_, rfl⟩
      try have fv10 := fadd rfl (by decide : (1 : Int32).toInt = 1) ev10 (by omega) (by omega)
      refine g_iinc C 1 v10 [(1, .int v10), (2, .int x2_15), (0, .ref (ad 93))] dX5_tallyPoints_79 rfl (by rw [ev10]; rfl) (by decide) rfl ?_
      refine g_goto C 2 dX5_tallyPoints_82 (by decide) ?_
      refine g_lv [0, 2] [(1, .int v10), (0, .ref (ad 93))] rfl ?_
      have nv := ixn (x := v10) (by omega)
      have iv : v10.toNatClampNeg = x1_2.toNatClampNeg + 1 := by omega
      have e15 : x2_15.toNatClampNeg = (M 1 0).toNatClampNeg := by omega
      rw [e15] at j15_2
      exact ih_2 (v10, M_15, L_15) ⟨by show 0 ≤ v10.toInt; omega, by show v10.toInt ≤ (M 88 3).toInt; omega, by show ∀ c, c < 10 → L_15 91 c = foK (stP (vC M) (ptX (vC M) 0) (M 1 0).toNatClampNeg) (M 89) v10.toNatClampNeg (fun _ => 0) c ∧ L_15 92 c = 1; rw [iv]; exact j15_2, hI, hF, hG⟩ (by show (41 - v10.toInt).toNat < (41 - x1_2.toInt).toNat; omega)
    ·
      have f11 := fnle rfl rfl c8
      obtain ⟨ly1, ly2⟩ := (show rg 0 59 (M 89 x1_2.toNatClampNeg) from hI0 89 _)
      have nly := ixn ly1
      have hc15 := j15_2 x2_15.toNatClampNeg (by omega)
      rw [if_neg (Nat.lt_irrefl _)] at hc15
      refine g_aload_n C 2 dX5_tallyPoints_29 rfl ?_
      refine g_get C (.ref (ad 88)) 0 in_X5_tallyPoints_5 (List.mem_of_getElem? (i := 1) rfl) (by decide) (ce_plain ad cs _ _) rfl (by decide) rfl rfl dX5_tallyPoints_30 ?_
      refine g_get C (.ref (ad 91)) 6 in_X5_tallyPoints_6 (List.mem_of_getElem? (i := 5) rfl) (by decide) (ce_poll ad cs _ _) rfl (by decide) rfl rfl dX5_tallyPoints_33 ?_
      refine g_iload_n C 0 dX5_tallyPoints_36 rfl ?_
      refine g_dup2 C dX5_tallyPoints_37 rfl rfl ?_
      have nx2_15 := ixn (x := x2_15) (by omega)
      refine g_lald C (by decide) (ce_pupper ad cs _ _) (fin' (n := 10) rfl (by omega) (by omega)) dX5_tallyPoints_38 ?_
      refine g_nl (fun v12 ev12 => ?_)
      have gv12 : v12 = L_15 91 x2_15.toNatClampNeg := ev12.trans (congrFun p91 _)
      have tv12 := congrArg Int64.toInt gv12
      refine g_aload_n C 2 dX5_tallyPoints_39 rfl ?_
      refine g_get C (.ref (ad 88)) 0 in_X5_tallyPoints_5 (List.mem_of_getElem? (i := 1) rfl) (by decide) (ce_plain ad cs _ _) rfl (by decide) rfl rfl dX5_tallyPoints_40 ?_
      refine g_iload_n C 1 dX5_tallyPoints_43 rfl ?_
      refine g_callVi C (n := 1) (As := [.int x1_2]) (st := [.long v12, .int x2_15, .ref (ad 91)]) (k_X6_papersOf l D ad cs _ _ x1_2 hI ⟨by omega, by omega⟩) gX5_tallyPoints_X6_papersOf rfl rfl rfl (by decide +kernel) ⟨Nat.le_of_ble_eq_true rfl, Nat.le_of_ble_eq_true rfl⟩ rfl (Nat.le_of_ble_eq_true rfl) ⟨Nat.zero_le _, Nat.zero_le _⟩ (by decide) (ce_poll ad cs _ _) rfl rfl dX5_tallyPoints_44 (fun r13 M14 L15 hr13 => ?_)
      obtain ⟨hq1, hq2, hr13⟩ := hr13
      obtain rfl := hq1.symm
      obtain rfl := hq2.symm
      have eM : M_15 = M := funext (fun k => funext (fun i => hF k i trivial))
      rw [eM] at hr13
      refine g_aload_n C 2 dX5_tallyPoints_47 rfl ?_
      refine g_get C (.ref (ad 88)) 0 in_X5_tallyPoints_5 (List.mem_of_getElem? (i := 1) rfl) (by decide) (ce_plain ad cs _ _) rfl (by decide) rfl rfl dX5_tallyPoints_48 ?_
      refine g_get C (.ref (ad 3)) 1 in_X5_tallyPoints_6 (List.mem_of_getElem? (i := 6) rfl) (by decide) (ce_poll ad cs _ _) rfl (by decide) rfl rfl dX5_tallyPoints_51 ?_
      refine g_get C (.ref (ad 7)) 4 in_X5_tallyPoints_0 (List.mem_of_getElem? (i := 7) rfl) (by decide) (ce_ball ad cs _ _) rfl (by decide) rfl rfl dX5_tallyPoints_54 ?_
      refine g_aload_n C 2 dX5_tallyPoints_57 rfl ?_
      refine g_get C (.ref (ad 88)) 0 in_X5_tallyPoints_5 (List.mem_of_getElem? (i := 1) rfl) (by decide) (ce_plain ad cs _ _) rfl (by decide) rfl rfl dX5_tallyPoints_58 ?_
      refine g_get C (.ref (ad 89)) 2 in_X5_tallyPoints_6 (List.mem_of_getElem? (i := 8) rfl) (by decide) (ce_poll ad cs _ _) rfl (by decide) rfl rfl dX5_tallyPoints_61 ?_
      refine g_iload_n C 1 dX5_tallyPoints_64 rfl ?_
      have nx1_2 := ixn (x := x1_2) (by omega)
      refine g_iald C (by decide) (ce_plying ad cs _ _) (fin' (n := 40) rfl (by omega) (by omega)) dX5_tallyPoints_65 ?_
      refine g_ni (fun v16 ev16 => ?_)
      have gv16 : v16 = M 89 x1_2.toNatClampNeg := ev16.trans (hF 89 x1_2.toNatClampNeg trivial)
      have tv16 := congrArg Int32.toInt gv16
      obtain ⟨bv16, dv16⟩ := (show rg 0 59 v16 from (by rw [ev16]; exact hI 89 x1_2.toNatClampNeg))
      have gv16 : v16 = M 89 x1_2.toNatClampNeg := gv16
      subst gv16
      have hi17 : vp_in (M 89 x1_2.toNatClampNeg) 60 := (fin' (n := 60) rfl (by omega) (by omega))
      have nhi17 := tn hi17
      have mhi17 := ixn (x := (M 89 x1_2.toNatClampNeg)) (by omega)
      refine g_aald C (by decide) (ce_browm ad cs _ _) rfl hi17 dX5_tallyPoints_66 ?_
      refine g_iload_n C 0 dX5_tallyPoints_67 rfl ?_
      have nx2_15 := ixn (x := x2_15) (by omega)
      refine g_iald C (by omega) (ce_brow ad cs _ _ nhi17) (fin' (n := 10) rfl (by omega) (by omega)) dX5_tallyPoints_68 ?_
      refine g_ni (fun v18 ev18 => ?_)
      have gv18 := ev18.trans (hF (8 + ((M 89 x1_2.toNatClampNeg)).toNatClampNeg) x2_15.toNatClampNeg trivial)
      have gv18 := gv18.trans (vC5 (M := M) (by omega) (by omega)).symm
      have tv18 := congrArg Int32.toInt gv18
      obtain ⟨bv18, dv18⟩ := (show rg 0 9 v18 from (by rw [ev18]; exact hI.row _ (by omega) (by omega)))
      refine g_imul C dX5_tallyPoints_69 ?_
      refine g_ni (fun v19 ev19 => ?_)
      try have fv19 := fmul rfl rfl ev19 (by omega) (by omega)
      refine g_i2l C dX5_tallyPoints_70 ?_
      refine g_nl (fun v20 ev20 => ?_)
      have fv20 := fi2l rfl ev20
      refine g_ladd C dX5_tallyPoints_71 ?_
      refine g_nl (fun v21 ev21 => ?_)
      try have fv21 := fladd rfl rfl ev21 (by omega) (by omega)
      have nx2_15 := ixn (x := x2_15) (by omega)
      refine g_last C (by decide) (ce_pupper ad cs _ _) (by rw [sJ_k]; rfl) (fin' (n := 10) rfl (by omega) (by omega)) dX5_tallyPoints_72 ?_
      refine g_nmL (fun L22 hL22 => ?_)
      have hG : ∀ k i, k ≠ 91 ∧ k ≠ 92 → L22 k i = L k i := fun k i hk => by (rw [hL22, sJ_at, if_neg (by omega)]; try exact hG k i hk)
      have p92 : L22 92 = L_15 92 := by rw [hL22, sJ_n _ _ _ (by decide)]; try exact p92
      obtain ⟨v23, ev23⟩ : ∃ y : Int32, y = x2_15 + 1 := ⟨_, rfl⟩
      try have fv23 := fadd rfl (by decide : (1 : Int32).toInt = 1) ev23 (by omega) (by omega)
      refine g_iinc C 0 v23 [(2, .int v23), (1, .int x1_2), (0, .ref (ad 93))] dX5_tallyPoints_73 rfl (by rw [ev23]; rfl) (by decide) rfl ?_
      refine g_goto C 15 dX5_tallyPoints_76 (by decide) ?_
      have nv := ixn (x := v23) (by omega)
      have iv : v23.toNatClampNeg = x2_15.toNatClampNeg + 1 := by omega
      have b5 := vC5b hI0 (10 * (M 89 x1_2.toNatClampNeg).toNatClampNeg + x2_15.toNatClampNeg)
      have hm9 := m32_64 (hP3 (M 89 x1_2.toNatClampNeg).toNatClampNeg) b5
      have ar9 : ∀ c, c < 10 → L22 91 c = (if c < x2_15.toNatClampNeg + 1 then (foK (stP (vC M) (ptX (vC M) 0) (M 1 0).toNatClampNeg) (M 89) x1_2.toNatClampNeg (fun _ => 0)) c + (vC M 3 (M 89 x1_2.toNatClampNeg).toNatClampNeg).toInt64 * (ptX (vC M) 0 (M 89 x1_2.toNatClampNeg).toNatClampNeg c).toInt64 else (foK (stP (vC M) (ptX (vC M) 0) (M 1 0).toNatClampNeg) (M 89) x1_2.toNatClampNeg (fun _ => 0)) c) ∧ L22 92 c = 1 := by
        intro c hc
        refine ⟨?_, by rw [congrFun p92 c]; exact (j15_2 c hc).2⟩
        rw [hL22, sJ_at]
        by_cases e9 : c = x2_15.toNatClampNeg
        · rw [if_pos ⟨rfl, e9⟩, if_pos (by omega), e9, ← hc15.1]; show _ = L_15 91 x2_15.toNatClampNeg + (vC M 3 (M 89 x1_2.toNatClampNeg).toNatClampNeg).toInt64 * (vC M 5 (10 * (M 89 x1_2.toNatClampNeg).toNatClampNeg + x2_15.toNatClampNeg)).toInt64; rw [← hm9]; simp only [ev21, ev20, ev19, gv18, hr13, gv12, gv7, gv2]
        · rw [if_neg (fun h => e9 h.2), (j15_2 c hc).1]; by_cases e8 : c < x2_15.toNatClampNeg; (rw [if_pos e8, if_pos (by omega)]); (rw [if_neg e8, if_neg (by omega)])
      exact ih_15 (v23, M_15, L22) ⟨by show 0 ≤ v23.toInt; omega, by show v23.toInt ≤ (M 1 0).toInt; omega, by show ∀ c, c < 10 → L22 91 c = (if c < v23.toNatClampNeg then (foK (stP (vC M) (ptX (vC M) 0) (M 1 0).toNatClampNeg) (M 89) x1_2.toNatClampNeg (fun _ => 0)) c + (vC M 3 (M 89 x1_2.toNatClampNeg).toNatClampNeg).toInt64 * (ptX (vC M) 0 (M 89 x1_2.toNatClampNeg).toNatClampNeg c).toInt64 else (foK (stP (vC M) (ptX (vC M) 0) (M 1 0).toNatClampNeg) (M 89) x1_2.toNatClampNeg (fun _ => 0)) c) ∧ L22 92 c = 1; rw [iv]; exact ar9, hI, hF, hG⟩ (by show (11 - v23.toInt).toNat < (11 - x2_15.toInt).toNat; omega)
set_option maxHeartbeats 4000000 in
set_option maxRecDepth 100000 in
theorem k_X5_tallyPlaces (l : Launch) (D : va_G) (ad : Nat → Nat) (cs : Nat → ClassId) (M : MI) (L : ML)  (hI : IC M) (hP3 : ∀ b, 0 ≤ (vC M 3 b).toInt ∧ (vC M 3 b).toInt ≤ 100000) (hct : ∀ j : Nat, j < 10 → L 91 j = 0 ∧ L 92 j = 1) (hA3 : ∀ b : Nat, b < 60 → ∀ i : Nat, (i : Int) < (vC M 4 b).toInt → (vC M 5 (10 * b + i)).toInt < (vC M 0 0).toInt) (hdis : ∀ b : Nat, b < 60 → ∀ i j : Nat, i < j → (j : Int) < (vC M 4 b).toInt → (vC M 5 (10 * b + i)).toInt ≠ (vC M 5 (10 * b + j)).toInt) (hl4 : ∀ b : Nat, b < 60 → (vC M 4 b).toInt ≤ (vC M 0 0).toInt) : Cv l yX5_tallyPlaces wsX5_tallyPlaces ({ frames := 1, cells := 0, slots := 0, locals := 21 }) D ad cs [.ref (ad 93)] M L (fun M1 L1 => (∀ c, c < 10 → L1 91 c = foK (stP (vC M) (ptX (vC M) 1) (M 1 0).toNatClampNeg) (M 89) (M 88 3).toNatClampNeg (fun _ => 0) c ∧ L1 92 c = 1) ∧ IC M1 ∧ (∀ k i, True → M1 k i = M k i) ∧ ∀ k i, k ≠ 91 ∧ k ≠ 92 → L1 k i = L k i) := by
  refine enter_v RX5 rfl [(0, .ref (ad 93))] rfl (Nat.le_of_ble_eq_true rfl) (by decide +kernel) rfl ?_
  intro p e s m below meth c C hr
  have hF : ∀ k i, True → M k i = M k i := fun _ _ _ => rfl
  have hG : ∀ k i, k ≠ 91 ∧ k ≠ 92 → L k i = L k i := fun _ _ _ => rfl
  have w0 : (vC M 0 0).toInt = (M 1 0).toInt := rfl
  have w1 : (vC M 0 1).toInt = (M 3 0).toInt := rfl
  have w2 : (vC M 0 2).toInt = (M 68 0).toInt := rfl
  have w3 : (vC M 0 3).toInt = (M 81 0).toInt := rfl
  obtain ⟨y0a, y0b⟩ := (show rg 0 10 (M 1 0) from hI 1 0 rfl)
  obtain ⟨y1a, y1b⟩ := (show rg 0 60 (M 3 0) from hI 3 0 rfl)
  obtain ⟨y2a, y2b⟩ := (show rg 0 8 (M 68 0) from hI 68 0 rfl)
  obtain ⟨y3a, y3b⟩ := (show rg 0 20 (M 81 0) from hI 81 0 rfl)
  have hI0 := hI
  obtain ⟨ma, mb⟩ := (show rg 0 40 (M 88 3) from (hI 88 3).1 rfl)
  have nm := ixn ma
  have n02 := ixn y0a
  have p91 : L 91 = L 91 := rfl
  have p92 : L 92 = L 92 := rfl
  refine g_aload_n C 0 dX5_tallyPlaces_0 rfl ?_
  refine g_get C (.ref (ad 88)) 0 in_X5_tallyPlaces_5 (List.mem_of_getElem? (i := 1) rfl) (by decide) (ce_plain ad cs _ _) rfl (by decide) rfl rfl dX5_tallyPlaces_1 ?_
  refine g_get C (.ref (ad 1)) 0 in_X5_tallyPlaces_6 (List.mem_of_getElem? (i := 2) rfl) (by decide) (ce_poll ad cs _ _) rfl (by decide) rfl rfl dX5_tallyPlaces_4 ?_
  refine g_get C (.int (M 1 0)) 0 in_X5_tallyPlaces_2 (List.mem_of_getElem? (i := 3) rfl) (by decide) (ce_cand ad cs _ _) rfl (by decide) rfl rfl dX5_tallyPlaces_7 ?_
  refine g_ni (fun v1 ev1 => ?_)
  have gv1 : v1 = vC M 0 0 := ev1
  have tv1 := congrArg Int32.toInt gv1
  obtain ⟨bv1, dv1⟩ := (show rg 0 10 v1 from (by rw [ev1]; exact hI 1 0 rfl))
  refine g_iconst C 1 dX5_tallyPlaces_10 (by decide) ?_
  refine g_isub C dX5_tallyPlaces_11 ?_
  refine g_ni (fun v2 ev2 => ?_)
  try have fv2 := fsub rfl (by decide : (1 : Int32).toInt = 1) ev2 (by omega) (by omega)
  refine g_istore_n C [(1, .int v2), (0, .ref (ad 93))] dX5_tallyPlaces_12 (by decide) rfl ?_
  refine g_iconst C 0 dX5_tallyPlaces_13 (by decide) ?_
  refine g_istore_n C [(2, .int 0), (1, .int v2), (0, .ref (ad 93))] dX5_tallyPlaces_14 (by decide) rfl ?_
  have zy3 : (0 : Int32).toInt = 0 := by decide
  refine g_loop (α := Int32 × MI × ML) (fun a => (41 - a.1.toInt).toNat) (fun a => (0 ≤ a.1.toInt) ∧ (a.1.toInt ≤ (M 88 3).toInt) ∧ (∀ c, c < 10 → a.2.2 91 c = foK (stP (vC M) (ptX (vC M) 1) (M 1 0).toNatClampNeg) (M 89) a.1.toNatClampNeg (fun _ => 0) c ∧ a.2.2 92 c = 1) ∧ IC a.2.1 ∧ (∀ k i, True → a.2.1 k i = M k i) ∧ (∀ k i, k ≠ 91 ∧ k ≠ 92 → a.2.2 k i = L k i)) (fun a => a.2.1) (fun a => a.2.2) (fun a => [(2, .int a.1), (1, .int v2), (0, .ref (ad 93))]) ((0 : Int32), M, L) ⟨by show 0 ≤ (0 : Int32).toInt; omega, by show (0 : Int32).toInt ≤ (M 88 3).toInt; omega, by show ∀ c, c < 10 → L 91 c = foK (stP (vC M) (ptX (vC M) 1) (M 1 0).toNatClampNeg) (M 89) (0 : Int32).toNatClampNeg (fun _ => 0) c ∧ L 92 c = 1; exact hct, hI, hF, hG⟩ rfl rfl rfl ?_
  rintro ⟨x2_15, M_15, L_15⟩ ⟨j15_0, j15_1, j15_2, hI, hF, hG⟩ ih_15
  dsimp only at j15_0 j15_1 j15_2 hI hF hG ih_15 ⊢
  have p91 : L_15 91 = L_15 91 := rfl
  have p92 : L_15 92 = L_15 92 := rfl
  have n2 := ixn (x := x2_15) (by omega)
  refine g_iload_n C 0 dX5_tallyPlaces_15 rfl ?_
  refine g_aload_n C 2 dX5_tallyPlaces_16 rfl ?_
  refine g_get C (.ref (ad 88)) 0 in_X5_tallyPlaces_5 (List.mem_of_getElem? (i := 1) rfl) (by decide) (ce_plain ad cs _ _) rfl (by decide) rfl rfl dX5_tallyPlaces_17 ?_
  refine g_get C (.int (M_15 88 3)) 3 in_X5_tallyPlaces_6 (List.mem_of_getElem? (i := 4) rfl) (by decide) (ce_poll ad cs _ _) rfl (by decide) rfl rfl dX5_tallyPlaces_20 ?_
  refine g_ni (fun v4 ev4 => ?_)
  have gv4 : v4 = M 88 3 := ev4.trans (hF 88 3 trivial)
  have tv4 := congrArg Int32.toInt gv4
  obtain ⟨bv4, dv4⟩ := (show rg 0 40 v4 from (by rw [ev4]; exact (hI 88 3).1 rfl))
  refine g_icmp_ge C 108 dX5_tallyPlaces_23 (by decide) (fun c5 => ?_) (fun c5 => ?_)
  ·
    have f6 := fle rfl rfl c5
    exact g_vret C hr ⟨(by have e9 : x2_15.toNatClampNeg = (M 88 3).toNatClampNeg := (by omega); rw [e9] at j15_2; exact j15_2), hI, hF, hG⟩ dX5_tallyPlaces_108
  ·
    have f7 := fnle rfl rfl c5
    refine g_aload_n C 2 dX5_tallyPlaces_26 rfl ?_
    refine g_get C (.ref (ad 88)) 0 in_X5_tallyPlaces_5 (List.mem_of_getElem? (i := 1) rfl) (by decide) (ce_plain ad cs _ _) rfl (by decide) rfl rfl dX5_tallyPlaces_27 ?_
    refine g_get C (.ref (ad 89)) 2 in_X5_tallyPlaces_6 (List.mem_of_getElem? (i := 5) rfl) (by decide) (ce_poll ad cs _ _) rfl (by decide) rfl rfl dX5_tallyPlaces_30 ?_
    refine g_iload_n C 0 dX5_tallyPlaces_33 rfl ?_
    have nx2_15 := ixn (x := x2_15) (by omega)
    refine g_iald C (by decide) (ce_plying ad cs _ _) (fin' (n := 40) rfl (by omega) (by omega)) dX5_tallyPlaces_34 ?_
    refine g_ni (fun v8 ev8 => ?_)
    have gv8 : v8 = M 89 x2_15.toNatClampNeg := ev8.trans (hF 89 x2_15.toNatClampNeg trivial)
    have tv8 := congrArg Int32.toInt gv8
    obtain ⟨bv8, dv8⟩ := (show rg 0 59 v8 from (by rw [ev8]; exact hI 89 x2_15.toNatClampNeg))
    have gv8 : v8 = M 89 x2_15.toNatClampNeg := gv8
    subst gv8
    refine g_istore_n C [(3, .int ((M 89 x2_15.toNatClampNeg))), (2, .int x2_15), (1, .int v2), (0, .ref (ad 93))] dX5_tallyPlaces_35 (by decide) rfl ?_
    obtain ⟨ly1, ly2⟩ := (show rg 0 59 (M 89 x2_15.toNatClampNeg) from hI0 89 _)
    have nly := ixn ly1
    obtain ⟨oa, ob⟩ := (show rg 0 10 (vC M 4 (M 89 x2_15.toNatClampNeg).toNatClampNeg) from hI0 6 _)
    have no := ixn oa
    have hl9 := hl4 (M 89 x2_15.toNatClampNeg).toNatClampNeg (by omega)
    refine g_iconst C 0 dX5_tallyPlaces_36 (by decide) ?_
    refine g_istore C [(4, .int 0), (3, .int ((M 89 x2_15.toNatClampNeg))), (2, .int x2_15), (1, .int v2), (0, .ref (ad 93))] dX5_tallyPlaces_37 (by decide) rfl ?_
    have zy9 : (0 : Int32).toInt = 0 := by decide
    refine g_loop (α := Int32 × MI × ML) (fun a => (11 - a.1.toInt).toNat) (fun a => (0 ≤ a.1.toInt) ∧ (a.1.toInt ≤ (vC M 4 (M 89 x2_15.toNatClampNeg).toNatClampNeg).toInt) ∧ (∀ c, c < 10 → a.2.2 91 c = (foK (stP (vC M) (ptX (vC M) 1) (M 1 0).toNatClampNeg) (M 89) x2_15.toNatClampNeg (fun _ => 0)) c + (vC M 3 (M 89 x2_15.toNatClampNeg).toNatClampNeg).toInt64 * (plcN (vC M) (M 89 x2_15.toNatClampNeg).toNatClampNeg c a.1.toNatClampNeg).toInt64 ∧ a.2.2 92 c = 1) ∧ IC a.2.1 ∧ (∀ k i, True → a.2.1 k i = M k i) ∧ (∀ k i, k ≠ 91 ∧ k ≠ 92 → a.2.2 k i = L k i)) (fun a => a.2.1) (fun a => a.2.2) (fun a => [(4, .int a.1), (3, .int ((M 89 x2_15.toNatClampNeg))), (2, .int x2_15), (1, .int v2), (0, .ref (ad 93))]) ((0 : Int32), M_15, L_15) ⟨by show 0 ≤ (0 : Int32).toInt; omega, by show (0 : Int32).toInt ≤ (vC M 4 (M 89 x2_15.toNatClampNeg).toNatClampNeg).toInt; omega, by show ∀ c, c < 10 → L_15 91 c = (foK (stP (vC M) (ptX (vC M) 1) (M 1 0).toNatClampNeg) (M 89) x2_15.toNatClampNeg (fun _ => 0)) c + (vC M 3 (M 89 x2_15.toNatClampNeg).toNatClampNeg).toInt64 * (plcN (vC M) (M 89 x2_15.toNatClampNeg).toNatClampNeg c (0 : Int32).toNatClampNeg).toInt64 ∧ L_15 92 c = 1; intro c hc; refine ⟨?_, (j15_2 c hc).2⟩; rw [show plcN (vC M) (M 89 x2_15.toNatClampNeg).toNatClampNeg c (0 : Int32).toNatClampNeg = 0 from plcN_0 hc (by decide) (fun j hj => absurd hj (by show ¬ j < 0; omega)), show (vC M 3 (M 89 x2_15.toNatClampNeg).toNatClampNeg).toInt64 * (0 : Int32).toInt64 = 0 from Int64.mul_zero, Int64.add_zero]; exact (j15_2 c hc).1, hI, hF, hG⟩ rfl rfl rfl ?_
    rintro ⟨x4_39, M_39, L_39⟩ ⟨j39_0, j39_1, j39_2, hI, hF, hG⟩ ih_39
    dsimp only at j39_0 j39_1 j39_2 hI hF hG ih_39 ⊢
    have p91 : L_39 91 = L_39 91 := rfl
    have p92 : L_39 92 = L_39 92 := rfl
    have n4 := ixn (x := x4_39) (by omega)
    refine g_iload C 0 dX5_tallyPlaces_39 rfl ?_
    refine g_aload_n C 4 dX5_tallyPlaces_41 rfl ?_
    refine g_get C (.ref (ad 88)) 0 in_X5_tallyPlaces_5 (List.mem_of_getElem? (i := 1) rfl) (by decide) (ce_plain ad cs _ _) rfl (by decide) rfl rfl dX5_tallyPlaces_42 ?_
    refine g_get C (.ref (ad 3)) 1 in_X5_tallyPlaces_6 (List.mem_of_getElem? (i := 6) rfl) (by decide) (ce_poll ad cs _ _) rfl (by decide) rfl rfl dX5_tallyPlaces_45 ?_
    refine g_get C (.ref (ad 6)) 3 in_X5_tallyPlaces_0 (List.mem_of_getElem? (i := 7) rfl) (by decide) (ce_ball ad cs _ _) rfl (by decide) rfl rfl dX5_tallyPlaces_48 ?_
    refine g_iload_n C 1 dX5_tallyPlaces_51 rfl ?_
    have n_M_89_x2_15_toNatClampNeg_ := ixn (x := (M 89 x2_15.toNatClampNeg)) (by omega)
    refine g_iald C (by decide) (ce_bonit ad cs _ _) (fin' (n := 60) rfl (by omega) (by omega)) dX5_tallyPlaces_52 ?_
    refine g_ni (fun v10 ev10 => ?_)
    have gv10 : v10 = vC M 4 (((M 89 x2_15.toNatClampNeg)).toNatClampNeg) := ev10.trans (hF 6 (((M 89 x2_15.toNatClampNeg)).toNatClampNeg) trivial)
    have tv10 := congrArg Int32.toInt gv10
    obtain ⟨bv10, dv10⟩ := (show rg 0 10 v10 from (by rw [ev10]; exact hI 6 (((M 89 x2_15.toNatClampNeg)).toNatClampNeg)))
    refine g_icmp_ge C 102 dX5_tallyPlaces_53 (by decide) (fun c11 => ?_) (fun c11 => ?_)
    ·
      have f12 := fle rfl rfl c11
      obtain ⟨v13, ev13⟩ : ∃ y : Int32, y = x2_15 + 1 := ⟨_, rfl⟩
      try have fv13 := fadd rfl (by decide : (1 : Int32).toInt = 1) ev13 (by omega) (by omega)
      refine g_iinc C 2 v13 [(2, .int v13), (4, .int x4_39), (3, .int ((M 89 x2_15.toNatClampNeg))), (1, .int v2), (0, .ref (ad 93))] dX5_tallyPlaces_102 rfl (by rw [ev13]; rfl) (by decide) rfl ?_
      refine g_goto C 15 dX5_tallyPlaces_105 (by decide) ?_
      refine g_lv [0, 3, 4] [(2, .int v13), (1, .int v2), (0, .ref (ad 93))] rfl ?_
      have nv := ixn (x := v13) (by omega)
      have iv : v13.toNatClampNeg = x2_15.toNatClampNeg + 1 := by omega
      have e39 : x4_39.toNatClampNeg = (vC M 4 (M 89 x2_15.toNatClampNeg).toNatClampNeg).toNatClampNeg := by omega
      rw [e39] at j39_2
      have ar8 : ∀ c, c < 10 → L_39 91 c = foK (stP (vC M) (ptX (vC M) 1) (M 1 0).toNatClampNeg) (M 89) (x2_15.toNatClampNeg + 1) (fun _ => 0) c ∧ L_39 92 c = 1 := by
        intro c hc
        refine ⟨?_, (j39_2 c hc).2⟩
        rw [(j39_2 c hc).1, plcN_V]
        show _ = (if c < (M 1 0).toNatClampNeg then (foK (stP (vC M) (ptX (vC M) 1) (M 1 0).toNatClampNeg) (M 89) x2_15.toNatClampNeg (fun _ => 0)) c + (vC M 3 (M 89 x2_15.toNatClampNeg).toNatClampNeg).toInt64 * (ptX (vC M) 1 (M 89 x2_15.toNatClampNeg).toNatClampNeg c).toInt64 else (foK (stP (vC M) (ptX (vC M) 1) (M 1 0).toNatClampNeg) (M 89) x2_15.toNatClampNeg (fun _ => 0)) c)
        have ep : ptX (vC M) 1 = plcV (vC M) := if_neg (by decide)
        rw [ep]
        by_cases e8 : c < (M 1 0).toNatClampNeg
        · rw [if_pos e8]
        · have z9 : plcV (vC M) (M 89 x2_15.toNatClampNeg).toNatClampNeg c = 0 := by rw [← plcN_V]; exact plcN_0 (by omega) (by omega) (fun j hj => by have := hA3 (M 89 x2_15.toNatClampNeg).toNatClampNeg (by omega) j (by omega); omega)
          rw [if_neg e8, z9, show (vC M 3 (M 89 x2_15.toNatClampNeg).toNatClampNeg).toInt64 * (0 : Int32).toInt64 = 0 from Int64.mul_zero, Int64.add_zero]
      exact ih_15 (v13, M_39, L_39) ⟨by show 0 ≤ v13.toInt; omega, by show v13.toInt ≤ (M 88 3).toInt; omega, by show ∀ c, c < 10 → L_39 91 c = foK (stP (vC M) (ptX (vC M) 1) (M 1 0).toNatClampNeg) (M 89) v13.toNatClampNeg (fun _ => 0) c ∧ L_39 92 c = 1; rw [iv]; exact ar8, hI, hF, hG⟩ (by show (41 - v13.toInt).toNat < (41 - x2_15.toInt).toNat; omega)
    ·
      have f14 := fnle rfl rfl c11
      refine g_aload_n C 4 dX5_tallyPlaces_56 rfl ?_
      refine g_get C (.ref (ad 88)) 0 in_X5_tallyPlaces_5 (List.mem_of_getElem? (i := 1) rfl) (by decide) (ce_plain ad cs _ _) rfl (by decide) rfl rfl dX5_tallyPlaces_57 ?_
      refine g_get C (.ref (ad 91)) 6 in_X5_tallyPlaces_6 (List.mem_of_getElem? (i := 8) rfl) (by decide) (ce_poll ad cs _ _) rfl (by decide) rfl rfl dX5_tallyPlaces_60 ?_
      refine g_aload_n C 4 dX5_tallyPlaces_63 rfl ?_
      refine g_get C (.ref (ad 88)) 0 in_X5_tallyPlaces_5 (List.mem_of_getElem? (i := 1) rfl) (by decide) (ce_plain ad cs _ _) rfl (by decide) rfl rfl dX5_tallyPlaces_64 ?_
      refine g_get C (.ref (ad 3)) 1 in_X5_tallyPlaces_6 (List.mem_of_getElem? (i := 6) rfl) (by decide) (ce_poll ad cs _ _) rfl (by decide) rfl rfl dX5_tallyPlaces_67 ?_
      refine g_get C (.ref (ad 7)) 4 in_X5_tallyPlaces_0 (List.mem_of_getElem? (i := 9) rfl) (by decide) (ce_ball ad cs _ _) rfl (by decide) rfl rfl dX5_tallyPlaces_70 ?_
      refine g_iload_n C 1 dX5_tallyPlaces_73 rfl ?_
      have hi15 : vp_in (M 89 x2_15.toNatClampNeg) 60 := (fin' (n := 60) rfl (by omega) (by omega))
      have nhi15 := tn hi15
      have mhi15 := ixn (x := (M 89 x2_15.toNatClampNeg)) (by omega)
      refine g_aald C (by decide) (ce_browm ad cs _ _) rfl hi15 dX5_tallyPlaces_74 ?_
      refine g_iload C 0 dX5_tallyPlaces_75 rfl ?_
      have nx4_39 := ixn (x := x4_39) (by omega)
      refine g_iald C (by omega) (ce_brow ad cs _ _ nhi15) (fin' (n := 10) rfl (by omega) (by omega)) dX5_tallyPlaces_77 ?_
      refine g_ni (fun v16 ev16 => ?_)
      have gv16 := ev16.trans (hF (8 + ((M 89 x2_15.toNatClampNeg)).toNatClampNeg) x4_39.toNatClampNeg trivial)
      have gv16 := gv16.trans (vC5 (M := M) (by omega) (by omega)).symm
      have tv16 := congrArg Int32.toInt gv16
      obtain ⟨bv16, dv16⟩ := (show rg 0 9 v16 from (by rw [ev16]; exact hI.row _ (by omega) (by omega)))
      have hmk9 := hA3 (M 89 x2_15.toNatClampNeg).toNatClampNeg (by omega) x4_39.toNatClampNeg (by omega)
      have nmk := ixn (x := v16) (by omega)
      have hc39 := j39_2 v16.toNatClampNeg (by omega)
      refine g_dup2 C dX5_tallyPlaces_78 rfl rfl ?_
      have nv16 := ixn (x := v16) (by omega)
      refine g_lald C (by decide) (ce_pupper ad cs _ _) (fin' (n := 10) rfl (by omega) (by omega)) dX5_tallyPlaces_79 ?_
      refine g_nl (fun v17 ev17 => ?_)
      have gv17 : v17 = L_39 91 v16.toNatClampNeg := ev17.trans (congrFun p91 _)
      have tv17 := congrArg Int64.toInt gv17
      refine g_aload_n C 4 dX5_tallyPlaces_80 rfl ?_
      refine g_get C (.ref (ad 88)) 0 in_X5_tallyPlaces_5 (List.mem_of_getElem? (i := 1) rfl) (by decide) (ce_plain ad cs _ _) rfl (by decide) rfl rfl dX5_tallyPlaces_81 ?_
      refine g_iload_n C 2 dX5_tallyPlaces_84 rfl ?_
      refine g_callVi C (n := 1) (As := [.int x2_15]) (st := [.long v17, .int v16, .ref (ad 91)]) (k_X6_papersOf l D ad cs _ _ x2_15 hI ⟨by omega, by omega⟩) gX5_tallyPlaces_X6_papersOf rfl rfl rfl (by decide +kernel) ⟨Nat.le_of_ble_eq_true rfl, Nat.le_of_ble_eq_true rfl⟩ rfl (Nat.le_of_ble_eq_true rfl) ⟨Nat.zero_le _, Nat.zero_le _⟩ (by decide) (ce_poll ad cs _ _) rfl rfl dX5_tallyPlaces_85 (fun r18 M19 L20 hr18 => ?_)
      obtain ⟨hq1, hq2, hr18⟩ := hr18
      obtain rfl := hq1.symm
      obtain rfl := hq2.symm
      have eM : M_39 = M := funext (fun k => funext (fun i => hF k i trivial))
      rw [eM] at hr18
      refine g_iload_n C 3 dX5_tallyPlaces_88 rfl ?_
      refine g_iload C 0 dX5_tallyPlaces_89 rfl ?_
      refine g_isub C dX5_tallyPlaces_91 ?_
      refine g_ni (fun v21 ev21 => ?_)
      try have fv21 := fsub rfl rfl ev21 (by omega) (by omega)
      refine g_imul C dX5_tallyPlaces_92 ?_
      refine g_ni (fun v22 ev22 => ?_)
      try have fv22 := fmul rfl rfl ev22 (by omega) (by omega)
      refine g_i2l C dX5_tallyPlaces_93 ?_
      refine g_nl (fun v23 ev23 => ?_)
      have fv23 := fi2l rfl ev23
      refine g_ladd C dX5_tallyPlaces_94 ?_
      refine g_nl (fun v24 ev24 => ?_)
      try have fv24 := fladd rfl rfl ev24 (by omega) (by omega)
      have nv16 := ixn (x := v16) (by omega)
      refine g_last C (by decide) (ce_pupper ad cs _ _) (by rw [sJ_k]; rfl) (fin' (n := 10) rfl (by omega) (by omega)) dX5_tallyPlaces_95 ?_
      refine g_nmL (fun L25 hL25 => ?_)
      have hG : ∀ k i, k ≠ 91 ∧ k ≠ 92 → L25 k i = L k i := fun k i hk => by (rw [hL25, sJ_at, if_neg (by omega)]; try exact hG k i hk)
      have p92 : L25 92 = L_39 92 := by rw [hL25, sJ_n _ _ _ (by decide)]; try exact p92
      obtain ⟨v26, ev26⟩ : ∃ y : Int32, y = x4_39 + 1 := ⟨_, rfl⟩
      try have fv26 := fadd rfl (by decide : (1 : Int32).toInt = 1) ev26 (by omega) (by omega)
      refine g_iinc C 0 v26 [(4, .int v26), (3, .int ((M 89 x2_15.toNatClampNeg))), (2, .int x2_15), (1, .int v2), (0, .ref (ad 93))] dX5_tallyPlaces_96 rfl (by rw [ev26]; rfl) (by decide) rfl ?_
      refine g_goto C 39 dX5_tallyPlaces_99 (by decide) ?_
      have nv := ixn (x := v26) (by omega)
      have iv : v26.toNatClampNeg = x4_39.toNatClampNeg + 1 := by omega
      have hds : ∀ j, j < x4_39.toNatClampNeg → (vC M 5 (10 * (M 89 x2_15.toNatClampNeg).toNatClampNeg + j)).toInt ≠ (vC M 5 (10 * (M 89 x2_15.toNatClampNeg).toNatClampNeg + x4_39.toNatClampNeg)).toInt := fun j hj => hdis (M 89 x2_15.toNatClampNeg).toNatClampNeg (by omega) j x4_39.toNatClampNeg hj (by omega)
      have em9 : (vC M 5 (10 * (M 89 x2_15.toNatClampNeg).toNatClampNeg + x4_39.toNatClampNeg)).toInt = (v16.toNatClampNeg : Int) := by omega
      have f1 := fsub (x := vC M 0 0) (y := 1) rfl (by decide : (1 : Int32).toInt = 1) rfl (by omega) (by omega)
      have f2 := fsub (x := vC M 0 0 - 1) (y := x4_39) f1 rfl rfl (by omega) (by omega)
      have hm9 := m32_64 (hP3 (M 89 x2_15.toNatClampNeg).toNatClampNeg) (b := vC M 0 0 - 1 - x4_39) (by omega)
      have ar9 : ∀ c, c < 10 → L25 91 c = (foK (stP (vC M) (ptX (vC M) 1) (M 1 0).toNatClampNeg) (M 89) x2_15.toNatClampNeg (fun _ => 0)) c + (vC M 3 (M 89 x2_15.toNatClampNeg).toNatClampNeg).toInt64 * (plcN (vC M) (M 89 x2_15.toNatClampNeg).toNatClampNeg c (x4_39.toNatClampNeg + 1)).toInt64 ∧ L25 92 c = 1 := by
        intro c hc
        refine ⟨?_, by rw [congrFun p92 c]; exact (j39_2 c hc).2⟩
        rw [hL25, sJ_at, plcN_s hc (by omega) hds]
        by_cases e9 : c = v16.toNatClampNeg
        · have z9 : plcN (vC M) (M 89 x2_15.toNatClampNeg).toNatClampNeg c x4_39.toNatClampNeg = 0 := plcN_0 hc (by omega) (fun j hj => by have := hds j hj; omega)
          have o9 := (j39_2 c hc).1
          rw [z9, show (vC M 3 (M 89 x2_15.toNatClampNeg).toNatClampNeg).toInt64 * (0 : Int32).toInt64 = 0 from Int64.mul_zero, Int64.add_zero] at o9
          rw [if_pos ⟨rfl, e9⟩, if_pos (by omega), of_ix (x := x4_39) (by omega), ← o9, ← hm9, e9]; simp only [ev24, ev23, ev22, ev21, hr18, gv17, gv16, gv10, gv4, ev2, gv1]
        · rw [if_neg (fun h => e9 h.2), if_neg (by omega)]; exact (j39_2 c hc).1
      exact ih_39 (v26, M_39, L25) ⟨by show 0 ≤ v26.toInt; omega, by show v26.toInt ≤ (vC M 4 (M 89 x2_15.toNatClampNeg).toNatClampNeg).toInt; omega, by show ∀ c, c < 10 → L25 91 c = (foK (stP (vC M) (ptX (vC M) 1) (M 1 0).toNatClampNeg) (M 89) x2_15.toNatClampNeg (fun _ => 0)) c + (vC M 3 (M 89 x2_15.toNatClampNeg).toNatClampNeg).toInt64 * (plcN (vC M) (M 89 x2_15.toNatClampNeg).toNatClampNeg c v26.toNatClampNeg).toInt64 ∧ L25 92 c = 1; rw [iv]; exact ar9, hI, hF, hG⟩ (by show (11 - v26.toInt).toNat < (11 - x4_39.toInt).toNat; omega)
