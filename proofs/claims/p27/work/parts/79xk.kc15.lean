set_option maxHeartbeats 4000000 in
set_option maxRecDepth 100000 in
theorem k_X8_passOn (l : Launch) (D : va_G) (ad : Nat → Nat) (cs : Nat → ClassId) (M : MI) (L : ML) (x : Int32) (y : Int64) (hI : IC M) {I0 : Nat → Int32} (hx : 0 ≤ x.toInt ∧ x.toInt < 10) (hq : 1 ≤ y.toInt ∧ y.toInt ≤ 4000001) (hW : WTc L (M 88 3).toNatClampNeg) (hk : okF (L 91 x.toNatClampNeg) (L 92 x.toNatClampNeg)) (hge : y.toInt * (L 92 x.toNatClampNeg).toInt ≤ (L 91 x.toNatClampNeg).toInt) (hown : ∀ k9 : Nat, k9 < (M 88 3).toNatClampNeg → M 123 k9 = fiV (vC M) I0 (M 89 k9).toNatClampNeg) : Ci l yX8_passOn wsX8_passOn ({ frames := 2, cells := 0, slots := 0, locals := 55 }) D ad cs [.ref (ad 120), .int x, .long y] M L (fun r M1 L1 => (zo r (lg2 (L 91 x.toNatClampNeg) (L 92 x.toNatClampNeg) y ∧ (lgW (vC M) I0 x (L 91 x.toNatClampNeg) (L 92 x.toNatClampNeg) y (M 89) (L 121) (L 122) (M 88 3).toNatClampNeg).2.2 = true) ∧ (lg2 (L 91 x.toNatClampNeg) (L 92 x.toNatClampNeg) y → (lgW (vC M) I0 x (L 91 x.toNatClampNeg) (L 92 x.toNatClampNeg) y (M 89) (L 121) (L 122) (M 88 3).toNatClampNeg).2.2 = true → L1 121 = (lgW (vC M) I0 x (L 91 x.toNatClampNeg) (L 92 x.toNatClampNeg) y (M 89) (L 121) (L 122) (M 88 3).toNatClampNeg).1 ∧ L1 122 = (lgW (vC M) I0 x (L 91 x.toNatClampNeg) (L 92 x.toNatClampNeg) y (M 89) (L 121) (L 122) (M 88 3).toNatClampNeg).2.1 ∧ WTc L1 (M 88 3).toNatClampNeg)) ∧ IC M1 ∧ (∀ k i, True → M1 k i = M k i) ∧ ∀ k i, k ≠ 121 ∧ k ≠ 122 ∧ ¬ (k = 124 ∧ i = 0) ∧ ¬ (k = 124 ∧ i = 1) → L1 k i = L k i) := by
  refine enter_i RX8 rfl [(0, .ref (ad 120)), (1, .int x), (2, .long y)] rfl (Nat.le_of_ble_eq_true rfl) (by decide +kernel) rfl ?_
  intro p e s m below meth c C hr
  have hF : ∀ k i, True → M k i = M k i := fun _ _ _ => rfl
  have hG : ∀ k i, k ≠ 121 ∧ k ≠ 122 ∧ ¬ (k = 124 ∧ i = 0) ∧ ¬ (k = 124 ∧ i = 1) → L k i = L k i := fun _ _ _ => rfl
  have w0 : (vC M 0 0).toInt = (M 1 0).toInt := rfl
  have w1 : (vC M 0 1).toInt = (M 3 0).toInt := rfl
  have w2 : (vC M 0 2).toInt = (M 68 0).toInt := rfl
  have w3 : (vC M 0 3).toInt = (M 81 0).toInt := rfl
  obtain ⟨y0a, y0b⟩ := (show rg 0 10 (M 1 0) from hI 1 0 rfl)
  obtain ⟨y1a, y1b⟩ := (show rg 0 60 (M 3 0) from hI 3 0 rfl)
  obtain ⟨y2a, y2b⟩ := (show rg 0 8 (M 68 0) from hI 68 0 rfl)
  obtain ⟨y3a, y3b⟩ := (show rg 0 20 (M 81 0) from hI 81 0 rfl)
  have hI0 := hI
  obtain ⟨hx1, hx2⟩ := hx
  obtain ⟨hq1, hq2⟩ := hq
  have hk0 := hk
  unfold okF at hk
  obtain ⟨hk1, hk2, hk3, hk4⟩ := hk
  have nxx := ixn (x := x) hx1
  have hyd1 := mul_le9 (a := y.toInt) (b := (L 92 x.toNatClampNeg).toInt) (by omega) (by omega) (by omega) (by omega)
  have hyd2 := mul_pos9 (a := y.toInt) (b := (L 92 x.toNatClampNeg).toInt) (by omega) (by omega)
  obtain ⟨ma, mb⟩ := (show rg 0 40 (M 88 3) from (hI 88 3).1 rfl)
  have nm := ixn ma
  have l124_0 : L 124 0 = L 124 0 := rfl
  have l124_1 : L 124 1 = L 124 1 := rfl
  have p121 : L 121 = L 121 := rfl
  have p122 : L 122 = L 122 := rfl
  refine g_aload_n C 0 dX8_passOn_0 rfl ?_
  refine g_get C (.ref (ad 88)) 0 in_X8_passOn_8 (List.mem_of_getElem? (i := 1) rfl) (by decide) (ce_trans ad cs _ _) rfl (by decide) rfl rfl dX8_passOn_1 ?_
  refine g_get C (.ref (ad 91)) 6 in_X8_passOn_6 (List.mem_of_getElem? (i := 2) rfl) (by decide) (ce_poll ad cs _ _) rfl (by decide) rfl rfl dX8_passOn_4 ?_
  refine g_iload_n C 1 dX8_passOn_7 rfl ?_
  have nx := ixn (x := x) (by omega)
  refine g_lald C (by decide) (ce_pupper ad cs _ _) (fin' (n := 10) rfl (by omega) (by omega)) dX8_passOn_8 ?_
  refine g_nl (fun v1 ev1 => ?_)
  have gv1 : v1 = L 91 x.toNatClampNeg := ev1
  have tv1 := congrArg Int64.toInt gv1
  refine g_lstore C [(4, .long v1), (0, .ref (ad 120)), (1, .int x), (2, .long y)] dX8_passOn_9 (by decide) rfl ?_
  refine g_aload_n C 1 dX8_passOn_11 rfl ?_
  refine g_get C (.ref (ad 88)) 0 in_X8_passOn_8 (List.mem_of_getElem? (i := 1) rfl) (by decide) (ce_trans ad cs _ _) rfl (by decide) rfl rfl dX8_passOn_12 ?_
  refine g_get C (.ref (ad 92)) 7 in_X8_passOn_6 (List.mem_of_getElem? (i := 3) rfl) (by decide) (ce_poll ad cs _ _) rfl (by decide) rfl rfl dX8_passOn_15 ?_
  refine g_iload_n C 2 dX8_passOn_18 rfl ?_
  have nx := ixn (x := x) (by omega)
  refine g_lald C (by decide) (ce_plower ad cs _ _) (fin' (n := 10) rfl (by omega) (by omega)) dX8_passOn_19 ?_
  refine g_nl (fun v2 ev2 => ?_)
  have gv2 : v2 = L 92 x.toNatClampNeg := ev2
  have tv2 := congrArg Int64.toInt gv2
  refine g_lstore C [(6, .long v2), (4, .long v1), (0, .ref (ad 120)), (1, .int x), (2, .long y)] dX8_passOn_20 (by decide) rfl ?_
  refine g_aload_n C 2 dX8_passOn_22 rfl ?_
  refine g_get C (.ref (ad 124)) 4 in_X8_passOn_8 (List.mem_of_getElem? (i := 4) rfl) (by decide) (ce_trans ad cs _ _) rfl (by decide) rfl rfl dX8_passOn_23 ?_
  refine g_lload C 1 dX8_passOn_26 rfl ?_
  refine g_lload_n C 4 dX8_passOn_28 rfl ?_
  refine g_lload C 0 dX8_passOn_29 rfl ?_
  refine g_lmul C dX8_passOn_31 ?_
  refine g_nl (fun v3 ev3 => ?_)
  try have fv3 := prodI ev3
  rw [show v2.toInt = (L 92 x.toNatClampNeg).toInt by omega, bmod_id (by omega) (by omega)] at fv3
  refine g_lsub C dX8_passOn_32 ?_
  refine g_nl (fun v4 ev4 => ?_)
  try have fv4 := flsub rfl rfl ev4 (by omega) (by omega)
  refine g_lload C 0 dX8_passOn_33 rfl ?_
  have eA9 : v4 = (L 91 x.toNatClampNeg) - y * (L 92 x.toNatClampNeg) := by simp only [ev4, ev3, gv2, gv1]
  have eB9 : v2 = (L 92 x.toNatClampNeg) := by simp only [ev4, ev3, gv2, gv1]
  refine g_callVv C (n := 2) (As := [.long v4, .long v2]) (st := []) (k_X3_become l D ad cs _ _ v4 v2 hI (by omega) (by omega)) gX8_passOn_X3_become rfl rfl rfl (by decide +kernel) ⟨Nat.le_of_ble_eq_true rfl, Nat.le_of_ble_eq_true rfl⟩ rfl (Nat.le_of_ble_eq_true rfl) ⟨Nat.zero_le _, Nat.zero_le _⟩ (by decide) (ce_frac ad cs _ _) rfl rfl dX8_passOn_35 (fun M6 L7 hr5 => ?_)
  obtain ⟨hr5, hI, hFr5, hGr5⟩ := hr5
  have hF : ∀ k i, True → M6 k i = M k i := fun k i hk => by (rw [hFr5 k i trivial]; try exact hF k i hk)
  have hG : ∀ k i, k ≠ 121 ∧ k ≠ 122 ∧ ¬ (k = 124 ∧ i = 0) ∧ ¬ (k = 124 ∧ i = 1) → L7 k i = L k i := fun k i hk => by (rw [hGr5 k i (by omega)]; try exact hG k i hk)
  have l124_0 : L7 124 0 = L7 124 0 := rfl
  have l124_1 : L7 124 1 = L7 124 1 := rfl
  have p121 : L7 121 = L 121 := (funext (fun i => hGr5 121 i (by omega))).trans p121
  have p122 : L7 122 = L 122 := (funext (fun i => hGr5 122 i (by omega))).trans p122
  obtain ⟨bu, bd⟩ := hr5
  rw [eA9, eB9] at bu bd
  have bu : L7 124 0 = lgU (L 91 x.toNatClampNeg) (L 92 x.toNatClampNeg) y := bu
  have bd : L7 124 1 = lgV (L 91 x.toNatClampNeg) (L 92 x.toNatClampNeg) y := bd
  have lu9 : 0 ≤ (lgU (L 91 x.toNatClampNeg) (L 92 x.toNatClampNeg) y).toInt := by show 0 ≤ (frU ((L 91 x.toNatClampNeg) - y * (L 92 x.toNatClampNeg)) (L 92 x.toNatClampNeg)).toInt; rw [← eA9, ← eB9, frU_i (by omega) (by omega)]; exact Int.ediv_nonneg (by omega) (by have := frG_pos (x := v4) (y := v2) (by omega); omega)
  have lv9 : 1 ≤ (lgV (L 91 x.toNatClampNeg) (L 92 x.toNatClampNeg) y).toInt := by show 1 ≤ (frD ((L 91 x.toNatClampNeg) - y * (L 92 x.toNatClampNeg)) (L 92 x.toNatClampNeg)).toInt; rw [← eA9, ← eB9]; exact (frD_i (by omega)).2
  refine g_aload_n C 2 dX8_passOn_38 rfl ?_
  refine g_get C (.ref (ad 124)) 4 in_X8_passOn_8 (List.mem_of_getElem? (i := 4) rfl) (by decide) (ce_trans ad cs _ _) rfl (by decide) rfl rfl dX8_passOn_39 ?_
  refine g_callVi C (n := 0) (As := []) (st := []) (k_X3_fits l D ad cs _ _  hI ) gX8_passOn_X3_fits rfl rfl rfl (by decide +kernel) ⟨Nat.le_of_ble_eq_true rfl, Nat.le_of_ble_eq_true rfl⟩ rfl (Nat.le_of_ble_eq_true rfl) ⟨Nat.zero_le _, Nat.zero_le _⟩ (by decide) (ce_frac ad cs _ _) rfl rfl dX8_passOn_42 (fun r8 M9 L10 hr8 => ?_)
  obtain ⟨hq1, hq2, hr8⟩ := hr8
  obtain rfl := hq1.symm
  obtain rfl := hq2.symm
  rw [bu, bd] at hr8
  obtain ⟨bar8, bbr8⟩ := zo_b hr8
  refine g_if_ne C 50 dX8_passOn_45 (by decide) (fun c11 => ?_) (fun c11 => ?_)
  ·
    have f12 := fne rfl (by decide : (0 : Int32).toInt = 0) c11
    have hf1 := zo_t hr8 c11
    refine g_aload_n C 2 dX8_passOn_50 rfl ?_
    refine g_get C (.ref (ad 124)) 4 in_X8_passOn_8 (List.mem_of_getElem? (i := 4) rfl) (by decide) (ce_trans ad cs _ _) rfl (by decide) rfl rfl dX8_passOn_51 ?_
    refine g_lload C 0 dX8_passOn_54 rfl ?_
    refine g_lload C 1 dX8_passOn_56 rfl ?_
    have hm9 := lg_mul (u := (L 91 x.toNatClampNeg)) (d := (L 92 x.toNatClampNeg)) (q := y) ⟨by omega, by omega⟩ ⟨by omega, by omega⟩ hf1 lu9 lv9
    refine g_callVv C (n := 2) (As := [.long v2, .long v1]) (st := []) (k_X3_multiply l D ad cs _ _ v2 v1 hI (by rw [bu, gv2]; exact hm9.1) (by rw [bd, gv1]; exact hm9.2)) gX8_passOn_X3_multiply rfl rfl rfl (by decide +kernel) ⟨Nat.le_of_ble_eq_true rfl, Nat.le_of_ble_eq_true rfl⟩ rfl (Nat.le_of_ble_eq_true rfl) ⟨Nat.zero_le _, Nat.zero_le _⟩ (by decide) (ce_frac ad cs _ _) rfl rfl dX8_passOn_58 (fun M14 L15 hr13 => ?_)
    obtain ⟨hr13, hI, hFr13, hGr13⟩ := hr13
    have hF : ∀ k i, True → M14 k i = M k i := fun k i hk => by (rw [hFr13 k i trivial]; try exact hF k i hk)
    have hG : ∀ k i, k ≠ 121 ∧ k ≠ 122 ∧ ¬ (k = 124 ∧ i = 0) ∧ ¬ (k = 124 ∧ i = 1) → L15 k i = L k i := fun k i hk => by (rw [hGr13 k i (by omega)]; try exact hG k i hk)
    have l124_0 : L15 124 0 = L15 124 0 := rfl
    have l124_1 : L15 124 1 = L15 124 1 := rfl
    have p121 : L15 121 = L 121 := (funext (fun i => hGr13 121 i (by omega))).trans p121
    have p122 : L15 122 = L 122 := (funext (fun i => hGr13 122 i (by omega))).trans p122
    obtain ⟨mu, md⟩ := hr13
    rw [bu, bd, gv2, gv1] at mu md
    have mu : L15 124 0 = lgA (L 91 x.toNatClampNeg) (L 92 x.toNatClampNeg) y := mu
    have md : L15 124 1 = lgB (L 91 x.toNatClampNeg) (L 92 x.toNatClampNeg) y := md
    refine g_aload_n C 2 dX8_passOn_61 rfl ?_
    refine g_get C (.ref (ad 124)) 4 in_X8_passOn_8 (List.mem_of_getElem? (i := 4) rfl) (by decide) (ce_trans ad cs _ _) rfl (by decide) rfl rfl dX8_passOn_62 ?_
    refine g_callVi C (n := 0) (As := []) (st := []) (k_X3_fits l D ad cs _ _  hI ) gX8_passOn_X3_fits rfl rfl rfl (by decide +kernel) ⟨Nat.le_of_ble_eq_true rfl, Nat.le_of_ble_eq_true rfl⟩ rfl (Nat.le_of_ble_eq_true rfl) ⟨Nat.zero_le _, Nat.zero_le _⟩ (by decide) (ce_frac ad cs _ _) rfl rfl dX8_passOn_65 (fun r16 M17 L18 hr16 => ?_)
    obtain ⟨hq1, hq2, hr16⟩ := hr16
    obtain rfl := hq1.symm
    obtain rfl := hq2.symm
    rw [mu, md] at hr16
    obtain ⟨bar16, bbr16⟩ := zo_b hr16
    refine g_if_ne C 73 dX8_passOn_68 (by decide) (fun c19 => ?_) (fun c19 => ?_)
    ·
      have f20 := fne rfl (by decide : (0 : Int32).toInt = 0) c19
      have hf2 := zo_t hr16 c19
      have hl2 : lg2 (L 91 x.toNatClampNeg) (L 92 x.toNatClampNeg) y := ⟨hf1, hf2⟩
      have lab := lgAB (u := (L 91 x.toNatClampNeg)) (d := (L 92 x.toNatClampNeg)) (q := y) ⟨by omega, by omega⟩ ⟨by omega, by omega⟩ (by omega) hf1 lu9 lv9
      refine g_aload_n C 2 dX8_passOn_73 rfl ?_
      refine g_get C (.ref (ad 124)) 4 in_X8_passOn_8 (List.mem_of_getElem? (i := 4) rfl) (by decide) (ce_trans ad cs _ _) rfl (by decide) rfl rfl dX8_passOn_74 ?_
      refine g_get C (.long (L15 124 0)) 0 in_X8_passOn_3 (List.mem_of_getElem? (i := 5) rfl) (by decide) (ce_frac ad cs _ _) rfl (by decide) rfl rfl dX8_passOn_77 ?_
      refine g_nl (fun v21 ev21 => ?_)
      have gv21 : v21 = L15 124 0 := ev21.trans l124_0
      have tv21 := congrArg Int64.toInt gv21
      refine g_lstore C [(8, .long v21), (6, .long v2), (4, .long v1), (0, .ref (ad 120)), (1, .int x), (2, .long y)] dX8_passOn_80 (by decide) rfl ?_
      refine g_aload_n C 3 dX8_passOn_82 rfl ?_
      refine g_get C (.ref (ad 124)) 4 in_X8_passOn_8 (List.mem_of_getElem? (i := 4) rfl) (by decide) (ce_trans ad cs _ _) rfl (by decide) rfl rfl dX8_passOn_83 ?_
      refine g_get C (.long (L15 124 1)) 1 in_X8_passOn_3 (List.mem_of_getElem? (i := 6) rfl) (by decide) (ce_frac ad cs _ _) rfl (by decide) rfl rfl dX8_passOn_86 ?_
      refine g_nl (fun v22 ev22 => ?_)
      have gv22 : v22 = L15 124 1 := ev22.trans l124_1
      have tv22 := congrArg Int64.toInt gv22
      refine g_lstore C [(10, .long v22), (8, .long v21), (6, .long v2), (4, .long v1), (0, .ref (ad 120)), (1, .int x), (2, .long y)] dX8_passOn_89 (by decide) rfl ?_
      refine g_iconst C 1 dX8_passOn_91 (by decide) ?_
      refine g_istore C [(12, .int 1), (10, .long v22), (8, .long v21), (6, .long v2), (4, .long v1), (0, .ref (ad 120)), (1, .int x), (2, .long y)] dX8_passOn_92 (by decide) rfl ?_
      refine g_iconst C 0 dX8_passOn_94 (by decide) ?_
      refine g_istore C [(13, .int 0), (12, .int 1), (10, .long v22), (8, .long v21), (6, .long v2), (4, .long v1), (0, .ref (ad 120)), (1, .int x), (2, .long y)] dX8_passOn_95 (by decide) rfl ?_
      have zy23 : (0 : Int32).toInt = 0 := by decide
      have zy24 : (1 : Int32).toInt = 1 := by decide
      have ta9 : v21 = lgA (L 91 x.toNatClampNeg) (L 92 x.toNatClampNeg) y := by rw [gv21, mu]
      have tb9 : v22 = lgB (L 91 x.toNatClampNeg) (L 92 x.toNatClampNeg) y := by rw [gv22, md]
      have w0 : L15 121 = L 121 ∧ L15 122 = L 122 ∧ WTc L15 (M 88 3).toNatClampNeg := ⟨p121, p122, fun i hi => by rw [p121, p122]; exact hW i hi⟩
      refine g_loop (α := Int32 × Int32 × MI × ML) (fun a => (41 - a.1.toInt).toNat) (fun a => (0 ≤ a.1.toInt) ∧ (a.1.toInt ≤ (M 88 3).toInt) ∧ (0 ≤ a.2.1.toInt ∧ a.2.1.toInt ≤ 1) ∧ (¬ a.2.1.toInt = 0 ↔ (lgW (vC M) I0 x (L 91 x.toNatClampNeg) (L 92 x.toNatClampNeg) y (M 89) (L 121) (L 122) a.1.toNatClampNeg).2.2 = true) ∧ ((lgW (vC M) I0 x (L 91 x.toNatClampNeg) (L 92 x.toNatClampNeg) y (M 89) (L 121) (L 122) a.1.toNatClampNeg).2.2 = true → a.2.2.2 121 = (lgW (vC M) I0 x (L 91 x.toNatClampNeg) (L 92 x.toNatClampNeg) y (M 89) (L 121) (L 122) a.1.toNatClampNeg).1 ∧ a.2.2.2 122 = (lgW (vC M) I0 x (L 91 x.toNatClampNeg) (L 92 x.toNatClampNeg) y (M 89) (L 121) (L 122) a.1.toNatClampNeg).2.1 ∧ WTc a.2.2.2 (M 88 3).toNatClampNeg) ∧ IC a.2.2.1 ∧ (∀ k i, True → a.2.2.1 k i = M k i) ∧ (∀ k i, k ≠ 121 ∧ k ≠ 122 ∧ ¬ (k = 124 ∧ i = 0) ∧ ¬ (k = 124 ∧ i = 1) → a.2.2.2 k i = L k i)) (fun a => a.2.2.1) (fun a => a.2.2.2) (fun a => [(13, .int a.1), (12, .int a.2.1), (10, .long v22), (8, .long v21), (6, .long v2), (4, .long v1), (0, .ref (ad 120)), (1, .int x), (2, .long y)]) ((0 : Int32), (1 : Int32), M14, L15) ⟨by show 0 ≤ (0 : Int32).toInt; omega, by show (0 : Int32).toInt ≤ (M 88 3).toInt; omega, by show 0 ≤ (1 : Int32).toInt ∧ (1 : Int32).toInt ≤ 1; omega, by show ¬ (1 : Int32).toInt = 0 ↔ (lgW (vC M) I0 x (L 91 x.toNatClampNeg) (L 92 x.toNatClampNeg) y (M 89) (L 121) (L 122) (0 : Int32).toNatClampNeg).2.2 = true; exact ⟨fun _ => rfl, fun _ => by decide⟩, by show (lgW (vC M) I0 x (L 91 x.toNatClampNeg) (L 92 x.toNatClampNeg) y (M 89) (L 121) (L 122) (0 : Int32).toNatClampNeg).2.2 = true → L15 121 = (lgW (vC M) I0 x (L 91 x.toNatClampNeg) (L 92 x.toNatClampNeg) y (M 89) (L 121) (L 122) (0 : Int32).toNatClampNeg).1 ∧ L15 122 = (lgW (vC M) I0 x (L 91 x.toNatClampNeg) (L 92 x.toNatClampNeg) y (M 89) (L 121) (L 122) (0 : Int32).toNatClampNeg).2.1 ∧ WTc L15 (M 88 3).toNatClampNeg; exact fun _ => w0, hI, hF, hG⟩ rfl rfl rfl ?_
      rintro ⟨x13_97, x12_97, M_97, L_97⟩ ⟨j97_0, j97_1, j97_2, j97_3, j97_4, hI, hF, hG⟩ ih_97
      dsimp only at j97_0 j97_1 j97_2 j97_3 j97_4 hI hF hG ih_97 ⊢
      have l124_0 : L_97 124 0 = L_97 124 0 := rfl
      have l124_1 : L_97 124 1 = L_97 124 1 := rfl
      have p121 : L_97 121 = L_97 121 := rfl
      have p122 : L_97 122 = L_97 122 := rfl
      have n13 := ixn (x := x13_97) (by omega)
      obtain ⟨ly1, ly2⟩ := (show rg 0 59 (M 89 x13_97.toNatClampNeg) from hI0 89 _)
      have eT : (lgW (vC M) I0 x (L 91 x.toNatClampNeg) (L 92 x.toNatClampNeg) y (M 89) (L 121) (L 122) (x13_97.toNatClampNeg + 1)) = ltS (vC M) I0 x (lgA (L 91 x.toNatClampNeg) (L 92 x.toNatClampNeg) y) (lgB (L 91 x.toNatClampNeg) (L 92 x.toNatClampNeg) y) x13_97.toNatClampNeg (M 89 x13_97.toNatClampNeg).toNatClampNeg (lgW (vC M) I0 x (L 91 x.toNatClampNeg) (L 92 x.toNatClampNeg) y (M 89) (L 121) (L 122) x13_97.toNatClampNeg) := foP_s (p := M 89) (by omega)
      refine g_iload C 0 dX8_passOn_97 rfl ?_
      refine g_aload_n C 6 dX8_passOn_99 rfl ?_
      refine g_get C (.ref (ad 88)) 0 in_X8_passOn_8 (List.mem_of_getElem? (i := 1) rfl) (by decide) (ce_trans ad cs _ _) rfl (by decide) rfl rfl dX8_passOn_100 ?_
      refine g_get C (.int (M_97 88 3)) 3 in_X8_passOn_6 (List.mem_of_getElem? (i := 7) rfl) (by decide) (ce_poll ad cs _ _) rfl (by decide) rfl rfl dX8_passOn_103 ?_
      refine g_ni (fun v25 ev25 => ?_)
      have gv25 : v25 = M 88 3 := ev25.trans (hF 88 3 trivial)
      have tv25 := congrArg Int32.toInt gv25
      obtain ⟨bv25, dv25⟩ := (show rg 0 40 v25 from (by rw [ev25]; exact (hI 88 3).1 rfl))
      refine g_icmp_ge C 200 dX8_passOn_106 (by decide) (fun c26 => ?_) (fun c26 => ?_)
      ·
        have f27 := fle rfl rfl c26
        refine g_iload C 1 dX8_passOn_200 rfl ?_
        have hz9 := z_of (r := x12_97) (by omega) (by omega)
        exact g_zret C hr (by rcases hz9 with h9 | h9 <;> rw [h9] <;> rfl) ⟨(by
      by_cases e9 : x13_97.toNatClampNeg = (M 88 3).toNatClampNeg
      · rw [e9] at j97_3 j97_4
        refine ⟨?_, fun _ h9 => j97_4 h9⟩
        by_cases e8 : x12_97.toInt = 0
        · exact Or.inr ⟨Int32.toInt_inj.mp (by rw [e8]; decide), fun q9 => j97_3.mpr q9.2 e8⟩
        · exact Or.inl ⟨Int32.toInt_inj.mp (by rw [show x12_97.toInt = 1 by omega]; decide), hl2, j97_3.mp e8⟩
      · have e8 : x12_97.toInt = 0 := (by omega)
        have hz8 := lgW_stay2 (n := (M 88 3).toNatClampNeg) (bt_ff (fun h9 => j97_3.mpr h9 e8)) (by omega)
        exact ⟨Or.inr ⟨Int32.toInt_inj.mp (by rw [e8]; decide), fun q9 => by rw [hz8] at q9; exact Bool.noConfusion q9.2⟩, fun _ h9 => by rw [hz8] at h9; exact Bool.noConfusion h9⟩), hI, hF, hG⟩ dX8_passOn_202
      ·
        have f28 := fnle rfl rfl c26
        refine g_iload C 1 dX8_passOn_109 rfl ?_
        refine g_if_eq C 200 dX8_passOn_111 (by decide) (fun c29 => ?_) (fun c29 => ?_)
        ·
          have f30 := feq rfl (by decide : (0 : Int32).toInt = 0) c29
          refine g_iload C 1 dX8_passOn_200 rfl ?_
          have hz9 := z_of (r := x12_97) (by omega) (by omega)
          exact g_zret C hr (by rcases hz9 with h9 | h9 <;> rw [h9] <;> rfl) ⟨(by
      by_cases e9 : x13_97.toNatClampNeg = (M 88 3).toNatClampNeg
      · rw [e9] at j97_3 j97_4
        refine ⟨?_, fun _ h9 => j97_4 h9⟩
        by_cases e8 : x12_97.toInt = 0
        · exact Or.inr ⟨Int32.toInt_inj.mp (by rw [e8]; decide), fun q9 => j97_3.mpr q9.2 e8⟩
        · exact Or.inl ⟨Int32.toInt_inj.mp (by rw [show x12_97.toInt = 1 by omega]; decide), hl2, j97_3.mp e8⟩
      · have e8 : x12_97.toInt = 0 := (by omega)
        have hz8 := lgW_stay2 (n := (M 88 3).toNatClampNeg) (bt_ff (fun h9 => j97_3.mpr h9 e8)) (by omega)
        exact ⟨Or.inr ⟨Int32.toInt_inj.mp (by rw [e8]; decide), fun q9 => by rw [hz8] at q9; exact Bool.noConfusion q9.2⟩, fun _ h9 => by rw [hz8] at h9; exact Bool.noConfusion h9⟩), hI, hF, hG⟩ dX8_passOn_202
        ·
          have f31 := fne rfl (by decide : (0 : Int32).toInt = 0) c29
          refine g_aload_n C 6 dX8_passOn_114 rfl ?_
          refine g_get C (.ref (ad 123)) 3 in_X8_passOn_8 (List.mem_of_getElem? (i := 8) rfl) (by decide) (ce_trans ad cs _ _) rfl (by decide) rfl rfl dX8_passOn_115 ?_
          refine g_iload C 0 dX8_passOn_118 rfl ?_
          have nx13_97 := ixn (x := x13_97) (by omega)
          refine g_iald C (by decide) (ce_towner ad cs _ _) (fin' (n := 40) rfl (by omega) (by omega)) dX8_passOn_120 ?_
          refine g_ni (fun v32 ev32 => ?_)
          have gv32 : v32 = M 123 x13_97.toNatClampNeg := ev32.trans (hF 123 x13_97.toNatClampNeg trivial)
          have tv32 := congrArg Int32.toInt gv32
          have hown9 : v32.toInt = (fiV (vC M) I0 (M 89 x13_97.toNatClampNeg).toNatClampNeg).toInt := by rw [gv32, hown x13_97.toNatClampNeg (by omega)]
          refine g_iload_n C 7 dX8_passOn_121 rfl ?_
          refine g_icmp_ne C 194 dX8_passOn_122 (by decide) (fun c33 => ?_) (fun c33 => ?_)
          ·
            have f34 := fne rfl rfl c33
            obtain ⟨v35, ev35⟩ : ∃ y : Int32, y = x13_97 + 1 := ⟨_, rfl⟩
            try have fv35 := fadd rfl (by decide : (1 : Int32).toInt = 1) ev35 (by omega) (by omega)
            refine g_iinc C 0 v35 [(13, .int v35), (12, .int x12_97), (10, .long v22), (8, .long v21), (6, .long v2), (4, .long v1), (0, .ref (ad 120)), (1, .int x), (2, .long y)] dX8_passOn_194 rfl (by rw [ev35]; rfl) (by decide) rfl ?_
            refine g_goto C 97 dX8_passOn_197 (by decide) ?_
            have nv := ixn (x := v35) (by omega)
            have iv : v35.toNatClampNeg = x13_97.toNatClampNeg + 1 := by omega
            have sT : (lgW (vC M) I0 x (L 91 x.toNatClampNeg) (L 92 x.toNatClampNeg) y (M 89) (L 121) (L 122) (x13_97.toNatClampNeg + 1)) = (lgW (vC M) I0 x (L 91 x.toNatClampNeg) (L 92 x.toNatClampNeg) y (M 89) (L 121) (L 122) x13_97.toNatClampNeg) := eT.trans (ltS_f (fun q9 => by have h9 := q9.1; omega))
            have n3 := j97_3
            have n4 := j97_4
            rw [← sT] at n3 n4
            exact ih_97 (v35, x12_97, M_97, L_97) ⟨by show 0 ≤ v35.toInt; omega, by show v35.toInt ≤ (M 88 3).toInt; omega, by show 0 ≤ x12_97.toInt ∧ x12_97.toInt ≤ 1; omega, by show ¬ x12_97.toInt = 0 ↔ (lgW (vC M) I0 x (L 91 x.toNatClampNeg) (L 92 x.toNatClampNeg) y (M 89) (L 121) (L 122) v35.toNatClampNeg).2.2 = true; rw [iv]; exact n3, by show (lgW (vC M) I0 x (L 91 x.toNatClampNeg) (L 92 x.toNatClampNeg) y (M 89) (L 121) (L 122) v35.toNatClampNeg).2.2 = true → L_97 121 = (lgW (vC M) I0 x (L 91 x.toNatClampNeg) (L 92 x.toNatClampNeg) y (M 89) (L 121) (L 122) v35.toNatClampNeg).1 ∧ L_97 122 = (lgW (vC M) I0 x (L 91 x.toNatClampNeg) (L 92 x.toNatClampNeg) y (M 89) (L 121) (L 122) v35.toNatClampNeg).2.1 ∧ WTc L_97 (M 88 3).toNatClampNeg; rw [iv]; exact n4, hI, hF, hG⟩ (by show (41 - v35.toInt).toNat < (41 - x13_97.toInt).toNat; omega)
          ·
            have f36 := feq rfl rfl c33
            refine g_aload_n C 6 dX8_passOn_125 rfl ?_
            refine g_get C (.ref (ad 124)) 4 in_X8_passOn_8 (List.mem_of_getElem? (i := 4) rfl) (by decide) (ce_trans ad cs _ _) rfl (by decide) rfl rfl dX8_passOn_126 ?_
            refine g_aload_n C 6 dX8_passOn_129 rfl ?_
            refine g_get C (.ref (ad 121)) 1 in_X8_passOn_8 (List.mem_of_getElem? (i := 9) rfl) (by decide) (ce_trans ad cs _ _) rfl (by decide) rfl rfl dX8_passOn_130 ?_
            refine g_iload C 0 dX8_passOn_133 rfl ?_
            have nx13_97 := ixn (x := x13_97) (by omega)
            refine g_lald C (by decide) (ce_tup ad cs _ _) (fin' (n := 40) rfl (by omega) (by omega)) dX8_passOn_135 ?_
            refine g_nl (fun v37 ev37 => ?_)
            have gv37 : v37 = L_97 121 x13_97.toNatClampNeg := ev37.trans (congrFun p121 _)
            have tv37 := congrArg Int64.toInt gv37
            refine g_aload_n C 6 dX8_passOn_136 rfl ?_
            refine g_get C (.ref (ad 122)) 2 in_X8_passOn_8 (List.mem_of_getElem? (i := 10) rfl) (by decide) (ce_trans ad cs _ _) rfl (by decide) rfl rfl dX8_passOn_137 ?_
            refine g_iload C 0 dX8_passOn_140 rfl ?_
            have nx13_97 := ixn (x := x13_97) (by omega)
            refine g_lald C (by decide) (ce_tlow ad cs _ _) (fin' (n := 40) rfl (by omega) (by omega)) dX8_passOn_142 ?_
            refine g_nl (fun v38 ev38 => ?_)
            have gv38 : v38 = L_97 122 x13_97.toNatClampNeg := ev38.trans (congrFun p122 _)
            have tv38 := congrArg Int64.toInt gv38
            have hok := j97_3.mp (by omega)
            obtain ⟨hwe1, hwe2, hww⟩ := j97_4 hok
            have hwk := hww x13_97.toNatClampNeg (by omega)
            have hwo := hwk.1
            unfold okF at hwo
            have p121o := p121
            have p122o := p122
            refine g_callVv C (n := 2) (As := [.long v37, .long v38]) (st := []) (k_X3_become l D ad cs _ _ v37 v38 hI (by omega) (by omega)) gX8_passOn_X3_become rfl rfl rfl (by decide +kernel) ⟨Nat.le_of_ble_eq_true rfl, Nat.le_of_ble_eq_true rfl⟩ rfl (Nat.le_of_ble_eq_true rfl) ⟨Nat.zero_le _, Nat.zero_le _⟩ (by decide) (ce_frac ad cs _ _) rfl rfl dX8_passOn_143 (fun M40 L41 hr39 => ?_)
            obtain ⟨hr39, hI, hFr39, hGr39⟩ := hr39
            have hF : ∀ k i, True → M40 k i = M k i := fun k i hk => by (rw [hFr39 k i trivial]; try exact hF k i hk)
            have hG : ∀ k i, k ≠ 121 ∧ k ≠ 122 ∧ ¬ (k = 124 ∧ i = 0) ∧ ¬ (k = 124 ∧ i = 1) → L41 k i = L k i := fun k i hk => by (rw [hGr39 k i (by omega)]; try exact hG k i hk)
            have l124_0 : L41 124 0 = L41 124 0 := rfl
            have l124_1 : L41 124 1 = L41 124 1 := rfl
            have p121 : L41 121 = L_97 121 := (funext (fun i => hGr39 121 i (by omega))).trans p121
            have p122 : L41 122 = L_97 122 := (funext (fun i => hGr39 122 i (by omega))).trans p122
            obtain ⟨cu, cd⟩ := hr39
            rw [gv37, gv38, hwk.2.1] at cu
            rw [gv37, gv38, hwk.2.2] at cd
            refine g_aload_n C 6 dX8_passOn_146 rfl ?_
            refine g_get C (.ref (ad 124)) 4 in_X8_passOn_8 (List.mem_of_getElem? (i := 4) rfl) (by decide) (ce_trans ad cs _ _) rfl (by decide) rfl rfl dX8_passOn_147 ?_
            refine g_lload C 3 dX8_passOn_150 rfl ?_
            refine g_lload C 2 dX8_passOn_152 rfl ?_
            have hm8 := ok_mul hwk.1 (a := lgA (L 91 x.toNatClampNeg) (L 92 x.toNatClampNeg) y) (b := lgB (L 91 x.toNatClampNeg) (L 92 x.toNatClampNeg) y) ⟨lab.1, hl2.2.1⟩ ⟨lab.2, hl2.2.2⟩
            refine g_callVv C (n := 2) (As := [.long v21, .long v22]) (st := []) (k_X3_multiply l D ad cs _ _ v21 v22 hI (by rw [cu, ta9]; exact hm8.1) (by rw [cd, tb9]; exact hm8.2)) gX8_passOn_X3_multiply rfl rfl rfl (by decide +kernel) ⟨Nat.le_of_ble_eq_true rfl, Nat.le_of_ble_eq_true rfl⟩ rfl (Nat.le_of_ble_eq_true rfl) ⟨Nat.zero_le _, Nat.zero_le _⟩ (by decide) (ce_frac ad cs _ _) rfl rfl dX8_passOn_154 (fun M43 L44 hr42 => ?_)
            obtain ⟨hr42, hI, hFr42, hGr42⟩ := hr42
            have hF : ∀ k i, True → M43 k i = M k i := fun k i hk => by (rw [hFr42 k i trivial]; try exact hF k i hk)
            have hG : ∀ k i, k ≠ 121 ∧ k ≠ 122 ∧ ¬ (k = 124 ∧ i = 0) ∧ ¬ (k = 124 ∧ i = 1) → L44 k i = L k i := fun k i hk => by (rw [hGr42 k i (by omega)]; try exact hG k i hk)
            have l124_0 : L44 124 0 = L44 124 0 := rfl
            have l124_1 : L44 124 1 = L44 124 1 := rfl
            have p121 : L44 121 = L_97 121 := (funext (fun i => hGr42 121 i (by omega))).trans p121
            have p122 : L44 122 = L_97 122 := (funext (fun i => hGr42 122 i (by omega))).trans p122
            obtain ⟨mu8, md8⟩ := hr42
            rw [cu, cd, ta9, tb9] at mu8 md8
            have p121o9 := p121
            have p122a := p122
            refine g_aload_n C 6 dX8_passOn_157 rfl ?_
            refine g_get C (.ref (ad 121)) 1 in_X8_passOn_8 (List.mem_of_getElem? (i := 9) rfl) (by decide) (ce_trans ad cs _ _) rfl (by decide) rfl rfl dX8_passOn_158 ?_
            refine g_iload C 0 dX8_passOn_161 rfl ?_
            refine g_aload_n C 6 dX8_passOn_163 rfl ?_
            refine g_get C (.ref (ad 124)) 4 in_X8_passOn_8 (List.mem_of_getElem? (i := 4) rfl) (by decide) (ce_trans ad cs _ _) rfl (by decide) rfl rfl dX8_passOn_164 ?_
            refine g_get C (.long (L44 124 0)) 0 in_X8_passOn_3 (List.mem_of_getElem? (i := 5) rfl) (by decide) (ce_frac ad cs _ _) rfl (by decide) rfl rfl dX8_passOn_167 ?_
            refine g_nl (fun v45 ev45 => ?_)
            have gv45 : v45 = L44 124 0 := ev45.trans l124_0
            have tv45 := congrArg Int64.toInt gv45
            have nx13_97 := ixn (x := x13_97) (by omega)
            refine g_last C (by decide) (ce_tup ad cs _ _) (by rw [sJ_k]; rfl) (fin' (n := 40) rfl (by omega) (by omega)) dX8_passOn_170 ?_
            refine g_nmL (fun L46 hL46 => ?_)
            have hG : ∀ k i, k ≠ 121 ∧ k ≠ 122 ∧ ¬ (k = 124 ∧ i = 0) ∧ ¬ (k = 124 ∧ i = 1) → L46 k i = L k i := fun k i hk => by (rw [hL46, sJ_at, if_neg (by omega)]; try exact hG k i hk)
            have l124_0 : L46 124 0 = L44 124 0 := by rw [hL46, sJ_at, if_neg (by omega)]; try exact l124_0
            have l124_1 : L46 124 1 = L44 124 1 := by rw [hL46, sJ_at, if_neg (by omega)]; try exact l124_1
            have p122 : L46 122 = L_97 122 := by rw [hL46, sJ_n _ _ _ (by decide)]; try exact p122
            have p122a := p122
            refine g_aload_n C 6 dX8_passOn_171 rfl ?_
            refine g_get C (.ref (ad 122)) 2 in_X8_passOn_8 (List.mem_of_getElem? (i := 10) rfl) (by decide) (ce_trans ad cs _ _) rfl (by decide) rfl rfl dX8_passOn_172 ?_
            refine g_iload C 0 dX8_passOn_175 rfl ?_
            refine g_aload_n C 6 dX8_passOn_177 rfl ?_
            refine g_get C (.ref (ad 124)) 4 in_X8_passOn_8 (List.mem_of_getElem? (i := 4) rfl) (by decide) (ce_trans ad cs _ _) rfl (by decide) rfl rfl dX8_passOn_178 ?_
            refine g_get C (.long (L46 124 1)) 1 in_X8_passOn_3 (List.mem_of_getElem? (i := 6) rfl) (by decide) (ce_frac ad cs _ _) rfl (by decide) rfl rfl dX8_passOn_181 ?_
            refine g_nl (fun v47 ev47 => ?_)
            have gv47 : v47 = L44 124 1 := ev47.trans l124_1
            have tv47 := congrArg Int64.toInt gv47
            have nx13_97 := ixn (x := x13_97) (by omega)
            refine g_last C (by decide) (ce_tlow ad cs _ _) (by rw [sJ_k]; rfl) (fin' (n := 40) rfl (by omega) (by omega)) dX8_passOn_184 ?_
            refine g_nmL (fun L48 hL48 => ?_)
            have hG : ∀ k i, k ≠ 121 ∧ k ≠ 122 ∧ ¬ (k = 124 ∧ i = 0) ∧ ¬ (k = 124 ∧ i = 1) → L48 k i = L k i := fun k i hk => by (rw [hL48, sJ_at, if_neg (by omega)]; try exact hG k i hk)
            have l124_0 : L48 124 0 = L44 124 0 := by rw [hL48, sJ_at, if_neg (by omega)]; try exact l124_0
            have l124_1 : L48 124 1 = L44 124 1 := by rw [hL48, sJ_at, if_neg (by omega)]; try exact l124_1
            have a121 : L48 121 = vp_updL (L_97 121) x13_97.toNatClampNeg (frU (L_97 121 x13_97.toNatClampNeg * lgA (L 91 x.toNatClampNeg) (L 92 x.toNatClampNeg) y) (L_97 122 x13_97.toNatClampNeg * lgB (L 91 x.toNatClampNeg) (L 92 x.toNatClampNeg) y)) := by rw [hL48, sJ_n _ _ _ (by decide), hL46, sJ_k, p121o9, gv45, mu8]
            have a122 : L48 122 = vp_updL (L_97 122) x13_97.toNatClampNeg (frD (L_97 121 x13_97.toNatClampNeg * lgA (L 91 x.toNatClampNeg) (L 92 x.toNatClampNeg) y) (L_97 122 x13_97.toNatClampNeg * lgB (L 91 x.toNatClampNeg) (L 92 x.toNatClampNeg) y)) := by rw [hL48, sJ_k, p122a, gv47, md8]
            refine g_aload_n C 6 dX8_passOn_185 rfl ?_
            refine g_get C (.ref (ad 124)) 4 in_X8_passOn_8 (List.mem_of_getElem? (i := 4) rfl) (by decide) (ce_trans ad cs _ _) rfl (by decide) rfl rfl dX8_passOn_186 ?_
            refine g_callVi C (n := 0) (As := []) (st := []) (k_X3_fits l D ad cs _ _  hI ) gX8_passOn_X3_fits rfl rfl rfl (by decide +kernel) ⟨Nat.le_of_ble_eq_true rfl, Nat.le_of_ble_eq_true rfl⟩ rfl (Nat.le_of_ble_eq_true rfl) ⟨Nat.zero_le _, Nat.zero_le _⟩ (by decide) (ce_frac ad cs _ _) rfl rfl dX8_passOn_189 (fun r49 M50 L51 hr49 => ?_)
            obtain ⟨hq1, hq2, hr49⟩ := hr49
            obtain rfl := hq1.symm
            obtain rfl := hq2.symm
            rw [l124_0, l124_1, mu8, md8] at hr49
            obtain ⟨bar49, bbr49⟩ := zo_b hr49
            refine g_istore C [(12, .int r49), (13, .int x13_97), (10, .long v22), (8, .long v21), (6, .long v2), (4, .long v1), (0, .ref (ad 120)), (1, .int x), (2, .long y)] dX8_passOn_192 (by decide) rfl ?_
            obtain ⟨v52, ev52⟩ : ∃ y : Int32, y = x13_97 + 1 := ⟨_, rfl⟩
            try have fv52 := fadd rfl (by decide : (1 : Int32).toInt = 1) ev52 (by omega) (by omega)
            refine g_iinc C 1 v52 [(13, .int v52), (12, .int r49), (10, .long v22), (8, .long v21), (6, .long v2), (4, .long v1), (0, .ref (ad 120)), (1, .int x), (2, .long y)] dX8_passOn_194 rfl (by rw [ev52]; rfl) (by decide) rfl ?_
            refine g_goto C 97 dX8_passOn_197 (by decide) ?_
            have nv := ixn (x := v52) (by omega)
            have iv : v52.toNatClampNeg = x13_97.toNatClampNeg + 1 := by omega
            obtain ⟨l1, l2, l3⟩ := lt_c (V := vC M) (I := I0) (c := x) (a := lgA (L 91 x.toNatClampNeg) (L 92 x.toNatClampNeg) y) (b := lgB (L 91 x.toNatClampNeg) (L 92 x.toNatClampNeg) y) (j := x13_97.toNatClampNeg) (bl := (M 89 x13_97.toNatClampNeg).toNatClampNeg) (by omega) hok ⟨hwe1, hwe2⟩ a121 a122
            rw [← eT] at l1 l2 l3
            have n3 : ¬ r49.toInt = 0 ↔ (lgW (vC M) I0 x (L 91 x.toNatClampNeg) (L 92 x.toNatClampNeg) y (M 89) (L 121) (L 122) (x13_97.toNatClampNeg + 1)).2.2 = true := ⟨fun h9 => l1.mpr (zo_t hr49 (fun e9 => h9 (by rw [e9]; decide))), fun h9 h8 => zo_f hr49 (Int32.toInt_inj.mp (by rw [h8]; decide)) (l1.mp h9)⟩
            have n4 : (lgW (vC M) I0 x (L 91 x.toNatClampNeg) (L 92 x.toNatClampNeg) y (M 89) (L 121) (L 122) (x13_97.toNatClampNeg + 1)).2.2 = true → L48 121 = (lgW (vC M) I0 x (L 91 x.toNatClampNeg) (L 92 x.toNatClampNeg) y (M 89) (L 121) (L 122) (x13_97.toNatClampNeg + 1)).1 ∧ L48 122 = (lgW (vC M) I0 x (L 91 x.toNatClampNeg) (L 92 x.toNatClampNeg) y (M 89) (L 121) (L 122) (x13_97.toNatClampNeg + 1)).2.1 ∧ WTc L48 (M 88 3).toNatClampNeg := fun h9 => ⟨l2, l3, lt_w hww hwk.1 ⟨lab.1, hl2.2.1⟩ ⟨lab.2, hl2.2.2⟩ a121 a122 (l1.mp h9)⟩
            exact ih_97 (v52, r49, M43, L48) ⟨by show 0 ≤ v52.toInt; omega, by show v52.toInt ≤ (M 88 3).toInt; omega, by show 0 ≤ r49.toInt ∧ r49.toInt ≤ 1; omega, by show ¬ r49.toInt = 0 ↔ (lgW (vC M) I0 x (L 91 x.toNatClampNeg) (L 92 x.toNatClampNeg) y (M 89) (L 121) (L 122) v52.toNatClampNeg).2.2 = true; rw [iv]; exact n3, by show (lgW (vC M) I0 x (L 91 x.toNatClampNeg) (L 92 x.toNatClampNeg) y (M 89) (L 121) (L 122) v52.toNatClampNeg).2.2 = true → L48 121 = (lgW (vC M) I0 x (L 91 x.toNatClampNeg) (L 92 x.toNatClampNeg) y (M 89) (L 121) (L 122) v52.toNatClampNeg).1 ∧ L48 122 = (lgW (vC M) I0 x (L 91 x.toNatClampNeg) (L 92 x.toNatClampNeg) y (M 89) (L 121) (L 122) v52.toNatClampNeg).2.1 ∧ WTc L48 (M 88 3).toNatClampNeg; rw [iv]; exact n4, hI, hF, hG⟩ (by show (41 - v52.toInt).toNat < (41 - x13_97.toInt).toNat; omega)
    ·
      have f53 := feq rfl (by decide : (0 : Int32).toInt = 0) c19
      have hnf2 := zo_f hr16 c19
      refine g_iconst C 0 dX8_passOn_71 (by decide) ?_
      have zr9 : (0 : Int32).toInt = 0 := by decide
      exact g_zret C hr rfl ⟨⟨Or.inr ⟨rfl, fun q9 => hnf2 q9.1.2⟩, fun q9 => absurd q9.2 hnf2⟩, hI, hF, hG⟩ dX8_passOn_72
  ·
    have f54 := feq rfl (by decide : (0 : Int32).toInt = 0) c11
    have hnf1 := zo_f hr8 c11
    refine g_iconst C 0 dX8_passOn_48 (by decide) ?_
    have zr9 : (0 : Int32).toInt = 0 := by decide
    exact g_zret C hr rfl ⟨⟨Or.inr ⟨rfl, fun q9 => hnf1 q9.1.1⟩, fun q9 => absurd q9.1 hnf1⟩, hI, hF, hG⟩ dX8_passOn_49
