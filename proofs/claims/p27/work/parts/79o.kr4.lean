set_option maxHeartbeats 4000000 in
set_option maxRecDepth 100000 in
theorem k_X11_countWays (l : Launch) (D : va_G) (ad : Nat → Nat) (cs : Nat → ClassId) (M : MI) (L : ML)  (hI : IR M) (hD : DP (vR M)) (hrl : ∀ i, i < (M 258 2).toNatClampNeg → (M 260 i).toInt < ((M 258 2).toNatClampNeg : Int)) (hNI0 : NIn (M 282) (M 258 2).toInt) (hg0 : (M 258 29).toInt = 0) (hm0 : (M 258 31).toInt = 0) (hC : (M 258 28).toInt ≤ (cI (M 282) (M 258 2).toNatClampNeg : Int)) (hX : hasX (vR M) (M 258 27)) (hB8 : ∀ i : Nat, (vR M 8 i).toInt = -9 ∨ (0 ≤ (vR M 8 i).toInt ∧ (vR M 8 i).toInt ≤ 59)) : Cv l yX11_countWays wsX11_countWays ({ frames := 3, cells := 0, slots := 0, locals := 73 }) D ad cs [.ref (ad 258)] M L (fun M1 L1 => (∃ S, wyP (M 260) (wS (vR M) (fun i => vR M 8 (40 * (M 258 27).toNatClampNeg + i)) (vR M 7 (M 258 27).toNatClampNeg).toNatClampNeg (M 258 2).toNatClampNeg) (M 258 2).toNatClampNeg (M 282) S (M1 282) ∧ (S.length : Int) = (M 258 28).toInt ∧ RR M1 S (oneR S)) ∧ IR M1 ∧ (∀ k i, ¬ (k = 258 ∧ i = 29) ∧ ¬ (k = 258 ∧ i = 31) ∧ k ≠ 277 ∧ k ≠ 278 ∧ k ≠ 279 ∧ k ≠ 282 → M1 k i = M k i) ∧ ∀ k i, k ≠ 280 ∧ k ≠ 281 ∧ k ≠ 284 ∧ k ≠ 285 ∧ k ≠ 295 ∧ k ≠ 296 → L1 k i = L k i) := by
  refine enter_v RX11 rfl [(0, .ref (ad 258))] rfl (Nat.le_of_ble_eq_true rfl) (by decide +kernel) rfl ?_
  intro p e s m below meth c C hr
  have hF : ∀ k i, ¬ (k = 258 ∧ i = 29) ∧ ¬ (k = 258 ∧ i = 31) ∧ k ≠ 277 ∧ k ≠ 278 ∧ k ≠ 279 ∧ k ≠ 282 → M k i = M k i := fun _ _ _ => rfl
  have hG : ∀ k i, k ≠ 280 ∧ k ≠ 281 ∧ k ≠ 284 ∧ k ≠ 285 ∧ k ≠ 295 ∧ k ≠ 296 → L k i = L k i := fun _ _ _ => rfl
  obtain ⟨ca, cb⟩ := (show rg 0 10 (M 258 2) from hI 258 2)
  have n02 := ixn ca
  obtain ⟨sa, sb⟩ := (show rg 0 30 (M 258 28) from hI 258 28)
  have hI0 := hI
  have k29 : M 258 29 = M 258 29 := rfl
  have k31 : M 258 31 = M 258 31 := rfl
  have p280 : L 280 = L 280 := rfl
  have p281 : L 281 = L 281 := rfl
  have p284 : L 284 = L 284 := rfl
  have p285 : L 285 = L 285 := rfl
  have p295 : L 295 = L 295 := rfl
  have p296 : L 296 = L 296 := rfl
  have q277 : M 277 = M 277 := rfl
  have q278 : M 278 = M 278 := rfl
  have q279 : M 279 = M 279 := rfl
  have q282 : M 282 = M 282 := rfl
  refine g_aload_n C 0 dX11_countWays_0 rfl ?_
  refine g_callVv C (n := 0) (As := []) (st := []) (k_X11_layWays l D ad cs _ _  hI hX hB8) gX11_countWays_X11_layWays rfl rfl rfl (by decide +kernel) ⟨Nat.le_of_ble_eq_true rfl, Nat.le_of_ble_eq_true rfl⟩ rfl (Nat.le_of_ble_eq_true rfl) ⟨Nat.zero_le _, Nat.zero_le _⟩ (by decide) (ce_model ad cs _ _) rfl rfl dX11_countWays_1 (fun M2 L3 hr1 => ?_)
  obtain ⟨hr1, hI, hFr1, hGr1⟩ := hr1
  have hF : ∀ k i, ¬ (k = 258 ∧ i = 29) ∧ ¬ (k = 258 ∧ i = 31) ∧ k ≠ 277 ∧ k ≠ 278 ∧ k ≠ 279 ∧ k ≠ 282 → M2 k i = M k i := fun k i hk => by (rw [hFr1 k i trivial]; try exact hF k i hk)
  have hG : ∀ k i, k ≠ 280 ∧ k ≠ 281 ∧ k ≠ 284 ∧ k ≠ 285 ∧ k ≠ 295 ∧ k ≠ 296 → L3 k i = L k i := fun k i hk => by (rw [hGr1 k i (by omega)]; try exact hG k i hk)
  have k29 : M2 258 29 = M 258 29 := (hFr1 258 29 trivial).trans k29
  have k31 : M2 258 31 = M 258 31 := (hFr1 258 31 trivial).trans k31
  have kt29 := congrArg Int32.toInt k29
  have kt31 := congrArg Int32.toInt k31
  have p280 : L3 280 = L 280 := (funext (fun i => hGr1 280 i (by omega))).trans p280
  have p281 : L3 281 = L 281 := (funext (fun i => hGr1 281 i (by omega))).trans p281
  have p284 : L3 284 = L 284 := (funext (fun i => hGr1 284 i (by omega))).trans p284
  have p285 : L3 285 = L 285 := (funext (fun i => hGr1 285 i (by omega))).trans p285
  have p295 : L3 295 = L3 295 := rfl
  have p296 : L3 296 = L3 296 := rfl
  have q277 : M2 277 = M 277 := (funext (fun i => hFr1 277 i trivial)).trans q277
  have q278 : M2 278 = M 278 := (funext (fun i => hFr1 278 i trivial)).trans q278
  have q279 : M2 279 = M 279 := (funext (fun i => hFr1 279 i trivial)).trans q279
  have q282 : M2 282 = M 282 := (funext (fun i => hFr1 282 i trivial)).trans q282
  obtain ⟨hcl, hws⟩ := hr1
  refine g_iconst C 0 dX11_countWays_4 (by decide) ?_
  refine g_istore_n C [(1, .int 0), (0, .ref (ad 258))] dX11_countWays_5 (by decide) rfl ?_
  have zy4 : (0 : Int32).toInt = 0 := by decide
  have kt29 := congrArg Int32.toInt k29
  have kt31 := congrArg Int32.toInt k31
  have e282 : M2 282 = M 282 := q282
  refine g_loop (α := Int32 × MI × ML) (fun a => (31 - a.1.toInt).toNat) (fun a => (0 ≤ a.1.toInt) ∧ (a.1.toInt ≤ (M 258 28).toInt) ∧ ((a.2.1 258 29).toInt = a.1.toInt) ∧ ((a.2.1 258 31).toInt = a.1.toInt) ∧ ((M 258 28).toInt ≤ (cI (a.2.1 282) (M 258 2).toNatClampNeg : Int) + a.1.toInt) ∧ (NIn (a.2.1 282) (M 258 2).toInt) ∧ (CL (M 258 2).toNatClampNeg (M 258 2).toNatClampNeg (wv (a.2.2 296))) ∧ (∀ u9, u9 < (M 258 2).toNatClampNeg → ∀ v9, v9 < (M 258 2).toNatClampNeg → wv (a.2.2 296) u9 v9 = (wS (vR M) (fun i => vR M 8 (40 * (M 258 27).toNatClampNeg + i)) (vR M 7 (M 258 27).toNatClampNeg).toNatClampNeg (M 258 2).toNatClampNeg) u9 v9) ∧ (∃ S, wyP (M 260) (wS (vR M) (fun i => vR M 8 (40 * (M 258 27).toNatClampNeg + i)) (vR M 7 (M 258 27).toNatClampNeg).toNatClampNeg (M 258 2).toNatClampNeg) (M 258 2).toNatClampNeg (M 282) S (a.2.1 282) ∧ (S.length : Int) = a.1.toInt ∧ RR a.2.1 S (oneR S)) ∧ IR a.2.1 ∧ (∀ k i, ¬ (k = 258 ∧ i = 29) ∧ ¬ (k = 258 ∧ i = 31) ∧ k ≠ 277 ∧ k ≠ 278 ∧ k ≠ 279 ∧ k ≠ 282 → a.2.1 k i = M k i) ∧ (∀ k i, k ≠ 280 ∧ k ≠ 281 ∧ k ≠ 284 ∧ k ≠ 285 ∧ k ≠ 295 ∧ k ≠ 296 → a.2.2 k i = L k i)) (fun a => a.2.1) (fun a => a.2.2) (fun a => [(1, .int a.1), (0, .ref (ad 258))]) ((0 : Int32), M2, L3) ⟨by show 0 ≤ (0 : Int32).toInt; omega, by show (0 : Int32).toInt ≤ (M 258 28).toInt; omega, by show (M2 258 29).toInt = (0 : Int32).toInt; omega, by show (M2 258 31).toInt = (0 : Int32).toInt; omega, by show (M 258 28).toInt ≤ (cI (M2 282) (M 258 2).toNatClampNeg : Int) + (0 : Int32).toInt; rw [e282]; omega, by show NIn (M2 282) (M 258 2).toInt; rw [e282]; exact hNI0, by show CL (M 258 2).toNatClampNeg (M 258 2).toNatClampNeg (wv (L3 296)); exact hcl, by show ∀ u9, u9 < (M 258 2).toNatClampNeg → ∀ v9, v9 < (M 258 2).toNatClampNeg → wv (L3 296) u9 v9 = (wS (vR M) (fun i => vR M 8 (40 * (M 258 27).toNatClampNeg + i)) (vR M 7 (M 258 27).toNatClampNeg).toNatClampNeg (M 258 2).toNatClampNeg) u9 v9; exact hws, by show ∃ S, wyP (M 260) (wS (vR M) (fun i => vR M 8 (40 * (M 258 27).toNatClampNeg + i)) (vR M 7 (M 258 27).toNatClampNeg).toNatClampNeg (M 258 2).toNatClampNeg) (M 258 2).toNatClampNeg (M 282) S (M2 282) ∧ (S.length : Int) = (0 : Int32).toInt ∧ RR M2 S (oneR S); exact ⟨[], by rw [e282]; exact fun _ _ => rfl, rfl, RP_0 (by omega) (by omega)⟩, hI, hF, hG⟩ rfl rfl rfl ?_
  rintro ⟨x1_6, M_6, L_6⟩ ⟨j6_0, j6_1, j6_2, j6_3, j6_4, j6_5, j6_6, j6_7, j6_8, hI, hF, hG⟩ ih_6
  dsimp only at j6_0 j6_1 j6_2 j6_3 j6_4 j6_5 j6_6 j6_7 j6_8 hI hF hG ih_6 ⊢
  have k29 : M_6 258 29 = M_6 258 29 := rfl
  have k31 : M_6 258 31 = M_6 258 31 := rfl
  have p280 : L_6 280 = L_6 280 := rfl
  have p281 : L_6 281 = L_6 281 := rfl
  have p284 : L_6 284 = L_6 284 := rfl
  have p285 : L_6 285 = L_6 285 := rfl
  have p295 : L_6 295 = L_6 295 := rfl
  have p296 : L_6 296 = L_6 296 := rfl
  have q277 : M_6 277 = M_6 277 := rfl
  have q278 : M_6 278 = M_6 278 := rfl
  have q279 : M_6 279 = M_6 279 := rfl
  have q282 : M_6 282 = M_6 282 := rfl
  have hNI := j6_5
  refine g_iload_n C 0 dX11_countWays_6 rfl ?_
  refine g_aload_n C 1 dX11_countWays_7 rfl ?_
  refine g_get C (.int (M_6 258 28)) 28 in_X11_countWays_11 (List.mem_of_getElem? (i := 1) rfl) (by decide) (ce_model ad cs _ _) rfl (by decide) rfl rfl dX11_countWays_8 ?_
  refine g_ni (fun v5 ev5 => ?_)
  have gv5 : v5 = M 258 28 := ev5.trans (hF 258 28 (by omega))
  have tv5 := congrArg Int32.toInt gv5
  obtain ⟨bv5, dv5⟩ := (show rg 0 30 v5 from (by rw [ev5]; exact hI 258 28))
  refine g_icmp_ge C 92 dX11_countWays_11 (by decide) (fun c6 => ?_) (fun c6 => ?_)
  ·
    have f7 := fle rfl rfl c6
    exact g_vret C hr ⟨(by obtain ⟨S9, hw9, hl9, hr9⟩ := j6_8; exact ⟨S9, hw9, by omega, hr9⟩), hI, hF, hG⟩ dX11_countWays_92
  ·
    have f8 := fnle rfl rfl c6
    refine g_aload_n C 1 dX11_countWays_14 rfl ?_
    refine g_callVv C (n := 0) (As := []) (st := []) (s_X11_tallyWays l D ad cs _ _  hI ) gX11_countWays_X11_tallyWays rfl rfl rfl (by decide +kernel) ⟨Nat.le_of_ble_eq_true rfl, Nat.le_of_ble_eq_true rfl⟩ rfl (Nat.le_of_ble_eq_true rfl) ⟨Nat.zero_le _, Nat.zero_le _⟩ (by decide) (ce_model ad cs _ _) rfl rfl dX11_countWays_15 (fun M10 L11 hr9 => ?_)
    obtain ⟨hr9, hI, hFr9, hGr9⟩ := hr9
    have hF : ∀ k i, ¬ (k = 258 ∧ i = 29) ∧ ¬ (k = 258 ∧ i = 31) ∧ k ≠ 277 ∧ k ≠ 278 ∧ k ≠ 279 ∧ k ≠ 282 → M10 k i = M k i := fun k i hk => by (rw [hFr9 k i trivial]; try exact hF k i hk)
    have hG : ∀ k i, k ≠ 280 ∧ k ≠ 281 ∧ k ≠ 284 ∧ k ≠ 285 ∧ k ≠ 295 ∧ k ≠ 296 → L11 k i = L k i := fun k i hk => by (rw [hGr9 k i (by omega)]; try exact hG k i hk)
    have k29 : M10 258 29 = M_6 258 29 := (hFr9 258 29 trivial).trans k29
    have k31 : M10 258 31 = M_6 258 31 := (hFr9 258 31 trivial).trans k31
    have kt29 := congrArg Int32.toInt k29
    have kt31 := congrArg Int32.toInt k31
    have p280 : L11 280 = L_6 280 := (funext (fun i => hGr9 280 i (by omega))).trans p280
    have p281 : L11 281 = L_6 281 := (funext (fun i => hGr9 281 i (by omega))).trans p281
    have p284 : L11 284 = L11 284 := rfl
    have p285 : L11 285 = L11 285 := rfl
    have p295 : L11 295 = L_6 295 := (funext (fun i => hGr9 295 i (by omega))).trans p295
    have p296 : L11 296 = L_6 296 := (funext (fun i => hGr9 296 i (by omega))).trans p296
    have q277 : M10 277 = M_6 277 := (funext (fun i => hFr9 277 i trivial)).trans q277
    have q278 : M10 278 = M_6 278 := (funext (fun i => hFr9 278 i trivial)).trans q278
    have q279 : M10 279 = M_6 279 := (funext (fun i => hFr9 279 i trivial)).trans q279
    have q282 : M10 282 = M_6 282 := (funext (fun i => hFr9 282 i trivial)).trans q282
    refine g_iconst C 0 dX11_countWays_18 (by decide) ?_
    refine g_istore_n C [(2, .int 0), (1, .int x1_6), (0, .ref (ad 258))] dX11_countWays_19 (by decide) rfl ?_
    have zy12 : (0 : Int32).toInt = 0 := by decide
    have hpos : 0 < cI (M_6 282) (M 258 2).toNatClampNeg := by omega
    obtain ⟨c9, hc9, hi9, hb9⟩ := unb_ex j6_6 hpos
    obtain ⟨i9, hi1, hi2⟩ := hD c9 (by show (c9 : Int) < (M 258 2).toInt; omega)
    have e9 : (M 260 i9).toNatClampNeg = c9 := by
      have h9 : (M 260 i9).toInt = (c9 : Int) := hi2
      have := ixn (x := M 260 i9) (by omega)
      omega
    have hex : ∃ j : Nat, (0 : Int32).toNatClampNeg ≤ j ∧ (j : Int) < (M 258 2).toInt ∧ ¬ (M_6 282 (M 260 j).toNatClampNeg).toInt = 0 ∧ ¬ BT (M_6 282) (L_6 296) (M 260 j).toNatClampNeg (M 258 2).toNatClampNeg := ⟨i9, Nat.zero_le _, hi1, by rw [e9]; exact hi9, by rw [e9]; exact hb9⟩
    refine g_loop (α := Int32 × MI × ML) (fun a => (10 - a.1.toInt).toNat) (fun a => (0 ≤ a.1.toInt) ∧ (a.2.1 282 = M_6 282) ∧ (a.2.2 296 = L_6 296) ∧ (a.2.1 258 29 = M_6 258 29) ∧ (a.2.1 258 31 = M_6 258 31) ∧ (∃ j : Nat, a.1.toNatClampNeg ≤ j ∧ (j : Int) < (M 258 2).toInt ∧ ¬ (M_6 282 (M 260 j).toNatClampNeg).toInt = 0 ∧ ¬ BT (M_6 282) (L_6 296) (M 260 j).toNatClampNeg (M 258 2).toNatClampNeg) ∧ (∀ j : Nat, j < a.1.toNatClampNeg → (M_6 282 (M 260 j).toNatClampNeg).toInt = 0 ∨ BT (M_6 282) (L_6 296) (M 260 j).toNatClampNeg (M 258 2).toNatClampNeg) ∧ (a.2.1 277 = M_6 277 ∧ a.2.1 278 = M_6 278 ∧ a.2.1 279 = M_6 279) ∧ IR a.2.1 ∧ (∀ k i, ¬ (k = 258 ∧ i = 29) ∧ ¬ (k = 258 ∧ i = 31) ∧ k ≠ 277 ∧ k ≠ 278 ∧ k ≠ 279 ∧ k ≠ 282 → a.2.1 k i = M k i) ∧ (∀ k i, k ≠ 280 ∧ k ≠ 281 ∧ k ≠ 284 ∧ k ≠ 285 ∧ k ≠ 295 ∧ k ≠ 296 → a.2.2 k i = L k i)) (fun a => a.2.1) (fun a => a.2.2) (fun a => [(2, .int a.1), (1, .int x1_6), (0, .ref (ad 258))]) ((0 : Int32), M10, L11) ⟨by show 0 ≤ (0 : Int32).toInt; omega, by show M10 282 = M_6 282; exact q282, by show L11 296 = L_6 296; exact p296, by show M10 258 29 = M_6 258 29; exact k29, by show M10 258 31 = M_6 258 31; exact k31, by show ∃ j : Nat, (0 : Int32).toNatClampNeg ≤ j ∧ (j : Int) < (M 258 2).toInt ∧ ¬ (M_6 282 (M 260 j).toNatClampNeg).toInt = 0 ∧ ¬ BT (M_6 282) (L_6 296) (M 260 j).toNatClampNeg (M 258 2).toNatClampNeg; exact hex, by show ∀ j : Nat, j < (0 : Int32).toNatClampNeg → (M_6 282 (M 260 j).toNatClampNeg).toInt = 0 ∨ BT (M_6 282) (L_6 296) (M 260 j).toNatClampNeg (M 258 2).toNatClampNeg; intro j hj; exact absurd hj (by show ¬ j < 0; omega), by show M10 277 = M_6 277 ∧ M10 278 = M_6 278 ∧ M10 279 = M_6 279; exact ⟨q277, q278, q279⟩, hI, hF, hG⟩ rfl rfl rfl ?_
    rintro ⟨x2_20, M_20, L_20⟩ ⟨j20_0, j20_1, j20_2, j20_3, j20_4, j20_5, j20_6, j20_7, hI, hF, hG⟩ ih_20
    dsimp only at j20_0 j20_1 j20_2 j20_3 j20_4 j20_5 j20_6 j20_7 hI hF hG ih_20 ⊢
    have k29 : M_20 258 29 = M_20 258 29 := rfl
    have k31 : M_20 258 31 = M_20 258 31 := rfl
    have p280 : L_20 280 = L_20 280 := rfl
    have p281 : L_20 281 = L_20 281 := rfl
    have p284 : L_20 284 = L_20 284 := rfl
    have p285 : L_20 285 = L_20 285 := rfl
    have p295 : L_20 295 = L_20 295 := rfl
    have p296 : L_20 296 = L_20 296 := rfl
    have q277 : M_20 277 = M_20 277 := rfl
    have q278 : M_20 278 = M_20 278 := rfl
    have q279 : M_20 279 = M_20 279 := rfl
    have q282 : M_20 282 = M_20 282 := rfl
    have q282 : M_20 282 = M_6 282 := j20_1
    have p296 : L_20 296 = L_6 296 := j20_2
    have k29t := congrArg Int32.toInt j20_3
    have k31t := congrArg Int32.toInt j20_4
    obtain ⟨jj, jj1, jj2, jj3, jj4⟩ := j20_5
    have n2 := ixn (x := x2_20) j20_0
    have bE : rg 0 9 (M 260 x2_20.toNatClampNeg) := hI0 260 _
    obtain ⟨bE1, bE2⟩ := bE
    have nE := ixn bE1
    refine g_aload_n C 2 dX11_countWays_20 rfl ?_
    refine g_get C (.ref (ad 282)) 36 in_X11_countWays_11 (List.mem_of_getElem? (i := 2) rfl) (by decide) (ce_model ad cs _ _) rfl (by decide) rfl rfl dX11_countWays_21 ?_
    refine g_aload_n C 2 dX11_countWays_24 rfl ?_
    refine g_get C (.ref (ad 260)) 3 in_X11_countWays_11 (List.mem_of_getElem? (i := 3) rfl) (by decide) (ce_model ad cs _ _) rfl (by decide) rfl rfl dX11_countWays_25 ?_
    refine g_iload_n C 0 dX11_countWays_28 rfl ?_
    refine g_iald C (by decide) (ce_m_draw ad cs _ _) (fin' (n := 10) rfl (by omega) (by omega)) dX11_countWays_29 ?_
    refine g_ni (fun v13 ev13 => ?_)
    have gv13 : v13 = M 260 x2_20.toNatClampNeg := ev13.trans (hF 260 x2_20.toNatClampNeg (by omega))
    have tv13 := congrArg Int32.toInt gv13
    obtain ⟨bv13, dv13⟩ := (show rg 0 9 v13 from (by rw [ev13]; exact hI 260 x2_20.toNatClampNeg))
    subst gv13
    refine g_zald C (by decide) (ce_m_isIn ad cs _ _) (fin' (n := 10) rfl (by omega) (by omega)) dX11_countWays_30 ?_
    refine g_ni (fun v14 ev14 => ?_)
    have gv14 : v14 = M_6 282 (((M 260 x2_20.toNatClampNeg)).toNatClampNeg) := ev14.trans (congrFun q282 _)
    have tv14 := congrArg Int32.toInt gv14
    refine g_if_eq C 47 dX11_countWays_31 (by decide) (fun c15 => ?_) (fun c15 => ?_)
    ·
      have f16 := feq rfl (by decide : (0 : Int32).toInt = 0) c15
      obtain ⟨v17, ev17⟩ : ∃ y : Int32, y = x2_20 + 1 := ⟨_, rfl⟩
      try have fv17 := fadd rfl (by decide : (1 : Int32).toInt = 1) ev17 (by omega) (by omega)
      refine g_iinc C 0 v17 [(2, .int v17), (1, .int x1_6), (0, .ref (ad 258))] dX11_countWays_47 rfl (by rw [ev17]; rfl) (by decide) rfl ?_
      refine g_goto C 20 dX11_countWays_50 (by decide) ?_
      have nv := ixn (x := v17) (by omega)
      have iv : v17.toNatClampNeg = x2_20.toNatClampNeg + 1 := by omega
      have hthis : (M_6 282 (M 260 x2_20.toNatClampNeg).toNatClampNeg).toInt = 0 ∨ BT (M_6 282) (L_6 296) (M 260 x2_20.toNatClampNeg).toNatClampNeg (M 258 2).toNatClampNeg := by first | exact Or.inl (by omega) | exact Or.inr hbt
      have hjn : jj ≠ x2_20.toNatClampNeg := by
        intro e9
        rw [e9] at jj3 jj4
        rcases hthis with h9 | h9
        · exact jj3 h9
        · exact jj4 h9
      have hnb : ∀ j : Nat, j < x2_20.toNatClampNeg + 1 → (M_6 282 (M 260 j).toNatClampNeg).toInt = 0 ∨ BT (M_6 282) (L_6 296) (M 260 j).toNatClampNeg (M 258 2).toNatClampNeg := by
        intro j hj
        by_cases e9 : j = x2_20.toNatClampNeg
        · rw [e9]; exact hthis
        · exact j20_6 j (by omega)
      exact ih_20 (v17, M_20, L_20) ⟨by show 0 ≤ v17.toInt; omega, by show M_20 282 = M_6 282; exact q282, by show L_20 296 = L_6 296; exact p296, by show M_20 258 29 = M_6 258 29; exact k29.trans j20_3, by show M_20 258 31 = M_6 258 31; exact k31.trans j20_4, by show ∃ j : Nat, v17.toNatClampNeg ≤ j ∧ (j : Int) < (M 258 2).toInt ∧ ¬ (M_6 282 (M 260 j).toNatClampNeg).toInt = 0 ∧ ¬ BT (M_6 282) (L_6 296) (M 260 j).toNatClampNeg (M 258 2).toNatClampNeg; exact ⟨jj, by omega, jj2, jj3, jj4⟩, by show ∀ j : Nat, j < v17.toNatClampNeg → (M_6 282 (M 260 j).toNatClampNeg).toInt = 0 ∨ BT (M_6 282) (L_6 296) (M 260 j).toNatClampNeg (M 258 2).toNatClampNeg; rw [iv]; exact hnb, by show M_20 277 = M_6 277 ∧ M_20 278 = M_6 278 ∧ M_20 279 = M_6 279; exact j20_7, hI, hF, hG⟩ (by show (10 - v17.toInt).toNat < (10 - x2_20.toInt).toNat; omega)
    ·
      have f18 := fne rfl (by decide : (0 : Int32).toInt = 0) c15
      refine g_aload_n C 2 dX11_countWays_34 rfl ?_
      refine g_aload_n C 2 dX11_countWays_35 rfl ?_
      refine g_get C (.ref (ad 260)) 3 in_X11_countWays_11 (List.mem_of_getElem? (i := 3) rfl) (by decide) (ce_model ad cs _ _) rfl (by decide) rfl rfl dX11_countWays_36 ?_
      refine g_iload_n C 0 dX11_countWays_39 rfl ?_
      refine g_iald C (by decide) (ce_m_draw ad cs _ _) (fin' (n := 10) rfl (by omega) (by omega)) dX11_countWays_40 ?_
      refine g_ni (fun v19 ev19 => ?_)
      have gv19 : v19 = M 260 x2_20.toNatClampNeg := ev19.trans (hF 260 x2_20.toNatClampNeg (by omega))
      have tv19 := congrArg Int32.toInt gv19
      obtain ⟨bv19, dv19⟩ := (show rg 0 9 v19 from (by rw [ev19]; exact hI 260 x2_20.toNatClampNeg))
      subst gv19
      refine g_callVi C (n := 1) (As := [.int ((M 260 x2_20.toNatClampNeg))]) (st := []) (s_X11_isBeaten l D ad cs _ _ ((M 260 x2_20.toNatClampNeg)) hI ⟨by omega, by omega⟩) gX11_countWays_X11_isBeaten rfl rfl rfl (by decide +kernel) ⟨Nat.le_of_ble_eq_true rfl, Nat.le_of_ble_eq_true rfl⟩ rfl (Nat.le_of_ble_eq_true rfl) ⟨Nat.zero_le _, Nat.zero_le _⟩ (by decide) (ce_model ad cs _ _) rfl rfl dX11_countWays_41 (fun r20 M21 L22 hr20 => ?_)
      obtain ⟨hq1, hq2, hr20⟩ := hr20
      obtain rfl := hq1.symm
      obtain rfl := hq2.symm
      have hr20 : zo r20 (BT (M_6 282) (L_6 296) (M 260 x2_20.toNatClampNeg).toNatClampNeg (M 258 2).toNatClampNeg) := by
        have h9 := hr20
        rw [q282, p296, show (M_20 258 2).toNatClampNeg = (M 258 2).toNatClampNeg from congrArg Int32.toNatClampNeg (hF 258 2 (by omega))] at h9
        exact h9
      obtain ⟨bar20, bbr20⟩ := zo_b hr20
      refine g_if_eq C 53 dX11_countWays_44 (by decide) (fun c23 => ?_) (fun c23 => ?_)
      ·
        have f24 := feq rfl (by decide : (0 : Int32).toInt = 0) c23
        have hnbt := zo_f hr20 c23
        have hin9 : ¬ (M_6 282 (M 260 x2_20.toNatClampNeg).toNatClampNeg).toInt = 0 := by omega
        have hlt9 := hNI (M 260 x2_20.toNatClampNeg).toNatClampNeg (by omega) hin9
        have hfu : fuP (M 260) (M_6 282) (wS (vR M) (fun i => vR M 8 (40 * (M 258 27).toNatClampNeg + i)) (vR M 7 (M 258 27).toNatClampNeg).toNatClampNeg (M 258 2).toNatClampNeg) (M 258 2).toNatClampNeg (M 260 x2_20.toNatClampNeg) := by
          refine ⟨x2_20.toNatClampNeg, by omega, rfl, hin9, (BT_unb (by omega) j6_7).mp hnbt, fun j hj => ?_⟩
          by_cases hz : (M_6 282 (M 260 j).toNatClampNeg).toInt = 0
          · exact Or.inl hz
          · rcases j20_6 j hj with h9 | h9
            · exact Or.inl h9
            · have bj : rg 0 9 (M 260 j) := hI0 260 _
              have nj := ixn bj.1
              have hj9 := bj.2
              have hlj := hNI (M 260 j).toNatClampNeg (by omega) hz
              exact Or.inr (fun q9 => (BT_unb (by omega) j6_7).mpr q9 h9)
        obtain ⟨S9, hw9, hl9, hr9⟩ := j6_8
        have hRR : RR M_20 S9 (oneR S9) := by unfold RR; rw [j20_3, j20_4, j20_7.1, j20_7.2.1, j20_7.2.2]; exact hr9
        refine g_aload_n C 2 dX11_countWays_53 rfl ?_
        refine g_iconst C 1 dX11_countWays_54 (by decide) ?_
        refine g_aload_n C 2 dX11_countWays_55 rfl ?_
        refine g_get C (.ref (ad 260)) 3 in_X11_countWays_11 (List.mem_of_getElem? (i := 3) rfl) (by decide) (ce_model ad cs _ _) rfl (by decide) rfl rfl dX11_countWays_56 ?_
        refine g_iload_n C 0 dX11_countWays_59 rfl ?_
        refine g_iald C (by decide) (ce_m_draw ad cs _ _) (fin' (n := 10) rfl (by omega) (by omega)) dX11_countWays_60 ?_
        refine g_ni (fun v25 ev25 => ?_)
        have gv25 : v25 = M 260 x2_20.toNatClampNeg := ev25.trans (hF 260 x2_20.toNatClampNeg (by omega))
        have tv25 := congrArg Int32.toInt gv25
        obtain ⟨bv25, dv25⟩ := (show rg 0 9 v25 from (by rw [ev25]; exact hI 260 x2_20.toNatClampNeg))
        subst gv25
        refine g_callVv C (n := 2) (As := [.int 1, .int ((M 260 x2_20.toNatClampNeg))]) (st := []) (k_X11_happens l D ad cs _ _ 1 ((M 260 x2_20.toNatClampNeg)) hI (by omega)) gX11_countWays_X11_happens rfl rfl rfl (by decide +kernel) ⟨Nat.le_of_ble_eq_true rfl, Nat.le_of_ble_eq_true rfl⟩ rfl (Nat.le_of_ble_eq_true rfl) ⟨Nat.zero_le _, Nat.zero_le _⟩ (by decide) (ce_model ad cs _ _) rfl rfl dX11_countWays_61 (fun M27 L28 hr26 => ?_)
        obtain ⟨hr26, hI, hFr26, hGr26⟩ := hr26
        have hF : ∀ k i, ¬ (k = 258 ∧ i = 29) ∧ ¬ (k = 258 ∧ i = 31) ∧ k ≠ 277 ∧ k ≠ 278 ∧ k ≠ 279 ∧ k ≠ 282 → M27 k i = M k i := fun k i hk => by (rw [hFr26 k i (by omega)]; try exact hF k i hk)
        have hG : ∀ k i, k ≠ 280 ∧ k ≠ 281 ∧ k ≠ 284 ∧ k ≠ 285 ∧ k ≠ 295 ∧ k ≠ 296 → L28 k i = L k i := fun k i hk => by (rw [hGr26 k i (by omega)]; try exact hG k i hk)
        have k29 : M27 258 29 = M_20 258 29 := (hFr26 258 29 (by omega)).trans k29
        have k31 : M27 258 31 = M27 258 31 := rfl
        have kt29 := congrArg Int32.toInt k29
        have kt31 := congrArg Int32.toInt k31
        have p280 : L28 280 = L28 280 := rfl
        have p281 : L28 281 = L28 281 := rfl
        have p284 : L28 284 = L_20 284 := (funext (fun i => hGr26 284 i (by omega))).trans p284
        have p285 : L28 285 = L_20 285 := (funext (fun i => hGr26 285 i (by omega))).trans p285
        have p295 : L28 295 = L_20 295 := (funext (fun i => hGr26 295 i (by omega))).trans p295
        have p296 : L28 296 = L_6 296 := (funext (fun i => hGr26 296 i (by omega))).trans p296
        have q277 : M27 277 = M_20 277 := (funext (fun i => hFr26 277 i (by omega))).trans q277
        have q278 : M27 278 = M27 278 := rfl
        have q279 : M27 279 = M27 279 := rfl
        have q282 : M27 282 = M_6 282 := (funext (fun i => hFr26 282 i (by omega))).trans q282
        obtain ⟨hp31, hp278, hp279⟩ := hr26
        have hp29 : M27 258 29 = M_20 258 29 := hFr26 258 29 (by omega)
        have hp277 : M27 277 = M_20 277 := funext (fun i => hFr26 277 i (by omega))
        have hb9 : RP (M_20 258 29) (M_20 277) (M_20 258 31) (M_20 278) (M_20 279) _ _ := hRR
        rw [← hp29, ← hp277] at hb9
        have rp1 := RP_note hb9 hp31 hp278 hp279
        refine g_aload_n C 2 dX11_countWays_64 rfl ?_
        refine g_aload_n C 2 dX11_countWays_65 rfl ?_
        refine g_get C (.ref (ad 260)) 3 in_X11_countWays_11 (List.mem_of_getElem? (i := 3) rfl) (by decide) (ce_model ad cs _ _) rfl (by decide) rfl rfl dX11_countWays_66 ?_
        refine g_iload_n C 0 dX11_countWays_69 rfl ?_
        refine g_iald C (by decide) (ce_m_draw ad cs _ _) (fin' (n := 10) rfl (by omega) (by omega)) dX11_countWays_70 ?_
        refine g_ni (fun v29 ev29 => ?_)
        have gv29 : v29 = M 260 x2_20.toNatClampNeg := ev29.trans (hF 260 x2_20.toNatClampNeg (by omega))
        have tv29 := congrArg Int32.toInt gv29
        obtain ⟨bv29, dv29⟩ := (show rg 0 9 v29 from (by rw [ev29]; exact hI 260 x2_20.toNatClampNeg))
        subst gv29
        refine g_callVv C (n := 1) (As := [.int ((M 260 x2_20.toNatClampNeg))]) (st := []) (k_X11_gives l D ad cs _ _ ((M 260 x2_20.toNatClampNeg)) hI (by omega)) gX11_countWays_X11_gives rfl rfl rfl (by decide +kernel) ⟨Nat.le_of_ble_eq_true rfl, Nat.le_of_ble_eq_true rfl⟩ rfl (Nat.le_of_ble_eq_true rfl) ⟨Nat.zero_le _, Nat.zero_le _⟩ (by decide) (ce_model ad cs _ _) rfl rfl dX11_countWays_71 (fun M31 L32 hr30 => ?_)
        obtain ⟨hr30, hI, hFr30, hGr30⟩ := hr30
        have hF : ∀ k i, ¬ (k = 258 ∧ i = 29) ∧ ¬ (k = 258 ∧ i = 31) ∧ k ≠ 277 ∧ k ≠ 278 ∧ k ≠ 279 ∧ k ≠ 282 → M31 k i = M k i := fun k i hk => by (rw [hFr30 k i (by omega)]; try exact hF k i hk)
        have hG : ∀ k i, k ≠ 280 ∧ k ≠ 281 ∧ k ≠ 284 ∧ k ≠ 285 ∧ k ≠ 295 ∧ k ≠ 296 → L32 k i = L k i := fun k i hk => by (rw [hGr30 k i trivial]; try exact hG k i hk)
        have k31 : M31 258 31 = M27 258 31 := (hFr30 258 31 (by omega)).trans k31
        have k29 : M31 258 29 = M31 258 29 := rfl
        have kt29 := congrArg Int32.toInt k29
        have kt31 := congrArg Int32.toInt k31
        have p280 : L32 280 = L28 280 := (funext (fun i => hGr30 280 i trivial)).trans p280
        have p281 : L32 281 = L28 281 := (funext (fun i => hGr30 281 i trivial)).trans p281
        have p284 : L32 284 = L_20 284 := (funext (fun i => hGr30 284 i trivial)).trans p284
        have p285 : L32 285 = L_20 285 := (funext (fun i => hGr30 285 i trivial)).trans p285
        have p295 : L32 295 = L_20 295 := (funext (fun i => hGr30 295 i trivial)).trans p295
        have p296 : L32 296 = L_6 296 := (funext (fun i => hGr30 296 i trivial)).trans p296
        have q277 : M31 277 = M31 277 := rfl
        have q278 : M31 278 = M27 278 := (funext (fun i => hFr30 278 i (by omega))).trans q278
        have q279 : M31 279 = M27 279 := (funext (fun i => hFr30 279 i (by omega))).trans q279
        have q282 : M31 282 = M_6 282 := (funext (fun i => hFr30 282 i (by omega))).trans q282
        obtain ⟨gv29, gv277⟩ := hr30
        have gv31 : M31 258 31 = M27 258 31 := hFr30 258 31 (by omega)
        have gv278 : M31 278 = M27 278 := funext (fun i => hFr30 278 i (by omega))
        have gv279 : M31 279 = M27 279 := funext (fun i => hFr30 279 i (by omega))
        have hb9 : RP (M27 258 29) (M27 277) (M27 258 31) (M27 278) (M27 279) _ _ := rp1
        rw [← gv31, ← gv278, ← gv279] at hb9
        have rp2 := RP_give hb9 gv29 gv277
        refine g_aload_n C 2 dX11_countWays_74 rfl ?_
        refine g_get C (.ref (ad 282)) 36 in_X11_countWays_11 (List.mem_of_getElem? (i := 2) rfl) (by decide) (ce_model ad cs _ _) rfl (by decide) rfl rfl dX11_countWays_75 ?_
        refine g_aload_n C 2 dX11_countWays_78 rfl ?_
        refine g_get C (.ref (ad 260)) 3 in_X11_countWays_11 (List.mem_of_getElem? (i := 3) rfl) (by decide) (ce_model ad cs _ _) rfl (by decide) rfl rfl dX11_countWays_79 ?_
        refine g_iload_n C 0 dX11_countWays_82 rfl ?_
        refine g_iald C (by decide) (ce_m_draw ad cs _ _) (fin' (n := 10) rfl (by omega) (by omega)) dX11_countWays_83 ?_
        refine g_ni (fun v33 ev33 => ?_)
        have gv33 : v33 = M 260 x2_20.toNatClampNeg := ev33.trans (hF 260 x2_20.toNatClampNeg (by omega))
        have tv33 := congrArg Int32.toInt gv33
        obtain ⟨bv33, dv33⟩ := (show rg 0 9 v33 from (by rw [ev33]; exact hI 260 x2_20.toNatClampNeg))
        subst gv33
        refine g_iconst C 0 dX11_countWays_84 (by decide) ?_
        refine g_zast C (by decide) (ce_m_isIn ad cs _ _) (by rw [sI_k]; rfl) (fin' (n := 10) rfl (by omega) (by omega)) dX11_countWays_85 ?_
        refine g_nm (fun M34 hM34 => ?_)
        have zy35 : (0 : Int32).toInt = 0 := by decide
        have hI : IR M34 := by rw [hM34]; exact hI.st (show bR 282 _ _ from trivial)
        have hF : ∀ k i, ¬ (k = 258 ∧ i = 29) ∧ ¬ (k = 258 ∧ i = 31) ∧ k ≠ 277 ∧ k ≠ 278 ∧ k ≠ 279 ∧ k ≠ 282 → M34 k i = M k i := fun k i hk => by (rw [hM34, sI_at, if_neg (by omega)]; try exact hF k i hk)
        have k29 : M34 258 29 = M31 258 29 := by rw [hM34, sI_n _ _ _ (by decide)]; try exact k29
        have k31 : M34 258 31 = M27 258 31 := by rw [hM34, sI_n _ _ _ (by decide)]; try exact k31
        have q277 : M34 277 = M31 277 := by rw [hM34, sI_n _ _ _ (by decide)]; try exact q277
        have q278 : M34 278 = M27 278 := by rw [hM34, sI_n _ _ _ (by decide)]; try exact q278
        have q279 : M34 279 = M27 279 := by rw [hM34, sI_n _ _ _ (by decide)]; try exact q279
        have h282 : M34 282 = upd (M_6 282) (M 260 x2_20.toNatClampNeg).toNatClampNeg 0 := by rw [hM34, sI_k, q282]; rfl
        have hcu := cI_upd (T := M_6 282) (b := (M 260 x2_20.toNatClampNeg).toNatClampNeg) hin9 (M 258 2).toNatClampNeg
        rw [if_pos (by omega), ← h282] at hcu
        have hNI2 : NIn (M34 282) (M 258 2).toInt := by rw [h282]; exact NIn_upd hNI _
        have q282 : M34 282 = M34 282 := rfl
        have e1 : M34 258 = M31 258 := by rw [hM34, sI_n _ _ _ (by decide)]
        have e277 : M34 277 = M31 277 := by rw [hM34, sI_n _ _ _ (by decide)]
        have e278 : M34 278 = M31 278 := by rw [hM34, sI_n _ _ _ (by decide)]
        have e279 : M34 279 = M31 279 := by rw [hM34, sI_n _ _ _ (by decide)]
        have rp3 : RP (M31 258 29) (M31 277) (M31 258 31) (M31 278) (M31 279) _ _ := rp2
        rw [← e1, ← e277, ← e278, ← e279] at rp3
        have hexS : ∃ S, wyP (M 260) (wS (vR M) (fun i => vR M 8 (40 * (M 258 27).toNatClampNeg + i)) (vR M 7 (M 258 27).toNatClampNeg).toNatClampNeg (M 258 2).toNatClampNeg) (M 258 2).toNatClampNeg (M 282) S (M34 282) ∧ (S.length : Int) = x1_6.toInt + 1 ∧ RR M34 S (oneR S) := ⟨S9 ++ [(M 260 x2_20.toNatClampNeg)], by rw [h282]; exact wyP_app hw9 (fun K hK => fuP_ext (fun i => hI0 260 i) (by omega) hK hrl (fun _ _ _ _ _ => rfl) hfu), by rw [List.length_append, Int.natCast_add, hl9]; rfl, by rw [oneR_app]; exact rp3⟩
        obtain ⟨v36, ev36⟩ : ∃ y : Int32, y = x1_6 + 1 := ⟨_, rfl⟩
        try have fv36 := fadd rfl (by decide : (1 : Int32).toInt = 1) ev36 (by omega) (by omega)
        refine g_iinc C 1 v36 [(1, .int v36), (2, .int x2_20), (0, .ref (ad 258))] dX11_countWays_86 rfl (by rw [ev36]; rfl) (by decide) rfl ?_
        refine g_goto C 6 dX11_countWays_89 (by decide) ?_
        refine g_lv [0, 2] [(1, .int v36), (0, .ref (ad 258))] rfl ?_
        have k29t := congrArg Int32.toInt k29
        have k31t := congrArg Int32.toInt k31
        have e296 : L32 296 = L_6 296 := p296
        exact ih_6 (v36, M34, L32) ⟨by show 0 ≤ v36.toInt; omega, by show v36.toInt ≤ (M 258 28).toInt; omega, by show (M34 258 29).toInt = v36.toInt; omega, by show (M34 258 31).toInt = v36.toInt; omega, by show (M 258 28).toInt ≤ (cI (M34 282) (M 258 2).toNatClampNeg : Int) + v36.toInt; omega, by show NIn (M34 282) (M 258 2).toInt; exact hNI2, by show CL (M 258 2).toNatClampNeg (M 258 2).toNatClampNeg (wv (L32 296)); rw [e296]; exact j6_6, by show ∀ u9, u9 < (M 258 2).toNatClampNeg → ∀ v9, v9 < (M 258 2).toNatClampNeg → wv (L32 296) u9 v9 = (wS (vR M) (fun i => vR M 8 (40 * (M 258 27).toNatClampNeg + i)) (vR M 7 (M 258 27).toNatClampNeg).toNatClampNeg (M 258 2).toNatClampNeg) u9 v9; rw [e296]; exact j6_7, by show ∃ S, wyP (M 260) (wS (vR M) (fun i => vR M 8 (40 * (M 258 27).toNatClampNeg + i)) (vR M 7 (M 258 27).toNatClampNeg).toNatClampNeg (M 258 2).toNatClampNeg) (M 258 2).toNatClampNeg (M 282) S (M34 282) ∧ (S.length : Int) = v36.toInt ∧ RR M34 S (oneR S); obtain ⟨S8, a8, b8, c8⟩ := hexS; exact ⟨S8, a8, by omega, c8⟩, hI, hF, hG⟩ (by show (31 - v36.toInt).toNat < (31 - x1_6.toInt).toNat; omega)
      ·
        have f37 := fne rfl (by decide : (0 : Int32).toInt = 0) c23
        have hbt := zo_t hr20 c23
        obtain ⟨v38, ev38⟩ : ∃ y : Int32, y = x2_20 + 1 := ⟨_, rfl⟩
        try have fv38 := fadd rfl (by decide : (1 : Int32).toInt = 1) ev38 (by omega) (by omega)
        refine g_iinc C 0 v38 [(2, .int v38), (1, .int x1_6), (0, .ref (ad 258))] dX11_countWays_47 rfl (by rw [ev38]; rfl) (by decide) rfl ?_
        refine g_goto C 20 dX11_countWays_50 (by decide) ?_
        have nv := ixn (x := v38) (by omega)
        have iv : v38.toNatClampNeg = x2_20.toNatClampNeg + 1 := by omega
        have hthis : (M_6 282 (M 260 x2_20.toNatClampNeg).toNatClampNeg).toInt = 0 ∨ BT (M_6 282) (L_6 296) (M 260 x2_20.toNatClampNeg).toNatClampNeg (M 258 2).toNatClampNeg := by first | exact Or.inl (by omega) | exact Or.inr hbt
        have hjn : jj ≠ x2_20.toNatClampNeg := by
          intro e9
          rw [e9] at jj3 jj4
          rcases hthis with h9 | h9
          · exact jj3 h9
          · exact jj4 h9
        have hnb : ∀ j : Nat, j < x2_20.toNatClampNeg + 1 → (M_6 282 (M 260 j).toNatClampNeg).toInt = 0 ∨ BT (M_6 282) (L_6 296) (M 260 j).toNatClampNeg (M 258 2).toNatClampNeg := by
          intro j hj
          by_cases e9 : j = x2_20.toNatClampNeg
          · rw [e9]; exact hthis
          · exact j20_6 j (by omega)
        exact ih_20 (v38, M_20, L_20) ⟨by show 0 ≤ v38.toInt; omega, by show M_20 282 = M_6 282; exact q282, by show L_20 296 = L_6 296; exact p296, by show M_20 258 29 = M_6 258 29; exact k29.trans j20_3, by show M_20 258 31 = M_6 258 31; exact k31.trans j20_4, by show ∃ j : Nat, v38.toNatClampNeg ≤ j ∧ (j : Int) < (M 258 2).toInt ∧ ¬ (M_6 282 (M 260 j).toNatClampNeg).toInt = 0 ∧ ¬ BT (M_6 282) (L_6 296) (M 260 j).toNatClampNeg (M 258 2).toNatClampNeg; exact ⟨jj, by omega, jj2, jj3, jj4⟩, by show ∀ j : Nat, j < v38.toNatClampNeg → (M_6 282 (M 260 j).toNatClampNeg).toInt = 0 ∨ BT (M_6 282) (L_6 296) (M 260 j).toNatClampNeg (M 258 2).toNatClampNeg; rw [iv]; exact hnb, by show M_20 277 = M_6 277 ∧ M_20 278 = M_6 278 ∧ M_20 279 = M_6 279; exact j20_7, hI, hF, hG⟩ (by show (10 - v38.toInt).toNat < (10 - x2_20.toInt).toNat; omega)
