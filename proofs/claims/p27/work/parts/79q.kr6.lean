set_option maxHeartbeats 4000000 in
set_option maxRecDepth 100000 in
theorem k_X11_countTransfer (l : Launch) (D : va_G) (ad : Nat → Nat) (cs : Nat → ClassId) (M : MI) (L : ML)  (hI : IR M) (hD : DP (vR M)) (hNI0 : NIn (M 282) (M 258 2).toInt) (hW : WT L) (hs0 : (M 258 25).toInt = 0) (hg0 : (M 258 29).toInt = 0) (hm0 : (M 258 31).toInt = 0) (hX : hasX (vR M) (M 258 27)) (hB8 : ∀ i : Nat, (vR M 8 i).toInt = -9 ∨ (0 ≤ (vR M 8 i).toInt ∧ (vR M 8 i).toInt ≤ 59)) : Cv l yX11_countTransfer wsX11_countTransfer ({ frames := 4, cells := 0, slots := 0, locals := 103 }) D ad cs [.ref (ad 258)] M L (fun M1 L1 => (∃ k, (∀ j, j < k → ¬ qrD (M 258 2).toNatClampNeg (M 258 28).toNatClampNeg (qrN (vR M) (M 260) (fun i => vR M 8 (40 * (M 258 27).toNatClampNeg + i)) (vR M 7 (M 258 27).toNatClampNeg).toNatClampNeg (M 258 2).toNatClampNeg (M 258 28).toNatClampNeg ((sumP (vR M) (M 258 27).toNatClampNeg (vR M 7 (M 258 27).toNatClampNeg).toNatClampNeg / (M 258 28 + 1)).toInt64 + 1) (M 282, (L 286, L 287), [], [], true) j)) ∧ qrD (M 258 2).toNatClampNeg (M 258 28).toNatClampNeg (qrN (vR M) (M 260) (fun i => vR M 8 (40 * (M 258 27).toNatClampNeg + i)) (vR M 7 (M 258 27).toNatClampNeg).toNatClampNeg (M 258 2).toNatClampNeg (M 258 28).toNatClampNeg ((sumP (vR M) (M 258 27).toNatClampNeg (vR M 7 (M 258 27).toNatClampNeg).toNatClampNeg / (M 258 28 + 1)).toInt64 + 1) (M 282, (L 286, L 287), [], [], true) k) ∧ ((M1 258 25).toInt = 0 ↔ (qrN (vR M) (M 260) (fun i => vR M 8 (40 * (M 258 27).toNatClampNeg + i)) (vR M 7 (M 258 27).toNatClampNeg).toNatClampNeg (M 258 2).toNatClampNeg (M 258 28).toNatClampNeg ((sumP (vR M) (M 258 27).toNatClampNeg (vR M 7 (M 258 27).toNatClampNeg).toNatClampNeg / (M 258 28 + 1)).toInt64 + 1) (M 282, (L 286, L 287), [], [], true) k).2.2.2.2 = true) ∧ ((M1 258 25).toInt = 0 → RR M1 (qrN (vR M) (M 260) (fun i => vR M 8 (40 * (M 258 27).toNatClampNeg + i)) (vR M 7 (M 258 27).toNatClampNeg).toNatClampNeg (M 258 2).toNatClampNeg (M 258 28).toNatClampNeg ((sumP (vR M) (M 258 27).toNatClampNeg (vR M 7 (M 258 27).toNatClampNeg).toNatClampNeg / (M 258 28 + 1)).toInt64 + 1) (M 282, (L 286, L 287), [], [], true) k).2.2.1 (qrN (vR M) (M 260) (fun i => vR M 8 (40 * (M 258 27).toNatClampNeg + i)) (vR M 7 (M 258 27).toNatClampNeg).toNatClampNeg (M 258 2).toNatClampNeg (M 258 28).toNatClampNeg ((sumP (vR M) (M 258 27).toNatClampNeg (vR M 7 (M 258 27).toNatClampNeg).toNatClampNeg / (M 258 28 + 1)).toInt64 + 1) (M 282, (L 286, L 287), [], [], true) k).2.2.2.1)) ∧ IR M1 ∧ (∀ k i, ¬ (k = 258 ∧ i = 25) ∧ ¬ (k = 258 ∧ i = 29) ∧ ¬ (k = 258 ∧ i = 31) ∧ k ≠ 277 ∧ k ≠ 278 ∧ k ≠ 279 ∧ k ≠ 282 → M1 k i = M k i) ∧ ∀ k i, ¬ (k = 258 ∧ i = 23) ∧ ¬ (k = 258 ∧ i = 24) ∧ k ≠ 284 ∧ k ≠ 285 ∧ k ≠ 280 ∧ k ≠ 281 ∧ k ≠ 286 ∧ k ≠ 287 → L1 k i = L k i) := by
  refine enter_v RX11 rfl [(0, .ref (ad 258))] rfl (Nat.le_of_ble_eq_true rfl) (by decide +kernel) rfl ?_
  intro p e s m below meth c C hr
  have hF : ∀ k i, ¬ (k = 258 ∧ i = 25) ∧ ¬ (k = 258 ∧ i = 29) ∧ ¬ (k = 258 ∧ i = 31) ∧ k ≠ 277 ∧ k ≠ 278 ∧ k ≠ 279 ∧ k ≠ 282 → M k i = M k i := fun _ _ _ => rfl
  have hG : ∀ k i, ¬ (k = 258 ∧ i = 23) ∧ ¬ (k = 258 ∧ i = 24) ∧ k ≠ 284 ∧ k ≠ 285 ∧ k ≠ 280 ∧ k ≠ 281 ∧ k ≠ 286 ∧ k ≠ 287 → L k i = L k i := fun _ _ _ => rfl
  have hI0 := hI
  have hX1 := hX.1
  have hX2 := hX.2
  obtain ⟨sza, szb⟩ := (show rg 0 40 (vR M 7 (M 258 27).toNatClampNeg) from hI 266 _)
  have nsz := ixn sza
  obtain ⟨ca, cb⟩ := (show rg 0 10 (M 258 2) from hI 258 2)
  have n02 := ixn ca
  obtain ⟨sa, sb⟩ := (show rg 0 30 (M 258 28) from hI 258 28)
  have hle := cI_le (M 282) (M 258 2).toNatClampNeg
  have nsd := ixn sa
  have k25 : M 258 25 = M 258 25 := rfl
  have k29 : M 258 29 = M 258 29 := rfl
  have k31 : M 258 31 = M 258 31 := rfl
  have l23 : L 258 23 = L 258 23 := rfl
  have l24 : L 258 24 = L 258 24 := rfl
  have p280 : L 280 = L 280 := rfl
  have p281 : L 281 = L 281 := rfl
  have p284 : L 284 = L 284 := rfl
  have p285 : L 285 = L 285 := rfl
  have p286 : L 286 = L 286 := rfl
  have p287 : L 287 = L 287 := rfl
  have q277 : M 277 = M 277 := rfl
  have q278 : M 278 = M 278 := rfl
  have q279 : M 279 = M 279 := rfl
  have q282 : M 282 = M 282 := rfl
  refine g_aload_n C 0 dX11_countTransfer_0 rfl ?_
  refine g_aload_n C 0 dX11_countTransfer_1 rfl ?_
  refine g_get C (.int (M 258 27)) 27 in_X11_countTransfer_11 (List.mem_of_getElem? (i := 1) rfl) (by decide) (ce_model ad cs _ _) rfl (by decide) rfl rfl dX11_countTransfer_2 ?_
  refine g_ni (fun v1 ev1 => ?_)
  have gv1 : v1 = M 258 27 := ev1
  have tv1 := congrArg Int32.toInt gv1
  obtain ⟨bv1, dv1⟩ := (show rg 0 7 v1 from (by rw [ev1]; exact hI 258 27))
  refine g_callVi C (n := 1) (As := [.int v1]) (st := []) (s_X11_papersIn l D ad cs _ _ v1 hI (by rw [ev1]; exact hX)) gX11_countTransfer_X11_papersIn rfl rfl rfl (by decide +kernel) ⟨Nat.le_of_ble_eq_true rfl, Nat.le_of_ble_eq_true rfl⟩ rfl (Nat.le_of_ble_eq_true rfl) ⟨Nat.zero_le _, Nat.zero_le _⟩ (by decide) (ce_model ad cs _ _) rfl rfl dX11_countTransfer_5 (fun r2 M3 L4 hr2 => ?_)
  obtain ⟨hq1, hq2, hr2⟩ := hr2
  obtain rfl := hq1.symm
  obtain rfl := hq2.symm
  obtain ⟨hr2, bar2, bbr2⟩ := hr2
  rw [gv1] at hr2
  refine g_aload_n C 0 dX11_countTransfer_8 rfl ?_
  refine g_get C (.int (M 258 28)) 28 in_X11_countTransfer_11 (List.mem_of_getElem? (i := 2) rfl) (by decide) (ce_model ad cs _ _) rfl (by decide) rfl rfl dX11_countTransfer_9 ?_
  refine g_ni (fun v5 ev5 => ?_)
  have gv5 : v5 = M 258 28 := ev5
  have tv5 := congrArg Int32.toInt gv5
  obtain ⟨bv5, dv5⟩ := (show rg 0 30 v5 from (by rw [ev5]; exact hI 258 28))
  refine g_iconst C 1 dX11_countTransfer_12 (by decide) ?_
  refine g_iadd C dX11_countTransfer_13 ?_
  refine g_ni (fun v6 ev6 => ?_)
  try have fv6 := fadd rfl (by decide : (1 : Int32).toInt = 1) ev6 (by omega) (by omega)
  refine g_idiv C dX11_countTransfer_14 (by intro h9; have h8 := congrArg Int32.toInt h9; have h7 : (0 : Int32).toInt = 0 := (by decide); omega) ?_
  refine g_ni (fun v7 ev7 => ?_)
  try have fv7 := idivI ev7 (by omega) (by omega)
  refine g_i2l C dX11_countTransfer_15 ?_
  refine g_nl (fun v8 ev8 => ?_)
  have fv8 := fi2l rfl ev8
  refine g_lconst C 1 dX11_countTransfer_16 (by decide) ?_
  refine g_ladd C dX11_countTransfer_17 ?_
  refine g_nl (fun v9 ev9 => ?_)
  try have fv9 := fladd rfl (by decide : (1 : Int64).toInt = 1) ev9 (by omega) (by omega)
  have hqv : v9 = ((sumP (vR M) (M 258 27).toNatClampNeg (vR M 7 (M 258 27).toNatClampNeg).toNatClampNeg / (M 258 28 + 1)).toInt64 + 1) := by simp only [ev9, ev8, ev7, ev6, gv5, hr2, gv1]
  refine g_lstore_n C [(1, .long v9), (0, .ref (ad 258))] dX11_countTransfer_18 (by decide) rfl ?_
  refine g_loop (α := MI × ML) (fun a => cI (a.1 282) (M 258 2).toNatClampNeg * 2 + (1 - (a.1 258 25).toInt).toNat) (fun a => (NIn (a.1 282) (M 258 2).toInt) ∧ ((a.1 258 25).toInt = 0 → WT a.2) ∧ ((a.1 258 31).toInt + (cI (a.1 282) (M 258 2).toNatClampNeg : Int) ≤ 10) ∧ (0 ≤ (a.1 258 29).toInt ∧ (a.1 258 29).toInt ≤ (M 258 28).toInt) ∧ (0 ≤ (a.1 258 25).toInt ∧ (a.1 258 25).toInt ≤ 1) ∧ (∃ k, (∀ j, j < k → ¬ qrD (M 258 2).toNatClampNeg (M 258 28).toNatClampNeg (qrN (vR M) (M 260) (fun i => vR M 8 (40 * (M 258 27).toNatClampNeg + i)) (vR M 7 (M 258 27).toNatClampNeg).toNatClampNeg (M 258 2).toNatClampNeg (M 258 28).toNatClampNeg ((sumP (vR M) (M 258 27).toNatClampNeg (vR M 7 (M 258 27).toNatClampNeg).toNatClampNeg / (M 258 28 + 1)).toInt64 + 1) (M 282, (L 286, L 287), [], [], true) j)) ∧ ((a.1 258 25).toInt = 0 ↔ (qrN (vR M) (M 260) (fun i => vR M 8 (40 * (M 258 27).toNatClampNeg + i)) (vR M 7 (M 258 27).toNatClampNeg).toNatClampNeg (M 258 2).toNatClampNeg (M 258 28).toNatClampNeg ((sumP (vR M) (M 258 27).toNatClampNeg (vR M 7 (M 258 27).toNatClampNeg).toNatClampNeg / (M 258 28 + 1)).toInt64 + 1) (M 282, (L 286, L 287), [], [], true) k).2.2.2.2 = true) ∧ ((a.1 258 25).toInt = 0 → a.1 282 = (qrN (vR M) (M 260) (fun i => vR M 8 (40 * (M 258 27).toNatClampNeg + i)) (vR M 7 (M 258 27).toNatClampNeg).toNatClampNeg (M 258 2).toNatClampNeg (M 258 28).toNatClampNeg ((sumP (vR M) (M 258 27).toNatClampNeg (vR M 7 (M 258 27).toNatClampNeg).toNatClampNeg / (M 258 28 + 1)).toInt64 + 1) (M 282, (L 286, L 287), [], [], true) k).1 ∧ a.2 286 = (qrN (vR M) (M 260) (fun i => vR M 8 (40 * (M 258 27).toNatClampNeg + i)) (vR M 7 (M 258 27).toNatClampNeg).toNatClampNeg (M 258 2).toNatClampNeg (M 258 28).toNatClampNeg ((sumP (vR M) (M 258 27).toNatClampNeg (vR M 7 (M 258 27).toNatClampNeg).toNatClampNeg / (M 258 28 + 1)).toInt64 + 1) (M 282, (L 286, L 287), [], [], true) k).2.1.1 ∧ a.2 287 = (qrN (vR M) (M 260) (fun i => vR M 8 (40 * (M 258 27).toNatClampNeg + i)) (vR M 7 (M 258 27).toNatClampNeg).toNatClampNeg (M 258 2).toNatClampNeg (M 258 28).toNatClampNeg ((sumP (vR M) (M 258 27).toNatClampNeg (vR M 7 (M 258 27).toNatClampNeg).toNatClampNeg / (M 258 28 + 1)).toInt64 + 1) (M 282, (L 286, L 287), [], [], true) k).2.1.2 ∧ RR a.1 (qrN (vR M) (M 260) (fun i => vR M 8 (40 * (M 258 27).toNatClampNeg + i)) (vR M 7 (M 258 27).toNatClampNeg).toNatClampNeg (M 258 2).toNatClampNeg (M 258 28).toNatClampNeg ((sumP (vR M) (M 258 27).toNatClampNeg (vR M 7 (M 258 27).toNatClampNeg).toNatClampNeg / (M 258 28 + 1)).toInt64 + 1) (M 282, (L 286, L 287), [], [], true) k).2.2.1 (qrN (vR M) (M 260) (fun i => vR M 8 (40 * (M 258 27).toNatClampNeg + i)) (vR M 7 (M 258 27).toNatClampNeg).toNatClampNeg (M 258 2).toNatClampNeg (M 258 28).toNatClampNeg ((sumP (vR M) (M 258 27).toNatClampNeg (vR M 7 (M 258 27).toNatClampNeg).toNatClampNeg / (M 258 28 + 1)).toInt64 + 1) (M 282, (L 286, L 287), [], [], true) k).2.2.2.1)) ∧ IR a.1 ∧ (∀ k i, ¬ (k = 258 ∧ i = 25) ∧ ¬ (k = 258 ∧ i = 29) ∧ ¬ (k = 258 ∧ i = 31) ∧ k ≠ 277 ∧ k ≠ 278 ∧ k ≠ 279 ∧ k ≠ 282 → a.1 k i = M k i) ∧ (∀ k i, ¬ (k = 258 ∧ i = 23) ∧ ¬ (k = 258 ∧ i = 24) ∧ k ≠ 284 ∧ k ≠ 285 ∧ k ≠ 280 ∧ k ≠ 281 ∧ k ≠ 286 ∧ k ≠ 287 → a.2 k i = L k i)) (fun a => a.1) (fun a => a.2) (fun a => [(1, .long v9), (0, .ref (ad 258))]) (M, L) ⟨by show NIn (M 282) (M 258 2).toInt; exact hNI0, by show (M 258 25).toInt = 0 → WT L; exact fun _ => hW, by show (M 258 31).toInt + (cI (M 282) (M 258 2).toNatClampNeg : Int) ≤ 10; omega, by show 0 ≤ (M 258 29).toInt ∧ (M 258 29).toInt ≤ (M 258 28).toInt; omega, by show 0 ≤ (M 258 25).toInt ∧ (M 258 25).toInt ≤ 1; exact hI 258 25, by show ∃ k, (∀ j, j < k → ¬ qrD (M 258 2).toNatClampNeg (M 258 28).toNatClampNeg (qrN (vR M) (M 260) (fun i => vR M 8 (40 * (M 258 27).toNatClampNeg + i)) (vR M 7 (M 258 27).toNatClampNeg).toNatClampNeg (M 258 2).toNatClampNeg (M 258 28).toNatClampNeg ((sumP (vR M) (M 258 27).toNatClampNeg (vR M 7 (M 258 27).toNatClampNeg).toNatClampNeg / (M 258 28 + 1)).toInt64 + 1) (M 282, (L 286, L 287), [], [], true) j)) ∧ ((M 258 25).toInt = 0 ↔ (qrN (vR M) (M 260) (fun i => vR M 8 (40 * (M 258 27).toNatClampNeg + i)) (vR M 7 (M 258 27).toNatClampNeg).toNatClampNeg (M 258 2).toNatClampNeg (M 258 28).toNatClampNeg ((sumP (vR M) (M 258 27).toNatClampNeg (vR M 7 (M 258 27).toNatClampNeg).toNatClampNeg / (M 258 28 + 1)).toInt64 + 1) (M 282, (L 286, L 287), [], [], true) k).2.2.2.2 = true) ∧ ((M 258 25).toInt = 0 → M 282 = (qrN (vR M) (M 260) (fun i => vR M 8 (40 * (M 258 27).toNatClampNeg + i)) (vR M 7 (M 258 27).toNatClampNeg).toNatClampNeg (M 258 2).toNatClampNeg (M 258 28).toNatClampNeg ((sumP (vR M) (M 258 27).toNatClampNeg (vR M 7 (M 258 27).toNatClampNeg).toNatClampNeg / (M 258 28 + 1)).toInt64 + 1) (M 282, (L 286, L 287), [], [], true) k).1 ∧ L 286 = (qrN (vR M) (M 260) (fun i => vR M 8 (40 * (M 258 27).toNatClampNeg + i)) (vR M 7 (M 258 27).toNatClampNeg).toNatClampNeg (M 258 2).toNatClampNeg (M 258 28).toNatClampNeg ((sumP (vR M) (M 258 27).toNatClampNeg (vR M 7 (M 258 27).toNatClampNeg).toNatClampNeg / (M 258 28 + 1)).toInt64 + 1) (M 282, (L 286, L 287), [], [], true) k).2.1.1 ∧ L 287 = (qrN (vR M) (M 260) (fun i => vR M 8 (40 * (M 258 27).toNatClampNeg + i)) (vR M 7 (M 258 27).toNatClampNeg).toNatClampNeg (M 258 2).toNatClampNeg (M 258 28).toNatClampNeg ((sumP (vR M) (M 258 27).toNatClampNeg (vR M 7 (M 258 27).toNatClampNeg).toNatClampNeg / (M 258 28 + 1)).toInt64 + 1) (M 282, (L 286, L 287), [], [], true) k).2.1.2 ∧ RR M (qrN (vR M) (M 260) (fun i => vR M 8 (40 * (M 258 27).toNatClampNeg + i)) (vR M 7 (M 258 27).toNatClampNeg).toNatClampNeg (M 258 2).toNatClampNeg (M 258 28).toNatClampNeg ((sumP (vR M) (M 258 27).toNatClampNeg (vR M 7 (M 258 27).toNatClampNeg).toNatClampNeg / (M 258 28 + 1)).toInt64 + 1) (M 282, (L 286, L 287), [], [], true) k).2.2.1 (qrN (vR M) (M 260) (fun i => vR M 8 (40 * (M 258 27).toNatClampNeg + i)) (vR M 7 (M 258 27).toNatClampNeg).toNatClampNeg (M 258 2).toNatClampNeg (M 258 28).toNatClampNeg ((sumP (vR M) (M 258 27).toNatClampNeg (vR M 7 (M 258 27).toNatClampNeg).toNatClampNeg / (M 258 28 + 1)).toInt64 + 1) (M 282, (L 286, L 287), [], [], true) k).2.2.2.1); exact ⟨0, fun j hj => absurd hj (Nat.not_lt_zero j), ⟨fun _ => rfl, fun _ => hs0⟩, fun _ => ⟨rfl, rfl, rfl, RP_0 hg0 hm0⟩⟩, hI, hF, hG⟩ rfl rfl rfl ?_
  rintro ⟨M_19, L_19⟩ ⟨j19_0, j19_1, j19_2, j19_3, j19_4, j19_5, hI, hF, hG⟩ ih_19
  dsimp only at j19_0 j19_1 j19_2 j19_3 j19_4 j19_5 hI hF hG ih_19 ⊢
  have k25 : M_19 258 25 = M_19 258 25 := rfl
  have k29 : M_19 258 29 = M_19 258 29 := rfl
  have k31 : M_19 258 31 = M_19 258 31 := rfl
  have l23 : L_19 258 23 = L_19 258 23 := rfl
  have l24 : L_19 258 24 = L_19 258 24 := rfl
  have p280 : L_19 280 = L_19 280 := rfl
  have p281 : L_19 281 = L_19 281 := rfl
  have p284 : L_19 284 = L_19 284 := rfl
  have p285 : L_19 285 = L_19 285 := rfl
  have p286 : L_19 286 = L_19 286 := rfl
  have p287 : L_19 287 = L_19 287 := rfl
  have q277 : M_19 277 = M_19 277 := rfl
  have q278 : M_19 278 = M_19 278 := rfl
  have q279 : M_19 279 = M_19 279 := rfl
  have q282 : M_19 282 = M_19 282 := rfl
  have hNI := j19_0
  obtain ⟨k9, hk1, hk2, hk3⟩ := j19_5
  have hMv : vR M_19 = vR M := vR_fr (fun k i hk => hF k i (by omega))
  have h27 : M_19 258 27 = M 258 27 := hF 258 27 (by omega)
  refine g_aload_n C 1 dX11_countTransfer_19 rfl ?_
  refine g_get C (.int (M_19 258 29)) 29 in_X11_countTransfer_11 (List.mem_of_getElem? (i := 3) rfl) (by decide) (ce_model ad cs _ _) rfl (by decide) rfl rfl dX11_countTransfer_20 ?_
  refine g_ni (fun v10 ev10 => ?_)
  have gv10 : v10 = M_19 258 29 := ev10.trans k29
  have tv10 := congrArg Int32.toInt gv10
  obtain ⟨bv10, dv10⟩ := (show rg 0 30 v10 from (by rw [ev10]; exact hI 258 29))
  refine g_aload_n C 1 dX11_countTransfer_23 rfl ?_
  refine g_get C (.int (M_19 258 28)) 28 in_X11_countTransfer_11 (List.mem_of_getElem? (i := 2) rfl) (by decide) (ce_model ad cs _ _) rfl (by decide) rfl rfl dX11_countTransfer_24 ?_
  refine g_ni (fun v11 ev11 => ?_)
  have gv11 : v11 = M 258 28 := ev11.trans (hF 258 28 (by omega))
  have tv11 := congrArg Int32.toInt gv11
  obtain ⟨bv11, dv11⟩ := (show rg 0 30 v11 from (by rw [ev11]; exact hI 258 28))
  refine g_icmp_ge C 152 dX11_countTransfer_27 (by decide) (fun c12 => ?_) (fun c12 => ?_)
  ·
    have f13 := fle rfl rfl c12
    exact g_vret C hr ⟨(by
      refine ⟨k9, hk1, ?_, hk2, fun h9 => (hk3 h9).2.2.2⟩
      by_cases hz : (M_19 258 25).toInt = 0
      · obtain ⟨eI, eWu, eWd, eRR⟩ := hk3 hz
        have eS9 := eRR.1
        have hcI9 : cI (qrN (vR M) (M 260) (fun i => vR M 8 (40 * (M 258 27).toNatClampNeg + i)) (vR M 7 (M 258 27).toNatClampNeg).toNatClampNeg (M 258 2).toNatClampNeg (M 258 28).toNatClampNeg ((sumP (vR M) (M 258 27).toNatClampNeg (vR M 7 (M 258 27).toNatClampNeg).toNatClampNeg / (M 258 28 + 1)).toInt64 + 1) (M 282, (L 286, L 287), [], [], true) k9).1 (M 258 2).toNatClampNeg = cI (M_19 282) (M 258 2).toNatClampNeg := by rw [eI]
        first | exact Or.inr (Or.inl (by omega)) | exact Or.inr (Or.inr (by omega)) | exact absurd hz (by omega)
      · refine Or.inl ?_
        cases hb9 : (qrN (vR M) (M 260) (fun i => vR M 8 (40 * (M 258 27).toNatClampNeg + i)) (vR M 7 (M 258 27).toNatClampNeg).toNatClampNeg (M 258 2).toNatClampNeg (M 258 28).toNatClampNeg ((sumP (vR M) (M 258 27).toNatClampNeg (vR M 7 (M 258 27).toNatClampNeg).toNatClampNeg / (M 258 28 + 1)).toInt64 + 1) (M 282, (L 286, L 287), [], [], true) k9).2.2.2.2 with
        | false => rfl
        | true => exact absurd (hk2.mpr hb9) hz), hI, hF, hG⟩ dX11_countTransfer_152
  ·
    have f14 := fnle rfl rfl c12
    refine g_aload_n C 1 dX11_countTransfer_30 rfl ?_
    refine g_callVi C (n := 0) (As := []) (st := []) (s_X11_inMany l D ad cs _ _  hI ) gX11_countTransfer_X11_inMany rfl rfl rfl (by decide +kernel) ⟨Nat.le_of_ble_eq_true rfl, Nat.le_of_ble_eq_true rfl⟩ rfl (Nat.le_of_ble_eq_true rfl) ⟨Nat.zero_le _, Nat.zero_le _⟩ (by decide) (ce_model ad cs _ _) rfl rfl dX11_countTransfer_31 (fun r15 M16 L17 hr15 => ?_)
    obtain ⟨hq1, hq2, hr15⟩ := hr15
    obtain rfl := hq1.symm
    obtain rfl := hq2.symm
    have tin := hr15
    rw [show (M_19 258 2).toNatClampNeg = (M 258 2).toNatClampNeg from congrArg Int32.toNatClampNeg (hF 258 2 (by omega)), q282] at tin
    refine g_if_le C 152 dX11_countTransfer_34 (by decide) (fun c18 => ?_) (fun c18 => ?_)
    ·
      have f19 := fle rfl (by decide : (0 : Int32).toInt = 0) c18
      exact g_vret C hr ⟨(by
      refine ⟨k9, hk1, ?_, hk2, fun h9 => (hk3 h9).2.2.2⟩
      by_cases hz : (M_19 258 25).toInt = 0
      · obtain ⟨eI, eWu, eWd, eRR⟩ := hk3 hz
        have eS9 := eRR.1
        have hcI9 : cI (qrN (vR M) (M 260) (fun i => vR M 8 (40 * (M 258 27).toNatClampNeg + i)) (vR M 7 (M 258 27).toNatClampNeg).toNatClampNeg (M 258 2).toNatClampNeg (M 258 28).toNatClampNeg ((sumP (vR M) (M 258 27).toNatClampNeg (vR M 7 (M 258 27).toNatClampNeg).toNatClampNeg / (M 258 28 + 1)).toInt64 + 1) (M 282, (L 286, L 287), [], [], true) k9).1 (M 258 2).toNatClampNeg = cI (M_19 282) (M 258 2).toNatClampNeg := by rw [eI]
        first | exact Or.inr (Or.inl (by omega)) | exact Or.inr (Or.inr (by omega)) | exact absurd hz (by omega)
      · refine Or.inl ?_
        cases hb9 : (qrN (vR M) (M 260) (fun i => vR M 8 (40 * (M 258 27).toNatClampNeg + i)) (vR M 7 (M 258 27).toNatClampNeg).toNatClampNeg (M 258 2).toNatClampNeg (M 258 28).toNatClampNeg ((sumP (vR M) (M 258 27).toNatClampNeg (vR M 7 (M 258 27).toNatClampNeg).toNatClampNeg / (M 258 28 + 1)).toInt64 + 1) (M 282, (L 286, L 287), [], [], true) k9).2.2.2.2 with
        | false => rfl
        | true => exact absurd (hk2.mpr hb9) hz), hI, hF, hG⟩ dX11_countTransfer_152
    ·
      have f20 := fnle rfl (by decide : (0 : Int32).toInt = 0) c18
      refine g_aload_n C 1 dX11_countTransfer_37 rfl ?_
      refine g_get C (.int (M_19 258 25)) 25 in_X11_countTransfer_11 (List.mem_of_getElem? (i := 4) rfl) (by decide) (ce_model ad cs _ _) rfl (by decide) rfl rfl dX11_countTransfer_38 ?_
      refine g_ni (fun v21 ev21 => ?_)
      have gv21 : v21 = M_19 258 25 := ev21.trans k25
      have tv21 := congrArg Int32.toInt gv21
      obtain ⟨bv21, dv21⟩ := (show rg 0 1 v21 from (by rw [ev21]; exact hI 258 25))
      refine g_if_ne C 152 dX11_countTransfer_41 (by decide) (fun c22 => ?_) (fun c22 => ?_)
      ·
        have f23 := fne rfl (by decide : (0 : Int32).toInt = 0) c22
        exact g_vret C hr ⟨(by
      refine ⟨k9, hk1, ?_, hk2, fun h9 => (hk3 h9).2.2.2⟩
      by_cases hz : (M_19 258 25).toInt = 0
      · obtain ⟨eI, eWu, eWd, eRR⟩ := hk3 hz
        have eS9 := eRR.1
        have hcI9 : cI (qrN (vR M) (M 260) (fun i => vR M 8 (40 * (M 258 27).toNatClampNeg + i)) (vR M 7 (M 258 27).toNatClampNeg).toNatClampNeg (M 258 2).toNatClampNeg (M 258 28).toNatClampNeg ((sumP (vR M) (M 258 27).toNatClampNeg (vR M 7 (M 258 27).toNatClampNeg).toNatClampNeg / (M 258 28 + 1)).toInt64 + 1) (M 282, (L 286, L 287), [], [], true) k9).1 (M 258 2).toNatClampNeg = cI (M_19 282) (M 258 2).toNatClampNeg := by rw [eI]
        first | exact Or.inr (Or.inl (by omega)) | exact Or.inr (Or.inr (by omega)) | exact absurd hz (by omega)
      · refine Or.inl ?_
        cases hb9 : (qrN (vR M) (M 260) (fun i => vR M 8 (40 * (M 258 27).toNatClampNeg + i)) (vR M 7 (M 258 27).toNatClampNeg).toNatClampNeg (M 258 2).toNatClampNeg (M 258 28).toNatClampNeg ((sumP (vR M) (M 258 27).toNatClampNeg (vR M 7 (M 258 27).toNatClampNeg).toNatClampNeg / (M 258 28 + 1)).toInt64 + 1) (M 282, (L 286, L 287), [], [], true) k9).2.2.2.2 with
        | false => rfl
        | true => exact absurd (hk2.mpr hb9) hz), hI, hF, hG⟩ dX11_countTransfer_152
      ·
        have f24 := feq rfl (by decide : (0 : Int32).toInt = 0) c22
        obtain ⟨eI, eWu, eWd, eRR⟩ := hk3 (by omega)
        have hok9 := hk2.mp (by omega)
        have eS9 := eRR.1
        have hcI0 : cI (qrN (vR M) (M 260) (fun i => vR M 8 (40 * (M 258 27).toNatClampNeg + i)) (vR M 7 (M 258 27).toNatClampNeg).toNatClampNeg (M 258 2).toNatClampNeg (M 258 28).toNatClampNeg ((sumP (vR M) (M 258 27).toNatClampNeg (vR M 7 (M 258 27).toNatClampNeg).toNatClampNeg / (M 258 28 + 1)).toInt64 + 1) (M 282, (L 286, L 287), [], [], true) k9).1 (M 258 2).toNatClampNeg = cI (M_19 282) (M 258 2).toNatClampNeg := by rw [eI]
        have hnd : ¬ qrD (M 258 2).toNatClampNeg (M 258 28).toNatClampNeg (qrN (vR M) (M 260) (fun i => vR M 8 (40 * (M 258 27).toNatClampNeg + i)) (vR M 7 (M 258 27).toNatClampNeg).toNatClampNeg (M 258 2).toNatClampNeg (M 258 28).toNatClampNeg ((sumP (vR M) (M 258 27).toNatClampNeg (vR M 7 (M 258 27).toNatClampNeg).toNatClampNeg / (M 258 28 + 1)).toInt64 + 1) (M 282, (L 286, L 287), [], [], true) k9) := by
          rintro (h9 | h9 | h9)
          · rw [hok9] at h9; exact Bool.noConfusion h9
          · omega
          · omega
        have hk1s : ∀ j, j < k9 + 1 → ¬ qrD (M 258 2).toNatClampNeg (M 258 28).toNatClampNeg (qrN (vR M) (M 260) (fun i => vR M 8 (40 * (M 258 27).toNatClampNeg + i)) (vR M 7 (M 258 27).toNatClampNeg).toNatClampNeg (M 258 2).toNatClampNeg (M 258 28).toNatClampNeg ((sumP (vR M) (M 258 27).toNatClampNeg (vR M 7 (M 258 27).toNatClampNeg).toNatClampNeg / (M 258 28 + 1)).toInt64 + 1) (M 282, (L 286, L 287), [], [], true) j) := fun j hj => by by_cases e9 : j = k9; (rw [e9]; exact hnd); exact hk1 j (by omega)
        refine g_aload_n C 1 dX11_countTransfer_44 rfl ?_
        have hF0 := hF
        have hG0 := hG
        have hMv2 : vR M_19 = vR M := vR_fr (fun k i hk => hF k i (by omega))
        have eI2 : M_19 282 = (qrN (vR M) (M 260) (fun i => vR M 8 (40 * (M 258 27).toNatClampNeg + i)) (vR M 7 (M 258 27).toNatClampNeg).toNatClampNeg (M 258 2).toNatClampNeg (M 258 28).toNatClampNeg ((sumP (vR M) (M 258 27).toNatClampNeg (vR M 7 (M 258 27).toNatClampNeg).toNatClampNeg / (M 258 28 + 1)).toInt64 + 1) (M 282, (L 286, L 287), [], [], true) k9).1 := by rw [q282]; exact eI
        have eU2 : L_19 286 = (qrN (vR M) (M 260) (fun i => vR M 8 (40 * (M 258 27).toNatClampNeg + i)) (vR M 7 (M 258 27).toNatClampNeg).toNatClampNeg (M 258 2).toNatClampNeg (M 258 28).toNatClampNeg ((sumP (vR M) (M 258 27).toNatClampNeg (vR M 7 (M 258 27).toNatClampNeg).toNatClampNeg / (M 258 28 + 1)).toInt64 + 1) (M 282, (L 286, L 287), [], [], true) k9).2.1.1 := by rw [p286]; exact eWu
        have eD2 : L_19 287 = (qrN (vR M) (M 260) (fun i => vR M 8 (40 * (M 258 27).toNatClampNeg + i)) (vR M 7 (M 258 27).toNatClampNeg).toNatClampNeg (M 258 2).toNatClampNeg (M 258 28).toNatClampNeg ((sumP (vR M) (M 258 27).toNatClampNeg (vR M 7 (M 258 27).toNatClampNeg).toNatClampNeg / (M 258 28 + 1)).toInt64 + 1) (M 282, (L 286, L 287), [], [], true) k9).2.1.2 := by rw [p287]; exact eWd
        refine g_callVv C (n := 0) (As := []) (st := []) (k_X11_tallyFirsts l D ad cs _ _  hI (fun i hi => by rw [congrFun p286 i, congrFun p287 i]; exact j19_1 (by omega) i hi) (by omega) (by rw [hMv2, hF 258 27 (by omega)]; exact hX) (by rw [hMv2]; exact hB8)) gX11_countTransfer_X11_tallyFirsts rfl rfl rfl (by decide +kernel) ⟨Nat.le_of_ble_eq_true rfl, Nat.le_of_ble_eq_true rfl⟩ rfl (Nat.le_of_ble_eq_true rfl) ⟨Nat.zero_le _, Nat.zero_le _⟩ (by decide) (ce_model ad cs _ _) rfl rfl dX11_countTransfer_45 (fun M26 L27 hr25 => ?_)
        obtain ⟨hr25, hI, hFr25, hGr25⟩ := hr25
        have hF : ∀ k i, ¬ (k = 258 ∧ i = 25) ∧ ¬ (k = 258 ∧ i = 29) ∧ ¬ (k = 258 ∧ i = 31) ∧ k ≠ 277 ∧ k ≠ 278 ∧ k ≠ 279 ∧ k ≠ 282 → M26 k i = M k i := fun k i hk => by (rw [hFr25 k i (by omega)]; try exact hF k i hk)
        have hG : ∀ k i, ¬ (k = 258 ∧ i = 23) ∧ ¬ (k = 258 ∧ i = 24) ∧ k ≠ 284 ∧ k ≠ 285 ∧ k ≠ 280 ∧ k ≠ 281 ∧ k ≠ 286 ∧ k ≠ 287 → L27 k i = L k i := fun k i hk => by (rw [hGr25 k i (by omega)]; try exact hG k i hk)
        have k29 : M26 258 29 = M_19 258 29 := (hFr25 258 29 (by omega)).trans k29
        have k31 : M26 258 31 = M_19 258 31 := (hFr25 258 31 (by omega)).trans k31
        have k25 : M26 258 25 = M26 258 25 := rfl
        have kt25 := congrArg Int32.toInt k25
        have kt29 := congrArg Int32.toInt k29
        have kt31 := congrArg Int32.toInt k31
        have l23 : L27 258 23 = L27 258 23 := rfl
        have l24 : L27 258 24 = L27 258 24 := rfl
        have p280 : L27 280 = L_19 280 := (funext (fun i => hGr25 280 i (by omega))).trans p280
        have p281 : L27 281 = L_19 281 := (funext (fun i => hGr25 281 i (by omega))).trans p281
        have p284 : L27 284 = L27 284 := rfl
        have p285 : L27 285 = L27 285 := rfl
        have p286 : L27 286 = L_19 286 := (funext (fun i => hGr25 286 i (by omega))).trans p286
        have p287 : L27 287 = L_19 287 := (funext (fun i => hGr25 287 i (by omega))).trans p287
        have q277 : M26 277 = M_19 277 := (funext (fun i => hFr25 277 i (by omega))).trans q277
        have q278 : M26 278 = M_19 278 := (funext (fun i => hFr25 278 i (by omega))).trans q278
        have q279 : M26 279 = M_19 279 := (funext (fun i => hFr25 279 i (by omega))).trans q279
        have q282 : M26 282 = M_19 282 := (funext (fun i => hFr25 282 i (by omega))).trans q282
        obtain ⟨tfo, tfs, tfe⟩ := hr25
        rw [hMv2, hF0 258 27 (by omega), eI2, eU2, eD2] at tfs tfe
        have tfs : (M26 258 25).toInt = 0 ↔ (qrT (vR M) (fun i => vR M 8 (40 * (M 258 27).toNatClampNeg + i)) (vR M 7 (M 258 27).toNatClampNeg).toNatClampNeg (qrN (vR M) (M 260) (fun i => vR M 8 (40 * (M 258 27).toNatClampNeg + i)) (vR M 7 (M 258 27).toNatClampNeg).toNatClampNeg (M 258 2).toNatClampNeg (M 258 28).toNatClampNeg ((sumP (vR M) (M 258 27).toNatClampNeg (vR M 7 (M 258 27).toNatClampNeg).toNatClampNeg / (M 258 28 + 1)).toInt64 + 1) (M 282, (L 286, L 287), [], [], true) k9)).2.2 = true := tfs
        have tfe : (qrT (vR M) (fun i => vR M 8 (40 * (M 258 27).toNatClampNeg + i)) (vR M 7 (M 258 27).toNatClampNeg).toNatClampNeg (qrN (vR M) (M 260) (fun i => vR M 8 (40 * (M 258 27).toNatClampNeg + i)) (vR M 7 (M 258 27).toNatClampNeg).toNatClampNeg (M 258 2).toNatClampNeg (M 258 28).toNatClampNeg ((sumP (vR M) (M 258 27).toNatClampNeg (vR M 7 (M 258 27).toNatClampNeg).toNatClampNeg / (M 258 28 + 1)).toInt64 + 1) (M 282, (L 286, L 287), [], [], true) k9)).2.2 = true → ∀ c, c < 10 → L27 284 c = (qrT (vR M) (fun i => vR M 8 (40 * (M 258 27).toNatClampNeg + i)) (vR M 7 (M 258 27).toNatClampNeg).toNatClampNeg (qrN (vR M) (M 260) (fun i => vR M 8 (40 * (M 258 27).toNatClampNeg + i)) (vR M 7 (M 258 27).toNatClampNeg).toNatClampNeg (M 258 2).toNatClampNeg (M 258 28).toNatClampNeg ((sumP (vR M) (M 258 27).toNatClampNeg (vR M 7 (M 258 27).toNatClampNeg).toNatClampNeg / (M 258 28 + 1)).toInt64 + 1) (M 282, (L 286, L 287), [], [], true) k9)).1 c ∧ L27 285 c = (qrT (vR M) (fun i => vR M 8 (40 * (M 258 27).toNatClampNeg + i)) (vR M 7 (M 258 27).toNatClampNeg).toNatClampNeg (qrN (vR M) (M 260) (fun i => vR M 8 (40 * (M 258 27).toNatClampNeg + i)) (vR M 7 (M 258 27).toNatClampNeg).toNatClampNeg (M 258 2).toNatClampNeg (M 258 28).toNatClampNeg ((sumP (vR M) (M 258 27).toNatClampNeg (vR M 7 (M 258 27).toNatClampNeg).toNatClampNeg / (M 258 28 + 1)).toInt64 + 1) (M 282, (L 286, L 287), [], [], true) k9)).2.1 c ∧ okF (L27 284 c) (L27 285 c) := tfe
        have etf : ∀ c, L27 284 c = L27 284 c := fun _ => rfl
        refine g_aload_n C 1 dX11_countTransfer_48 rfl ?_
        refine g_get C (.int (M26 258 25)) 25 in_X11_countTransfer_11 (List.mem_of_getElem? (i := 4) rfl) (by decide) (ce_model ad cs _ _) rfl (by decide) rfl rfl dX11_countTransfer_49 ?_
        refine g_ni (fun v28 ev28 => ?_)
        have gv28 : v28 = M26 258 25 := ev28.trans k25
        have tv28 := congrArg Int32.toInt gv28
        obtain ⟨bv28, dv28⟩ := (show rg 0 1 v28 from (by rw [ev28]; exact hI 258 25))
        refine g_if_ne C 19 dX11_countTransfer_52 (by decide) (fun c29 => ?_) (fun c29 => ?_)
        ·
          have f30 := fne rfl (by decide : (0 : Int32).toInt = 0) c29
          obtain ⟨sp1, sp2⟩ := (show rg 0 1 (M26 258 25) from hI 258 25)
          have kt25 := congrArg Int32.toInt k25
          have kt29 := congrArg Int32.toInt k29
          have kt31 := congrArg Int32.toInt k31
          have e282 : M26 282 = M_19 282 := q282
          have hWe : (M26 258 25).toInt = 0 → WT L27 := fun h9 i hi => by rw [congrFun p286 i, congrFun p287 i]; exact j19_1 (by omega) i hi
          have eF : (qrN (vR M) (M 260) (fun i => vR M 8 (40 * (M 258 27).toNatClampNeg + i)) (vR M 7 (M 258 27).toNatClampNeg).toNatClampNeg (M 258 2).toNatClampNeg (M 258 28).toNatClampNeg ((sumP (vR M) (M 258 27).toNatClampNeg (vR M 7 (M 258 27).toNatClampNeg).toNatClampNeg / (M 258 28 + 1)).toInt64 + 1) (M 282, (L 286, L 287), [], [], true) (k9 + 1)) = ((qrN (vR M) (M 260) (fun i => vR M 8 (40 * (M 258 27).toNatClampNeg + i)) (vR M 7 (M 258 27).toNatClampNeg).toNatClampNeg (M 258 2).toNatClampNeg (M 258 28).toNatClampNeg ((sumP (vR M) (M 258 27).toNatClampNeg (vR M 7 (M 258 27).toNatClampNeg).toNatClampNeg / (M 258 28 + 1)).toInt64 + 1) (M 282, (L 286, L 287), [], [], true) k9).1, (qrN (vR M) (M 260) (fun i => vR M 8 (40 * (M 258 27).toNatClampNeg + i)) (vR M 7 (M 258 27).toNatClampNeg).toNatClampNeg (M 258 2).toNatClampNeg (M 258 28).toNatClampNeg ((sumP (vR M) (M 258 27).toNatClampNeg (vR M 7 (M 258 27).toNatClampNeg).toNatClampNeg / (M 258 28 + 1)).toInt64 + 1) (M 282, (L 286, L 287), [], [], true) k9).2.1, (qrN (vR M) (M 260) (fun i => vR M 8 (40 * (M 258 27).toNatClampNeg + i)) (vR M 7 (M 258 27).toNatClampNeg).toNatClampNeg (M 258 2).toNatClampNeg (M 258 28).toNatClampNeg ((sumP (vR M) (M 258 27).toNatClampNeg (vR M 7 (M 258 27).toNatClampNeg).toNatClampNeg / (M 258 28 + 1)).toInt64 + 1) (M 282, (L 286, L 287), [], [], true) k9).2.2.1, (qrN (vR M) (M 260) (fun i => vR M 8 (40 * (M 258 27).toNatClampNeg + i)) (vR M 7 (M 258 27).toNatClampNeg).toNatClampNeg (M 258 2).toNatClampNeg (M 258 28).toNatClampNeg ((sumP (vR M) (M 258 27).toNatClampNeg (vR M 7 (M 258 27).toNatClampNeg).toNatClampNeg / (M 258 28 + 1)).toInt64 + 1) (M 282, (L 286, L 287), [], [], true) k9).2.2.2.1, false) := by
            show qrF (vR M) (M 260) (fun i => vR M 8 (40 * (M 258 27).toNatClampNeg + i)) (vR M 7 (M 258 27).toNatClampNeg).toNatClampNeg (M 258 2).toNatClampNeg (M 258 28).toNatClampNeg ((sumP (vR M) (M 258 27).toNatClampNeg (vR M 7 (M 258 27).toNatClampNeg).toNatClampNeg / (M 258 28 + 1)).toInt64 + 1) (qrN (vR M) (M 260) (fun i => vR M 8 (40 * (M 258 27).toNatClampNeg + i)) (vR M 7 (M 258 27).toNatClampNeg).toNatClampNeg (M 258 2).toNatClampNeg (M 258 28).toNatClampNeg ((sumP (vR M) (M 258 27).toNatClampNeg (vR M 7 (M 258 27).toNatClampNeg).toNatClampNeg / (M 258 28 + 1)).toInt64 + 1) (M 282, (L 286, L 287), [], [], true) k9) = _
            unfold qrF
            have h9 : (qrT (vR M) (fun i => vR M 8 (40 * (M 258 27).toNatClampNeg + i)) (vR M 7 (M 258 27).toNatClampNeg).toNatClampNeg (qrN (vR M) (M 260) (fun i => vR M 8 (40 * (M 258 27).toNatClampNeg + i)) (vR M 7 (M 258 27).toNatClampNeg).toNatClampNeg (M 258 2).toNatClampNeg (M 258 28).toNatClampNeg ((sumP (vR M) (M 258 27).toNatClampNeg (vR M 7 (M 258 27).toNatClampNeg).toNatClampNeg / (M 258 28 + 1)).toInt64 + 1) (M 282, (L 286, L 287), [], [], true) k9)).2.2 = false := by cases hb9 : (qrT (vR M) (fun i => vR M 8 (40 * (M 258 27).toNatClampNeg + i)) (vR M 7 (M 258 27).toNatClampNeg).toNatClampNeg (qrN (vR M) (M 260) (fun i => vR M 8 (40 * (M 258 27).toNatClampNeg + i)) (vR M 7 (M 258 27).toNatClampNeg).toNatClampNeg (M 258 2).toNatClampNeg (M 258 28).toNatClampNeg ((sumP (vR M) (M 258 27).toNatClampNeg (vR M 7 (M 258 27).toNatClampNeg).toNatClampNeg / (M 258 28 + 1)).toInt64 + 1) (M 282, (L 286, L 287), [], [], true) k9)).2.2 with
              | false => rfl
              | true => exact absurd (tfs.mpr hb9) (by omega)
            rw [if_pos h9]
          have hex : ∃ k, (∀ j, j < k → ¬ qrD (M 258 2).toNatClampNeg (M 258 28).toNatClampNeg (qrN (vR M) (M 260) (fun i => vR M 8 (40 * (M 258 27).toNatClampNeg + i)) (vR M 7 (M 258 27).toNatClampNeg).toNatClampNeg (M 258 2).toNatClampNeg (M 258 28).toNatClampNeg ((sumP (vR M) (M 258 27).toNatClampNeg (vR M 7 (M 258 27).toNatClampNeg).toNatClampNeg / (M 258 28 + 1)).toInt64 + 1) (M 282, (L 286, L 287), [], [], true) j)) ∧ ((M26 258 25).toInt = 0 ↔ (qrN (vR M) (M 260) (fun i => vR M 8 (40 * (M 258 27).toNatClampNeg + i)) (vR M 7 (M 258 27).toNatClampNeg).toNatClampNeg (M 258 2).toNatClampNeg (M 258 28).toNatClampNeg ((sumP (vR M) (M 258 27).toNatClampNeg (vR M 7 (M 258 27).toNatClampNeg).toNatClampNeg / (M 258 28 + 1)).toInt64 + 1) (M 282, (L 286, L 287), [], [], true) k).2.2.2.2 = true) ∧ ((M26 258 25).toInt = 0 → M26 282 = (qrN (vR M) (M 260) (fun i => vR M 8 (40 * (M 258 27).toNatClampNeg + i)) (vR M 7 (M 258 27).toNatClampNeg).toNatClampNeg (M 258 2).toNatClampNeg (M 258 28).toNatClampNeg ((sumP (vR M) (M 258 27).toNatClampNeg (vR M 7 (M 258 27).toNatClampNeg).toNatClampNeg / (M 258 28 + 1)).toInt64 + 1) (M 282, (L 286, L 287), [], [], true) k).1 ∧ L27 286 = (qrN (vR M) (M 260) (fun i => vR M 8 (40 * (M 258 27).toNatClampNeg + i)) (vR M 7 (M 258 27).toNatClampNeg).toNatClampNeg (M 258 2).toNatClampNeg (M 258 28).toNatClampNeg ((sumP (vR M) (M 258 27).toNatClampNeg (vR M 7 (M 258 27).toNatClampNeg).toNatClampNeg / (M 258 28 + 1)).toInt64 + 1) (M 282, (L 286, L 287), [], [], true) k).2.1.1 ∧ L27 287 = (qrN (vR M) (M 260) (fun i => vR M 8 (40 * (M 258 27).toNatClampNeg + i)) (vR M 7 (M 258 27).toNatClampNeg).toNatClampNeg (M 258 2).toNatClampNeg (M 258 28).toNatClampNeg ((sumP (vR M) (M 258 27).toNatClampNeg (vR M 7 (M 258 27).toNatClampNeg).toNatClampNeg / (M 258 28 + 1)).toInt64 + 1) (M 282, (L 286, L 287), [], [], true) k).2.1.2 ∧ RR M26 (qrN (vR M) (M 260) (fun i => vR M 8 (40 * (M 258 27).toNatClampNeg + i)) (vR M 7 (M 258 27).toNatClampNeg).toNatClampNeg (M 258 2).toNatClampNeg (M 258 28).toNatClampNeg ((sumP (vR M) (M 258 27).toNatClampNeg (vR M 7 (M 258 27).toNatClampNeg).toNatClampNeg / (M 258 28 + 1)).toInt64 + 1) (M 282, (L 286, L 287), [], [], true) k).2.2.1 (qrN (vR M) (M 260) (fun i => vR M 8 (40 * (M 258 27).toNatClampNeg + i)) (vR M 7 (M 258 27).toNatClampNeg).toNatClampNeg (M 258 2).toNatClampNeg (M 258 28).toNatClampNeg ((sumP (vR M) (M 258 27).toNatClampNeg (vR M 7 (M 258 27).toNatClampNeg).toNatClampNeg / (M 258 28 + 1)).toInt64 + 1) (M 282, (L 286, L 287), [], [], true) k).2.2.2.1) := ⟨k9 + 1, hk1s, by rw [eF]; exact ⟨fun h9 => absurd h9 (by omega), fun h9 => Bool.noConfusion h9⟩, fun h9 => absurd h9 (by omega)⟩
          exact ih_19 (M26, L27) ⟨by show NIn (M26 282) (M 258 2).toInt; first | exact hNI2 | (rw [e282]; exact j19_0), by show (M26 258 25).toInt = 0 → WT L27; exact hWe, by show (M26 258 31).toInt + (cI (M26 282) (M 258 2).toNatClampNeg : Int) ≤ 10; rw [e282]; omega, by show 0 ≤ (M26 258 29).toInt ∧ (M26 258 29).toInt ≤ (M 258 28).toInt; omega, by show 0 ≤ (M26 258 25).toInt ∧ (M26 258 25).toInt ≤ 1; exact hI 258 25, by show ∃ k, (∀ j, j < k → ¬ qrD (M 258 2).toNatClampNeg (M 258 28).toNatClampNeg (qrN (vR M) (M 260) (fun i => vR M 8 (40 * (M 258 27).toNatClampNeg + i)) (vR M 7 (M 258 27).toNatClampNeg).toNatClampNeg (M 258 2).toNatClampNeg (M 258 28).toNatClampNeg ((sumP (vR M) (M 258 27).toNatClampNeg (vR M 7 (M 258 27).toNatClampNeg).toNatClampNeg / (M 258 28 + 1)).toInt64 + 1) (M 282, (L 286, L 287), [], [], true) j)) ∧ ((M26 258 25).toInt = 0 ↔ (qrN (vR M) (M 260) (fun i => vR M 8 (40 * (M 258 27).toNatClampNeg + i)) (vR M 7 (M 258 27).toNatClampNeg).toNatClampNeg (M 258 2).toNatClampNeg (M 258 28).toNatClampNeg ((sumP (vR M) (M 258 27).toNatClampNeg (vR M 7 (M 258 27).toNatClampNeg).toNatClampNeg / (M 258 28 + 1)).toInt64 + 1) (M 282, (L 286, L 287), [], [], true) k).2.2.2.2 = true) ∧ ((M26 258 25).toInt = 0 → M26 282 = (qrN (vR M) (M 260) (fun i => vR M 8 (40 * (M 258 27).toNatClampNeg + i)) (vR M 7 (M 258 27).toNatClampNeg).toNatClampNeg (M 258 2).toNatClampNeg (M 258 28).toNatClampNeg ((sumP (vR M) (M 258 27).toNatClampNeg (vR M 7 (M 258 27).toNatClampNeg).toNatClampNeg / (M 258 28 + 1)).toInt64 + 1) (M 282, (L 286, L 287), [], [], true) k).1 ∧ L27 286 = (qrN (vR M) (M 260) (fun i => vR M 8 (40 * (M 258 27).toNatClampNeg + i)) (vR M 7 (M 258 27).toNatClampNeg).toNatClampNeg (M 258 2).toNatClampNeg (M 258 28).toNatClampNeg ((sumP (vR M) (M 258 27).toNatClampNeg (vR M 7 (M 258 27).toNatClampNeg).toNatClampNeg / (M 258 28 + 1)).toInt64 + 1) (M 282, (L 286, L 287), [], [], true) k).2.1.1 ∧ L27 287 = (qrN (vR M) (M 260) (fun i => vR M 8 (40 * (M 258 27).toNatClampNeg + i)) (vR M 7 (M 258 27).toNatClampNeg).toNatClampNeg (M 258 2).toNatClampNeg (M 258 28).toNatClampNeg ((sumP (vR M) (M 258 27).toNatClampNeg (vR M 7 (M 258 27).toNatClampNeg).toNatClampNeg / (M 258 28 + 1)).toInt64 + 1) (M 282, (L 286, L 287), [], [], true) k).2.1.2 ∧ RR M26 (qrN (vR M) (M 260) (fun i => vR M 8 (40 * (M 258 27).toNatClampNeg + i)) (vR M 7 (M 258 27).toNatClampNeg).toNatClampNeg (M 258 2).toNatClampNeg (M 258 28).toNatClampNeg ((sumP (vR M) (M 258 27).toNatClampNeg (vR M 7 (M 258 27).toNatClampNeg).toNatClampNeg / (M 258 28 + 1)).toInt64 + 1) (M 282, (L 286, L 287), [], [], true) k).2.2.1 (qrN (vR M) (M 260) (fun i => vR M 8 (40 * (M 258 27).toNatClampNeg + i)) (vR M 7 (M 258 27).toNatClampNeg).toNatClampNeg (M 258 2).toNatClampNeg (M 258 28).toNatClampNeg ((sumP (vR M) (M 258 27).toNatClampNeg (vR M 7 (M 258 27).toNatClampNeg).toNatClampNeg / (M 258 28 + 1)).toInt64 + 1) (M 282, (L 286, L 287), [], [], true) k).2.2.2.1); exact hex, hI, hF, hG⟩ (by show cI (M26 282) (M 258 2).toNatClampNeg * 2 + (1 - (M26 258 25).toInt).toNat < cI (M_19 282) (M 258 2).toNatClampNeg * 2 + (1 - (M_19 258 25).toInt).toNat; rw [e282]; omega)
        ·
          have f31 := feq rfl (by decide : (0 : Int32).toInt = 0) c29
          have hTok := tfs.mp (by omega)
          have tfx := tfe hTok
          refine g_aload_n C 1 dX11_countTransfer_55 rfl ?_
          refine g_callVi C (n := 0) (As := []) (st := []) (k_X11_greatest l D ad cs _ _  hI (DP_k hD (hF 258 2 (by omega)) (fun i => hF 260 i (by omega)))) gX11_countTransfer_X11_greatest rfl rfl rfl (by decide +kernel) ⟨Nat.le_of_ble_eq_true rfl, Nat.le_of_ble_eq_true rfl⟩ rfl (Nat.le_of_ble_eq_true rfl) ⟨Nat.zero_le _, Nat.zero_le _⟩ (by decide) (ce_model ad cs _ _) rfl rfl dX11_countTransfer_56 (fun r32 M33 L34 hr32 => ?_)
          obtain ⟨hq1, hq2, hr32⟩ := hr32
          obtain rfl := hq1.symm
          obtain rfl := hq2.symm
          obtain ⟨br32, ir32, xr32, yr32⟩ := hr32
          have w9 : (vR M26 0 0).toInt = (M 258 2).toInt := congrArg Int32.toInt (hF 258 2 (by omega))
          have hc282 : M26 282 = M_19 282 := q282
          have hpos : 0 < cI (M_19 282) (M 258 2).toNatClampNeg := by omega
          obtain ⟨c9, hc9, hi9⟩ := cI_ex _ hpos
          have hne9 := xr32 ⟨c9, by omega, by rw [hc282]; exact hi9⟩
          have nr9 := ixn (x := r32) (by omega)
          have hin9 := ir32 (by omega)
          rw [hc282] at hin9
          have hlt9 := hNI r32.toNatClampNeg (by omega) hin9
          have r260 : M26 260 = M 260 := funext (fun i => hF 260 i (by omega))
          have r2 : M26 258 2 = M 258 2 := hF 258 2 (by omega)
          rw [r260, hc282, r2] at yr32
          rw [eI] at yr32
          have er32 : r32 = qrC (vR M) (M 260) (fun i => vR M 8 (40 * (M 258 27).toNatClampNeg + i)) (vR M 7 (M 258 27).toNatClampNeg).toNatClampNeg (M 258 2).toNatClampNeg (qrN (vR M) (M 260) (fun i => vR M 8 (40 * (M 258 27).toNatClampNeg + i)) (vR M 7 (M 258 27).toNatClampNeg).toNatClampNeg (M 258 2).toNatClampNeg (M 258 28).toNatClampNeg ((sumP (vR M) (M 258 27).toNatClampNeg (vR M 7 (M 258 27).toNatClampNeg).toNatClampNeg / (M 258 28 + 1)).toInt64 + 1) (M 282, (L 286, L 287), [], [], true) k9) := yr32.trans (grF_ext (row := M 260) (fun i => hI0 260 i) (fun _ _ => rfl) (fun c hc => (tfx c hc).1) (fun c hc => (tfx c hc).2.1) (M 258 2).toNatClampNeg).1
          have hc10 := tfx r32.toNatClampNeg (by omega)
          have eU9 : L27 284 r32.toNatClampNeg = qrU (vR M) (M 260) (fun i => vR M 8 (40 * (M 258 27).toNatClampNeg + i)) (vR M 7 (M 258 27).toNatClampNeg).toNatClampNeg (M 258 2).toNatClampNeg (qrN (vR M) (M 260) (fun i => vR M 8 (40 * (M 258 27).toNatClampNeg + i)) (vR M 7 (M 258 27).toNatClampNeg).toNatClampNeg (M 258 2).toNatClampNeg (M 258 28).toNatClampNeg ((sumP (vR M) (M 258 27).toNatClampNeg (vR M 7 (M 258 27).toNatClampNeg).toNatClampNeg / (M 258 28 + 1)).toInt64 + 1) (M 282, (L 286, L 287), [], [], true) k9) := by rw [hc10.1, er32]; rfl
          have eV9 : L27 285 r32.toNatClampNeg = qrV (vR M) (M 260) (fun i => vR M 8 (40 * (M 258 27).toNatClampNeg + i)) (vR M 7 (M 258 27).toNatClampNeg).toNatClampNeg (M 258 2).toNatClampNeg (qrN (vR M) (M 260) (fun i => vR M 8 (40 * (M 258 27).toNatClampNeg + i)) (vR M 7 (M 258 27).toNatClampNeg).toNatClampNeg (M 258 2).toNatClampNeg (M 258 28).toNatClampNeg ((sumP (vR M) (M 258 27).toNatClampNeg (vR M 7 (M 258 27).toNatClampNeg).toNatClampNeg / (M 258 28 + 1)).toInt64 + 1) (M 282, (L 286, L 287), [], [], true) k9) := by rw [hc10.2.1, er32]; rfl
          refine g_istore_n C [(3, .int r32), (1, .long v9), (0, .ref (ad 258))] dX11_countTransfer_59 (by decide) rfl ?_
          refine g_aload_n C 2 dX11_countTransfer_60 rfl ?_
          refine g_callVi C (n := 0) (As := []) (st := []) (s_X11_inMany l D ad cs _ _  hI ) gX11_countTransfer_X11_inMany rfl rfl rfl (by decide +kernel) ⟨Nat.le_of_ble_eq_true rfl, Nat.le_of_ble_eq_true rfl⟩ rfl (Nat.le_of_ble_eq_true rfl) ⟨Nat.zero_le _, Nat.zero_le _⟩ (by decide) (ce_model ad cs _ _) rfl rfl dX11_countTransfer_61 (fun r35 M36 L37 hr35 => ?_)
          obtain ⟨hq1, hq2, hr35⟩ := hr35
          obtain rfl := hq1.symm
          obtain rfl := hq2.symm
          have tin := hr35
          rw [show (M26 258 2).toNatClampNeg = (M 258 2).toNatClampNeg from congrArg Int32.toNatClampNeg (hF 258 2 (by omega)), q282] at tin
          refine g_aload_n C 2 dX11_countTransfer_64 rfl ?_
          refine g_get C (.int (M26 258 28)) 28 in_X11_countTransfer_11 (List.mem_of_getElem? (i := 2) rfl) (by decide) (ce_model ad cs _ _) rfl (by decide) rfl rfl dX11_countTransfer_65 ?_
          refine g_ni (fun v38 ev38 => ?_)
          have gv38 : v38 = M 258 28 := ev38.trans (hF 258 28 (by omega))
          have tv38 := congrArg Int32.toInt gv38
          obtain ⟨bv38, dv38⟩ := (show rg 0 30 v38 from (by rw [ev38]; exact hI 258 28))
          refine g_aload_n C 2 dX11_countTransfer_68 rfl ?_
          refine g_get C (.int (M26 258 29)) 29 in_X11_countTransfer_11 (List.mem_of_getElem? (i := 3) rfl) (by decide) (ce_model ad cs _ _) rfl (by decide) rfl rfl dX11_countTransfer_69 ?_
          refine g_ni (fun v39 ev39 => ?_)
          have gv39 : v39 = M_19 258 29 := ev39.trans k29
          have tv39 := congrArg Int32.toInt gv39
          obtain ⟨bv39, dv39⟩ := (show rg 0 30 v39 from (by rw [ev39]; exact hI 258 29))
          refine g_isub C dX11_countTransfer_72 ?_
          refine g_ni (fun v40 ev40 => ?_)
          try have fv40 := fsub rfl rfl ev40 (by omega) (by omega)
          refine g_icmp_gt C 80 dX11_countTransfer_73 (by decide) (fun c41 => ?_) (fun c41 => ?_)
          ·
            have f42 := fl rfl rfl c41
            refine g_iconst C 0 dX11_countTransfer_80 (by decide) ?_
            refine g_istore C [(4, .int 0), (3, .int r32), (1, .long v9), (0, .ref (ad 258))] dX11_countTransfer_81 (by decide) rfl ?_
            refine g_iload C 0 dX11_countTransfer_83 rfl ?_
            refine g_if_ne C 106 dX11_countTransfer_85 (by decide) (fun c43 => absurd c43 (by decide)) (fun _ => ?_)
            have hok := hc10.2.2
            unfold okF at hok
            refine g_aload_n C 3 dX11_countTransfer_88 rfl ?_
            refine g_get C (.ref (ad 284)) 38 in_X11_countTransfer_11 (List.mem_of_getElem? (i := 5) rfl) (by decide) (ce_model ad cs _ _) rfl (by decide) rfl rfl dX11_countTransfer_89 ?_
            refine g_iload_n C 1 dX11_countTransfer_92 rfl ?_
            refine g_lald C (by decide) (ce_m_ups ad cs _ _) (fin' (n := 10) rfl (by omega) (by omega)) dX11_countTransfer_93 ?_
            refine g_nl (fun v44 ev44 => ?_)
            have gv44 : v44 = L27 284 r32.toNatClampNeg := ev44.trans (congrFun p284 _)
            have tv44 := congrArg Int64.toInt gv44
            refine g_lload_n C 2 dX11_countTransfer_94 rfl ?_
            refine g_aload_n C 3 dX11_countTransfer_95 rfl ?_
            refine g_get C (.ref (ad 285)) 39 in_X11_countTransfer_11 (List.mem_of_getElem? (i := 6) rfl) (by decide) (ce_model ad cs _ _) rfl (by decide) rfl rfl dX11_countTransfer_96 ?_
            refine g_iload_n C 1 dX11_countTransfer_99 rfl ?_
            refine g_lald C (by decide) (ce_m_downs ad cs _ _) (fin' (n := 10) rfl (by omega) (by omega)) dX11_countTransfer_100 ?_
            refine g_nl (fun v45 ev45 => ?_)
            have gv45 : v45 = L27 285 r32.toNatClampNeg := ev45.trans (congrFun p285 _)
            have tv45 := congrArg Int64.toInt gv45
            refine g_lmul C dX11_countTransfer_101 ?_
            refine g_nl (fun v46 ev46 => ?_)
            try have fv46 := prodI ev46
            have m1 := mul_le9 (a := v9.toInt) (b := v45.toInt) (by omega) (by omega) (by omega) (by omega)
            have eB9 : v46 = ((sumP (vR M) (M 258 27).toNatClampNeg (vR M 7 (M 258 27).toNatClampNeg).toNatClampNeg / (M 258 28 + 1)).toInt64 + 1) * qrV (vR M) (M 260) (fun i => vR M 8 (40 * (M 258 27).toNatClampNeg + i)) (vR M 7 (M 258 27).toNatClampNeg).toNatClampNeg (M 258 2).toNatClampNeg (qrN (vR M) (M 260) (fun i => vR M 8 (40 * (M 258 27).toNatClampNeg + i)) (vR M 7 (M 258 27).toNatClampNeg).toNatClampNeg (M 258 2).toNatClampNeg (M 258 28).toNatClampNeg ((sumP (vR M) (M 258 27).toNatClampNeg (vR M 7 (M 258 27).toNatClampNeg).toNatClampNeg / (M 258 28 + 1)).toInt64 + 1) (M 282, (L 286, L 287), [], [], true) k9) := by rw [ev46, hqv, gv45, eV9]
            have eBt := congrArg Int64.toInt eB9
            have eUt : v44.toInt = (qrU (vR M) (M 260) (fun i => vR M 8 (40 * (M 258 27).toNatClampNeg + i)) (vR M 7 (M 258 27).toNatClampNeg).toNatClampNeg (M 258 2).toNatClampNeg (qrN (vR M) (M 260) (fun i => vR M 8 (40 * (M 258 27).toNatClampNeg + i)) (vR M 7 (M 258 27).toNatClampNeg).toNatClampNeg (M 258 2).toNatClampNeg (M 258 28).toNatClampNeg ((sumP (vR M) (M 258 27).toNatClampNeg (vR M 7 (M 258 27).toNatClampNeg).toNatClampNeg / (M 258 28 + 1)).toInt64 + 1) (M 282, (L 286, L 287), [], [], true) k9)).toInt := by rw [gv44, eU9]
            rw [bmod_id (by omega) (by omega)] at fv46
            refine g_lcmp C dX11_countTransfer_102 ?_
            refine g_ni (fun v47 ev47 => ?_)
            refine g_if_lt C 131 dX11_countTransfer_103 (by decide) (fun c48 => ?_) (fun c48 => ?_)
            ·
              have f49 := clt rfl rfl ev47 c48
              refine g_aload_n C 3 dX11_countTransfer_131 rfl ?_
              refine g_callVi C (n := 0) (As := []) (st := []) (k_X11_least l D ad cs _ _  hI (DP_k hD (hF 258 2 (by omega)) (fun i => hF 260 i (by omega)))) gX11_countTransfer_X11_least rfl rfl rfl (by decide +kernel) ⟨Nat.le_of_ble_eq_true rfl, Nat.le_of_ble_eq_true rfl⟩ rfl (Nat.le_of_ble_eq_true rfl) ⟨Nat.zero_le _, Nat.zero_le _⟩ (by decide) (ce_model ad cs _ _) rfl rfl dX11_countTransfer_132 (fun r50 M51 L52 hr50 => ?_)
              obtain ⟨hq1, hq2, hr50⟩ := hr50
              obtain rfl := hq1.symm
              obtain rfl := hq2.symm
              obtain ⟨br50, ir50, xr50, yr50⟩ := hr50
              have w9 : (vR M26 0 0).toInt = (M 258 2).toInt := congrArg Int32.toInt (hF 258 2 (by omega))
              have hc282 : M26 282 = M_19 282 := q282
              have hpos : 0 < cI (M_19 282) (M 258 2).toNatClampNeg := by omega
              obtain ⟨c9, hc9, hi9⟩ := cI_ex _ hpos
              have hne9 := xr50 ⟨c9, by omega, by rw [hc282]; exact hi9⟩
              have nr9 := ixn (x := r50) (by omega)
              have hin9 := ir50 (by omega)
              rw [hc282] at hin9
              have hlt9 := hNI r50.toNatClampNeg (by omega) hin9
              have r260 : M26 260 = M 260 := funext (fun i => hF 260 i (by omega))
              have r2 : M26 258 2 = M 258 2 := hF 258 2 (by omega)
              rw [r260, hc282, r2] at yr50
              rw [eI] at yr50
              have er50 : r50 = qrL (vR M) (M 260) (fun i => vR M 8 (40 * (M 258 27).toNatClampNeg + i)) (vR M 7 (M 258 27).toNatClampNeg).toNatClampNeg (M 258 2).toNatClampNeg (qrN (vR M) (M 260) (fun i => vR M 8 (40 * (M 258 27).toNatClampNeg + i)) (vR M 7 (M 258 27).toNatClampNeg).toNatClampNeg (M 258 2).toNatClampNeg (M 258 28).toNatClampNeg ((sumP (vR M) (M 258 27).toNatClampNeg (vR M 7 (M 258 27).toNatClampNeg).toNatClampNeg / (M 258 28 + 1)).toInt64 + 1) (M 282, (L 286, L 287), [], [], true) k9) := yr50.trans (leF_ext (row := M 260) (fun i => hI0 260 i) (fun _ _ => rfl) (fun c hc => (tfx c hc).1) (fun c hc => (tfx c hc).2.1) (M 258 2).toNatClampNeg).1
              refine g_istore_n C [(3, .int r50), (4, .int 0), (1, .long v9), (0, .ref (ad 258))] dX11_countTransfer_135 (by decide) rfl ?_
              refine g_aload_n C 3 dX11_countTransfer_136 rfl ?_
              refine g_iconst C 2 dX11_countTransfer_137 (by decide) ?_
              refine g_iload_n C 0 dX11_countTransfer_138 rfl ?_
              have hRb : RP (M_19 258 29) (M_19 277) (M_19 258 31) (M_19 278) (M_19 279) (qrN (vR M) (M 260) (fun i => vR M 8 (40 * (M 258 27).toNatClampNeg + i)) (vR M 7 (M 258 27).toNatClampNeg).toNatClampNeg (M 258 2).toNatClampNeg (M 258 28).toNatClampNeg ((sumP (vR M) (M 258 27).toNatClampNeg (vR M 7 (M 258 27).toNatClampNeg).toNatClampNeg / (M 258 28 + 1)).toInt64 + 1) (M 282, (L 286, L 287), [], [], true) k9).2.2.1 (qrN (vR M) (M 260) (fun i => vR M 8 (40 * (M 258 27).toNatClampNeg + i)) (vR M 7 (M 258 27).toNatClampNeg).toNatClampNeg (M 258 2).toNatClampNeg (M 258 28).toNatClampNeg ((sumP (vR M) (M 258 27).toNatClampNeg (vR M 7 (M 258 27).toNatClampNeg).toNatClampNeg / (M 258 28 + 1)).toInt64 + 1) (M 282, (L 286, L 287), [], [], true) k9).2.2.2.1 := eRR
              rw [← k29, ← k31, ← q277, ← q278, ← q279] at hRb
              refine g_callVv C (n := 2) (As := [.int 2, .int r50]) (st := []) (k_X11_happens l D ad cs _ _ 2 r50 hI (by omega)) gX11_countTransfer_X11_happens rfl rfl rfl (by decide +kernel) ⟨Nat.le_of_ble_eq_true rfl, Nat.le_of_ble_eq_true rfl⟩ rfl (Nat.le_of_ble_eq_true rfl) ⟨Nat.zero_le _, Nat.zero_le _⟩ (by decide) (ce_model ad cs _ _) rfl rfl dX11_countTransfer_139 (fun M54 L55 hr53 => ?_)
              obtain ⟨hr53, hI, hFr53, hGr53⟩ := hr53
              have hF : ∀ k i, ¬ (k = 258 ∧ i = 25) ∧ ¬ (k = 258 ∧ i = 29) ∧ ¬ (k = 258 ∧ i = 31) ∧ k ≠ 277 ∧ k ≠ 278 ∧ k ≠ 279 ∧ k ≠ 282 → M54 k i = M k i := fun k i hk => by (rw [hFr53 k i (by omega)]; try exact hF k i hk)
              have hG : ∀ k i, ¬ (k = 258 ∧ i = 23) ∧ ¬ (k = 258 ∧ i = 24) ∧ k ≠ 284 ∧ k ≠ 285 ∧ k ≠ 280 ∧ k ≠ 281 ∧ k ≠ 286 ∧ k ≠ 287 → L55 k i = L k i := fun k i hk => by (rw [hGr53 k i (by omega)]; try exact hG k i hk)
              have k25 : M54 258 25 = M26 258 25 := (hFr53 258 25 (by omega)).trans k25
              have k29 : M54 258 29 = M_19 258 29 := (hFr53 258 29 (by omega)).trans k29
              have k31 : M54 258 31 = M54 258 31 := rfl
              have kt25 := congrArg Int32.toInt k25
              have kt29 := congrArg Int32.toInt k29
              have kt31 := congrArg Int32.toInt k31
              have l23 : L55 258 23 = L27 258 23 := (hGr53 258 23 (by omega)).trans l23
              have l24 : L55 258 24 = L27 258 24 := (hGr53 258 24 (by omega)).trans l24
              have p280 : L55 280 = L55 280 := rfl
              have p281 : L55 281 = L55 281 := rfl
              have p284 : L55 284 = L27 284 := (funext (fun i => hGr53 284 i (by omega))).trans p284
              have p285 : L55 285 = L27 285 := (funext (fun i => hGr53 285 i (by omega))).trans p285
              have p286 : L55 286 = L_19 286 := (funext (fun i => hGr53 286 i (by omega))).trans p286
              have p287 : L55 287 = L_19 287 := (funext (fun i => hGr53 287 i (by omega))).trans p287
              have q277 : M54 277 = M_19 277 := (funext (fun i => hFr53 277 i (by omega))).trans q277
              have q278 : M54 278 = M54 278 := rfl
              have q279 : M54 279 = M54 279 := rfl
              have q282 : M54 282 = M_19 282 := (funext (fun i => hFr53 282 i (by omega))).trans q282
              obtain ⟨hp31, hp278, hp279⟩ := hr53
              have hp29 : M54 258 29 = M26 258 29 := hFr53 258 29 (by omega)
              have hp277 : M54 277 = M26 277 := funext (fun i => hFr53 277 i (by omega))
              have hb9 : RP (M26 258 29) (M26 277) (M26 258 31) (M26 278) (M26 279) _ _ := hRb
              rw [← hp29, ← hp277] at hb9
              have rp1 := RP_note hb9 hp31 hp278 hp279
              refine g_aload_n C 3 dX11_countTransfer_142 rfl ?_
              refine g_get C (.ref (ad 282)) 36 in_X11_countTransfer_11 (List.mem_of_getElem? (i := 7) rfl) (by decide) (ce_model ad cs _ _) rfl (by decide) rfl rfl dX11_countTransfer_143 ?_
              refine g_iload_n C 0 dX11_countTransfer_146 rfl ?_
              refine g_iconst C 0 dX11_countTransfer_147 (by decide) ?_
              refine g_zast C (by decide) (ce_m_isIn ad cs _ _) (by rw [sI_k]; rfl) (fin' (n := 10) rfl (by omega) (by omega)) dX11_countTransfer_148 ?_
              refine g_nm (fun M56 hM56 => ?_)
              have zy57 : (0 : Int32).toInt = 0 := by decide
              have hI : IR M56 := by rw [hM56]; exact hI.st (show bR 282 _ _ from trivial)
              have hF : ∀ k i, ¬ (k = 258 ∧ i = 25) ∧ ¬ (k = 258 ∧ i = 29) ∧ ¬ (k = 258 ∧ i = 31) ∧ k ≠ 277 ∧ k ≠ 278 ∧ k ≠ 279 ∧ k ≠ 282 → M56 k i = M k i := fun k i hk => by (rw [hM56, sI_at, if_neg (by omega)]; try exact hF k i hk)
              have k25 : M56 258 25 = M26 258 25 := by rw [hM56, sI_n _ _ _ (by decide)]; try exact k25
              have k29 : M56 258 29 = M_19 258 29 := by rw [hM56, sI_n _ _ _ (by decide)]; try exact k29
              have k31 : M56 258 31 = M54 258 31 := by rw [hM56, sI_n _ _ _ (by decide)]; try exact k31
              have q277 : M56 277 = M_19 277 := by rw [hM56, sI_n _ _ _ (by decide)]; try exact q277
              have q278 : M56 278 = M54 278 := by rw [hM56, sI_n _ _ _ (by decide)]; try exact q278
              have q279 : M56 279 = M54 279 := by rw [hM56, sI_n _ _ _ (by decide)]; try exact q279
              have h282 : M56 282 = upd (M_19 282) r50.toNatClampNeg 0 := by rw [hM56, sI_k, q282]; rfl
              have hcu := cI_upd (T := M_19 282) (b := r50.toNatClampNeg) hin9 (M 258 2).toNatClampNeg
              rw [if_pos (by omega), ← h282] at hcu
              have hNI2 : NIn (M56 282) (M 258 2).toInt := by rw [h282]; exact NIn_upd hNI _
              have q282 : M56 282 = M56 282 := rfl
              have e1 : M56 258 = M54 258 := by rw [hM56, sI_n _ _ _ (by decide)]
              have e277 : M56 277 = M54 277 := by rw [hM56, sI_n _ _ _ (by decide)]
              have e278 : M56 278 = M54 278 := by rw [hM56, sI_n _ _ _ (by decide)]
              have e279 : M56 279 = M54 279 := by rw [hM56, sI_n _ _ _ (by decide)]
              have rp3 : RP (M54 258 29) (M54 277) (M54 258 31) (M54 278) (M54 279) _ _ := rp1
              rw [← e1, ← e277, ← e278, ← e279] at rp3
              refine g_goto C 19 dX11_countTransfer_149 (by decide) ?_
              refine g_lv [2, 3] [(1, .long v9), (0, .ref (ad 258))] rfl ?_
              obtain ⟨sp1, sp2⟩ := (show rg 0 1 (M56 258 25) from hI 258 25)
              have kt25 := congrArg Int32.toInt k25
              have kt29 := congrArg Int32.toInt k29
              have kt31 := congrArg Int32.toInt k31
              have e282 : M56 282 = M56 282 := q282
              have hWe : (M56 258 25).toInt = 0 → WT L55 := fun h9 i hi => by rw [congrFun p286 i, congrFun p287 i]; exact j19_1 (by omega) i hi
              have eF : (qrN (vR M) (M 260) (fun i => vR M 8 (40 * (M 258 27).toNatClampNeg + i)) (vR M 7 (M 258 27).toNatClampNeg).toNatClampNeg (M 258 2).toNatClampNeg (M 258 28).toNatClampNeg ((sumP (vR M) (M 258 27).toNatClampNeg (vR M 7 (M 258 27).toNatClampNeg).toNatClampNeg / (M 258 28 + 1)).toInt64 + 1) (M 282, (L 286, L 287), [], [], true) (k9 + 1)) = (upd (qrN (vR M) (M 260) (fun i => vR M 8 (40 * (M 258 27).toNatClampNeg + i)) (vR M 7 (M 258 27).toNatClampNeg).toNatClampNeg (M 258 2).toNatClampNeg (M 258 28).toNatClampNeg ((sumP (vR M) (M 258 27).toNatClampNeg (vR M 7 (M 258 27).toNatClampNeg).toNatClampNeg / (M 258 28 + 1)).toInt64 + 1) (M 282, (L 286, L 287), [], [], true) k9).1 (qrL (vR M) (M 260) (fun i => vR M 8 (40 * (M 258 27).toNatClampNeg + i)) (vR M 7 (M 258 27).toNatClampNeg).toNatClampNeg (M 258 2).toNatClampNeg (qrN (vR M) (M 260) (fun i => vR M 8 (40 * (M 258 27).toNatClampNeg + i)) (vR M 7 (M 258 27).toNatClampNeg).toNatClampNeg (M 258 2).toNatClampNeg (M 258 28).toNatClampNeg ((sumP (vR M) (M 258 27).toNatClampNeg (vR M 7 (M 258 27).toNatClampNeg).toNatClampNeg / (M 258 28 + 1)).toInt64 + 1) (M 282, (L 286, L 287), [], [], true) k9)).toNatClampNeg 0, (qrN (vR M) (M 260) (fun i => vR M 8 (40 * (M 258 27).toNatClampNeg + i)) (vR M 7 (M 258 27).toNatClampNeg).toNatClampNeg (M 258 2).toNatClampNeg (M 258 28).toNatClampNeg ((sumP (vR M) (M 258 27).toNatClampNeg (vR M 7 (M 258 27).toNatClampNeg).toNatClampNeg / (M 258 28 + 1)).toInt64 + 1) (M 282, (L 286, L 287), [], [], true) k9).2.1, (qrN (vR M) (M 260) (fun i => vR M 8 (40 * (M 258 27).toNatClampNeg + i)) (vR M 7 (M 258 27).toNatClampNeg).toNatClampNeg (M 258 2).toNatClampNeg (M 258 28).toNatClampNeg ((sumP (vR M) (M 258 27).toNatClampNeg (vR M 7 (M 258 27).toNatClampNeg).toNatClampNeg / (M 258 28 + 1)).toInt64 + 1) (M 282, (L 286, L 287), [], [], true) k9).2.2.1, (qrN (vR M) (M 260) (fun i => vR M 8 (40 * (M 258 27).toNatClampNeg + i)) (vR M 7 (M 258 27).toNatClampNeg).toNatClampNeg (M 258 2).toNatClampNeg (M 258 28).toNatClampNeg ((sumP (vR M) (M 258 27).toNatClampNeg (vR M 7 (M 258 27).toNatClampNeg).toNatClampNeg / (M 258 28 + 1)).toInt64 + 1) (M 282, (L 286, L 287), [], [], true) k9).2.2.2.1 ++ [(2, qrL (vR M) (M 260) (fun i => vR M 8 (40 * (M 258 27).toNatClampNeg + i)) (vR M 7 (M 258 27).toNatClampNeg).toNatClampNeg (M 258 2).toNatClampNeg (qrN (vR M) (M 260) (fun i => vR M 8 (40 * (M 258 27).toNatClampNeg + i)) (vR M 7 (M 258 27).toNatClampNeg).toNatClampNeg (M 258 2).toNatClampNeg (M 258 28).toNatClampNeg ((sumP (vR M) (M 258 27).toNatClampNeg (vR M 7 (M 258 27).toNatClampNeg).toNatClampNeg / (M 258 28 + 1)).toInt64 + 1) (M 282, (L 286, L 287), [], [], true) k9))], true) := by
                show qrF (vR M) (M 260) (fun i => vR M 8 (40 * (M 258 27).toNatClampNeg + i)) (vR M 7 (M 258 27).toNatClampNeg).toNatClampNeg (M 258 2).toNatClampNeg (M 258 28).toNatClampNeg ((sumP (vR M) (M 258 27).toNatClampNeg (vR M 7 (M 258 27).toNatClampNeg).toNatClampNeg / (M 258 28 + 1)).toInt64 + 1) (qrN (vR M) (M 260) (fun i => vR M 8 (40 * (M 258 27).toNatClampNeg + i)) (vR M 7 (M 258 27).toNatClampNeg).toNatClampNeg (M 258 2).toNatClampNeg (M 258 28).toNatClampNeg ((sumP (vR M) (M 258 27).toNatClampNeg (vR M 7 (M 258 27).toNatClampNeg).toNatClampNeg / (M 258 28 + 1)).toInt64 + 1) (M 282, (L 286, L 287), [], [], true) k9) = _
                unfold qrF
                rw [if_neg (fun h9 => by rw [hTok] at h9; exact Bool.noConfusion h9), if_neg (by omega), if_neg (by omega)]
              have hex : ∃ k, (∀ j, j < k → ¬ qrD (M 258 2).toNatClampNeg (M 258 28).toNatClampNeg (qrN (vR M) (M 260) (fun i => vR M 8 (40 * (M 258 27).toNatClampNeg + i)) (vR M 7 (M 258 27).toNatClampNeg).toNatClampNeg (M 258 2).toNatClampNeg (M 258 28).toNatClampNeg ((sumP (vR M) (M 258 27).toNatClampNeg (vR M 7 (M 258 27).toNatClampNeg).toNatClampNeg / (M 258 28 + 1)).toInt64 + 1) (M 282, (L 286, L 287), [], [], true) j)) ∧ ((M56 258 25).toInt = 0 ↔ (qrN (vR M) (M 260) (fun i => vR M 8 (40 * (M 258 27).toNatClampNeg + i)) (vR M 7 (M 258 27).toNatClampNeg).toNatClampNeg (M 258 2).toNatClampNeg (M 258 28).toNatClampNeg ((sumP (vR M) (M 258 27).toNatClampNeg (vR M 7 (M 258 27).toNatClampNeg).toNatClampNeg / (M 258 28 + 1)).toInt64 + 1) (M 282, (L 286, L 287), [], [], true) k).2.2.2.2 = true) ∧ ((M56 258 25).toInt = 0 → M56 282 = (qrN (vR M) (M 260) (fun i => vR M 8 (40 * (M 258 27).toNatClampNeg + i)) (vR M 7 (M 258 27).toNatClampNeg).toNatClampNeg (M 258 2).toNatClampNeg (M 258 28).toNatClampNeg ((sumP (vR M) (M 258 27).toNatClampNeg (vR M 7 (M 258 27).toNatClampNeg).toNatClampNeg / (M 258 28 + 1)).toInt64 + 1) (M 282, (L 286, L 287), [], [], true) k).1 ∧ L55 286 = (qrN (vR M) (M 260) (fun i => vR M 8 (40 * (M 258 27).toNatClampNeg + i)) (vR M 7 (M 258 27).toNatClampNeg).toNatClampNeg (M 258 2).toNatClampNeg (M 258 28).toNatClampNeg ((sumP (vR M) (M 258 27).toNatClampNeg (vR M 7 (M 258 27).toNatClampNeg).toNatClampNeg / (M 258 28 + 1)).toInt64 + 1) (M 282, (L 286, L 287), [], [], true) k).2.1.1 ∧ L55 287 = (qrN (vR M) (M 260) (fun i => vR M 8 (40 * (M 258 27).toNatClampNeg + i)) (vR M 7 (M 258 27).toNatClampNeg).toNatClampNeg (M 258 2).toNatClampNeg (M 258 28).toNatClampNeg ((sumP (vR M) (M 258 27).toNatClampNeg (vR M 7 (M 258 27).toNatClampNeg).toNatClampNeg / (M 258 28 + 1)).toInt64 + 1) (M 282, (L 286, L 287), [], [], true) k).2.1.2 ∧ RR M56 (qrN (vR M) (M 260) (fun i => vR M 8 (40 * (M 258 27).toNatClampNeg + i)) (vR M 7 (M 258 27).toNatClampNeg).toNatClampNeg (M 258 2).toNatClampNeg (M 258 28).toNatClampNeg ((sumP (vR M) (M 258 27).toNatClampNeg (vR M 7 (M 258 27).toNatClampNeg).toNatClampNeg / (M 258 28 + 1)).toInt64 + 1) (M 282, (L 286, L 287), [], [], true) k).2.2.1 (qrN (vR M) (M 260) (fun i => vR M 8 (40 * (M 258 27).toNatClampNeg + i)) (vR M 7 (M 258 27).toNatClampNeg).toNatClampNeg (M 258 2).toNatClampNeg (M 258 28).toNatClampNeg ((sumP (vR M) (M 258 27).toNatClampNeg (vR M 7 (M 258 27).toNatClampNeg).toNatClampNeg / (M 258 28 + 1)).toInt64 + 1) (M 282, (L 286, L 287), [], [], true) k).2.2.2.1) := by
                refine ⟨k9 + 1, hk1s, ?_, ?_⟩
                · rw [eF]; exact ⟨fun _ => rfl, fun _ => by omega⟩
                · intro _
                  rw [eF]
                  refine ⟨?_, by rw [p286]; exact eWu, by rw [p287]; exact eWd, ?_⟩
                  · show M56 282 = upd (qrN (vR M) (M 260) (fun i => vR M 8 (40 * (M 258 27).toNatClampNeg + i)) (vR M 7 (M 258 27).toNatClampNeg).toNatClampNeg (M 258 2).toNatClampNeg (M 258 28).toNatClampNeg ((sumP (vR M) (M 258 27).toNatClampNeg (vR M 7 (M 258 27).toNatClampNeg).toNatClampNeg / (M 258 28 + 1)).toInt64 + 1) (M 282, (L 286, L 287), [], [], true) k9).1 (qrL (vR M) (M 260) (fun i => vR M 8 (40 * (M 258 27).toNatClampNeg + i)) (vR M 7 (M 258 27).toNatClampNeg).toNatClampNeg (M 258 2).toNatClampNeg (qrN (vR M) (M 260) (fun i => vR M 8 (40 * (M 258 27).toNatClampNeg + i)) (vR M 7 (M 258 27).toNatClampNeg).toNatClampNeg (M 258 2).toNatClampNeg (M 258 28).toNatClampNeg ((sumP (vR M) (M 258 27).toNatClampNeg (vR M 7 (M 258 27).toNatClampNeg).toNatClampNeg / (M 258 28 + 1)).toInt64 + 1) (M 282, (L 286, L 287), [], [], true) k9)).toNatClampNeg 0; rw [h282, eI, er50]
                  · show RR M56 (qrN (vR M) (M 260) (fun i => vR M 8 (40 * (M 258 27).toNatClampNeg + i)) (vR M 7 (M 258 27).toNatClampNeg).toNatClampNeg (M 258 2).toNatClampNeg (M 258 28).toNatClampNeg ((sumP (vR M) (M 258 27).toNatClampNeg (vR M 7 (M 258 27).toNatClampNeg).toNatClampNeg / (M 258 28 + 1)).toInt64 + 1) (M 282, (L 286, L 287), [], [], true) k9).2.2.1 ((qrN (vR M) (M 260) (fun i => vR M 8 (40 * (M 258 27).toNatClampNeg + i)) (vR M 7 (M 258 27).toNatClampNeg).toNatClampNeg (M 258 2).toNatClampNeg (M 258 28).toNatClampNeg ((sumP (vR M) (M 258 27).toNatClampNeg (vR M 7 (M 258 27).toNatClampNeg).toNatClampNeg / (M 258 28 + 1)).toInt64 + 1) (M 282, (L 286, L 287), [], [], true) k9).2.2.2.1 ++ [(2, qrL (vR M) (M 260) (fun i => vR M 8 (40 * (M 258 27).toNatClampNeg + i)) (vR M 7 (M 258 27).toNatClampNeg).toNatClampNeg (M 258 2).toNatClampNeg (qrN (vR M) (M 260) (fun i => vR M 8 (40 * (M 258 27).toNatClampNeg + i)) (vR M 7 (M 258 27).toNatClampNeg).toNatClampNeg (M 258 2).toNatClampNeg (M 258 28).toNatClampNeg ((sumP (vR M) (M 258 27).toNatClampNeg (vR M 7 (M 258 27).toNatClampNeg).toNatClampNeg / (M 258 28 + 1)).toInt64 + 1) (M 282, (L 286, L 287), [], [], true) k9))]); rw [← er50]; exact rp3
              exact ih_19 (M56, L55) ⟨by show NIn (M56 282) (M 258 2).toInt; first | exact hNI2 | (rw [e282]; exact j19_0), by show (M56 258 25).toInt = 0 → WT L55; exact hWe, by show (M56 258 31).toInt + (cI (M56 282) (M 258 2).toNatClampNeg : Int) ≤ 10; rw [e282]; omega, by show 0 ≤ (M56 258 29).toInt ∧ (M56 258 29).toInt ≤ (M 258 28).toInt; omega, by show 0 ≤ (M56 258 25).toInt ∧ (M56 258 25).toInt ≤ 1; exact hI 258 25, by show ∃ k, (∀ j, j < k → ¬ qrD (M 258 2).toNatClampNeg (M 258 28).toNatClampNeg (qrN (vR M) (M 260) (fun i => vR M 8 (40 * (M 258 27).toNatClampNeg + i)) (vR M 7 (M 258 27).toNatClampNeg).toNatClampNeg (M 258 2).toNatClampNeg (M 258 28).toNatClampNeg ((sumP (vR M) (M 258 27).toNatClampNeg (vR M 7 (M 258 27).toNatClampNeg).toNatClampNeg / (M 258 28 + 1)).toInt64 + 1) (M 282, (L 286, L 287), [], [], true) j)) ∧ ((M56 258 25).toInt = 0 ↔ (qrN (vR M) (M 260) (fun i => vR M 8 (40 * (M 258 27).toNatClampNeg + i)) (vR M 7 (M 258 27).toNatClampNeg).toNatClampNeg (M 258 2).toNatClampNeg (M 258 28).toNatClampNeg ((sumP (vR M) (M 258 27).toNatClampNeg (vR M 7 (M 258 27).toNatClampNeg).toNatClampNeg / (M 258 28 + 1)).toInt64 + 1) (M 282, (L 286, L 287), [], [], true) k).2.2.2.2 = true) ∧ ((M56 258 25).toInt = 0 → M56 282 = (qrN (vR M) (M 260) (fun i => vR M 8 (40 * (M 258 27).toNatClampNeg + i)) (vR M 7 (M 258 27).toNatClampNeg).toNatClampNeg (M 258 2).toNatClampNeg (M 258 28).toNatClampNeg ((sumP (vR M) (M 258 27).toNatClampNeg (vR M 7 (M 258 27).toNatClampNeg).toNatClampNeg / (M 258 28 + 1)).toInt64 + 1) (M 282, (L 286, L 287), [], [], true) k).1 ∧ L55 286 = (qrN (vR M) (M 260) (fun i => vR M 8 (40 * (M 258 27).toNatClampNeg + i)) (vR M 7 (M 258 27).toNatClampNeg).toNatClampNeg (M 258 2).toNatClampNeg (M 258 28).toNatClampNeg ((sumP (vR M) (M 258 27).toNatClampNeg (vR M 7 (M 258 27).toNatClampNeg).toNatClampNeg / (M 258 28 + 1)).toInt64 + 1) (M 282, (L 286, L 287), [], [], true) k).2.1.1 ∧ L55 287 = (qrN (vR M) (M 260) (fun i => vR M 8 (40 * (M 258 27).toNatClampNeg + i)) (vR M 7 (M 258 27).toNatClampNeg).toNatClampNeg (M 258 2).toNatClampNeg (M 258 28).toNatClampNeg ((sumP (vR M) (M 258 27).toNatClampNeg (vR M 7 (M 258 27).toNatClampNeg).toNatClampNeg / (M 258 28 + 1)).toInt64 + 1) (M 282, (L 286, L 287), [], [], true) k).2.1.2 ∧ RR M56 (qrN (vR M) (M 260) (fun i => vR M 8 (40 * (M 258 27).toNatClampNeg + i)) (vR M 7 (M 258 27).toNatClampNeg).toNatClampNeg (M 258 2).toNatClampNeg (M 258 28).toNatClampNeg ((sumP (vR M) (M 258 27).toNatClampNeg (vR M 7 (M 258 27).toNatClampNeg).toNatClampNeg / (M 258 28 + 1)).toInt64 + 1) (M 282, (L 286, L 287), [], [], true) k).2.2.1 (qrN (vR M) (M 260) (fun i => vR M 8 (40 * (M 258 27).toNatClampNeg + i)) (vR M 7 (M 258 27).toNatClampNeg).toNatClampNeg (M 258 2).toNatClampNeg (M 258 28).toNatClampNeg ((sumP (vR M) (M 258 27).toNatClampNeg (vR M 7 (M 258 27).toNatClampNeg).toNatClampNeg / (M 258 28 + 1)).toInt64 + 1) (M 282, (L 286, L 287), [], [], true) k).2.2.2.1); exact hex, hI, hF, hG⟩ (by show cI (M56 282) (M 258 2).toNatClampNeg * 2 + (1 - (M56 258 25).toInt).toNat < cI (M_19 282) (M 258 2).toNatClampNeg * 2 + (1 - (M_19 258 25).toInt).toNat; rw [e282]; omega)
            ·
              have f58 := cnlt rfl rfl ev47 c48
              refine g_iload C 0 dX11_countTransfer_106 rfl ?_
              refine g_if_ne C 117 dX11_countTransfer_108 (by decide) (fun c59 => absurd c59 (by decide)) (fun _ => ?_)
              have hWc : WT L27 := fun i hi => by rw [congrFun p286 i, congrFun p287 i]; exact j19_1 (by omega) i hi
              have hkc : okF (L27 284 r32.toNatClampNeg) (L27 285 r32.toNatClampNeg) := hc10.2.2
              have hMv3 : vR M26 = vR M := vR_fr (fun k i hk => hF k i (by omega))
              have eI3 : M26 282 = (qrN (vR M) (M 260) (fun i => vR M 8 (40 * (M 258 27).toNatClampNeg + i)) (vR M 7 (M 258 27).toNatClampNeg).toNatClampNeg (M 258 2).toNatClampNeg (M 258 28).toNatClampNeg ((sumP (vR M) (M 258 27).toNatClampNeg (vR M 7 (M 258 27).toNatClampNeg).toNatClampNeg / (M 258 28 + 1)).toInt64 + 1) (M 282, (L 286, L 287), [], [], true) k9).1 := by rw [q282]; exact eI
              have eU3 : L27 286 = (qrN (vR M) (M 260) (fun i => vR M 8 (40 * (M 258 27).toNatClampNeg + i)) (vR M 7 (M 258 27).toNatClampNeg).toNatClampNeg (M 258 2).toNatClampNeg (M 258 28).toNatClampNeg ((sumP (vR M) (M 258 27).toNatClampNeg (vR M 7 (M 258 27).toNatClampNeg).toNatClampNeg / (M 258 28 + 1)).toInt64 + 1) (M 282, (L 286, L 287), [], [], true) k9).2.1.1 := by rw [p286]; exact eWu
              have eD3 : L27 287 = (qrN (vR M) (M 260) (fun i => vR M 8 (40 * (M 258 27).toNatClampNeg + i)) (vR M 7 (M 258 27).toNatClampNeg).toNatClampNeg (M 258 2).toNatClampNeg (M 258 28).toNatClampNeg ((sumP (vR M) (M 258 27).toNatClampNeg (vR M 7 (M 258 27).toNatClampNeg).toNatClampNeg / (M 258 28 + 1)).toInt64 + 1) (M 282, (L 286, L 287), [], [], true) k9).2.1.2 := by rw [p287]; exact eWd
              have h273 : M26 258 27 = M 258 27 := hF 258 27 (by omega)
              refine g_aload_n C 3 dX11_countTransfer_111 rfl ?_
              refine g_iload_n C 1 dX11_countTransfer_112 rfl ?_
              refine g_lload_n C 2 dX11_countTransfer_113 rfl ?_
              refine g_callVv C (n := 2) (As := [.int r32, .long v9]) (st := []) (k_X11_lighten l D ad cs _ _ r32 v9 hI ⟨by omega, by omega⟩ ⟨by omega, by omega⟩ hWc (by omega) hkc (by rw [← tv45, ← tv44]; omega) (by rw [hMv3, h273]; exact hX) (by rw [hMv3]; exact hB8)) gX11_countTransfer_X11_lighten rfl rfl rfl (by decide +kernel) ⟨Nat.le_of_ble_eq_true rfl, Nat.le_of_ble_eq_true rfl⟩ rfl (Nat.le_of_ble_eq_true rfl) ⟨Nat.zero_le _, Nat.zero_le _⟩ (by decide) (ce_model ad cs _ _) rfl rfl dX11_countTransfer_114 (fun M61 L62 hr60 => ?_)
              obtain ⟨hr60, hI, hFr60, hGr60⟩ := hr60
              have hF : ∀ k i, ¬ (k = 258 ∧ i = 25) ∧ ¬ (k = 258 ∧ i = 29) ∧ ¬ (k = 258 ∧ i = 31) ∧ k ≠ 277 ∧ k ≠ 278 ∧ k ≠ 279 ∧ k ≠ 282 → M61 k i = M k i := fun k i hk => by (rw [hFr60 k i (by omega)]; try exact hF k i hk)
              have hG : ∀ k i, ¬ (k = 258 ∧ i = 23) ∧ ¬ (k = 258 ∧ i = 24) ∧ k ≠ 284 ∧ k ≠ 285 ∧ k ≠ 280 ∧ k ≠ 281 ∧ k ≠ 286 ∧ k ≠ 287 → L62 k i = L k i := fun k i hk => by (rw [hGr60 k i (by omega)]; try exact hG k i hk)
              have k29 : M61 258 29 = M_19 258 29 := (hFr60 258 29 (by omega)).trans k29
              have k31 : M61 258 31 = M_19 258 31 := (hFr60 258 31 (by omega)).trans k31
              have k25 : M61 258 25 = M61 258 25 := rfl
              have kt25 := congrArg Int32.toInt k25
              have kt29 := congrArg Int32.toInt k29
              have kt31 := congrArg Int32.toInt k31
              have l23 : L62 258 23 = L62 258 23 := rfl
              have l24 : L62 258 24 = L62 258 24 := rfl
              have p280 : L62 280 = L_19 280 := (funext (fun i => hGr60 280 i (by omega))).trans p280
              have p281 : L62 281 = L_19 281 := (funext (fun i => hGr60 281 i (by omega))).trans p281
              have p284 : L62 284 = L27 284 := (funext (fun i => hGr60 284 i (by omega))).trans p284
              have p285 : L62 285 = L27 285 := (funext (fun i => hGr60 285 i (by omega))).trans p285
              have p286 : L62 286 = L62 286 := rfl
              have p287 : L62 287 = L62 287 := rfl
              have q277 : M61 277 = M_19 277 := (funext (fun i => hFr60 277 i (by omega))).trans q277
              have q278 : M61 278 = M_19 278 := (funext (fun i => hFr60 278 i (by omega))).trans q278
              have q279 : M61 279 = M_19 279 := (funext (fun i => hFr60 279 i (by omega))).trans q279
              have q282 : M61 282 = M_19 282 := (funext (fun i => hFr60 282 i (by omega))).trans q282
              obtain ⟨lgs, lge⟩ := hr60
              rw [hMv3, h273, eI3, eU3, eD3, eU9, eV9, er32, hqv] at lgs lge
              have lgs : (M61 258 25).toInt = 0 ↔ lg2 (qrU (vR M) (M 260) (fun i => vR M 8 (40 * (M 258 27).toNatClampNeg + i)) (vR M 7 (M 258 27).toNatClampNeg).toNatClampNeg (M 258 2).toNatClampNeg (qrN (vR M) (M 260) (fun i => vR M 8 (40 * (M 258 27).toNatClampNeg + i)) (vR M 7 (M 258 27).toNatClampNeg).toNatClampNeg (M 258 2).toNatClampNeg (M 258 28).toNatClampNeg ((sumP (vR M) (M 258 27).toNatClampNeg (vR M 7 (M 258 27).toNatClampNeg).toNatClampNeg / (M 258 28 + 1)).toInt64 + 1) (M 282, (L 286, L 287), [], [], true) k9)) (qrV (vR M) (M 260) (fun i => vR M 8 (40 * (M 258 27).toNatClampNeg + i)) (vR M 7 (M 258 27).toNatClampNeg).toNatClampNeg (M 258 2).toNatClampNeg (qrN (vR M) (M 260) (fun i => vR M 8 (40 * (M 258 27).toNatClampNeg + i)) (vR M 7 (M 258 27).toNatClampNeg).toNatClampNeg (M 258 2).toNatClampNeg (M 258 28).toNatClampNeg ((sumP (vR M) (M 258 27).toNatClampNeg (vR M 7 (M 258 27).toNatClampNeg).toNatClampNeg / (M 258 28 + 1)).toInt64 + 1) (M 282, (L 286, L 287), [], [], true) k9)) ((sumP (vR M) (M 258 27).toNatClampNeg (vR M 7 (M 258 27).toNatClampNeg).toNatClampNeg / (M 258 28 + 1)).toInt64 + 1) ∧ (qrW (vR M) (M 260) (fun i => vR M 8 (40 * (M 258 27).toNatClampNeg + i)) (vR M 7 (M 258 27).toNatClampNeg).toNatClampNeg (M 258 2).toNatClampNeg ((sumP (vR M) (M 258 27).toNatClampNeg (vR M 7 (M 258 27).toNatClampNeg).toNatClampNeg / (M 258 28 + 1)).toInt64 + 1) (qrN (vR M) (M 260) (fun i => vR M 8 (40 * (M 258 27).toNatClampNeg + i)) (vR M 7 (M 258 27).toNatClampNeg).toNatClampNeg (M 258 2).toNatClampNeg (M 258 28).toNatClampNeg ((sumP (vR M) (M 258 27).toNatClampNeg (vR M 7 (M 258 27).toNatClampNeg).toNatClampNeg / (M 258 28 + 1)).toInt64 + 1) (M 282, (L 286, L 287), [], [], true) k9)).2.2 = true := lgs
              have lge : lg2 (qrU (vR M) (M 260) (fun i => vR M 8 (40 * (M 258 27).toNatClampNeg + i)) (vR M 7 (M 258 27).toNatClampNeg).toNatClampNeg (M 258 2).toNatClampNeg (qrN (vR M) (M 260) (fun i => vR M 8 (40 * (M 258 27).toNatClampNeg + i)) (vR M 7 (M 258 27).toNatClampNeg).toNatClampNeg (M 258 2).toNatClampNeg (M 258 28).toNatClampNeg ((sumP (vR M) (M 258 27).toNatClampNeg (vR M 7 (M 258 27).toNatClampNeg).toNatClampNeg / (M 258 28 + 1)).toInt64 + 1) (M 282, (L 286, L 287), [], [], true) k9)) (qrV (vR M) (M 260) (fun i => vR M 8 (40 * (M 258 27).toNatClampNeg + i)) (vR M 7 (M 258 27).toNatClampNeg).toNatClampNeg (M 258 2).toNatClampNeg (qrN (vR M) (M 260) (fun i => vR M 8 (40 * (M 258 27).toNatClampNeg + i)) (vR M 7 (M 258 27).toNatClampNeg).toNatClampNeg (M 258 2).toNatClampNeg (M 258 28).toNatClampNeg ((sumP (vR M) (M 258 27).toNatClampNeg (vR M 7 (M 258 27).toNatClampNeg).toNatClampNeg / (M 258 28 + 1)).toInt64 + 1) (M 282, (L 286, L 287), [], [], true) k9)) ((sumP (vR M) (M 258 27).toNatClampNeg (vR M 7 (M 258 27).toNatClampNeg).toNatClampNeg / (M 258 28 + 1)).toInt64 + 1) → (qrW (vR M) (M 260) (fun i => vR M 8 (40 * (M 258 27).toNatClampNeg + i)) (vR M 7 (M 258 27).toNatClampNeg).toNatClampNeg (M 258 2).toNatClampNeg ((sumP (vR M) (M 258 27).toNatClampNeg (vR M 7 (M 258 27).toNatClampNeg).toNatClampNeg / (M 258 28 + 1)).toInt64 + 1) (qrN (vR M) (M 260) (fun i => vR M 8 (40 * (M 258 27).toNatClampNeg + i)) (vR M 7 (M 258 27).toNatClampNeg).toNatClampNeg (M 258 2).toNatClampNeg (M 258 28).toNatClampNeg ((sumP (vR M) (M 258 27).toNatClampNeg (vR M 7 (M 258 27).toNatClampNeg).toNatClampNeg / (M 258 28 + 1)).toInt64 + 1) (M 282, (L 286, L 287), [], [], true) k9)).2.2 = true → (L62 286 = (qrW (vR M) (M 260) (fun i => vR M 8 (40 * (M 258 27).toNatClampNeg + i)) (vR M 7 (M 258 27).toNatClampNeg).toNatClampNeg (M 258 2).toNatClampNeg ((sumP (vR M) (M 258 27).toNatClampNeg (vR M 7 (M 258 27).toNatClampNeg).toNatClampNeg / (M 258 28 + 1)).toInt64 + 1) (qrN (vR M) (M 260) (fun i => vR M 8 (40 * (M 258 27).toNatClampNeg + i)) (vR M 7 (M 258 27).toNatClampNeg).toNatClampNeg (M 258 2).toNatClampNeg (M 258 28).toNatClampNeg ((sumP (vR M) (M 258 27).toNatClampNeg (vR M 7 (M 258 27).toNatClampNeg).toNatClampNeg / (M 258 28 + 1)).toInt64 + 1) (M 282, (L 286, L 287), [], [], true) k9)).1 ∧ L62 287 = (qrW (vR M) (M 260) (fun i => vR M 8 (40 * (M 258 27).toNatClampNeg + i)) (vR M 7 (M 258 27).toNatClampNeg).toNatClampNeg (M 258 2).toNatClampNeg ((sumP (vR M) (M 258 27).toNatClampNeg (vR M 7 (M 258 27).toNatClampNeg).toNatClampNeg / (M 258 28 + 1)).toInt64 + 1) (qrN (vR M) (M 260) (fun i => vR M 8 (40 * (M 258 27).toNatClampNeg + i)) (vR M 7 (M 258 27).toNatClampNeg).toNatClampNeg (M 258 2).toNatClampNeg (M 258 28).toNatClampNeg ((sumP (vR M) (M 258 27).toNatClampNeg (vR M 7 (M 258 27).toNatClampNeg).toNatClampNeg / (M 258 28 + 1)).toInt64 + 1) (M 282, (L 286, L 287), [], [], true) k9)).2.1) ∧ WT L62 := lge
              refine g_aload_n C 3 dX11_countTransfer_117 rfl ?_
              refine g_iconst C 1 dX11_countTransfer_118 (by decide) ?_
              refine g_iload_n C 1 dX11_countTransfer_119 rfl ?_
              have hRb : RP (M_19 258 29) (M_19 277) (M_19 258 31) (M_19 278) (M_19 279) (qrN (vR M) (M 260) (fun i => vR M 8 (40 * (M 258 27).toNatClampNeg + i)) (vR M 7 (M 258 27).toNatClampNeg).toNatClampNeg (M 258 2).toNatClampNeg (M 258 28).toNatClampNeg ((sumP (vR M) (M 258 27).toNatClampNeg (vR M 7 (M 258 27).toNatClampNeg).toNatClampNeg / (M 258 28 + 1)).toInt64 + 1) (M 282, (L 286, L 287), [], [], true) k9).2.2.1 (qrN (vR M) (M 260) (fun i => vR M 8 (40 * (M 258 27).toNatClampNeg + i)) (vR M 7 (M 258 27).toNatClampNeg).toNatClampNeg (M 258 2).toNatClampNeg (M 258 28).toNatClampNeg ((sumP (vR M) (M 258 27).toNatClampNeg (vR M 7 (M 258 27).toNatClampNeg).toNatClampNeg / (M 258 28 + 1)).toInt64 + 1) (M 282, (L 286, L 287), [], [], true) k9).2.2.2.1 := eRR
              rw [← k29, ← k31, ← q277, ← q278, ← q279] at hRb
              refine g_callVv C (n := 2) (As := [.int 1, .int r32]) (st := []) (k_X11_happens l D ad cs _ _ 1 r32 hI (by omega)) gX11_countTransfer_X11_happens rfl rfl rfl (by decide +kernel) ⟨Nat.le_of_ble_eq_true rfl, Nat.le_of_ble_eq_true rfl⟩ rfl (Nat.le_of_ble_eq_true rfl) ⟨Nat.zero_le _, Nat.zero_le _⟩ (by decide) (ce_model ad cs _ _) rfl rfl dX11_countTransfer_120 (fun M64 L65 hr63 => ?_)
              obtain ⟨hr63, hI, hFr63, hGr63⟩ := hr63
              have hF : ∀ k i, ¬ (k = 258 ∧ i = 25) ∧ ¬ (k = 258 ∧ i = 29) ∧ ¬ (k = 258 ∧ i = 31) ∧ k ≠ 277 ∧ k ≠ 278 ∧ k ≠ 279 ∧ k ≠ 282 → M64 k i = M k i := fun k i hk => by (rw [hFr63 k i (by omega)]; try exact hF k i hk)
              have hG : ∀ k i, ¬ (k = 258 ∧ i = 23) ∧ ¬ (k = 258 ∧ i = 24) ∧ k ≠ 284 ∧ k ≠ 285 ∧ k ≠ 280 ∧ k ≠ 281 ∧ k ≠ 286 ∧ k ≠ 287 → L65 k i = L k i := fun k i hk => by (rw [hGr63 k i (by omega)]; try exact hG k i hk)
              have k25 : M64 258 25 = M61 258 25 := (hFr63 258 25 (by omega)).trans k25
              have k29 : M64 258 29 = M_19 258 29 := (hFr63 258 29 (by omega)).trans k29
              have k31 : M64 258 31 = M64 258 31 := rfl
              have kt25 := congrArg Int32.toInt k25
              have kt29 := congrArg Int32.toInt k29
              have kt31 := congrArg Int32.toInt k31
              have l23 : L65 258 23 = L62 258 23 := (hGr63 258 23 (by omega)).trans l23
              have l24 : L65 258 24 = L62 258 24 := (hGr63 258 24 (by omega)).trans l24
              have p280 : L65 280 = L65 280 := rfl
              have p281 : L65 281 = L65 281 := rfl
              have p284 : L65 284 = L27 284 := (funext (fun i => hGr63 284 i (by omega))).trans p284
              have p285 : L65 285 = L27 285 := (funext (fun i => hGr63 285 i (by omega))).trans p285
              have p286 : L65 286 = L62 286 := (funext (fun i => hGr63 286 i (by omega))).trans p286
              have p287 : L65 287 = L62 287 := (funext (fun i => hGr63 287 i (by omega))).trans p287
              have q277 : M64 277 = M_19 277 := (funext (fun i => hFr63 277 i (by omega))).trans q277
              have q278 : M64 278 = M64 278 := rfl
              have q279 : M64 279 = M64 279 := rfl
              have q282 : M64 282 = M_19 282 := (funext (fun i => hFr63 282 i (by omega))).trans q282
              obtain ⟨hp31, hp278, hp279⟩ := hr63
              have hp29 : M64 258 29 = M61 258 29 := hFr63 258 29 (by omega)
              have hp277 : M64 277 = M61 277 := funext (fun i => hFr63 277 i (by omega))
              have hb9 : RP (M61 258 29) (M61 277) (M61 258 31) (M61 278) (M61 279) _ _ := hRb
              rw [← hp29, ← hp277] at hb9
              have rp1 := RP_note hb9 hp31 hp278 hp279
              refine g_aload_n C 3 dX11_countTransfer_123 rfl ?_
              refine g_iload_n C 1 dX11_countTransfer_124 rfl ?_
              refine g_callVv C (n := 1) (As := [.int r32]) (st := []) (k_X11_gives l D ad cs _ _ r32 hI (by omega)) gX11_countTransfer_X11_gives rfl rfl rfl (by decide +kernel) ⟨Nat.le_of_ble_eq_true rfl, Nat.le_of_ble_eq_true rfl⟩ rfl (Nat.le_of_ble_eq_true rfl) ⟨Nat.zero_le _, Nat.zero_le _⟩ (by decide) (ce_model ad cs _ _) rfl rfl dX11_countTransfer_125 (fun M67 L68 hr66 => ?_)
              obtain ⟨hr66, hI, hFr66, hGr66⟩ := hr66
              have hF : ∀ k i, ¬ (k = 258 ∧ i = 25) ∧ ¬ (k = 258 ∧ i = 29) ∧ ¬ (k = 258 ∧ i = 31) ∧ k ≠ 277 ∧ k ≠ 278 ∧ k ≠ 279 ∧ k ≠ 282 → M67 k i = M k i := fun k i hk => by (rw [hFr66 k i (by omega)]; try exact hF k i hk)
              have hG : ∀ k i, ¬ (k = 258 ∧ i = 23) ∧ ¬ (k = 258 ∧ i = 24) ∧ k ≠ 284 ∧ k ≠ 285 ∧ k ≠ 280 ∧ k ≠ 281 ∧ k ≠ 286 ∧ k ≠ 287 → L68 k i = L k i := fun k i hk => by (rw [hGr66 k i trivial]; try exact hG k i hk)
              have k25 : M67 258 25 = M61 258 25 := (hFr66 258 25 (by omega)).trans k25
              have k31 : M67 258 31 = M64 258 31 := (hFr66 258 31 (by omega)).trans k31
              have k29 : M67 258 29 = M67 258 29 := rfl
              have kt25 := congrArg Int32.toInt k25
              have kt29 := congrArg Int32.toInt k29
              have kt31 := congrArg Int32.toInt k31
              have l23 : L68 258 23 = L62 258 23 := (hGr66 258 23 trivial).trans l23
              have l24 : L68 258 24 = L62 258 24 := (hGr66 258 24 trivial).trans l24
              have p280 : L68 280 = L65 280 := (funext (fun i => hGr66 280 i trivial)).trans p280
              have p281 : L68 281 = L65 281 := (funext (fun i => hGr66 281 i trivial)).trans p281
              have p284 : L68 284 = L27 284 := (funext (fun i => hGr66 284 i trivial)).trans p284
              have p285 : L68 285 = L27 285 := (funext (fun i => hGr66 285 i trivial)).trans p285
              have p286 : L68 286 = L62 286 := (funext (fun i => hGr66 286 i trivial)).trans p286
              have p287 : L68 287 = L62 287 := (funext (fun i => hGr66 287 i trivial)).trans p287
              have q277 : M67 277 = M67 277 := rfl
              have q278 : M67 278 = M64 278 := (funext (fun i => hFr66 278 i (by omega))).trans q278
              have q279 : M67 279 = M64 279 := (funext (fun i => hFr66 279 i (by omega))).trans q279
              have q282 : M67 282 = M_19 282 := (funext (fun i => hFr66 282 i (by omega))).trans q282
              obtain ⟨gv29, gv277⟩ := hr66
              have gv31 : M67 258 31 = M64 258 31 := hFr66 258 31 (by omega)
              have gv278 : M67 278 = M64 278 := funext (fun i => hFr66 278 i (by omega))
              have gv279 : M67 279 = M64 279 := funext (fun i => hFr66 279 i (by omega))
              have hb9 : RP (M64 258 29) (M64 277) (M64 258 31) (M64 278) (M64 279) _ _ := rp1
              rw [← gv31, ← gv278, ← gv279] at hb9
              have rp2 := RP_give hb9 gv29 gv277
              refine g_goto C 142 dX11_countTransfer_128 (by decide) ?_
              refine g_aload_n C 3 dX11_countTransfer_142 rfl ?_
              refine g_get C (.ref (ad 282)) 36 in_X11_countTransfer_11 (List.mem_of_getElem? (i := 7) rfl) (by decide) (ce_model ad cs _ _) rfl (by decide) rfl rfl dX11_countTransfer_143 ?_
              refine g_iload_n C 1 dX11_countTransfer_146 rfl ?_
              refine g_iconst C 0 dX11_countTransfer_147 (by decide) ?_
              refine g_zast C (by decide) (ce_m_isIn ad cs _ _) (by rw [sI_k]; rfl) (fin' (n := 10) rfl (by omega) (by omega)) dX11_countTransfer_148 ?_
              refine g_nm (fun M69 hM69 => ?_)
              have zy70 : (0 : Int32).toInt = 0 := by decide
              have hI : IR M69 := by rw [hM69]; exact hI.st (show bR 282 _ _ from trivial)
              have hF : ∀ k i, ¬ (k = 258 ∧ i = 25) ∧ ¬ (k = 258 ∧ i = 29) ∧ ¬ (k = 258 ∧ i = 31) ∧ k ≠ 277 ∧ k ≠ 278 ∧ k ≠ 279 ∧ k ≠ 282 → M69 k i = M k i := fun k i hk => by (rw [hM69, sI_at, if_neg (by omega)]; try exact hF k i hk)
              have k25 : M69 258 25 = M61 258 25 := by rw [hM69, sI_n _ _ _ (by decide)]; try exact k25
              have k29 : M69 258 29 = M67 258 29 := by rw [hM69, sI_n _ _ _ (by decide)]; try exact k29
              have k31 : M69 258 31 = M64 258 31 := by rw [hM69, sI_n _ _ _ (by decide)]; try exact k31
              have q277 : M69 277 = M67 277 := by rw [hM69, sI_n _ _ _ (by decide)]; try exact q277
              have q278 : M69 278 = M64 278 := by rw [hM69, sI_n _ _ _ (by decide)]; try exact q278
              have q279 : M69 279 = M64 279 := by rw [hM69, sI_n _ _ _ (by decide)]; try exact q279
              have h282 : M69 282 = upd (M_19 282) r32.toNatClampNeg 0 := by rw [hM69, sI_k, q282]; rfl
              have hcu := cI_upd (T := M_19 282) (b := r32.toNatClampNeg) hin9 (M 258 2).toNatClampNeg
              rw [if_pos (by omega), ← h282] at hcu
              have hNI2 : NIn (M69 282) (M 258 2).toInt := by rw [h282]; exact NIn_upd hNI _
              have q282 : M69 282 = M69 282 := rfl
              have e1 : M69 258 = M67 258 := by rw [hM69, sI_n _ _ _ (by decide)]
              have e277 : M69 277 = M67 277 := by rw [hM69, sI_n _ _ _ (by decide)]
              have e278 : M69 278 = M67 278 := by rw [hM69, sI_n _ _ _ (by decide)]
              have e279 : M69 279 = M67 279 := by rw [hM69, sI_n _ _ _ (by decide)]
              have rp3 : RP (M67 258 29) (M67 277) (M67 258 31) (M67 278) (M67 279) _ _ := rp2
              rw [← e1, ← e277, ← e278, ← e279] at rp3
              refine g_goto C 19 dX11_countTransfer_149 (by decide) ?_
              refine g_lv [2, 3] [(1, .long v9), (0, .ref (ad 258))] rfl ?_
              obtain ⟨sp1, sp2⟩ := (show rg 0 1 (M69 258 25) from hI 258 25)
              have kt25 := congrArg Int32.toInt k25
              have kt29 := congrArg Int32.toInt k29
              have kt31 := congrArg Int32.toInt k31
              have e282 : M69 282 = M69 282 := q282
              have hWe : (M69 258 25).toInt = 0 → WT L68 := fun h9 => by
                obtain ⟨z1, z2⟩ := lgs.mp (by rw [← k25]; exact h9)
                intro i hi
                rw [congrFun p286 i, congrFun p287 i]
                exact (lge z1 z2).2 i hi
              have hex : ∃ k, (∀ j, j < k → ¬ qrD (M 258 2).toNatClampNeg (M 258 28).toNatClampNeg (qrN (vR M) (M 260) (fun i => vR M 8 (40 * (M 258 27).toNatClampNeg + i)) (vR M 7 (M 258 27).toNatClampNeg).toNatClampNeg (M 258 2).toNatClampNeg (M 258 28).toNatClampNeg ((sumP (vR M) (M 258 27).toNatClampNeg (vR M 7 (M 258 27).toNatClampNeg).toNatClampNeg / (M 258 28 + 1)).toInt64 + 1) (M 282, (L 286, L 287), [], [], true) j)) ∧ ((M69 258 25).toInt = 0 ↔ (qrN (vR M) (M 260) (fun i => vR M 8 (40 * (M 258 27).toNatClampNeg + i)) (vR M 7 (M 258 27).toNatClampNeg).toNatClampNeg (M 258 2).toNatClampNeg (M 258 28).toNatClampNeg ((sumP (vR M) (M 258 27).toNatClampNeg (vR M 7 (M 258 27).toNatClampNeg).toNatClampNeg / (M 258 28 + 1)).toInt64 + 1) (M 282, (L 286, L 287), [], [], true) k).2.2.2.2 = true) ∧ ((M69 258 25).toInt = 0 → M69 282 = (qrN (vR M) (M 260) (fun i => vR M 8 (40 * (M 258 27).toNatClampNeg + i)) (vR M 7 (M 258 27).toNatClampNeg).toNatClampNeg (M 258 2).toNatClampNeg (M 258 28).toNatClampNeg ((sumP (vR M) (M 258 27).toNatClampNeg (vR M 7 (M 258 27).toNatClampNeg).toNatClampNeg / (M 258 28 + 1)).toInt64 + 1) (M 282, (L 286, L 287), [], [], true) k).1 ∧ L68 286 = (qrN (vR M) (M 260) (fun i => vR M 8 (40 * (M 258 27).toNatClampNeg + i)) (vR M 7 (M 258 27).toNatClampNeg).toNatClampNeg (M 258 2).toNatClampNeg (M 258 28).toNatClampNeg ((sumP (vR M) (M 258 27).toNatClampNeg (vR M 7 (M 258 27).toNatClampNeg).toNatClampNeg / (M 258 28 + 1)).toInt64 + 1) (M 282, (L 286, L 287), [], [], true) k).2.1.1 ∧ L68 287 = (qrN (vR M) (M 260) (fun i => vR M 8 (40 * (M 258 27).toNatClampNeg + i)) (vR M 7 (M 258 27).toNatClampNeg).toNatClampNeg (M 258 2).toNatClampNeg (M 258 28).toNatClampNeg ((sumP (vR M) (M 258 27).toNatClampNeg (vR M 7 (M 258 27).toNatClampNeg).toNatClampNeg / (M 258 28 + 1)).toInt64 + 1) (M 282, (L 286, L 287), [], [], true) k).2.1.2 ∧ RR M69 (qrN (vR M) (M 260) (fun i => vR M 8 (40 * (M 258 27).toNatClampNeg + i)) (vR M 7 (M 258 27).toNatClampNeg).toNatClampNeg (M 258 2).toNatClampNeg (M 258 28).toNatClampNeg ((sumP (vR M) (M 258 27).toNatClampNeg (vR M 7 (M 258 27).toNatClampNeg).toNatClampNeg / (M 258 28 + 1)).toInt64 + 1) (M 282, (L 286, L 287), [], [], true) k).2.2.1 (qrN (vR M) (M 260) (fun i => vR M 8 (40 * (M 258 27).toNatClampNeg + i)) (vR M 7 (M 258 27).toNatClampNeg).toNatClampNeg (M 258 2).toNatClampNeg (M 258 28).toNatClampNeg ((sumP (vR M) (M 258 27).toNatClampNeg (vR M 7 (M 258 27).toNatClampNeg).toNatClampNeg / (M 258 28 + 1)).toInt64 + 1) (M 282, (L 286, L 287), [], [], true) k).2.2.2.1) := by
                refine ⟨k9 + 1, hk1s, ?_⟩
                by_cases hz : lg2 (qrU (vR M) (M 260) (fun i => vR M 8 (40 * (M 258 27).toNatClampNeg + i)) (vR M 7 (M 258 27).toNatClampNeg).toNatClampNeg (M 258 2).toNatClampNeg (qrN (vR M) (M 260) (fun i => vR M 8 (40 * (M 258 27).toNatClampNeg + i)) (vR M 7 (M 258 27).toNatClampNeg).toNatClampNeg (M 258 2).toNatClampNeg (M 258 28).toNatClampNeg ((sumP (vR M) (M 258 27).toNatClampNeg (vR M 7 (M 258 27).toNatClampNeg).toNatClampNeg / (M 258 28 + 1)).toInt64 + 1) (M 282, (L 286, L 287), [], [], true) k9)) (qrV (vR M) (M 260) (fun i => vR M 8 (40 * (M 258 27).toNatClampNeg + i)) (vR M 7 (M 258 27).toNatClampNeg).toNatClampNeg (M 258 2).toNatClampNeg (qrN (vR M) (M 260) (fun i => vR M 8 (40 * (M 258 27).toNatClampNeg + i)) (vR M 7 (M 258 27).toNatClampNeg).toNatClampNeg (M 258 2).toNatClampNeg (M 258 28).toNatClampNeg ((sumP (vR M) (M 258 27).toNatClampNeg (vR M 7 (M 258 27).toNatClampNeg).toNatClampNeg / (M 258 28 + 1)).toInt64 + 1) (M 282, (L 286, L 287), [], [], true) k9)) ((sumP (vR M) (M 258 27).toNatClampNeg (vR M 7 (M 258 27).toNatClampNeg).toNatClampNeg / (M 258 28 + 1)).toInt64 + 1) ∧ (qrW (vR M) (M 260) (fun i => vR M 8 (40 * (M 258 27).toNatClampNeg + i)) (vR M 7 (M 258 27).toNatClampNeg).toNatClampNeg (M 258 2).toNatClampNeg ((sumP (vR M) (M 258 27).toNatClampNeg (vR M 7 (M 258 27).toNatClampNeg).toNatClampNeg / (M 258 28 + 1)).toInt64 + 1) (qrN (vR M) (M 260) (fun i => vR M 8 (40 * (M 258 27).toNatClampNeg + i)) (vR M 7 (M 258 27).toNatClampNeg).toNatClampNeg (M 258 2).toNatClampNeg (M 258 28).toNatClampNeg ((sumP (vR M) (M 258 27).toNatClampNeg (vR M 7 (M 258 27).toNatClampNeg).toNatClampNeg / (M 258 28 + 1)).toInt64 + 1) (M 282, (L 286, L 287), [], [], true) k9)).2.2 = true
                · have eF : (qrN (vR M) (M 260) (fun i => vR M 8 (40 * (M 258 27).toNatClampNeg + i)) (vR M 7 (M 258 27).toNatClampNeg).toNatClampNeg (M 258 2).toNatClampNeg (M 258 28).toNatClampNeg ((sumP (vR M) (M 258 27).toNatClampNeg (vR M 7 (M 258 27).toNatClampNeg).toNatClampNeg / (M 258 28 + 1)).toInt64 + 1) (M 282, (L 286, L 287), [], [], true) (k9 + 1)) = (upd (qrN (vR M) (M 260) (fun i => vR M 8 (40 * (M 258 27).toNatClampNeg + i)) (vR M 7 (M 258 27).toNatClampNeg).toNatClampNeg (M 258 2).toNatClampNeg (M 258 28).toNatClampNeg ((sumP (vR M) (M 258 27).toNatClampNeg (vR M 7 (M 258 27).toNatClampNeg).toNatClampNeg / (M 258 28 + 1)).toInt64 + 1) (M 282, (L 286, L 287), [], [], true) k9).1 (qrC (vR M) (M 260) (fun i => vR M 8 (40 * (M 258 27).toNatClampNeg + i)) (vR M 7 (M 258 27).toNatClampNeg).toNatClampNeg (M 258 2).toNatClampNeg (qrN (vR M) (M 260) (fun i => vR M 8 (40 * (M 258 27).toNatClampNeg + i)) (vR M 7 (M 258 27).toNatClampNeg).toNatClampNeg (M 258 2).toNatClampNeg (M 258 28).toNatClampNeg ((sumP (vR M) (M 258 27).toNatClampNeg (vR M 7 (M 258 27).toNatClampNeg).toNatClampNeg / (M 258 28 + 1)).toInt64 + 1) (M 282, (L 286, L 287), [], [], true) k9)).toNatClampNeg 0, ((qrW (vR M) (M 260) (fun i => vR M 8 (40 * (M 258 27).toNatClampNeg + i)) (vR M 7 (M 258 27).toNatClampNeg).toNatClampNeg (M 258 2).toNatClampNeg ((sumP (vR M) (M 258 27).toNatClampNeg (vR M 7 (M 258 27).toNatClampNeg).toNatClampNeg / (M 258 28 + 1)).toInt64 + 1) (qrN (vR M) (M 260) (fun i => vR M 8 (40 * (M 258 27).toNatClampNeg + i)) (vR M 7 (M 258 27).toNatClampNeg).toNatClampNeg (M 258 2).toNatClampNeg (M 258 28).toNatClampNeg ((sumP (vR M) (M 258 27).toNatClampNeg (vR M 7 (M 258 27).toNatClampNeg).toNatClampNeg / (M 258 28 + 1)).toInt64 + 1) (M 282, (L 286, L 287), [], [], true) k9)).1, (qrW (vR M) (M 260) (fun i => vR M 8 (40 * (M 258 27).toNatClampNeg + i)) (vR M 7 (M 258 27).toNatClampNeg).toNatClampNeg (M 258 2).toNatClampNeg ((sumP (vR M) (M 258 27).toNatClampNeg (vR M 7 (M 258 27).toNatClampNeg).toNatClampNeg / (M 258 28 + 1)).toInt64 + 1) (qrN (vR M) (M 260) (fun i => vR M 8 (40 * (M 258 27).toNatClampNeg + i)) (vR M 7 (M 258 27).toNatClampNeg).toNatClampNeg (M 258 2).toNatClampNeg (M 258 28).toNatClampNeg ((sumP (vR M) (M 258 27).toNatClampNeg (vR M 7 (M 258 27).toNatClampNeg).toNatClampNeg / (M 258 28 + 1)).toInt64 + 1) (M 282, (L 286, L 287), [], [], true) k9)).2.1), (qrN (vR M) (M 260) (fun i => vR M 8 (40 * (M 258 27).toNatClampNeg + i)) (vR M 7 (M 258 27).toNatClampNeg).toNatClampNeg (M 258 2).toNatClampNeg (M 258 28).toNatClampNeg ((sumP (vR M) (M 258 27).toNatClampNeg (vR M 7 (M 258 27).toNatClampNeg).toNatClampNeg / (M 258 28 + 1)).toInt64 + 1) (M 282, (L 286, L 287), [], [], true) k9).2.2.1 ++ [qrC (vR M) (M 260) (fun i => vR M 8 (40 * (M 258 27).toNatClampNeg + i)) (vR M 7 (M 258 27).toNatClampNeg).toNatClampNeg (M 258 2).toNatClampNeg (qrN (vR M) (M 260) (fun i => vR M 8 (40 * (M 258 27).toNatClampNeg + i)) (vR M 7 (M 258 27).toNatClampNeg).toNatClampNeg (M 258 2).toNatClampNeg (M 258 28).toNatClampNeg ((sumP (vR M) (M 258 27).toNatClampNeg (vR M 7 (M 258 27).toNatClampNeg).toNatClampNeg / (M 258 28 + 1)).toInt64 + 1) (M 282, (L 286, L 287), [], [], true) k9)], (qrN (vR M) (M 260) (fun i => vR M 8 (40 * (M 258 27).toNatClampNeg + i)) (vR M 7 (M 258 27).toNatClampNeg).toNatClampNeg (M 258 2).toNatClampNeg (M 258 28).toNatClampNeg ((sumP (vR M) (M 258 27).toNatClampNeg (vR M 7 (M 258 27).toNatClampNeg).toNatClampNeg / (M 258 28 + 1)).toInt64 + 1) (M 282, (L 286, L 287), [], [], true) k9).2.2.2.1 ++ [(1, qrC (vR M) (M 260) (fun i => vR M 8 (40 * (M 258 27).toNatClampNeg + i)) (vR M 7 (M 258 27).toNatClampNeg).toNatClampNeg (M 258 2).toNatClampNeg (qrN (vR M) (M 260) (fun i => vR M 8 (40 * (M 258 27).toNatClampNeg + i)) (vR M 7 (M 258 27).toNatClampNeg).toNatClampNeg (M 258 2).toNatClampNeg (M 258 28).toNatClampNeg ((sumP (vR M) (M 258 27).toNatClampNeg (vR M 7 (M 258 27).toNatClampNeg).toNatClampNeg / (M 258 28 + 1)).toInt64 + 1) (M 282, (L 286, L 287), [], [], true) k9))], true) := by
                    show qrF (vR M) (M 260) (fun i => vR M 8 (40 * (M 258 27).toNatClampNeg + i)) (vR M 7 (M 258 27).toNatClampNeg).toNatClampNeg (M 258 2).toNatClampNeg (M 258 28).toNatClampNeg ((sumP (vR M) (M 258 27).toNatClampNeg (vR M 7 (M 258 27).toNatClampNeg).toNatClampNeg / (M 258 28 + 1)).toInt64 + 1) (qrN (vR M) (M 260) (fun i => vR M 8 (40 * (M 258 27).toNatClampNeg + i)) (vR M 7 (M 258 27).toNatClampNeg).toNatClampNeg (M 258 2).toNatClampNeg (M 258 28).toNatClampNeg ((sumP (vR M) (M 258 27).toNatClampNeg (vR M 7 (M 258 27).toNatClampNeg).toNatClampNeg / (M 258 28 + 1)).toInt64 + 1) (M 282, (L 286, L 287), [], [], true) k9) = _
                    unfold qrF
                    rw [if_neg (fun h9 => by rw [hTok] at h9; exact Bool.noConfusion h9), if_neg (by omega), if_pos (by omega), if_pos hz]
                  have hs9 := lgs.mpr hz
                  rw [eF]
                  refine ⟨⟨fun _ => rfl, fun _ => by omega⟩, fun _ => ⟨?_, by rw [p286]; exact (lge hz.1 hz.2).1.1, by rw [p287]; exact (lge hz.1 hz.2).1.2, ?_⟩⟩
                  · show M69 282 = upd (qrN (vR M) (M 260) (fun i => vR M 8 (40 * (M 258 27).toNatClampNeg + i)) (vR M 7 (M 258 27).toNatClampNeg).toNatClampNeg (M 258 2).toNatClampNeg (M 258 28).toNatClampNeg ((sumP (vR M) (M 258 27).toNatClampNeg (vR M 7 (M 258 27).toNatClampNeg).toNatClampNeg / (M 258 28 + 1)).toInt64 + 1) (M 282, (L 286, L 287), [], [], true) k9).1 (qrC (vR M) (M 260) (fun i => vR M 8 (40 * (M 258 27).toNatClampNeg + i)) (vR M 7 (M 258 27).toNatClampNeg).toNatClampNeg (M 258 2).toNatClampNeg (qrN (vR M) (M 260) (fun i => vR M 8 (40 * (M 258 27).toNatClampNeg + i)) (vR M 7 (M 258 27).toNatClampNeg).toNatClampNeg (M 258 2).toNatClampNeg (M 258 28).toNatClampNeg ((sumP (vR M) (M 258 27).toNatClampNeg (vR M 7 (M 258 27).toNatClampNeg).toNatClampNeg / (M 258 28 + 1)).toInt64 + 1) (M 282, (L 286, L 287), [], [], true) k9)).toNatClampNeg 0; rw [h282, eI, er32]
                  · show RR M69 ((qrN (vR M) (M 260) (fun i => vR M 8 (40 * (M 258 27).toNatClampNeg + i)) (vR M 7 (M 258 27).toNatClampNeg).toNatClampNeg (M 258 2).toNatClampNeg (M 258 28).toNatClampNeg ((sumP (vR M) (M 258 27).toNatClampNeg (vR M 7 (M 258 27).toNatClampNeg).toNatClampNeg / (M 258 28 + 1)).toInt64 + 1) (M 282, (L 286, L 287), [], [], true) k9).2.2.1 ++ [qrC (vR M) (M 260) (fun i => vR M 8 (40 * (M 258 27).toNatClampNeg + i)) (vR M 7 (M 258 27).toNatClampNeg).toNatClampNeg (M 258 2).toNatClampNeg (qrN (vR M) (M 260) (fun i => vR M 8 (40 * (M 258 27).toNatClampNeg + i)) (vR M 7 (M 258 27).toNatClampNeg).toNatClampNeg (M 258 2).toNatClampNeg (M 258 28).toNatClampNeg ((sumP (vR M) (M 258 27).toNatClampNeg (vR M 7 (M 258 27).toNatClampNeg).toNatClampNeg / (M 258 28 + 1)).toInt64 + 1) (M 282, (L 286, L 287), [], [], true) k9)]) ((qrN (vR M) (M 260) (fun i => vR M 8 (40 * (M 258 27).toNatClampNeg + i)) (vR M 7 (M 258 27).toNatClampNeg).toNatClampNeg (M 258 2).toNatClampNeg (M 258 28).toNatClampNeg ((sumP (vR M) (M 258 27).toNatClampNeg (vR M 7 (M 258 27).toNatClampNeg).toNatClampNeg / (M 258 28 + 1)).toInt64 + 1) (M 282, (L 286, L 287), [], [], true) k9).2.2.2.1 ++ [(1, qrC (vR M) (M 260) (fun i => vR M 8 (40 * (M 258 27).toNatClampNeg + i)) (vR M 7 (M 258 27).toNatClampNeg).toNatClampNeg (M 258 2).toNatClampNeg (qrN (vR M) (M 260) (fun i => vR M 8 (40 * (M 258 27).toNatClampNeg + i)) (vR M 7 (M 258 27).toNatClampNeg).toNatClampNeg (M 258 2).toNatClampNeg (M 258 28).toNatClampNeg ((sumP (vR M) (M 258 27).toNatClampNeg (vR M 7 (M 258 27).toNatClampNeg).toNatClampNeg / (M 258 28 + 1)).toInt64 + 1) (M 282, (L 286, L 287), [], [], true) k9))]); rw [← er32]; exact rp3
                · have eF : (qrN (vR M) (M 260) (fun i => vR M 8 (40 * (M 258 27).toNatClampNeg + i)) (vR M 7 (M 258 27).toNatClampNeg).toNatClampNeg (M 258 2).toNatClampNeg (M 258 28).toNatClampNeg ((sumP (vR M) (M 258 27).toNatClampNeg (vR M 7 (M 258 27).toNatClampNeg).toNatClampNeg / (M 258 28 + 1)).toInt64 + 1) (M 282, (L 286, L 287), [], [], true) (k9 + 1)) = ((qrN (vR M) (M 260) (fun i => vR M 8 (40 * (M 258 27).toNatClampNeg + i)) (vR M 7 (M 258 27).toNatClampNeg).toNatClampNeg (M 258 2).toNatClampNeg (M 258 28).toNatClampNeg ((sumP (vR M) (M 258 27).toNatClampNeg (vR M 7 (M 258 27).toNatClampNeg).toNatClampNeg / (M 258 28 + 1)).toInt64 + 1) (M 282, (L 286, L 287), [], [], true) k9).1, (qrN (vR M) (M 260) (fun i => vR M 8 (40 * (M 258 27).toNatClampNeg + i)) (vR M 7 (M 258 27).toNatClampNeg).toNatClampNeg (M 258 2).toNatClampNeg (M 258 28).toNatClampNeg ((sumP (vR M) (M 258 27).toNatClampNeg (vR M 7 (M 258 27).toNatClampNeg).toNatClampNeg / (M 258 28 + 1)).toInt64 + 1) (M 282, (L 286, L 287), [], [], true) k9).2.1, (qrN (vR M) (M 260) (fun i => vR M 8 (40 * (M 258 27).toNatClampNeg + i)) (vR M 7 (M 258 27).toNatClampNeg).toNatClampNeg (M 258 2).toNatClampNeg (M 258 28).toNatClampNeg ((sumP (vR M) (M 258 27).toNatClampNeg (vR M 7 (M 258 27).toNatClampNeg).toNatClampNeg / (M 258 28 + 1)).toInt64 + 1) (M 282, (L 286, L 287), [], [], true) k9).2.2.1, (qrN (vR M) (M 260) (fun i => vR M 8 (40 * (M 258 27).toNatClampNeg + i)) (vR M 7 (M 258 27).toNatClampNeg).toNatClampNeg (M 258 2).toNatClampNeg (M 258 28).toNatClampNeg ((sumP (vR M) (M 258 27).toNatClampNeg (vR M 7 (M 258 27).toNatClampNeg).toNatClampNeg / (M 258 28 + 1)).toInt64 + 1) (M 282, (L 286, L 287), [], [], true) k9).2.2.2.1, false) := by
                    show qrF (vR M) (M 260) (fun i => vR M 8 (40 * (M 258 27).toNatClampNeg + i)) (vR M 7 (M 258 27).toNatClampNeg).toNatClampNeg (M 258 2).toNatClampNeg (M 258 28).toNatClampNeg ((sumP (vR M) (M 258 27).toNatClampNeg (vR M 7 (M 258 27).toNatClampNeg).toNatClampNeg / (M 258 28 + 1)).toInt64 + 1) (qrN (vR M) (M 260) (fun i => vR M 8 (40 * (M 258 27).toNatClampNeg + i)) (vR M 7 (M 258 27).toNatClampNeg).toNatClampNeg (M 258 2).toNatClampNeg (M 258 28).toNatClampNeg ((sumP (vR M) (M 258 27).toNatClampNeg (vR M 7 (M 258 27).toNatClampNeg).toNatClampNeg / (M 258 28 + 1)).toInt64 + 1) (M 282, (L 286, L 287), [], [], true) k9) = _
                    unfold qrF
                    rw [if_neg (fun h9 => by rw [hTok] at h9; exact Bool.noConfusion h9), if_neg (by omega), if_pos (by omega), if_neg hz]
                  have hs9 : ¬ (M69 258 25).toInt = 0 := fun h9 => hz (lgs.mp (by rw [← k25]; exact h9))
                  rw [eF]
                  exact ⟨⟨fun h9 => absurd h9 hs9, fun h9 => Bool.noConfusion h9⟩, fun h9 => absurd h9 hs9⟩
              exact ih_19 (M69, L68) ⟨by show NIn (M69 282) (M 258 2).toInt; first | exact hNI2 | (rw [e282]; exact j19_0), by show (M69 258 25).toInt = 0 → WT L68; exact hWe, by show (M69 258 31).toInt + (cI (M69 282) (M 258 2).toNatClampNeg : Int) ≤ 10; rw [e282]; omega, by show 0 ≤ (M69 258 29).toInt ∧ (M69 258 29).toInt ≤ (M 258 28).toInt; omega, by show 0 ≤ (M69 258 25).toInt ∧ (M69 258 25).toInt ≤ 1; exact hI 258 25, by show ∃ k, (∀ j, j < k → ¬ qrD (M 258 2).toNatClampNeg (M 258 28).toNatClampNeg (qrN (vR M) (M 260) (fun i => vR M 8 (40 * (M 258 27).toNatClampNeg + i)) (vR M 7 (M 258 27).toNatClampNeg).toNatClampNeg (M 258 2).toNatClampNeg (M 258 28).toNatClampNeg ((sumP (vR M) (M 258 27).toNatClampNeg (vR M 7 (M 258 27).toNatClampNeg).toNatClampNeg / (M 258 28 + 1)).toInt64 + 1) (M 282, (L 286, L 287), [], [], true) j)) ∧ ((M69 258 25).toInt = 0 ↔ (qrN (vR M) (M 260) (fun i => vR M 8 (40 * (M 258 27).toNatClampNeg + i)) (vR M 7 (M 258 27).toNatClampNeg).toNatClampNeg (M 258 2).toNatClampNeg (M 258 28).toNatClampNeg ((sumP (vR M) (M 258 27).toNatClampNeg (vR M 7 (M 258 27).toNatClampNeg).toNatClampNeg / (M 258 28 + 1)).toInt64 + 1) (M 282, (L 286, L 287), [], [], true) k).2.2.2.2 = true) ∧ ((M69 258 25).toInt = 0 → M69 282 = (qrN (vR M) (M 260) (fun i => vR M 8 (40 * (M 258 27).toNatClampNeg + i)) (vR M 7 (M 258 27).toNatClampNeg).toNatClampNeg (M 258 2).toNatClampNeg (M 258 28).toNatClampNeg ((sumP (vR M) (M 258 27).toNatClampNeg (vR M 7 (M 258 27).toNatClampNeg).toNatClampNeg / (M 258 28 + 1)).toInt64 + 1) (M 282, (L 286, L 287), [], [], true) k).1 ∧ L68 286 = (qrN (vR M) (M 260) (fun i => vR M 8 (40 * (M 258 27).toNatClampNeg + i)) (vR M 7 (M 258 27).toNatClampNeg).toNatClampNeg (M 258 2).toNatClampNeg (M 258 28).toNatClampNeg ((sumP (vR M) (M 258 27).toNatClampNeg (vR M 7 (M 258 27).toNatClampNeg).toNatClampNeg / (M 258 28 + 1)).toInt64 + 1) (M 282, (L 286, L 287), [], [], true) k).2.1.1 ∧ L68 287 = (qrN (vR M) (M 260) (fun i => vR M 8 (40 * (M 258 27).toNatClampNeg + i)) (vR M 7 (M 258 27).toNatClampNeg).toNatClampNeg (M 258 2).toNatClampNeg (M 258 28).toNatClampNeg ((sumP (vR M) (M 258 27).toNatClampNeg (vR M 7 (M 258 27).toNatClampNeg).toNatClampNeg / (M 258 28 + 1)).toInt64 + 1) (M 282, (L 286, L 287), [], [], true) k).2.1.2 ∧ RR M69 (qrN (vR M) (M 260) (fun i => vR M 8 (40 * (M 258 27).toNatClampNeg + i)) (vR M 7 (M 258 27).toNatClampNeg).toNatClampNeg (M 258 2).toNatClampNeg (M 258 28).toNatClampNeg ((sumP (vR M) (M 258 27).toNatClampNeg (vR M 7 (M 258 27).toNatClampNeg).toNatClampNeg / (M 258 28 + 1)).toInt64 + 1) (M 282, (L 286, L 287), [], [], true) k).2.2.1 (qrN (vR M) (M 260) (fun i => vR M 8 (40 * (M 258 27).toNatClampNeg + i)) (vR M 7 (M 258 27).toNatClampNeg).toNatClampNeg (M 258 2).toNatClampNeg (M 258 28).toNatClampNeg ((sumP (vR M) (M 258 27).toNatClampNeg (vR M 7 (M 258 27).toNatClampNeg).toNatClampNeg / (M 258 28 + 1)).toInt64 + 1) (M 282, (L 286, L 287), [], [], true) k).2.2.2.1); exact hex, hI, hF, hG⟩ (by show cI (M69 282) (M 258 2).toNatClampNeg * 2 + (1 - (M69 258 25).toInt).toNat < cI (M_19 282) (M 258 2).toNatClampNeg * 2 + (1 - (M_19 258 25).toInt).toNat; rw [e282]; omega)
          ·
            have f71 := fnl rfl rfl c41
            refine g_iconst C 1 dX11_countTransfer_76 (by decide) ?_
            refine g_goto C 81 dX11_countTransfer_77 (by decide) ?_
            refine g_istore C [(4, .int 1), (3, .int r32), (1, .long v9), (0, .ref (ad 258))] dX11_countTransfer_81 (by decide) rfl ?_
            refine g_iload C 0 dX11_countTransfer_83 rfl ?_
            refine g_if_ne C 106 dX11_countTransfer_85 (by decide) (fun _ => ?_) (fun c72 => absurd c72 (by decide))
            refine g_iload C 0 dX11_countTransfer_106 rfl ?_
            refine g_if_ne C 117 dX11_countTransfer_108 (by decide) (fun _ => ?_) (fun c73 => absurd c73 (by decide))
            refine g_aload_n C 3 dX11_countTransfer_117 rfl ?_
            refine g_iconst C 1 dX11_countTransfer_118 (by decide) ?_
            refine g_iload_n C 1 dX11_countTransfer_119 rfl ?_
            have hRb : RP (M_19 258 29) (M_19 277) (M_19 258 31) (M_19 278) (M_19 279) (qrN (vR M) (M 260) (fun i => vR M 8 (40 * (M 258 27).toNatClampNeg + i)) (vR M 7 (M 258 27).toNatClampNeg).toNatClampNeg (M 258 2).toNatClampNeg (M 258 28).toNatClampNeg ((sumP (vR M) (M 258 27).toNatClampNeg (vR M 7 (M 258 27).toNatClampNeg).toNatClampNeg / (M 258 28 + 1)).toInt64 + 1) (M 282, (L 286, L 287), [], [], true) k9).2.2.1 (qrN (vR M) (M 260) (fun i => vR M 8 (40 * (M 258 27).toNatClampNeg + i)) (vR M 7 (M 258 27).toNatClampNeg).toNatClampNeg (M 258 2).toNatClampNeg (M 258 28).toNatClampNeg ((sumP (vR M) (M 258 27).toNatClampNeg (vR M 7 (M 258 27).toNatClampNeg).toNatClampNeg / (M 258 28 + 1)).toInt64 + 1) (M 282, (L 286, L 287), [], [], true) k9).2.2.2.1 := eRR
            rw [← k29, ← k31, ← q277, ← q278, ← q279] at hRb
            refine g_callVv C (n := 2) (As := [.int 1, .int r32]) (st := []) (k_X11_happens l D ad cs _ _ 1 r32 hI (by omega)) gX11_countTransfer_X11_happens rfl rfl rfl (by decide +kernel) ⟨Nat.le_of_ble_eq_true rfl, Nat.le_of_ble_eq_true rfl⟩ rfl (Nat.le_of_ble_eq_true rfl) ⟨Nat.zero_le _, Nat.zero_le _⟩ (by decide) (ce_model ad cs _ _) rfl rfl dX11_countTransfer_120 (fun M75 L76 hr74 => ?_)
            obtain ⟨hr74, hI, hFr74, hGr74⟩ := hr74
            have hF : ∀ k i, ¬ (k = 258 ∧ i = 25) ∧ ¬ (k = 258 ∧ i = 29) ∧ ¬ (k = 258 ∧ i = 31) ∧ k ≠ 277 ∧ k ≠ 278 ∧ k ≠ 279 ∧ k ≠ 282 → M75 k i = M k i := fun k i hk => by (rw [hFr74 k i (by omega)]; try exact hF k i hk)
            have hG : ∀ k i, ¬ (k = 258 ∧ i = 23) ∧ ¬ (k = 258 ∧ i = 24) ∧ k ≠ 284 ∧ k ≠ 285 ∧ k ≠ 280 ∧ k ≠ 281 ∧ k ≠ 286 ∧ k ≠ 287 → L76 k i = L k i := fun k i hk => by (rw [hGr74 k i (by omega)]; try exact hG k i hk)
            have k25 : M75 258 25 = M26 258 25 := (hFr74 258 25 (by omega)).trans k25
            have k29 : M75 258 29 = M_19 258 29 := (hFr74 258 29 (by omega)).trans k29
            have k31 : M75 258 31 = M75 258 31 := rfl
            have kt25 := congrArg Int32.toInt k25
            have kt29 := congrArg Int32.toInt k29
            have kt31 := congrArg Int32.toInt k31
            have l23 : L76 258 23 = L27 258 23 := (hGr74 258 23 (by omega)).trans l23
            have l24 : L76 258 24 = L27 258 24 := (hGr74 258 24 (by omega)).trans l24
            have p280 : L76 280 = L76 280 := rfl
            have p281 : L76 281 = L76 281 := rfl
            have p284 : L76 284 = L27 284 := (funext (fun i => hGr74 284 i (by omega))).trans p284
            have p285 : L76 285 = L27 285 := (funext (fun i => hGr74 285 i (by omega))).trans p285
            have p286 : L76 286 = L_19 286 := (funext (fun i => hGr74 286 i (by omega))).trans p286
            have p287 : L76 287 = L_19 287 := (funext (fun i => hGr74 287 i (by omega))).trans p287
            have q277 : M75 277 = M_19 277 := (funext (fun i => hFr74 277 i (by omega))).trans q277
            have q278 : M75 278 = M75 278 := rfl
            have q279 : M75 279 = M75 279 := rfl
            have q282 : M75 282 = M_19 282 := (funext (fun i => hFr74 282 i (by omega))).trans q282
            obtain ⟨hp31, hp278, hp279⟩ := hr74
            have hp29 : M75 258 29 = M26 258 29 := hFr74 258 29 (by omega)
            have hp277 : M75 277 = M26 277 := funext (fun i => hFr74 277 i (by omega))
            have hb9 : RP (M26 258 29) (M26 277) (M26 258 31) (M26 278) (M26 279) _ _ := hRb
            rw [← hp29, ← hp277] at hb9
            have rp1 := RP_note hb9 hp31 hp278 hp279
            refine g_aload_n C 3 dX11_countTransfer_123 rfl ?_
            refine g_iload_n C 1 dX11_countTransfer_124 rfl ?_
            refine g_callVv C (n := 1) (As := [.int r32]) (st := []) (k_X11_gives l D ad cs _ _ r32 hI (by omega)) gX11_countTransfer_X11_gives rfl rfl rfl (by decide +kernel) ⟨Nat.le_of_ble_eq_true rfl, Nat.le_of_ble_eq_true rfl⟩ rfl (Nat.le_of_ble_eq_true rfl) ⟨Nat.zero_le _, Nat.zero_le _⟩ (by decide) (ce_model ad cs _ _) rfl rfl dX11_countTransfer_125 (fun M78 L79 hr77 => ?_)
            obtain ⟨hr77, hI, hFr77, hGr77⟩ := hr77
            have hF : ∀ k i, ¬ (k = 258 ∧ i = 25) ∧ ¬ (k = 258 ∧ i = 29) ∧ ¬ (k = 258 ∧ i = 31) ∧ k ≠ 277 ∧ k ≠ 278 ∧ k ≠ 279 ∧ k ≠ 282 → M78 k i = M k i := fun k i hk => by (rw [hFr77 k i (by omega)]; try exact hF k i hk)
            have hG : ∀ k i, ¬ (k = 258 ∧ i = 23) ∧ ¬ (k = 258 ∧ i = 24) ∧ k ≠ 284 ∧ k ≠ 285 ∧ k ≠ 280 ∧ k ≠ 281 ∧ k ≠ 286 ∧ k ≠ 287 → L79 k i = L k i := fun k i hk => by (rw [hGr77 k i trivial]; try exact hG k i hk)
            have k25 : M78 258 25 = M26 258 25 := (hFr77 258 25 (by omega)).trans k25
            have k31 : M78 258 31 = M75 258 31 := (hFr77 258 31 (by omega)).trans k31
            have k29 : M78 258 29 = M78 258 29 := rfl
            have kt25 := congrArg Int32.toInt k25
            have kt29 := congrArg Int32.toInt k29
            have kt31 := congrArg Int32.toInt k31
            have l23 : L79 258 23 = L27 258 23 := (hGr77 258 23 trivial).trans l23
            have l24 : L79 258 24 = L27 258 24 := (hGr77 258 24 trivial).trans l24
            have p280 : L79 280 = L76 280 := (funext (fun i => hGr77 280 i trivial)).trans p280
            have p281 : L79 281 = L76 281 := (funext (fun i => hGr77 281 i trivial)).trans p281
            have p284 : L79 284 = L27 284 := (funext (fun i => hGr77 284 i trivial)).trans p284
            have p285 : L79 285 = L27 285 := (funext (fun i => hGr77 285 i trivial)).trans p285
            have p286 : L79 286 = L_19 286 := (funext (fun i => hGr77 286 i trivial)).trans p286
            have p287 : L79 287 = L_19 287 := (funext (fun i => hGr77 287 i trivial)).trans p287
            have q277 : M78 277 = M78 277 := rfl
            have q278 : M78 278 = M75 278 := (funext (fun i => hFr77 278 i (by omega))).trans q278
            have q279 : M78 279 = M75 279 := (funext (fun i => hFr77 279 i (by omega))).trans q279
            have q282 : M78 282 = M_19 282 := (funext (fun i => hFr77 282 i (by omega))).trans q282
            obtain ⟨gv29, gv277⟩ := hr77
            have gv31 : M78 258 31 = M75 258 31 := hFr77 258 31 (by omega)
            have gv278 : M78 278 = M75 278 := funext (fun i => hFr77 278 i (by omega))
            have gv279 : M78 279 = M75 279 := funext (fun i => hFr77 279 i (by omega))
            have hb9 : RP (M75 258 29) (M75 277) (M75 258 31) (M75 278) (M75 279) _ _ := rp1
            rw [← gv31, ← gv278, ← gv279] at hb9
            have rp2 := RP_give hb9 gv29 gv277
            refine g_goto C 142 dX11_countTransfer_128 (by decide) ?_
            refine g_aload_n C 3 dX11_countTransfer_142 rfl ?_
            refine g_get C (.ref (ad 282)) 36 in_X11_countTransfer_11 (List.mem_of_getElem? (i := 7) rfl) (by decide) (ce_model ad cs _ _) rfl (by decide) rfl rfl dX11_countTransfer_143 ?_
            refine g_iload_n C 1 dX11_countTransfer_146 rfl ?_
            refine g_iconst C 0 dX11_countTransfer_147 (by decide) ?_
            refine g_zast C (by decide) (ce_m_isIn ad cs _ _) (by rw [sI_k]; rfl) (fin' (n := 10) rfl (by omega) (by omega)) dX11_countTransfer_148 ?_
            refine g_nm (fun M80 hM80 => ?_)
            have zy81 : (0 : Int32).toInt = 0 := by decide
            have hI : IR M80 := by rw [hM80]; exact hI.st (show bR 282 _ _ from trivial)
            have hF : ∀ k i, ¬ (k = 258 ∧ i = 25) ∧ ¬ (k = 258 ∧ i = 29) ∧ ¬ (k = 258 ∧ i = 31) ∧ k ≠ 277 ∧ k ≠ 278 ∧ k ≠ 279 ∧ k ≠ 282 → M80 k i = M k i := fun k i hk => by (rw [hM80, sI_at, if_neg (by omega)]; try exact hF k i hk)
            have k25 : M80 258 25 = M26 258 25 := by rw [hM80, sI_n _ _ _ (by decide)]; try exact k25
            have k29 : M80 258 29 = M78 258 29 := by rw [hM80, sI_n _ _ _ (by decide)]; try exact k29
            have k31 : M80 258 31 = M75 258 31 := by rw [hM80, sI_n _ _ _ (by decide)]; try exact k31
            have q277 : M80 277 = M78 277 := by rw [hM80, sI_n _ _ _ (by decide)]; try exact q277
            have q278 : M80 278 = M75 278 := by rw [hM80, sI_n _ _ _ (by decide)]; try exact q278
            have q279 : M80 279 = M75 279 := by rw [hM80, sI_n _ _ _ (by decide)]; try exact q279
            have h282 : M80 282 = upd (M_19 282) r32.toNatClampNeg 0 := by rw [hM80, sI_k, q282]; rfl
            have hcu := cI_upd (T := M_19 282) (b := r32.toNatClampNeg) hin9 (M 258 2).toNatClampNeg
            rw [if_pos (by omega), ← h282] at hcu
            have hNI2 : NIn (M80 282) (M 258 2).toInt := by rw [h282]; exact NIn_upd hNI _
            have q282 : M80 282 = M80 282 := rfl
            have e1 : M80 258 = M78 258 := by rw [hM80, sI_n _ _ _ (by decide)]
            have e277 : M80 277 = M78 277 := by rw [hM80, sI_n _ _ _ (by decide)]
            have e278 : M80 278 = M78 278 := by rw [hM80, sI_n _ _ _ (by decide)]
            have e279 : M80 279 = M78 279 := by rw [hM80, sI_n _ _ _ (by decide)]
            have rp3 : RP (M78 258 29) (M78 277) (M78 258 31) (M78 278) (M78 279) _ _ := rp2
            rw [← e1, ← e277, ← e278, ← e279] at rp3
            refine g_goto C 19 dX11_countTransfer_149 (by decide) ?_
            refine g_lv [2, 3] [(1, .long v9), (0, .ref (ad 258))] rfl ?_
            obtain ⟨sp1, sp2⟩ := (show rg 0 1 (M80 258 25) from hI 258 25)
            have kt25 := congrArg Int32.toInt k25
            have kt29 := congrArg Int32.toInt k29
            have kt31 := congrArg Int32.toInt k31
            have e282 : M80 282 = M80 282 := q282
            have hWe : (M80 258 25).toInt = 0 → WT L79 := fun h9 i hi => by rw [congrFun p286 i, congrFun p287 i]; exact j19_1 (by omega) i hi
            have eF : (qrN (vR M) (M 260) (fun i => vR M 8 (40 * (M 258 27).toNatClampNeg + i)) (vR M 7 (M 258 27).toNatClampNeg).toNatClampNeg (M 258 2).toNatClampNeg (M 258 28).toNatClampNeg ((sumP (vR M) (M 258 27).toNatClampNeg (vR M 7 (M 258 27).toNatClampNeg).toNatClampNeg / (M 258 28 + 1)).toInt64 + 1) (M 282, (L 286, L 287), [], [], true) (k9 + 1)) = (upd (qrN (vR M) (M 260) (fun i => vR M 8 (40 * (M 258 27).toNatClampNeg + i)) (vR M 7 (M 258 27).toNatClampNeg).toNatClampNeg (M 258 2).toNatClampNeg (M 258 28).toNatClampNeg ((sumP (vR M) (M 258 27).toNatClampNeg (vR M 7 (M 258 27).toNatClampNeg).toNatClampNeg / (M 258 28 + 1)).toInt64 + 1) (M 282, (L 286, L 287), [], [], true) k9).1 (qrC (vR M) (M 260) (fun i => vR M 8 (40 * (M 258 27).toNatClampNeg + i)) (vR M 7 (M 258 27).toNatClampNeg).toNatClampNeg (M 258 2).toNatClampNeg (qrN (vR M) (M 260) (fun i => vR M 8 (40 * (M 258 27).toNatClampNeg + i)) (vR M 7 (M 258 27).toNatClampNeg).toNatClampNeg (M 258 2).toNatClampNeg (M 258 28).toNatClampNeg ((sumP (vR M) (M 258 27).toNatClampNeg (vR M 7 (M 258 27).toNatClampNeg).toNatClampNeg / (M 258 28 + 1)).toInt64 + 1) (M 282, (L 286, L 287), [], [], true) k9)).toNatClampNeg 0, (qrN (vR M) (M 260) (fun i => vR M 8 (40 * (M 258 27).toNatClampNeg + i)) (vR M 7 (M 258 27).toNatClampNeg).toNatClampNeg (M 258 2).toNatClampNeg (M 258 28).toNatClampNeg ((sumP (vR M) (M 258 27).toNatClampNeg (vR M 7 (M 258 27).toNatClampNeg).toNatClampNeg / (M 258 28 + 1)).toInt64 + 1) (M 282, (L 286, L 287), [], [], true) k9).2.1, (qrN (vR M) (M 260) (fun i => vR M 8 (40 * (M 258 27).toNatClampNeg + i)) (vR M 7 (M 258 27).toNatClampNeg).toNatClampNeg (M 258 2).toNatClampNeg (M 258 28).toNatClampNeg ((sumP (vR M) (M 258 27).toNatClampNeg (vR M 7 (M 258 27).toNatClampNeg).toNatClampNeg / (M 258 28 + 1)).toInt64 + 1) (M 282, (L 286, L 287), [], [], true) k9).2.2.1 ++ [qrC (vR M) (M 260) (fun i => vR M 8 (40 * (M 258 27).toNatClampNeg + i)) (vR M 7 (M 258 27).toNatClampNeg).toNatClampNeg (M 258 2).toNatClampNeg (qrN (vR M) (M 260) (fun i => vR M 8 (40 * (M 258 27).toNatClampNeg + i)) (vR M 7 (M 258 27).toNatClampNeg).toNatClampNeg (M 258 2).toNatClampNeg (M 258 28).toNatClampNeg ((sumP (vR M) (M 258 27).toNatClampNeg (vR M 7 (M 258 27).toNatClampNeg).toNatClampNeg / (M 258 28 + 1)).toInt64 + 1) (M 282, (L 286, L 287), [], [], true) k9)], (qrN (vR M) (M 260) (fun i => vR M 8 (40 * (M 258 27).toNatClampNeg + i)) (vR M 7 (M 258 27).toNatClampNeg).toNatClampNeg (M 258 2).toNatClampNeg (M 258 28).toNatClampNeg ((sumP (vR M) (M 258 27).toNatClampNeg (vR M 7 (M 258 27).toNatClampNeg).toNatClampNeg / (M 258 28 + 1)).toInt64 + 1) (M 282, (L 286, L 287), [], [], true) k9).2.2.2.1 ++ [(1, qrC (vR M) (M 260) (fun i => vR M 8 (40 * (M 258 27).toNatClampNeg + i)) (vR M 7 (M 258 27).toNatClampNeg).toNatClampNeg (M 258 2).toNatClampNeg (qrN (vR M) (M 260) (fun i => vR M 8 (40 * (M 258 27).toNatClampNeg + i)) (vR M 7 (M 258 27).toNatClampNeg).toNatClampNeg (M 258 2).toNatClampNeg (M 258 28).toNatClampNeg ((sumP (vR M) (M 258 27).toNatClampNeg (vR M 7 (M 258 27).toNatClampNeg).toNatClampNeg / (M 258 28 + 1)).toInt64 + 1) (M 282, (L 286, L 287), [], [], true) k9))], true) := by
              show qrF (vR M) (M 260) (fun i => vR M 8 (40 * (M 258 27).toNatClampNeg + i)) (vR M 7 (M 258 27).toNatClampNeg).toNatClampNeg (M 258 2).toNatClampNeg (M 258 28).toNatClampNeg ((sumP (vR M) (M 258 27).toNatClampNeg (vR M 7 (M 258 27).toNatClampNeg).toNatClampNeg / (M 258 28 + 1)).toInt64 + 1) (qrN (vR M) (M 260) (fun i => vR M 8 (40 * (M 258 27).toNatClampNeg + i)) (vR M 7 (M 258 27).toNatClampNeg).toNatClampNeg (M 258 2).toNatClampNeg (M 258 28).toNatClampNeg ((sumP (vR M) (M 258 27).toNatClampNeg (vR M 7 (M 258 27).toNatClampNeg).toNatClampNeg / (M 258 28 + 1)).toInt64 + 1) (M 282, (L 286, L 287), [], [], true) k9) = _
              unfold qrF
              rw [if_neg (fun h9 => by rw [hTok] at h9; exact Bool.noConfusion h9), if_pos (by omega)]
            have hex : ∃ k, (∀ j, j < k → ¬ qrD (M 258 2).toNatClampNeg (M 258 28).toNatClampNeg (qrN (vR M) (M 260) (fun i => vR M 8 (40 * (M 258 27).toNatClampNeg + i)) (vR M 7 (M 258 27).toNatClampNeg).toNatClampNeg (M 258 2).toNatClampNeg (M 258 28).toNatClampNeg ((sumP (vR M) (M 258 27).toNatClampNeg (vR M 7 (M 258 27).toNatClampNeg).toNatClampNeg / (M 258 28 + 1)).toInt64 + 1) (M 282, (L 286, L 287), [], [], true) j)) ∧ ((M80 258 25).toInt = 0 ↔ (qrN (vR M) (M 260) (fun i => vR M 8 (40 * (M 258 27).toNatClampNeg + i)) (vR M 7 (M 258 27).toNatClampNeg).toNatClampNeg (M 258 2).toNatClampNeg (M 258 28).toNatClampNeg ((sumP (vR M) (M 258 27).toNatClampNeg (vR M 7 (M 258 27).toNatClampNeg).toNatClampNeg / (M 258 28 + 1)).toInt64 + 1) (M 282, (L 286, L 287), [], [], true) k).2.2.2.2 = true) ∧ ((M80 258 25).toInt = 0 → M80 282 = (qrN (vR M) (M 260) (fun i => vR M 8 (40 * (M 258 27).toNatClampNeg + i)) (vR M 7 (M 258 27).toNatClampNeg).toNatClampNeg (M 258 2).toNatClampNeg (M 258 28).toNatClampNeg ((sumP (vR M) (M 258 27).toNatClampNeg (vR M 7 (M 258 27).toNatClampNeg).toNatClampNeg / (M 258 28 + 1)).toInt64 + 1) (M 282, (L 286, L 287), [], [], true) k).1 ∧ L79 286 = (qrN (vR M) (M 260) (fun i => vR M 8 (40 * (M 258 27).toNatClampNeg + i)) (vR M 7 (M 258 27).toNatClampNeg).toNatClampNeg (M 258 2).toNatClampNeg (M 258 28).toNatClampNeg ((sumP (vR M) (M 258 27).toNatClampNeg (vR M 7 (M 258 27).toNatClampNeg).toNatClampNeg / (M 258 28 + 1)).toInt64 + 1) (M 282, (L 286, L 287), [], [], true) k).2.1.1 ∧ L79 287 = (qrN (vR M) (M 260) (fun i => vR M 8 (40 * (M 258 27).toNatClampNeg + i)) (vR M 7 (M 258 27).toNatClampNeg).toNatClampNeg (M 258 2).toNatClampNeg (M 258 28).toNatClampNeg ((sumP (vR M) (M 258 27).toNatClampNeg (vR M 7 (M 258 27).toNatClampNeg).toNatClampNeg / (M 258 28 + 1)).toInt64 + 1) (M 282, (L 286, L 287), [], [], true) k).2.1.2 ∧ RR M80 (qrN (vR M) (M 260) (fun i => vR M 8 (40 * (M 258 27).toNatClampNeg + i)) (vR M 7 (M 258 27).toNatClampNeg).toNatClampNeg (M 258 2).toNatClampNeg (M 258 28).toNatClampNeg ((sumP (vR M) (M 258 27).toNatClampNeg (vR M 7 (M 258 27).toNatClampNeg).toNatClampNeg / (M 258 28 + 1)).toInt64 + 1) (M 282, (L 286, L 287), [], [], true) k).2.2.1 (qrN (vR M) (M 260) (fun i => vR M 8 (40 * (M 258 27).toNatClampNeg + i)) (vR M 7 (M 258 27).toNatClampNeg).toNatClampNeg (M 258 2).toNatClampNeg (M 258 28).toNatClampNeg ((sumP (vR M) (M 258 27).toNatClampNeg (vR M 7 (M 258 27).toNatClampNeg).toNatClampNeg / (M 258 28 + 1)).toInt64 + 1) (M 282, (L 286, L 287), [], [], true) k).2.2.2.1) := by
              refine ⟨k9 + 1, hk1s, ?_, ?_⟩
              · rw [eF]; exact ⟨fun _ => rfl, fun _ => by omega⟩
              · intro _
                rw [eF]
                refine ⟨?_, by rw [p286]; exact eWu, by rw [p287]; exact eWd, ?_⟩
                · show M80 282 = upd (qrN (vR M) (M 260) (fun i => vR M 8 (40 * (M 258 27).toNatClampNeg + i)) (vR M 7 (M 258 27).toNatClampNeg).toNatClampNeg (M 258 2).toNatClampNeg (M 258 28).toNatClampNeg ((sumP (vR M) (M 258 27).toNatClampNeg (vR M 7 (M 258 27).toNatClampNeg).toNatClampNeg / (M 258 28 + 1)).toInt64 + 1) (M 282, (L 286, L 287), [], [], true) k9).1 (qrC (vR M) (M 260) (fun i => vR M 8 (40 * (M 258 27).toNatClampNeg + i)) (vR M 7 (M 258 27).toNatClampNeg).toNatClampNeg (M 258 2).toNatClampNeg (qrN (vR M) (M 260) (fun i => vR M 8 (40 * (M 258 27).toNatClampNeg + i)) (vR M 7 (M 258 27).toNatClampNeg).toNatClampNeg (M 258 2).toNatClampNeg (M 258 28).toNatClampNeg ((sumP (vR M) (M 258 27).toNatClampNeg (vR M 7 (M 258 27).toNatClampNeg).toNatClampNeg / (M 258 28 + 1)).toInt64 + 1) (M 282, (L 286, L 287), [], [], true) k9)).toNatClampNeg 0; rw [h282, eI, er32]
                · show RR M80 ((qrN (vR M) (M 260) (fun i => vR M 8 (40 * (M 258 27).toNatClampNeg + i)) (vR M 7 (M 258 27).toNatClampNeg).toNatClampNeg (M 258 2).toNatClampNeg (M 258 28).toNatClampNeg ((sumP (vR M) (M 258 27).toNatClampNeg (vR M 7 (M 258 27).toNatClampNeg).toNatClampNeg / (M 258 28 + 1)).toInt64 + 1) (M 282, (L 286, L 287), [], [], true) k9).2.2.1 ++ [qrC (vR M) (M 260) (fun i => vR M 8 (40 * (M 258 27).toNatClampNeg + i)) (vR M 7 (M 258 27).toNatClampNeg).toNatClampNeg (M 258 2).toNatClampNeg (qrN (vR M) (M 260) (fun i => vR M 8 (40 * (M 258 27).toNatClampNeg + i)) (vR M 7 (M 258 27).toNatClampNeg).toNatClampNeg (M 258 2).toNatClampNeg (M 258 28).toNatClampNeg ((sumP (vR M) (M 258 27).toNatClampNeg (vR M 7 (M 258 27).toNatClampNeg).toNatClampNeg / (M 258 28 + 1)).toInt64 + 1) (M 282, (L 286, L 287), [], [], true) k9)]) ((qrN (vR M) (M 260) (fun i => vR M 8 (40 * (M 258 27).toNatClampNeg + i)) (vR M 7 (M 258 27).toNatClampNeg).toNatClampNeg (M 258 2).toNatClampNeg (M 258 28).toNatClampNeg ((sumP (vR M) (M 258 27).toNatClampNeg (vR M 7 (M 258 27).toNatClampNeg).toNatClampNeg / (M 258 28 + 1)).toInt64 + 1) (M 282, (L 286, L 287), [], [], true) k9).2.2.2.1 ++ [(1, qrC (vR M) (M 260) (fun i => vR M 8 (40 * (M 258 27).toNatClampNeg + i)) (vR M 7 (M 258 27).toNatClampNeg).toNatClampNeg (M 258 2).toNatClampNeg (qrN (vR M) (M 260) (fun i => vR M 8 (40 * (M 258 27).toNatClampNeg + i)) (vR M 7 (M 258 27).toNatClampNeg).toNatClampNeg (M 258 2).toNatClampNeg (M 258 28).toNatClampNeg ((sumP (vR M) (M 258 27).toNatClampNeg (vR M 7 (M 258 27).toNatClampNeg).toNatClampNeg / (M 258 28 + 1)).toInt64 + 1) (M 282, (L 286, L 287), [], [], true) k9))]); rw [← er32]; exact rp3
            exact ih_19 (M80, L79) ⟨by show NIn (M80 282) (M 258 2).toInt; first | exact hNI2 | (rw [e282]; exact j19_0), by show (M80 258 25).toInt = 0 → WT L79; exact hWe, by show (M80 258 31).toInt + (cI (M80 282) (M 258 2).toNatClampNeg : Int) ≤ 10; rw [e282]; omega, by show 0 ≤ (M80 258 29).toInt ∧ (M80 258 29).toInt ≤ (M 258 28).toInt; omega, by show 0 ≤ (M80 258 25).toInt ∧ (M80 258 25).toInt ≤ 1; exact hI 258 25, by show ∃ k, (∀ j, j < k → ¬ qrD (M 258 2).toNatClampNeg (M 258 28).toNatClampNeg (qrN (vR M) (M 260) (fun i => vR M 8 (40 * (M 258 27).toNatClampNeg + i)) (vR M 7 (M 258 27).toNatClampNeg).toNatClampNeg (M 258 2).toNatClampNeg (M 258 28).toNatClampNeg ((sumP (vR M) (M 258 27).toNatClampNeg (vR M 7 (M 258 27).toNatClampNeg).toNatClampNeg / (M 258 28 + 1)).toInt64 + 1) (M 282, (L 286, L 287), [], [], true) j)) ∧ ((M80 258 25).toInt = 0 ↔ (qrN (vR M) (M 260) (fun i => vR M 8 (40 * (M 258 27).toNatClampNeg + i)) (vR M 7 (M 258 27).toNatClampNeg).toNatClampNeg (M 258 2).toNatClampNeg (M 258 28).toNatClampNeg ((sumP (vR M) (M 258 27).toNatClampNeg (vR M 7 (M 258 27).toNatClampNeg).toNatClampNeg / (M 258 28 + 1)).toInt64 + 1) (M 282, (L 286, L 287), [], [], true) k).2.2.2.2 = true) ∧ ((M80 258 25).toInt = 0 → M80 282 = (qrN (vR M) (M 260) (fun i => vR M 8 (40 * (M 258 27).toNatClampNeg + i)) (vR M 7 (M 258 27).toNatClampNeg).toNatClampNeg (M 258 2).toNatClampNeg (M 258 28).toNatClampNeg ((sumP (vR M) (M 258 27).toNatClampNeg (vR M 7 (M 258 27).toNatClampNeg).toNatClampNeg / (M 258 28 + 1)).toInt64 + 1) (M 282, (L 286, L 287), [], [], true) k).1 ∧ L79 286 = (qrN (vR M) (M 260) (fun i => vR M 8 (40 * (M 258 27).toNatClampNeg + i)) (vR M 7 (M 258 27).toNatClampNeg).toNatClampNeg (M 258 2).toNatClampNeg (M 258 28).toNatClampNeg ((sumP (vR M) (M 258 27).toNatClampNeg (vR M 7 (M 258 27).toNatClampNeg).toNatClampNeg / (M 258 28 + 1)).toInt64 + 1) (M 282, (L 286, L 287), [], [], true) k).2.1.1 ∧ L79 287 = (qrN (vR M) (M 260) (fun i => vR M 8 (40 * (M 258 27).toNatClampNeg + i)) (vR M 7 (M 258 27).toNatClampNeg).toNatClampNeg (M 258 2).toNatClampNeg (M 258 28).toNatClampNeg ((sumP (vR M) (M 258 27).toNatClampNeg (vR M 7 (M 258 27).toNatClampNeg).toNatClampNeg / (M 258 28 + 1)).toInt64 + 1) (M 282, (L 286, L 287), [], [], true) k).2.1.2 ∧ RR M80 (qrN (vR M) (M 260) (fun i => vR M 8 (40 * (M 258 27).toNatClampNeg + i)) (vR M 7 (M 258 27).toNatClampNeg).toNatClampNeg (M 258 2).toNatClampNeg (M 258 28).toNatClampNeg ((sumP (vR M) (M 258 27).toNatClampNeg (vR M 7 (M 258 27).toNatClampNeg).toNatClampNeg / (M 258 28 + 1)).toInt64 + 1) (M 282, (L 286, L 287), [], [], true) k).2.2.1 (qrN (vR M) (M 260) (fun i => vR M 8 (40 * (M 258 27).toNatClampNeg + i)) (vR M 7 (M 258 27).toNatClampNeg).toNatClampNeg (M 258 2).toNatClampNeg (M 258 28).toNatClampNeg ((sumP (vR M) (M 258 27).toNatClampNeg (vR M 7 (M 258 27).toNatClampNeg).toNatClampNeg / (M 258 28 + 1)).toInt64 + 1) (M 282, (L 286, L 287), [], [], true) k).2.2.2.1); exact hex, hI, hF, hG⟩ (by show cI (M80 282) (M 258 2).toNatClampNeg * 2 + (1 - (M80 258 25).toInt).toNat < cI (M_19 282) (M 258 2).toNatClampNeg * 2 + (1 - (M_19 258 25).toInt).toNat; rw [e282]; omega)
