set_option maxHeartbeats 4000000 in
set_option maxRecDepth 100000 in
theorem k_X11_countDivisors (l : Launch) (D : va_G) (ad : Nat → Nat) (cs : Nat → ClassId) (M : MI) (L : ML) (x : Int32) (hI : IR M) (hW : WT L) (hs0 : (M 258 25).toInt = 0) (hn1 : 1 ≤ (M 258 2).toInt) (hg0 : (M 258 29).toInt = 0) (hm0 : (M 258 31).toInt = 0) (hX : hasX (vR M) (M 258 27)) (hB8 : ∀ i : Nat, (vR M 8 i).toInt = -9 ∨ (0 ≤ (vR M 8 i).toInt ∧ (vR M 8 i).toInt ≤ 59)) (hWp : ∀ i, i < 40 → (vR M 8 (40 * (M 258 27).toNatClampNeg + i)).toInt ≠ -9 → L 286 i = (vR M 3 (vR M 8 (40 * (M 258 27).toNatClampNeg + i)).toNatClampNeg).toInt64 ∧ L 287 i = 1) : Cv l yX11_countDivisors wsX11_countDivisors ({ frames := 4, cells := 0, slots := 0, locals := 103 }) D ad cs [.ref (ad 258), .int x] M L (fun M1 L1 => (RR M1 (dvS (M 260) (tfV (vR M) (M 282) (fun i => vR M 8 (40 * (M 258 27).toNatClampNeg + i)) (vR M 7 (M 258 27).toNatClampNeg).toNatClampNeg) x (M 258 2).toNatClampNeg ((M 258 28).toNatClampNeg)) (oneR (dvS (M 260) (tfV (vR M) (M 282) (fun i => vR M 8 (40 * (M 258 27).toNatClampNeg + i)) (vR M 7 (M 258 27).toNatClampNeg).toNatClampNeg) x (M 258 2).toNatClampNeg ((M 258 28).toNatClampNeg))) ∧ (M1 258 25).toInt = 0) ∧ IR M1 ∧ (∀ k i, ¬ (k = 258 ∧ i = 25) ∧ ¬ (k = 258 ∧ i = 29) ∧ ¬ (k = 258 ∧ i = 31) ∧ k ≠ 277 ∧ k ≠ 278 ∧ k ≠ 279 ∧ k ≠ 293 → M1 k i = M k i) ∧ ∀ k i, ¬ (k = 258 ∧ i = 23) ∧ ¬ (k = 258 ∧ i = 24) ∧ k ≠ 284 ∧ k ≠ 285 ∧ k ≠ 280 ∧ k ≠ 281 → L1 k i = L k i) := by
  refine enter_v RX11 rfl [(0, .ref (ad 258)), (1, .int x)] rfl (Nat.le_of_ble_eq_true rfl) (by decide +kernel) rfl ?_
  intro p e s m below meth c C hr
  have hF : ∀ k i, ¬ (k = 258 ∧ i = 25) ∧ ¬ (k = 258 ∧ i = 29) ∧ ¬ (k = 258 ∧ i = 31) ∧ k ≠ 277 ∧ k ≠ 278 ∧ k ≠ 279 ∧ k ≠ 293 → M k i = M k i := fun _ _ _ => rfl
  have hG : ∀ k i, ¬ (k = 258 ∧ i = 23) ∧ ¬ (k = 258 ∧ i = 24) ∧ k ≠ 284 ∧ k ≠ 285 ∧ k ≠ 280 ∧ k ≠ 281 → L k i = L k i := fun _ _ _ => rfl
  have hI0 := hI
  have hX1 := hX.1
  have hX2 := hX.2
  obtain ⟨sza, szb⟩ := (show rg 0 40 (vR M 7 (M 258 27).toNatClampNeg) from hI 266 _)
  have nsz := ixn sza
  obtain ⟨ca, cb⟩ := (show rg 0 10 (M 258 2) from hI 258 2)
  have n02 := ixn ca
  obtain ⟨sa, sb⟩ := (show rg 0 30 (M 258 28) from hI 258 28)
  have nsd := ixn sa
  have k25 : M 258 25 = M 258 25 := rfl
  have k29 : M 258 29 = M 258 29 := rfl
  have k31 : M 258 31 = M 258 31 := rfl
  have l23 : L 258 23 = L 258 23 := rfl
  have l24 : L 258 24 = L 258 24 := rfl
  have p280 : L 280 = L 280 := rfl
  have p281 : L 281 = L 281 := rfl
  have p284 : L 284 = L 284 := rfl
  have p285 : L 285 = L 285 := rfl
  have q277 : M 277 = M 277 := rfl
  have q278 : M 278 = M 278 := rfl
  have q279 : M 279 = M 279 := rfl
  have q293 : M 293 = M 293 := rfl
  refine g_aload_n C 0 dX11_countDivisors_0 rfl ?_
  have hF0 := hF
  have hG0 := hG
  refine g_callVv C (n := 0) (As := []) (st := []) (k_X11_tallyFirsts l D ad cs _ _  hI hW hs0 hX hB8) gX11_countDivisors_X11_tallyFirsts rfl rfl rfl (by decide +kernel) ⟨Nat.le_of_ble_eq_true rfl, Nat.le_of_ble_eq_true rfl⟩ rfl (Nat.le_of_ble_eq_true rfl) ⟨Nat.zero_le _, Nat.zero_le _⟩ (by decide) (ce_model ad cs _ _) rfl rfl dX11_countDivisors_1 (fun M2 L3 hr1 => ?_)
  obtain ⟨hr1, hI, hFr1, hGr1⟩ := hr1
  have hF : ∀ k i, ¬ (k = 258 ∧ i = 25) ∧ ¬ (k = 258 ∧ i = 29) ∧ ¬ (k = 258 ∧ i = 31) ∧ k ≠ 277 ∧ k ≠ 278 ∧ k ≠ 279 ∧ k ≠ 293 → M2 k i = M k i := fun k i hk => by (rw [hFr1 k i (by omega)]; try exact hF k i hk)
  have hG : ∀ k i, ¬ (k = 258 ∧ i = 23) ∧ ¬ (k = 258 ∧ i = 24) ∧ k ≠ 284 ∧ k ≠ 285 ∧ k ≠ 280 ∧ k ≠ 281 → L3 k i = L k i := fun k i hk => by (rw [hGr1 k i (by omega)]; try exact hG k i hk)
  have k29 : M2 258 29 = M 258 29 := (hFr1 258 29 (by omega)).trans k29
  have k31 : M2 258 31 = M 258 31 := (hFr1 258 31 (by omega)).trans k31
  have k25 : M2 258 25 = M2 258 25 := rfl
  have kt25 := congrArg Int32.toInt k25
  have kt29 := congrArg Int32.toInt k29
  have kt31 := congrArg Int32.toInt k31
  have l23 : L3 258 23 = L3 258 23 := rfl
  have l24 : L3 258 24 = L3 258 24 := rfl
  have p280 : L3 280 = L 280 := (funext (fun i => hGr1 280 i (by omega))).trans p280
  have p281 : L3 281 = L 281 := (funext (fun i => hGr1 281 i (by omega))).trans p281
  have p284 : L3 284 = L3 284 := rfl
  have p285 : L3 285 = L3 285 := rfl
  have q277 : M2 277 = M 277 := (funext (fun i => hFr1 277 i (by omega))).trans q277
  have q278 : M2 278 = M 278 := (funext (fun i => hFr1 278 i (by omega))).trans q278
  have q279 : M2 279 = M 279 := (funext (fun i => hFr1 279 i (by omega))).trans q279
  have q293 : M2 293 = M 293 := (funext (fun i => hFr1 293 i (by omega))).trans q293
  obtain ⟨tfo, tfs, tfe⟩ := hr1
  rw [stW_F (V := vR M) (I := (M 282)) (p := (fun i => vR M 8 (40 * (M 258 27).toNatClampNeg + i))) (wu := L 286) (wd := L 287) (fun b => hI0 262 b) hWp (vR M 7 (M 258 27).toNatClampNeg).toNatClampNeg (by omega)] at tfs tfe
  have tfe : ∀ c, c < 10 → L3 284 c = tfV (vR M) (M 282) (fun i => vR M 8 (40 * (M 258 27).toNatClampNeg + i)) (vR M 7 (M 258 27).toNatClampNeg).toNatClampNeg c ∧ L3 285 c = 1 := fun c hc => ⟨(tfe rfl c hc).1, (tfe rfl c hc).2.1⟩
  have tfs : (M2 258 25).toInt = 0 := tfs.mpr rfl
  refine g_iconst C 0 dX11_countDivisors_4 (by decide) ?_
  refine g_istore_n C [(2, .int 0), (0, .ref (ad 258)), (1, .int x)] dX11_countDivisors_5 (by decide) rfl ?_
  have zy4 : (0 : Int32).toInt = 0 := by decide
  refine g_loop (α := Int32 × MI × ML) (fun a => (11 - a.1.toInt).toNat) (fun a => (0 ≤ a.1.toInt) ∧ (a.1.toInt ≤ 10) ∧ ((a.2.1 258 29).toInt = 0) ∧ ((a.2.1 258 31).toInt = 0) ∧ (∀ c : Nat, c < a.1.toNatClampNeg → a.2.1 293 c = 0) ∧ ((a.2.1 258 25).toInt = 0) ∧ (∀ c, c < 10 → a.2.2 284 c = (tfV (vR M) (M 282) (fun i => vR M 8 (40 * (M 258 27).toNatClampNeg + i)) (vR M 7 (M 258 27).toNatClampNeg).toNatClampNeg) c) ∧ IR a.2.1 ∧ (∀ k i, ¬ (k = 258 ∧ i = 25) ∧ ¬ (k = 258 ∧ i = 29) ∧ ¬ (k = 258 ∧ i = 31) ∧ k ≠ 277 ∧ k ≠ 278 ∧ k ≠ 279 ∧ k ≠ 293 → a.2.1 k i = M k i) ∧ (∀ k i, ¬ (k = 258 ∧ i = 23) ∧ ¬ (k = 258 ∧ i = 24) ∧ k ≠ 284 ∧ k ≠ 285 ∧ k ≠ 280 ∧ k ≠ 281 → a.2.2 k i = L k i)) (fun a => a.2.1) (fun a => a.2.2) (fun a => [(2, .int a.1), (0, .ref (ad 258)), (1, .int x)]) ((0 : Int32), M2, L3) ⟨by show 0 ≤ (0 : Int32).toInt; omega, by show (0 : Int32).toInt ≤ 10; omega, by show (M2 258 29).toInt = 0; rw [k29]; exact hg0, by show (M2 258 31).toInt = 0; rw [k31]; exact hm0, by show ∀ c : Nat, c < (0 : Int32).toNatClampNeg → M2 293 c = 0; intro c hc; exact absurd hc (by show ¬ c < 0; omega), by show (M2 258 25).toInt = 0; exact tfs, by show ∀ c, c < 10 → L3 284 c = (tfV (vR M) (M 282) (fun i => vR M 8 (40 * (M 258 27).toNatClampNeg + i)) (vR M 7 (M 258 27).toNatClampNeg).toNatClampNeg) c; exact fun c hc => (tfe c hc).1, hI, hF, hG⟩ rfl rfl rfl ?_
  rintro ⟨x2_6, M_6, L_6⟩ ⟨j6_0, j6_1, j6_2, j6_3, j6_4, j6_5, j6_6, hI, hF, hG⟩ ih_6
  dsimp only at j6_0 j6_1 j6_2 j6_3 j6_4 j6_5 j6_6 hI hF hG ih_6 ⊢
  have k25 : M_6 258 25 = M_6 258 25 := rfl
  have k29 : M_6 258 29 = M_6 258 29 := rfl
  have k31 : M_6 258 31 = M_6 258 31 := rfl
  have l23 : L_6 258 23 = L_6 258 23 := rfl
  have l24 : L_6 258 24 = L_6 258 24 := rfl
  have p280 : L_6 280 = L_6 280 := rfl
  have p281 : L_6 281 = L_6 281 := rfl
  have p284 : L_6 284 = L_6 284 := rfl
  have p285 : L_6 285 = L_6 285 := rfl
  have q277 : M_6 277 = M_6 277 := rfl
  have q278 : M_6 278 = M_6 278 := rfl
  have q279 : M_6 279 = M_6 279 := rfl
  have q293 : M_6 293 = M_6 293 := rfl
  have n2 := ixn (x := x2_6) (by omega)
  refine g_iload_n C 0 dX11_countDivisors_6 rfl ?_
  refine g_bipush C 10 dX11_countDivisors_7 (by decide) ?_
  refine g_icmp_ge C 25 dX11_countDivisors_9 (by decide) (fun c5 => ?_) (fun c5 => ?_)
  ·
    have f6 := fle (by decide : (10 : Int32).toInt = 10) rfl c5
    refine g_iconst C 0 dX11_countDivisors_25 (by decide) ?_
    refine g_istore_n C [(2, .int 0), (0, .ref (ad 258)), (1, .int x)] dX11_countDivisors_26 (by decide) rfl ?_
    have zy7 : (0 : Int32).toInt = 0 := by decide
    refine g_loop (α := Int32 × MI × ML) (fun a => (31 - a.1.toInt).toNat) (fun a => (0 ≤ a.1.toInt) ∧ (a.1.toInt ≤ (M 258 28).toInt) ∧ ((a.2.1 258 29).toInt = a.1.toInt) ∧ ((a.2.1 258 31).toInt = a.1.toInt) ∧ (∀ c, c < 10 → a.2.1 293 c = dvH (M 260) (tfV (vR M) (M 282) (fun i => vR M 8 (40 * (M 258 27).toNatClampNeg + i)) (vR M 7 (M 258 27).toNatClampNeg).toNatClampNeg) x (M 258 2).toNatClampNeg a.1.toNatClampNeg c) ∧ (∀ c, c < 10 → a.2.2 284 c = (tfV (vR M) (M 282) (fun i => vR M 8 (40 * (M 258 27).toNatClampNeg + i)) (vR M 7 (M 258 27).toNatClampNeg).toNatClampNeg) c) ∧ (RR a.2.1 (dvS (M 260) (tfV (vR M) (M 282) (fun i => vR M 8 (40 * (M 258 27).toNatClampNeg + i)) (vR M 7 (M 258 27).toNatClampNeg).toNatClampNeg) x (M 258 2).toNatClampNeg a.1.toNatClampNeg) (oneR (dvS (M 260) (tfV (vR M) (M 282) (fun i => vR M 8 (40 * (M 258 27).toNatClampNeg + i)) (vR M 7 (M 258 27).toNatClampNeg).toNatClampNeg) x (M 258 2).toNatClampNeg a.1.toNatClampNeg))) ∧ ((a.2.1 258 25).toInt = 0) ∧ IR a.2.1 ∧ (∀ k i, ¬ (k = 258 ∧ i = 25) ∧ ¬ (k = 258 ∧ i = 29) ∧ ¬ (k = 258 ∧ i = 31) ∧ k ≠ 277 ∧ k ≠ 278 ∧ k ≠ 279 ∧ k ≠ 293 → a.2.1 k i = M k i) ∧ (∀ k i, ¬ (k = 258 ∧ i = 23) ∧ ¬ (k = 258 ∧ i = 24) ∧ k ≠ 284 ∧ k ≠ 285 ∧ k ≠ 280 ∧ k ≠ 281 → a.2.2 k i = L k i)) (fun a => a.2.1) (fun a => a.2.2) (fun a => [(2, .int a.1), (0, .ref (ad 258)), (1, .int x)]) ((0 : Int32), M_6, L_6) ⟨by show 0 ≤ (0 : Int32).toInt; omega, by show (0 : Int32).toInt ≤ (M 258 28).toInt; omega, by show (M_6 258 29).toInt = (0 : Int32).toInt; rw [k29]; exact j6_2, by show (M_6 258 31).toInt = (0 : Int32).toInt; rw [k31]; exact j6_3, by show ∀ c, c < 10 → M_6 293 c = dvH (M 260) (tfV (vR M) (M 282) (fun i => vR M 8 (40 * (M 258 27).toNatClampNeg + i)) (vR M 7 (M 258 27).toNatClampNeg).toNatClampNeg) x (M 258 2).toNatClampNeg (0 : Int32).toNatClampNeg c; exact fun c hc => j6_4 c (by omega), by show ∀ c, c < 10 → L_6 284 c = (tfV (vR M) (M 282) (fun i => vR M 8 (40 * (M 258 27).toNatClampNeg + i)) (vR M 7 (M 258 27).toNatClampNeg).toNatClampNeg) c; exact j6_6, by show RR M_6 (dvS (M 260) (tfV (vR M) (M 282) (fun i => vR M 8 (40 * (M 258 27).toNatClampNeg + i)) (vR M 7 (M 258 27).toNatClampNeg).toNatClampNeg) x (M 258 2).toNatClampNeg (0 : Int32).toNatClampNeg) (oneR (dvS (M 260) (tfV (vR M) (M 282) (fun i => vR M 8 (40 * (M 258 27).toNatClampNeg + i)) (vR M 7 (M 258 27).toNatClampNeg).toNatClampNeg) x (M 258 2).toNatClampNeg (0 : Int32).toNatClampNeg)); exact RP_0 (by rw [k29]; exact j6_2) (by rw [k31]; exact j6_3), by show (M_6 258 25).toInt = 0; rw [k25]; exact j6_5, hI, hF, hG⟩ rfl rfl rfl ?_
    rintro ⟨x2_27, M_27, L_27⟩ ⟨j27_0, j27_1, j27_2, j27_3, j27_4, j27_5, j27_6, j27_7, hI, hF, hG⟩ ih_27
    dsimp only at j27_0 j27_1 j27_2 j27_3 j27_4 j27_5 j27_6 j27_7 hI hF hG ih_27 ⊢
    have k25 : M_27 258 25 = M_27 258 25 := rfl
    have k29 : M_27 258 29 = M_27 258 29 := rfl
    have k31 : M_27 258 31 = M_27 258 31 := rfl
    have l23 : L_27 258 23 = L_27 258 23 := rfl
    have l24 : L_27 258 24 = L_27 258 24 := rfl
    have p280 : L_27 280 = L_27 280 := rfl
    have p281 : L_27 281 = L_27 281 := rfl
    have p284 : L_27 284 = L_27 284 := rfl
    have p285 : L_27 285 = L_27 285 := rfl
    have q277 : M_27 277 = M_27 277 := rfl
    have q278 : M_27 278 = M_27 278 := rfl
    have q279 : M_27 279 = M_27 279 := rfl
    have q293 : M_27 293 = M_27 293 := rfl
    refine g_iload_n C 0 dX11_countDivisors_27 rfl ?_
    refine g_aload_n C 1 dX11_countDivisors_28 rfl ?_
    refine g_get C (.int (M_27 258 28)) 28 in_X11_countDivisors_11 (List.mem_of_getElem? (i := 2) rfl) (by decide) (ce_model ad cs _ _) rfl (by decide) rfl rfl dX11_countDivisors_29 ?_
    refine g_ni (fun v8 ev8 => ?_)
    have gv8 : v8 = M 258 28 := ev8.trans (hF 258 28 (by omega))
    have tv8 := congrArg Int32.toInt gv8
    obtain ⟨bv8, dv8⟩ := (show rg 0 30 v8 from (by rw [ev8]; exact hI 258 28))
    refine g_icmp_ge C 147 dX11_countDivisors_32 (by decide) (fun c9 => ?_) (fun c9 => ?_)
    ·
      have f10 := fle rfl rfl c9
      exact g_vret C hr ⟨(by have e9 : x2_27.toNatClampNeg = (M 258 28).toNatClampNeg := (by have := ixn (x := x2_27) (by omega); omega); rw [e9] at j27_6; exact ⟨j27_6, j27_7⟩), hI, hF, hG⟩ dX11_countDivisors_147
    ·
      have f11 := fnle rfl rfl c9
      refine g_bipush C (-9) dX11_countDivisors_35 (by decide) ?_
      refine g_istore_n C [(3, .int ((-9))), (2, .int x2_27), (0, .ref (ad 258)), (1, .int x)] dX11_countDivisors_37 (by decide) rfl ?_
      refine g_iconst C 0 dX11_countDivisors_38 (by decide) ?_
      refine g_istore C [(4, .int 0), (3, .int ((-9))), (2, .int x2_27), (0, .ref (ad 258)), (1, .int x)] dX11_countDivisors_39 (by decide) rfl ?_
      have zy12 : (0 : Int32).toInt = 0 := by decide
      have zy13 : ((-9) : Int32).toInt = (-9) := by decide
      refine g_loop (α := Int32 × Int32 × MI × ML) (fun a => (11 - a.1.toInt).toNat) (fun a => (0 ≤ a.1.toInt) ∧ (a.1.toInt ≤ (M 258 2).toInt) ∧ ((a.2.1.toInt = -9 ∧ a.1.toInt = 0) ∨ (0 ≤ a.2.1.toInt ∧ a.2.1.toInt < 10)) ∧ (a.2.2.1 258 29 = M_27 258 29) ∧ (a.2.2.1 258 31 = M_27 258 31) ∧ (a.2.2.1 293 = M_27 293) ∧ (a.2.2.2 284 = L_27 284) ∧ (a.2.1 = dvF (M 260) (L_27 284) (M_27 293) x a.1.toNatClampNeg) ∧ (a.2.2.1 277 = M_27 277 ∧ a.2.2.1 278 = M_27 278 ∧ a.2.2.1 279 = M_27 279) ∧ ((a.2.2.1 258 25).toInt = 0) ∧ IR a.2.2.1 ∧ (∀ k i, ¬ (k = 258 ∧ i = 25) ∧ ¬ (k = 258 ∧ i = 29) ∧ ¬ (k = 258 ∧ i = 31) ∧ k ≠ 277 ∧ k ≠ 278 ∧ k ≠ 279 ∧ k ≠ 293 → a.2.2.1 k i = M k i) ∧ (∀ k i, ¬ (k = 258 ∧ i = 23) ∧ ¬ (k = 258 ∧ i = 24) ∧ k ≠ 284 ∧ k ≠ 285 ∧ k ≠ 280 ∧ k ≠ 281 → a.2.2.2 k i = L k i)) (fun a => a.2.2.1) (fun a => a.2.2.2) (fun a => [(4, .int a.1), (3, .int a.2.1), (2, .int x2_27), (0, .ref (ad 258)), (1, .int x)]) ((0 : Int32), (-9 : Int32), M_27, L_27) ⟨by show 0 ≤ (0 : Int32).toInt; omega, by show (0 : Int32).toInt ≤ (M 258 2).toInt; omega, by show ((-9 : Int32).toInt = -9 ∧ (0 : Int32).toInt = 0) ∨ (0 ≤ (-9 : Int32).toInt ∧ (-9 : Int32).toInt < 10); omega, by show M_27 258 29 = M_27 258 29; exact k29, by show M_27 258 31 = M_27 258 31; exact k31, by show M_27 293 = M_27 293; rfl, by show L_27 284 = L_27 284; rfl, by show (-9 : Int32) = dvF (M 260) (L_27 284) (M_27 293) x (0 : Int32).toNatClampNeg; rfl, by show M_27 277 = M_27 277 ∧ M_27 278 = M_27 278 ∧ M_27 279 = M_27 279; exact ⟨rfl, rfl, rfl⟩, by show (M_27 258 25).toInt = 0; exact j27_7, hI, hF, hG⟩ rfl rfl rfl ?_
      rintro ⟨x4_41, x3_41, M_41, L_41⟩ ⟨j41_0, j41_1, j41_2, j41_3, j41_4, j41_5, j41_6, j41_7, j41_8, j41_9, hI, hF, hG⟩ ih_41
      dsimp only at j41_0 j41_1 j41_2 j41_3 j41_4 j41_5 j41_6 j41_7 j41_8 j41_9 hI hF hG ih_41 ⊢
      have k25 : M_41 258 25 = M_41 258 25 := rfl
      have k29 : M_41 258 29 = M_41 258 29 := rfl
      have k31 : M_41 258 31 = M_41 258 31 := rfl
      have l23 : L_41 258 23 = L_41 258 23 := rfl
      have l24 : L_41 258 24 = L_41 258 24 := rfl
      have p280 : L_41 280 = L_41 280 := rfl
      have p281 : L_41 281 = L_41 281 := rfl
      have p284 : L_41 284 = L_41 284 := rfl
      have p285 : L_41 285 = L_41 285 := rfl
      have q277 : M_41 277 = M_41 277 := rfl
      have q278 : M_41 278 = M_41 278 := rfl
      have q279 : M_41 279 = M_41 279 := rfl
      have q293 : M_41 293 = M_41 293 := rfl
      have q293 : M_41 293 = M_27 293 := j41_5
      have p284 : L_41 284 = L_27 284 := j41_6
      have n4 := ixn (x := x4_41) (by omega)
      have bE : rg 0 9 (M 260 x4_41.toNatClampNeg) := hI0 260 _
      obtain ⟨bE1, bE2⟩ := bE
      have nE := ixn bE1
      have k29t := congrArg Int32.toInt j41_3
      have k31t := congrArg Int32.toInt j41_4
      refine g_iload C 0 dX11_countDivisors_41 rfl ?_
      refine g_aload_n C 3 dX11_countDivisors_43 rfl ?_
      refine g_get C (.int (M_41 258 2)) 2 in_X11_countDivisors_11 (List.mem_of_getElem? (i := 3) rfl) (by decide) (ce_model ad cs _ _) rfl (by decide) rfl rfl dX11_countDivisors_44 ?_
      refine g_ni (fun v14 ev14 => ?_)
      have gv14 : v14 = M 258 2 := ev14.trans (hF 258 2 (by omega))
      have tv14 := congrArg Int32.toInt gv14
      obtain ⟨bv14, dv14⟩ := (show rg 0 10 v14 from (by rw [ev14]; exact hI 258 2))
      refine g_icmp_ge C 120 dX11_countDivisors_47 (by decide) (fun c15 => ?_) (fun c15 => ?_)
      ·
        have f16 := fle rfl rfl c15
        have de := dvF_ext (row := M 260) (H := M_27 293) (H1 := dvH (M 260) (tfV (vR M) (M 282) (fun i => vR M 8 (40 * (M 258 27).toNatClampNeg + i)) (vR M 7 (M 258 27).toNatClampNeg).toNatClampNeg) x (M 258 2).toNatClampNeg x2_27.toNatClampNeg) (U := L_27 284) (U1 := (tfV (vR M) (M 282) (fun i => vR M 8 (40 * (M 258 27).toNatClampNeg + i)) (vR M 7 (M 258 27).toNatClampNeg).toNatClampNeg)) (t := x) (fun i => hI0 260 i) j27_4 j27_5 (M 258 2).toNatClampNeg
        have eb : x3_41 = dvF (M 260) (tfV (vR M) (M 282) (fun i => vR M 8 (40 * (M 258 27).toNatClampNeg + i)) (vR M 7 (M 258 27).toNatClampNeg).toNatClampNeg) (dvH (M 260) (tfV (vR M) (M 282) (fun i => vR M 8 (40 * (M 258 27).toNatClampNeg + i)) (vR M 7 (M 258 27).toNatClampNeg).toNatClampNeg) x (M 258 2).toNatClampNeg x2_27.toNatClampNeg) x (M 258 2).toNatClampNeg := by rw [j41_7, show x4_41.toNatClampNeg = (M 258 2).toNatClampNeg by omega]; exact de.1
        have hRR : RR M_41 (dvS (M 260) (tfV (vR M) (M 282) (fun i => vR M 8 (40 * (M 258 27).toNatClampNeg + i)) (vR M 7 (M 258 27).toNatClampNeg).toNatClampNeg) x (M 258 2).toNatClampNeg x2_27.toNatClampNeg) (oneR (dvS (M 260) (tfV (vR M) (M 282) (fun i => vR M 8 (40 * (M 258 27).toNatClampNeg + i)) (vR M 7 (M 258 27).toNatClampNeg).toNatClampNeg) x (M 258 2).toNatClampNeg x2_27.toNatClampNeg)) := by unfold RR; rw [j41_3, j41_4, j41_8.1, j41_8.2.1, j41_8.2.2]; exact j27_6
        have n3b := ixn (x := x3_41) (by omega)
        refine g_aload_n C 3 dX11_countDivisors_120 rfl ?_
        refine g_iconst C 1 dX11_countDivisors_121 (by decide) ?_
        refine g_iload_n C 1 dX11_countDivisors_122 rfl ?_
        refine g_callVv C (n := 2) (As := [.int 1, .int x3_41]) (st := []) (k_X11_happens l D ad cs _ _ 1 x3_41 hI (by omega)) gX11_countDivisors_X11_happens rfl rfl rfl (by decide +kernel) ⟨Nat.le_of_ble_eq_true rfl, Nat.le_of_ble_eq_true rfl⟩ rfl (Nat.le_of_ble_eq_true rfl) ⟨Nat.zero_le _, Nat.zero_le _⟩ (by decide) (ce_model ad cs _ _) rfl rfl dX11_countDivisors_123 (fun M18 L19 hr17 => ?_)
        obtain ⟨hr17, hI, hFr17, hGr17⟩ := hr17
        have hF : ∀ k i, ¬ (k = 258 ∧ i = 25) ∧ ¬ (k = 258 ∧ i = 29) ∧ ¬ (k = 258 ∧ i = 31) ∧ k ≠ 277 ∧ k ≠ 278 ∧ k ≠ 279 ∧ k ≠ 293 → M18 k i = M k i := fun k i hk => by (rw [hFr17 k i (by omega)]; try exact hF k i hk)
        have hG : ∀ k i, ¬ (k = 258 ∧ i = 23) ∧ ¬ (k = 258 ∧ i = 24) ∧ k ≠ 284 ∧ k ≠ 285 ∧ k ≠ 280 ∧ k ≠ 281 → L19 k i = L k i := fun k i hk => by (rw [hGr17 k i (by omega)]; try exact hG k i hk)
        have k25 : M18 258 25 = M_41 258 25 := (hFr17 258 25 (by omega)).trans k25
        have k29 : M18 258 29 = M_41 258 29 := (hFr17 258 29 (by omega)).trans k29
        have k31 : M18 258 31 = M18 258 31 := rfl
        have kt25 := congrArg Int32.toInt k25
        have kt29 := congrArg Int32.toInt k29
        have kt31 := congrArg Int32.toInt k31
        have l23 : L19 258 23 = L_41 258 23 := (hGr17 258 23 (by omega)).trans l23
        have l24 : L19 258 24 = L_41 258 24 := (hGr17 258 24 (by omega)).trans l24
        have p280 : L19 280 = L19 280 := rfl
        have p281 : L19 281 = L19 281 := rfl
        have p284 : L19 284 = L_27 284 := (funext (fun i => hGr17 284 i (by omega))).trans p284
        have p285 : L19 285 = L_41 285 := (funext (fun i => hGr17 285 i (by omega))).trans p285
        have q277 : M18 277 = M_41 277 := (funext (fun i => hFr17 277 i (by omega))).trans q277
        have q278 : M18 278 = M18 278 := rfl
        have q279 : M18 279 = M18 279 := rfl
        have q293 : M18 293 = M_27 293 := (funext (fun i => hFr17 293 i (by omega))).trans q293
        obtain ⟨hp31, hp278, hp279⟩ := hr17
        have hp29 : M18 258 29 = M_41 258 29 := hFr17 258 29 (by omega)
        have hp277 : M18 277 = M_41 277 := funext (fun i => hFr17 277 i (by omega))
        have hb9 : RP (M_41 258 29) (M_41 277) (M_41 258 31) (M_41 278) (M_41 279) _ _ := hRR
        rw [← hp29, ← hp277] at hb9
        have rp1 := RP_note hb9 hp31 hp278 hp279
        refine g_aload_n C 3 dX11_countDivisors_126 rfl ?_
        refine g_iload_n C 1 dX11_countDivisors_127 rfl ?_
        refine g_callVv C (n := 1) (As := [.int x3_41]) (st := []) (k_X11_gives l D ad cs _ _ x3_41 hI (by omega)) gX11_countDivisors_X11_gives rfl rfl rfl (by decide +kernel) ⟨Nat.le_of_ble_eq_true rfl, Nat.le_of_ble_eq_true rfl⟩ rfl (Nat.le_of_ble_eq_true rfl) ⟨Nat.zero_le _, Nat.zero_le _⟩ (by decide) (ce_model ad cs _ _) rfl rfl dX11_countDivisors_128 (fun M21 L22 hr20 => ?_)
        obtain ⟨hr20, hI, hFr20, hGr20⟩ := hr20
        have hF : ∀ k i, ¬ (k = 258 ∧ i = 25) ∧ ¬ (k = 258 ∧ i = 29) ∧ ¬ (k = 258 ∧ i = 31) ∧ k ≠ 277 ∧ k ≠ 278 ∧ k ≠ 279 ∧ k ≠ 293 → M21 k i = M k i := fun k i hk => by (rw [hFr20 k i (by omega)]; try exact hF k i hk)
        have hG : ∀ k i, ¬ (k = 258 ∧ i = 23) ∧ ¬ (k = 258 ∧ i = 24) ∧ k ≠ 284 ∧ k ≠ 285 ∧ k ≠ 280 ∧ k ≠ 281 → L22 k i = L k i := fun k i hk => by (rw [hGr20 k i trivial]; try exact hG k i hk)
        have k25 : M21 258 25 = M_41 258 25 := (hFr20 258 25 (by omega)).trans k25
        have k31 : M21 258 31 = M18 258 31 := (hFr20 258 31 (by omega)).trans k31
        have k29 : M21 258 29 = M21 258 29 := rfl
        have kt25 := congrArg Int32.toInt k25
        have kt29 := congrArg Int32.toInt k29
        have kt31 := congrArg Int32.toInt k31
        have l23 : L22 258 23 = L_41 258 23 := (hGr20 258 23 trivial).trans l23
        have l24 : L22 258 24 = L_41 258 24 := (hGr20 258 24 trivial).trans l24
        have p280 : L22 280 = L19 280 := (funext (fun i => hGr20 280 i trivial)).trans p280
        have p281 : L22 281 = L19 281 := (funext (fun i => hGr20 281 i trivial)).trans p281
        have p284 : L22 284 = L_27 284 := (funext (fun i => hGr20 284 i trivial)).trans p284
        have p285 : L22 285 = L_41 285 := (funext (fun i => hGr20 285 i trivial)).trans p285
        have q277 : M21 277 = M21 277 := rfl
        have q278 : M21 278 = M18 278 := (funext (fun i => hFr20 278 i (by omega))).trans q278
        have q279 : M21 279 = M18 279 := (funext (fun i => hFr20 279 i (by omega))).trans q279
        have q293 : M21 293 = M_27 293 := (funext (fun i => hFr20 293 i (by omega))).trans q293
        obtain ⟨gv29, gv277⟩ := hr20
        have gv31 : M21 258 31 = M18 258 31 := hFr20 258 31 (by omega)
        have gv278 : M21 278 = M18 278 := funext (fun i => hFr20 278 i (by omega))
        have gv279 : M21 279 = M18 279 := funext (fun i => hFr20 279 i (by omega))
        have hb9 : RP (M18 258 29) (M18 277) (M18 258 31) (M18 278) (M18 279) _ _ := rp1
        rw [← gv31, ← gv278, ← gv279] at hb9
        have rp2 := RP_give hb9 gv29 gv277
        refine g_aload_n C 3 dX11_countDivisors_131 rfl ?_
        refine g_get C (.ref (ad 293)) 49 in_X11_countDivisors_11 (List.mem_of_getElem? (i := 1) rfl) (by decide) (ce_model ad cs _ _) rfl (by decide) rfl rfl dX11_countDivisors_132 ?_
        refine g_iload_n C 1 dX11_countDivisors_135 rfl ?_
        refine g_dup2 C dX11_countDivisors_136 rfl rfl ?_
        refine g_iald C (by decide) (ce_m_had ad cs _ _) (fin' (n := 10) rfl (by omega) (by omega)) dX11_countDivisors_137 ?_
        refine g_ni (fun v23 ev23 => ?_)
        have gv23 : v23 = M_27 293 x3_41.toNatClampNeg := ev23.trans (congrFun q293 _)
        have tv23 := congrArg Int32.toInt gv23
        refine g_iconst C 1 dX11_countDivisors_138 (by decide) ?_
        refine g_iadd C dX11_countDivisors_139 ?_
        refine g_ni (fun v24 ev24 => ?_)
        try have fv24 := fadd rfl (by decide : (1 : Int32).toInt = 1) ev24 (by omega) (by omega)
        refine g_iast C (by decide) (ce_m_had ad cs _ _) (by rw [sI_k]; rfl) (fin' (n := 10) rfl (by omega) (by omega)) dX11_countDivisors_140 ?_
        refine g_nm (fun M25 hM25 => ?_)
        have hI : IR M25 := by rw [hM25]; exact hI.st (show bR 293 _ _ from trivial)
        have hF : ∀ k i, ¬ (k = 258 ∧ i = 25) ∧ ¬ (k = 258 ∧ i = 29) ∧ ¬ (k = 258 ∧ i = 31) ∧ k ≠ 277 ∧ k ≠ 278 ∧ k ≠ 279 ∧ k ≠ 293 → M25 k i = M k i := fun k i hk => by (rw [hM25, sI_at, if_neg (by omega)]; try exact hF k i hk)
        have k25 : M25 258 25 = M_41 258 25 := by rw [hM25, sI_n _ _ _ (by decide)]; try exact k25
        have k29 : M25 258 29 = M21 258 29 := by rw [hM25, sI_n _ _ _ (by decide)]; try exact k29
        have k31 : M25 258 31 = M18 258 31 := by rw [hM25, sI_n _ _ _ (by decide)]; try exact k31
        have q277 : M25 277 = M21 277 := by rw [hM25, sI_n _ _ _ (by decide)]; try exact q277
        have q278 : M25 278 = M18 278 := by rw [hM25, sI_n _ _ _ (by decide)]; try exact q278
        have q279 : M25 279 = M18 279 := by rw [hM25, sI_n _ _ _ (by decide)]; try exact q279
        have e1 : M25 258 = M21 258 := by rw [hM25, sI_n _ _ _ (by decide)]
        have e277 : M25 277 = M21 277 := by rw [hM25, sI_n _ _ _ (by decide)]
        have e278 : M25 278 = M21 278 := by rw [hM25, sI_n _ _ _ (by decide)]
        have e279 : M25 279 = M21 279 := by rw [hM25, sI_n _ _ _ (by decide)]
        have rp3 : RP (M21 258 29) (M21 277) (M21 258 31) (M21 278) (M21 279) _ _ := rp2
        rw [← e1, ← e277, ← e278, ← e279] at rp3
        have a293 : M25 293 = upd (M_27 293) x3_41.toNatClampNeg (M_27 293 x3_41.toNatClampNeg + 1) := by rw [hM25, sI_k, q293]; congr 1; simp only [ev24, gv23, gv14, gv8]
        obtain ⟨v26, ev26⟩ : ∃ y : Int32, y = x2_27 + 1 := ⟨_, rfl⟩
        try have fv26 := fadd rfl (by decide : (1 : Int32).toInt = 1) ev26 (by omega) (by omega)
        refine g_iinc C 2 v26 [(2, .int v26), (4, .int x4_41), (3, .int x3_41), (0, .ref (ad 258)), (1, .int x)] dX11_countDivisors_141 rfl (by rw [ev26]; rfl) (by decide) rfl ?_
        refine g_goto C 27 dX11_countDivisors_144 (by decide) ?_
        refine g_lv [0, 3, 4] [(2, .int v26), (0, .ref (ad 258)), (1, .int x)] rfl ?_
        have k29t := congrArg Int32.toInt k29
        have k31t := congrArg Int32.toInt k31
        have n2_ := ixn (x := x2_27) (by omega)
        have nv := ixn (x := v26) (by omega)
        have iv : v26.toNatClampNeg = x2_27.toNatClampNeg + 1 := by omega
        have eH : ∀ c, c < 10 → M25 293 c = dvH (M 260) (tfV (vR M) (M 282) (fun i => vR M 8 (40 * (M 258 27).toNatClampNeg + i)) (vR M 7 (M 258 27).toNatClampNeg).toNatClampNeg) x (M 258 2).toNatClampNeg v26.toNatClampNeg c := by
          intro c hc
          rw [iv, a293]
          show upd (M_27 293) x3_41.toNatClampNeg (M_27 293 x3_41.toNatClampNeg + 1) c = upd (dvH (M 260) (tfV (vR M) (M 282) (fun i => vR M 8 (40 * (M 258 27).toNatClampNeg + i)) (vR M 7 (M 258 27).toNatClampNeg).toNatClampNeg) x (M 258 2).toNatClampNeg x2_27.toNatClampNeg) (dvF (M 260) (tfV (vR M) (M 282) (fun i => vR M 8 (40 * (M 258 27).toNatClampNeg + i)) (vR M 7 (M 258 27).toNatClampNeg).toNatClampNeg) (dvH (M 260) (tfV (vR M) (M 282) (fun i => vR M 8 (40 * (M 258 27).toNatClampNeg + i)) (vR M 7 (M 258 27).toNatClampNeg).toNatClampNeg) x (M 258 2).toNatClampNeg x2_27.toNatClampNeg) x (M 258 2).toNatClampNeg).toNatClampNeg (dvH (M 260) (tfV (vR M) (M 282) (fun i => vR M 8 (40 * (M 258 27).toNatClampNeg + i)) (vR M 7 (M 258 27).toNatClampNeg).toNatClampNeg) x (M 258 2).toNatClampNeg x2_27.toNatClampNeg (dvF (M 260) (tfV (vR M) (M 282) (fun i => vR M 8 (40 * (M 258 27).toNatClampNeg + i)) (vR M 7 (M 258 27).toNatClampNeg).toNatClampNeg) (dvH (M 260) (tfV (vR M) (M 282) (fun i => vR M 8 (40 * (M 258 27).toNatClampNeg + i)) (vR M 7 (M 258 27).toNatClampNeg).toNatClampNeg) x (M 258 2).toNatClampNeg x2_27.toNatClampNeg) x (M 258 2).toNatClampNeg).toNatClampNeg + 1) c
          rw [← eb, upd_at, upd_at, j27_4 x3_41.toNatClampNeg (by omega)]
          by_cases e9 : c = x3_41.toNatClampNeg
          · rw [if_pos e9, if_pos e9]
          · rw [if_neg e9, if_neg e9]; exact j27_4 c hc
        have eR : RR M25 (dvS (M 260) (tfV (vR M) (M 282) (fun i => vR M 8 (40 * (M 258 27).toNatClampNeg + i)) (vR M 7 (M 258 27).toNatClampNeg).toNatClampNeg) x (M 258 2).toNatClampNeg v26.toNatClampNeg) (oneR (dvS (M 260) (tfV (vR M) (M 282) (fun i => vR M 8 (40 * (M 258 27).toNatClampNeg + i)) (vR M 7 (M 258 27).toNatClampNeg).toNatClampNeg) x (M 258 2).toNatClampNeg v26.toNatClampNeg)) := by
          rw [iv]
          show RR M25 (dvS (M 260) (tfV (vR M) (M 282) (fun i => vR M 8 (40 * (M 258 27).toNatClampNeg + i)) (vR M 7 (M 258 27).toNatClampNeg).toNatClampNeg) x (M 258 2).toNatClampNeg x2_27.toNatClampNeg ++ [dvF (M 260) (tfV (vR M) (M 282) (fun i => vR M 8 (40 * (M 258 27).toNatClampNeg + i)) (vR M 7 (M 258 27).toNatClampNeg).toNatClampNeg) (dvH (M 260) (tfV (vR M) (M 282) (fun i => vR M 8 (40 * (M 258 27).toNatClampNeg + i)) (vR M 7 (M 258 27).toNatClampNeg).toNatClampNeg) x (M 258 2).toNatClampNeg x2_27.toNatClampNeg) x (M 258 2).toNatClampNeg]) (oneR (dvS (M 260) (tfV (vR M) (M 282) (fun i => vR M 8 (40 * (M 258 27).toNatClampNeg + i)) (vR M 7 (M 258 27).toNatClampNeg).toNatClampNeg) x (M 258 2).toNatClampNeg x2_27.toNatClampNeg ++ [dvF (M 260) (tfV (vR M) (M 282) (fun i => vR M 8 (40 * (M 258 27).toNatClampNeg + i)) (vR M 7 (M 258 27).toNatClampNeg).toNatClampNeg) (dvH (M 260) (tfV (vR M) (M 282) (fun i => vR M 8 (40 * (M 258 27).toNatClampNeg + i)) (vR M 7 (M 258 27).toNatClampNeg).toNatClampNeg) x (M 258 2).toNatClampNeg x2_27.toNatClampNeg) x (M 258 2).toNatClampNeg]))
          rw [oneR_app, ← eb]
          exact rp3
        have eU : ∀ c, c < 10 → L22 284 c = (tfV (vR M) (M 282) (fun i => vR M 8 (40 * (M 258 27).toNatClampNeg + i)) (vR M 7 (M 258 27).toNatClampNeg).toNatClampNeg) c := fun c hc => (congrFun (show L22 284 = L_27 284 from p284) c).trans (j27_5 c hc)
        exact ih_27 (v26, M25, L22) ⟨by show 0 ≤ v26.toInt; omega, by show v26.toInt ≤ (M 258 28).toInt; omega, by show (M25 258 29).toInt = v26.toInt; omega, by show (M25 258 31).toInt = v26.toInt; omega, by show ∀ c, c < 10 → M25 293 c = dvH (M 260) (tfV (vR M) (M 282) (fun i => vR M 8 (40 * (M 258 27).toNatClampNeg + i)) (vR M 7 (M 258 27).toNatClampNeg).toNatClampNeg) x (M 258 2).toNatClampNeg v26.toNatClampNeg c; exact eH, by show ∀ c, c < 10 → L22 284 c = (tfV (vR M) (M 282) (fun i => vR M 8 (40 * (M 258 27).toNatClampNeg + i)) (vR M 7 (M 258 27).toNatClampNeg).toNatClampNeg) c; exact eU, by show RR M25 (dvS (M 260) (tfV (vR M) (M 282) (fun i => vR M 8 (40 * (M 258 27).toNatClampNeg + i)) (vR M 7 (M 258 27).toNatClampNeg).toNatClampNeg) x (M 258 2).toNatClampNeg v26.toNatClampNeg) (oneR (dvS (M 260) (tfV (vR M) (M 282) (fun i => vR M 8 (40 * (M 258 27).toNatClampNeg + i)) (vR M 7 (M 258 27).toNatClampNeg).toNatClampNeg) x (M 258 2).toNatClampNeg v26.toNatClampNeg)); exact eR, by show (M25 258 25).toInt = 0; rw [k25]; exact j41_9, hI, hF, hG⟩ (by show (31 - v26.toInt).toNat < (31 - x2_27.toInt).toNat; omega)
      ·
        have f27 := fnle rfl rfl c15
        refine g_aload_n C 3 dX11_countDivisors_50 rfl ?_
        refine g_get C (.ref (ad 260)) 3 in_X11_countDivisors_11 (List.mem_of_getElem? (i := 4) rfl) (by decide) (ce_model ad cs _ _) rfl (by decide) rfl rfl dX11_countDivisors_51 ?_
        refine g_iload C 0 dX11_countDivisors_54 rfl ?_
        refine g_iald C (by decide) (ce_m_draw ad cs _ _) (fin' (n := 10) rfl (by omega) (by omega)) dX11_countDivisors_56 ?_
        refine g_ni (fun v28 ev28 => ?_)
        have gv28 : v28 = M 260 x4_41.toNatClampNeg := ev28.trans (hF 260 x4_41.toNatClampNeg (by omega))
        have tv28 := congrArg Int32.toInt gv28
        obtain ⟨bv28, dv28⟩ := (show rg 0 9 v28 from (by rw [ev28]; exact hI 260 x4_41.toNatClampNeg))
        subst gv28
        refine g_istore C [(5, .int ((M 260 x4_41.toNatClampNeg))), (4, .int x4_41), (3, .int x3_41), (2, .int x2_27), (0, .ref (ad 258)), (1, .int x)] dX11_countDivisors_57 (by decide) rfl ?_
        refine g_iload_n C 2 dX11_countDivisors_59 rfl ?_
        refine g_bipush C (-9) dX11_countDivisors_60 (by decide) ?_
        refine g_icmp_eq C 107 dX11_countDivisors_62 (by decide) (fun c29 => ?_) (fun c29 => ?_)
        ·
          have f30 := feq rfl (by decide : ((-9) : Int32).toInt = (-9)) c29
          refine g_iload C 0 dX11_countDivisors_107 rfl ?_
          refine g_goto C 113 dX11_countDivisors_109 (by decide) ?_
          refine g_istore_n C [(3, .int ((M 260 x4_41.toNatClampNeg))), (5, .int ((M 260 x4_41.toNatClampNeg))), (4, .int x4_41), (2, .int x2_27), (0, .ref (ad 258)), (1, .int x)] dX11_countDivisors_113 (by decide) rfl ?_
          obtain ⟨v31, ev31⟩ : ∃ y : Int32, y = x4_41 + 1 := ⟨_, rfl⟩
          try have fv31 := fadd rfl (by decide : (1 : Int32).toInt = 1) ev31 (by omega) (by omega)
          refine g_iinc C 2 v31 [(4, .int v31), (3, .int ((M 260 x4_41.toNatClampNeg))), (5, .int ((M 260 x4_41.toNatClampNeg))), (2, .int x2_27), (0, .ref (ad 258)), (1, .int x)] dX11_countDivisors_114 rfl (by rw [ev31]; rfl) (by decide) rfl ?_
          refine g_goto C 41 dX11_countDivisors_117 (by decide) ?_
          refine g_lv [0, 1, 3, 4, 5] [(4, .int v31), (3, .int ((M 260 x4_41.toNatClampNeg))), (2, .int x2_27), (0, .ref (ad 258)), (1, .int x)] rfl ?_
          have nv := ixn (x := v31) (by omega)
          have iv : v31.toNatClampNeg = x4_41.toNatClampNeg + 1 := by omega
          exact ih_41 (v31, ((M 260 x4_41.toNatClampNeg)), M_41, L_41) ⟨by show 0 ≤ v31.toInt; omega, by show v31.toInt ≤ (M 258 2).toInt; omega, by show (((M 260 x4_41.toNatClampNeg)).toInt = -9 ∧ v31.toInt = 0) ∨ (0 ≤ ((M 260 x4_41.toNatClampNeg)).toInt ∧ ((M 260 x4_41.toNatClampNeg)).toInt < 10); omega, by show M_41 258 29 = M_27 258 29; exact k29.trans j41_3, by show M_41 258 31 = M_27 258 31; exact k31.trans j41_4, by show M_41 293 = M_27 293; exact j41_5, by show L_41 284 = L_27 284; exact j41_6, by show ((M 260 x4_41.toNatClampNeg)) = dvF (M 260) (L_27 284) (M_27 293) x v31.toNatClampNeg; rw [iv]; show _ = (if (dvF (M 260) (L_27 284) (M_27 293) x x4_41.toNatClampNeg).toInt = -9 ∨ (L_27 284 (dvF (M 260) (L_27 284) (M_27 293) x x4_41.toNatClampNeg).toNatClampNeg * (1 + x * M_27 293 (M 260 x4_41.toNatClampNeg).toNatClampNeg).toInt64).toInt < (L_27 284 (M 260 x4_41.toNatClampNeg).toNatClampNeg * (1 + x * M_27 293 (dvF (M 260) (L_27 284) (M_27 293) x x4_41.toNatClampNeg).toNatClampNeg).toInt64).toInt then (M 260 x4_41.toNatClampNeg) else dvF (M 260) (L_27 284) (M_27 293) x x4_41.toNatClampNeg); rw [← j41_7]; first | rw [if_pos (by omega)] | rw [if_neg (by omega)], by show M_41 277 = M_27 277 ∧ M_41 278 = M_27 278 ∧ M_41 279 = M_27 279; exact j41_8, by show (M_41 258 25).toInt = 0; exact j41_9, hI, hF, hG⟩ (by show (11 - v31.toInt).toNat < (11 - x4_41.toInt).toNat; omega)
        ·
          have f32 := fne rfl (by decide : ((-9) : Int32).toInt = (-9)) c29
          refine g_aload_n C 4 dX11_countDivisors_65 rfl ?_
          refine g_get C (.ref (ad 284)) 38 in_X11_countDivisors_11 (List.mem_of_getElem? (i := 5) rfl) (by decide) (ce_model ad cs _ _) rfl (by decide) rfl rfl dX11_countDivisors_66 ?_
          refine g_iload C 0 dX11_countDivisors_69 rfl ?_
          refine g_lald C (by decide) (ce_m_ups ad cs _ _) (fin' (n := 10) rfl (by omega) (by omega)) dX11_countDivisors_71 ?_
          refine g_nl (fun v33 ev33 => ?_)
          have gv33 : v33 = L_27 284 (((M 260 x4_41.toNatClampNeg)).toNatClampNeg) := ev33.trans (congrFun p284 _)
          have tv33 := congrArg Int64.toInt gv33
          refine g_iconst C 1 dX11_countDivisors_72 (by decide) ?_
          refine g_iload_n C 5 dX11_countDivisors_73 rfl ?_
          refine g_aload_n C 4 dX11_countDivisors_74 rfl ?_
          refine g_get C (.ref (ad 293)) 49 in_X11_countDivisors_11 (List.mem_of_getElem? (i := 1) rfl) (by decide) (ce_model ad cs _ _) rfl (by decide) rfl rfl dX11_countDivisors_75 ?_
          refine g_iload C 0 dX11_countDivisors_78 rfl ?_
          refine g_iald C (by decide) (ce_m_had ad cs _ _) (fin' (n := 10) rfl (by omega) (by omega)) dX11_countDivisors_80 ?_
          refine g_ni (fun v34 ev34 => ?_)
          have gv34 : v34 = M_27 293 (((M 260 x4_41.toNatClampNeg)).toNatClampNeg) := ev34.trans (congrFun q293 _)
          have tv34 := congrArg Int32.toInt gv34
          refine g_imul C dX11_countDivisors_81 ?_
          refine g_ni (fun v35 ev35 => ?_)
          try have fv35 := fmul rfl rfl ev35 (by omega) (by omega)
          refine g_iadd C dX11_countDivisors_82 ?_
          refine g_ni (fun v36 ev36 => ?_)
          try have fv36 := fadd (by decide : (1 : Int32).toInt = 1) rfl ev36 (by omega) (by omega)
          refine g_i2l C dX11_countDivisors_83 ?_
          refine g_nl (fun v37 ev37 => ?_)
          have fv37 := fi2l rfl ev37
          refine g_aload_n C 4 dX11_countDivisors_84 rfl ?_
          refine g_get C (.ref (ad 284)) 38 in_X11_countDivisors_11 (List.mem_of_getElem? (i := 5) rfl) (by decide) (ce_model ad cs _ _) rfl (by decide) rfl rfl dX11_countDivisors_85 ?_
          refine g_iload_n C 2 dX11_countDivisors_88 rfl ?_
          refine g_lald C (by decide) (ce_m_ups ad cs _ _) (fin' (n := 10) rfl (by omega) (by omega)) dX11_countDivisors_89 ?_
          refine g_nl (fun v38 ev38 => ?_)
          have gv38 : v38 = L_27 284 x3_41.toNatClampNeg := ev38.trans (congrFun p284 _)
          have tv38 := congrArg Int64.toInt gv38
          refine g_iconst C 1 dX11_countDivisors_90 (by decide) ?_
          refine g_iload_n C 5 dX11_countDivisors_91 rfl ?_
          refine g_aload_n C 4 dX11_countDivisors_92 rfl ?_
          refine g_get C (.ref (ad 293)) 49 in_X11_countDivisors_11 (List.mem_of_getElem? (i := 1) rfl) (by decide) (ce_model ad cs _ _) rfl (by decide) rfl rfl dX11_countDivisors_93 ?_
          refine g_iload_n C 2 dX11_countDivisors_96 rfl ?_
          refine g_iald C (by decide) (ce_m_had ad cs _ _) (fin' (n := 10) rfl (by omega) (by omega)) dX11_countDivisors_97 ?_
          refine g_ni (fun v39 ev39 => ?_)
          have gv39 : v39 = M_27 293 x3_41.toNatClampNeg := ev39.trans (congrFun q293 _)
          have tv39 := congrArg Int32.toInt gv39
          refine g_imul C dX11_countDivisors_98 ?_
          refine g_ni (fun v40 ev40 => ?_)
          try have fv40 := fmul rfl rfl ev40 (by omega) (by omega)
          refine g_iadd C dX11_countDivisors_99 ?_
          refine g_ni (fun v41 ev41 => ?_)
          try have fv41 := fadd (by decide : (1 : Int32).toInt = 1) rfl ev41 (by omega) (by omega)
          refine g_i2l C dX11_countDivisors_100 ?_
          refine g_nl (fun v42 ev42 => ?_)
          have fv42 := fi2l rfl ev42
          refine g_callSi C (n := 4) (As := [.long v33, .long v37, .long v38, .long v42]) (st := []) (k_X11_isMore l D ad cs _ _ v33 v37 v38 v42 hI ) gX11_countDivisors_X11_isMore rfl rfl rfl (by decide +kernel) ⟨Nat.le_of_ble_eq_true rfl, Nat.le_of_ble_eq_true rfl⟩ rfl (Nat.le_of_ble_eq_true rfl) ⟨Nat.zero_le _, Nat.zero_le _⟩ rfl dX11_countDivisors_101 (fun r43 M44 L45 hr43 => ?_)
          obtain ⟨hq1, hq2, hr43⟩ := hr43
          obtain rfl := hq1.symm
          obtain rfl := hq2.symm
          have hr43 : zo r43 ((L_27 284 x3_41.toNatClampNeg * (1 + x * M_27 293 (M 260 x4_41.toNatClampNeg).toNatClampNeg).toInt64).toInt < (L_27 284 (M 260 x4_41.toNatClampNeg).toNatClampNeg * (1 + x * M_27 293 x3_41.toNatClampNeg).toInt64).toInt) := by
            have h9 := hr43
            simp only [ev42, ev41, ev40, gv39, gv38, ev37, ev36, ev35, gv34, gv33, gv14, gv8] at h9
            exact h9
          obtain ⟨bar43, bbr43⟩ := zo_b hr43
          refine g_if_eq C 112 dX11_countDivisors_104 (by decide) (fun c46 => ?_) (fun c46 => ?_)
          ·
            have f47 := feq rfl (by decide : (0 : Int32).toInt = 0) c46
            have pr43 := zo_f hr43 c46
            try dsimp only [hasC, hasB, hasX, hasM, ofS, ofK, bt] at pr43
            refine g_iload_n C 2 dX11_countDivisors_112 rfl ?_
            refine g_istore_n C [(3, .int x3_41), (5, .int ((M 260 x4_41.toNatClampNeg))), (4, .int x4_41), (2, .int x2_27), (0, .ref (ad 258)), (1, .int x)] dX11_countDivisors_113 (by decide) rfl ?_
            obtain ⟨v48, ev48⟩ : ∃ y : Int32, y = x4_41 + 1 := ⟨_, rfl⟩
            try have fv48 := fadd rfl (by decide : (1 : Int32).toInt = 1) ev48 (by omega) (by omega)
            refine g_iinc C 2 v48 [(4, .int v48), (3, .int x3_41), (5, .int ((M 260 x4_41.toNatClampNeg))), (2, .int x2_27), (0, .ref (ad 258)), (1, .int x)] dX11_countDivisors_114 rfl (by rw [ev48]; rfl) (by decide) rfl ?_
            refine g_goto C 41 dX11_countDivisors_117 (by decide) ?_
            refine g_lv [0, 1, 3, 4, 5] [(4, .int v48), (3, .int x3_41), (2, .int x2_27), (0, .ref (ad 258)), (1, .int x)] rfl ?_
            have nv := ixn (x := v48) (by omega)
            have iv : v48.toNatClampNeg = x4_41.toNatClampNeg + 1 := by omega
            exact ih_41 (v48, x3_41, M_41, L_41) ⟨by show 0 ≤ v48.toInt; omega, by show v48.toInt ≤ (M 258 2).toInt; omega, by show (x3_41.toInt = -9 ∧ v48.toInt = 0) ∨ (0 ≤ x3_41.toInt ∧ x3_41.toInt < 10); omega, by show M_41 258 29 = M_27 258 29; exact k29.trans j41_3, by show M_41 258 31 = M_27 258 31; exact k31.trans j41_4, by show M_41 293 = M_27 293; exact j41_5, by show L_41 284 = L_27 284; exact j41_6, by show x3_41 = dvF (M 260) (L_27 284) (M_27 293) x v48.toNatClampNeg; rw [iv]; show _ = (if (dvF (M 260) (L_27 284) (M_27 293) x x4_41.toNatClampNeg).toInt = -9 ∨ (L_27 284 (dvF (M 260) (L_27 284) (M_27 293) x x4_41.toNatClampNeg).toNatClampNeg * (1 + x * M_27 293 (M 260 x4_41.toNatClampNeg).toNatClampNeg).toInt64).toInt < (L_27 284 (M 260 x4_41.toNatClampNeg).toNatClampNeg * (1 + x * M_27 293 (dvF (M 260) (L_27 284) (M_27 293) x x4_41.toNatClampNeg).toNatClampNeg).toInt64).toInt then (M 260 x4_41.toNatClampNeg) else dvF (M 260) (L_27 284) (M_27 293) x x4_41.toNatClampNeg); rw [← j41_7]; first | rw [if_pos (by omega)] | rw [if_neg (by omega)], by show M_41 277 = M_27 277 ∧ M_41 278 = M_27 278 ∧ M_41 279 = M_27 279; exact j41_8, by show (M_41 258 25).toInt = 0; exact j41_9, hI, hF, hG⟩ (by show (11 - v48.toInt).toNat < (11 - x4_41.toInt).toNat; omega)
          ·
            have f49 := fne rfl (by decide : (0 : Int32).toInt = 0) c46
            have pr43 := zo_t hr43 c46
            try dsimp only [hasC, hasB, hasX, hasM, ofS, ofK, bt] at pr43
            refine g_iload C 0 dX11_countDivisors_107 rfl ?_
            refine g_goto C 113 dX11_countDivisors_109 (by decide) ?_
            refine g_istore_n C [(3, .int ((M 260 x4_41.toNatClampNeg))), (5, .int ((M 260 x4_41.toNatClampNeg))), (4, .int x4_41), (2, .int x2_27), (0, .ref (ad 258)), (1, .int x)] dX11_countDivisors_113 (by decide) rfl ?_
            obtain ⟨v50, ev50⟩ : ∃ y : Int32, y = x4_41 + 1 := ⟨_, rfl⟩
            try have fv50 := fadd rfl (by decide : (1 : Int32).toInt = 1) ev50 (by omega) (by omega)
            refine g_iinc C 2 v50 [(4, .int v50), (3, .int ((M 260 x4_41.toNatClampNeg))), (5, .int ((M 260 x4_41.toNatClampNeg))), (2, .int x2_27), (0, .ref (ad 258)), (1, .int x)] dX11_countDivisors_114 rfl (by rw [ev50]; rfl) (by decide) rfl ?_
            refine g_goto C 41 dX11_countDivisors_117 (by decide) ?_
            refine g_lv [0, 1, 3, 4, 5] [(4, .int v50), (3, .int ((M 260 x4_41.toNatClampNeg))), (2, .int x2_27), (0, .ref (ad 258)), (1, .int x)] rfl ?_
            have nv := ixn (x := v50) (by omega)
            have iv : v50.toNatClampNeg = x4_41.toNatClampNeg + 1 := by omega
            exact ih_41 (v50, ((M 260 x4_41.toNatClampNeg)), M_41, L_41) ⟨by show 0 ≤ v50.toInt; omega, by show v50.toInt ≤ (M 258 2).toInt; omega, by show (((M 260 x4_41.toNatClampNeg)).toInt = -9 ∧ v50.toInt = 0) ∨ (0 ≤ ((M 260 x4_41.toNatClampNeg)).toInt ∧ ((M 260 x4_41.toNatClampNeg)).toInt < 10); omega, by show M_41 258 29 = M_27 258 29; exact k29.trans j41_3, by show M_41 258 31 = M_27 258 31; exact k31.trans j41_4, by show M_41 293 = M_27 293; exact j41_5, by show L_41 284 = L_27 284; exact j41_6, by show ((M 260 x4_41.toNatClampNeg)) = dvF (M 260) (L_27 284) (M_27 293) x v50.toNatClampNeg; rw [iv]; show _ = (if (dvF (M 260) (L_27 284) (M_27 293) x x4_41.toNatClampNeg).toInt = -9 ∨ (L_27 284 (dvF (M 260) (L_27 284) (M_27 293) x x4_41.toNatClampNeg).toNatClampNeg * (1 + x * M_27 293 (M 260 x4_41.toNatClampNeg).toNatClampNeg).toInt64).toInt < (L_27 284 (M 260 x4_41.toNatClampNeg).toNatClampNeg * (1 + x * M_27 293 (dvF (M 260) (L_27 284) (M_27 293) x x4_41.toNatClampNeg).toNatClampNeg).toInt64).toInt then (M 260 x4_41.toNatClampNeg) else dvF (M 260) (L_27 284) (M_27 293) x x4_41.toNatClampNeg); rw [← j41_7]; first | rw [if_pos (by omega)] | rw [if_neg (by omega)], by show M_41 277 = M_27 277 ∧ M_41 278 = M_27 278 ∧ M_41 279 = M_27 279; exact j41_8, by show (M_41 258 25).toInt = 0; exact j41_9, hI, hF, hG⟩ (by show (11 - v50.toInt).toNat < (11 - x4_41.toInt).toNat; omega)
  ·
    have f51 := fnle (by decide : (10 : Int32).toInt = 10) rfl c5
    refine g_aload_n C 1 dX11_countDivisors_12 rfl ?_
    refine g_get C (.ref (ad 293)) 49 in_X11_countDivisors_11 (List.mem_of_getElem? (i := 1) rfl) (by decide) (ce_model ad cs _ _) rfl (by decide) rfl rfl dX11_countDivisors_13 ?_
    refine g_iload_n C 0 dX11_countDivisors_16 rfl ?_
    refine g_iconst C 0 dX11_countDivisors_17 (by decide) ?_
    refine g_iast C (by decide) (ce_m_had ad cs _ _) (by rw [sI_k]; rfl) (fin' (n := 10) rfl (by omega) (by omega)) dX11_countDivisors_18 ?_
    refine g_nm (fun M52 hM52 => ?_)
    have zy53 : (0 : Int32).toInt = 0 := by decide
    have hI : IR M52 := by rw [hM52]; exact hI.st (show bR 293 _ _ from trivial)
    have hF : ∀ k i, ¬ (k = 258 ∧ i = 25) ∧ ¬ (k = 258 ∧ i = 29) ∧ ¬ (k = 258 ∧ i = 31) ∧ k ≠ 277 ∧ k ≠ 278 ∧ k ≠ 279 ∧ k ≠ 293 → M52 k i = M k i := fun k i hk => by (rw [hM52, sI_at, if_neg (by omega)]; try exact hF k i hk)
    have k25 : M52 258 25 = M_6 258 25 := by rw [hM52, sI_n _ _ _ (by decide)]; try exact k25
    have k29 : M52 258 29 = M_6 258 29 := by rw [hM52, sI_n _ _ _ (by decide)]; try exact k29
    have k31 : M52 258 31 = M_6 258 31 := by rw [hM52, sI_n _ _ _ (by decide)]; try exact k31
    have q277 : M52 277 = M_6 277 := by rw [hM52, sI_n _ _ _ (by decide)]; try exact q277
    have q278 : M52 278 = M_6 278 := by rw [hM52, sI_n _ _ _ (by decide)]; try exact q278
    have q279 : M52 279 = M_6 279 := by rw [hM52, sI_n _ _ _ (by decide)]; try exact q279
    obtain ⟨v54, ev54⟩ : ∃ y : Int32, y = x2_6 + 1 := ⟨_, rfl⟩
    try have fv54 := fadd rfl (by decide : (1 : Int32).toInt = 1) ev54 (by omega) (by omega)
    refine g_iinc C 0 v54 [(2, .int v54), (0, .ref (ad 258)), (1, .int x)] dX11_countDivisors_19 rfl (by rw [ev54]; rfl) (by decide) rfl ?_
    refine g_goto C 6 dX11_countDivisors_22 (by decide) ?_
    have nv := ixn (x := v54) (by omega)
    have hall : ∀ c : Nat, c < v54.toNatClampNeg → M52 293 c = 0 := by
      intro c hc
      rw [hM52, sI_at]
      by_cases e9 : c = x2_6.toNatClampNeg
      · rw [if_pos ⟨rfl, e9⟩]
      · rw [if_neg (fun h => e9 h.2)]; exact j6_4 c (by omega)
    exact ih_6 (v54, M52, L_6) ⟨by show 0 ≤ v54.toInt; omega, by show v54.toInt ≤ 10; omega, by show (M52 258 29).toInt = 0; rw [k29]; exact j6_2, by show (M52 258 31).toInt = 0; rw [k31]; exact j6_3, by show ∀ c : Nat, c < v54.toNatClampNeg → M52 293 c = 0; exact hall, by show (M52 258 25).toInt = 0; rw [k25]; exact j6_5, by show ∀ c, c < 10 → L_6 284 c = (tfV (vR M) (M 282) (fun i => vR M 8 (40 * (M 258 27).toNatClampNeg + i)) (vR M 7 (M 258 27).toNatClampNeg).toNatClampNeg) c; exact j6_6, hI, hF, hG⟩ (by show (11 - v54.toInt).toNat < (11 - x2_6.toInt).toNat; omega)
set_option maxHeartbeats 4000000 in
set_option maxRecDepth 100000 in
theorem k_X11_countRunOff (l : Launch) (D : va_G) (ad : Nat → Nat) (cs : Nat → ClassId) (M : MI) (L : ML)  (hI : IR M) (hD : DP (vR M)) (hNI0 : NIn (M 282) (M 258 2).toInt) (hW : WT L) (hs0 : (M 258 25).toInt = 0) (hg0 : (M 258 29).toInt = 0) (hm0 : (M 258 31).toInt = 0) (hC : 1 ≤ cI (M 282) (M 258 2).toNatClampNeg) (hs1 : 1 ≤ (M 258 28).toInt) (hX : hasX (vR M) (M 258 27)) (hB8 : ∀ i : Nat, (vR M 8 i).toInt = -9 ∨ (0 ≤ (vR M 8 i).toInt ∧ (vR M 8 i).toInt ≤ 59)) (hWp : ∀ i, i < 40 → (vR M 8 (40 * (M 258 27).toNatClampNeg + i)).toInt ≠ -9 → L 286 i = (vR M 3 (vR M 8 (40 * (M 258 27).toNatClampNeg + i)).toNatClampNeg).toInt64 ∧ L 287 i = 1) : Cv l yX11_countRunOff wsX11_countRunOff ({ frames := 4, cells := 0, slots := 0, locals := 103 }) D ad cs [.ref (ad 258)] M L (fun M1 L1 => (RR M1 (roT (vR M) (M 260) (M 282) (fun i => vR M 8 (40 * (M 258 27).toNatClampNeg + i)) (vR M 7 (M 258 27).toNatClampNeg).toNatClampNeg (M 258 2).toNatClampNeg (cI (M 282) (M 258 2).toNatClampNeg - 1) (min (cI (M 282) (M 258 2).toNatClampNeg - 1) ((M 258 28).toNatClampNeg - 1))) (twoR (roO (vR M) (M 260) (M 282) (fun i => vR M 8 (40 * (M 258 27).toNatClampNeg + i)) (vR M 7 (M 258 27).toNatClampNeg).toNatClampNeg (M 258 2).toNatClampNeg (cI (M 282) (M 258 2).toNatClampNeg - 1)) ++ [(1, roW (vR M) (M 260) (M 282) (fun i => vR M 8 (40 * (M 258 27).toNatClampNeg + i)) (vR M 7 (M 258 27).toNatClampNeg).toNatClampNeg (M 258 2).toNatClampNeg (cI (M 282) (M 258 2).toNatClampNeg - 1))]) ∧ (M1 258 25).toInt = 0) ∧ IR M1 ∧ (∀ k i, ¬ (k = 258 ∧ i = 25) ∧ ¬ (k = 258 ∧ i = 29) ∧ ¬ (k = 258 ∧ i = 31) ∧ k ≠ 277 ∧ k ≠ 278 ∧ k ≠ 279 ∧ k ≠ 282 ∧ k ≠ 294 → M1 k i = M k i) ∧ ∀ k i, ¬ (k = 258 ∧ i = 23) ∧ ¬ (k = 258 ∧ i = 24) ∧ k ≠ 284 ∧ k ≠ 285 ∧ k ≠ 280 ∧ k ≠ 281 → L1 k i = L k i) := by
  refine enter_v RX11 rfl [(0, .ref (ad 258))] rfl (Nat.le_of_ble_eq_true rfl) (by decide +kernel) rfl ?_
  intro p e s m below meth c C hr
  have hF : ∀ k i, ¬ (k = 258 ∧ i = 25) ∧ ¬ (k = 258 ∧ i = 29) ∧ ¬ (k = 258 ∧ i = 31) ∧ k ≠ 277 ∧ k ≠ 278 ∧ k ≠ 279 ∧ k ≠ 282 ∧ k ≠ 294 → M k i = M k i := fun _ _ _ => rfl
  have hG : ∀ k i, ¬ (k = 258 ∧ i = 23) ∧ ¬ (k = 258 ∧ i = 24) ∧ k ≠ 284 ∧ k ≠ 285 ∧ k ≠ 280 ∧ k ≠ 281 → L k i = L k i := fun _ _ _ => rfl
  have hI0 := hI
  have hX1 := hX.1
  have hX2 := hX.2
  obtain ⟨sza, szb⟩ := (show rg 0 40 (vR M 7 (M 258 27).toNatClampNeg) from hI 266 _)
  have nsz := ixn sza
  obtain ⟨ca, cb⟩ := (show rg 0 10 (M 258 2) from hI 258 2)
  have n02 := ixn ca
  obtain ⟨sa, sb⟩ := (show rg 0 30 (M 258 28) from hI 258 28)
  have hle := cI_le (M 282) (M 258 2).toNatClampNeg
  have nsd := ixn sa
  have k25 : M 258 25 = M 258 25 := rfl
  have k29 : M 258 29 = M 258 29 := rfl
  have k31 : M 258 31 = M 258 31 := rfl
  have l23 : L 258 23 = L 258 23 := rfl
  have l24 : L 258 24 = L 258 24 := rfl
  have p280 : L 280 = L 280 := rfl
  have p281 : L 281 = L 281 := rfl
  have p284 : L 284 = L 284 := rfl
  have p285 : L 285 = L 285 := rfl
  have q277 : M 277 = M 277 := rfl
  have q278 : M 278 = M 278 := rfl
  have q279 : M 279 = M 279 := rfl
  have q282 : M 282 = M 282 := rfl
  have q294 : M 294 = M 294 := rfl
  refine g_iconst C 0 dX11_countRunOff_0 (by decide) ?_
  refine g_istore_n C [(1, .int 0), (0, .ref (ad 258))] dX11_countRunOff_1 (by decide) rfl ?_
  have zy1 : (0 : Int32).toInt = 0 := by decide
  refine g_loop (α := Int32 × MI × ML) (fun a => cI (a.2.1 282) (M 258 2).toNatClampNeg) (fun a => (0 ≤ a.1.toInt) ∧ (a.1.toInt + (cI (a.2.1 282) (M 258 2).toNatClampNeg : Int) = (cI (M 282) (M 258 2).toNatClampNeg : Int)) ∧ (1 ≤ cI (a.2.1 282) (M 258 2).toNatClampNeg) ∧ ((a.2.1 258 31).toInt = a.1.toInt) ∧ ((a.2.1 258 29).toInt = 0) ∧ (NIn (a.2.1 282) (M 258 2).toInt) ∧ (a.2.1 282 = roI (vR M) (M 260) (M 282) (fun i => vR M 8 (40 * (M 258 27).toNatClampNeg + i)) (vR M 7 (M 258 27).toNatClampNeg).toNatClampNeg (M 258 2).toNatClampNeg a.1.toNatClampNeg) ∧ (RR a.2.1 [] (twoR (roO (vR M) (M 260) (M 282) (fun i => vR M 8 (40 * (M 258 27).toNatClampNeg + i)) (vR M 7 (M 258 27).toNatClampNeg).toNatClampNeg (M 258 2).toNatClampNeg a.1.toNatClampNeg))) ∧ (∀ j : Nat, j < a.1.toNatClampNeg → a.2.1 294 j = roC (vR M) (M 260) (M 282) (fun i => vR M 8 (40 * (M 258 27).toNatClampNeg + i)) (vR M 7 (M 258 27).toNatClampNeg).toNatClampNeg (M 258 2).toNatClampNeg j) ∧ ((a.2.1 258 25).toInt = 0) ∧ IR a.2.1 ∧ (∀ k i, ¬ (k = 258 ∧ i = 25) ∧ ¬ (k = 258 ∧ i = 29) ∧ ¬ (k = 258 ∧ i = 31) ∧ k ≠ 277 ∧ k ≠ 278 ∧ k ≠ 279 ∧ k ≠ 282 ∧ k ≠ 294 → a.2.1 k i = M k i) ∧ (∀ k i, ¬ (k = 258 ∧ i = 23) ∧ ¬ (k = 258 ∧ i = 24) ∧ k ≠ 284 ∧ k ≠ 285 ∧ k ≠ 280 ∧ k ≠ 281 → a.2.2 k i = L k i)) (fun a => a.2.1) (fun a => a.2.2) (fun a => [(1, .int a.1), (0, .ref (ad 258))]) ((0 : Int32), M, L) ⟨by show 0 ≤ (0 : Int32).toInt; omega, by show (0 : Int32).toInt + (cI (M 282) (M 258 2).toNatClampNeg : Int) = (cI (M 282) (M 258 2).toNatClampNeg : Int); omega, by show 1 ≤ cI (M 282) (M 258 2).toNatClampNeg; omega, by show (M 258 31).toInt = (0 : Int32).toInt; omega, by show (M 258 29).toInt = 0; omega, by show NIn (M 282) (M 258 2).toInt; exact hNI0, by show M 282 = roI (vR M) (M 260) (M 282) (fun i => vR M 8 (40 * (M 258 27).toNatClampNeg + i)) (vR M 7 (M 258 27).toNatClampNeg).toNatClampNeg (M 258 2).toNatClampNeg (0 : Int32).toNatClampNeg; rfl, by show RR M [] (twoR (roO (vR M) (M 260) (M 282) (fun i => vR M 8 (40 * (M 258 27).toNatClampNeg + i)) (vR M 7 (M 258 27).toNatClampNeg).toNatClampNeg (M 258 2).toNatClampNeg (0 : Int32).toNatClampNeg)); exact RP_0 hg0 hm0, by show ∀ j : Nat, j < (0 : Int32).toNatClampNeg → M 294 j = roC (vR M) (M 260) (M 282) (fun i => vR M 8 (40 * (M 258 27).toNatClampNeg + i)) (vR M 7 (M 258 27).toNatClampNeg).toNatClampNeg (M 258 2).toNatClampNeg j; intro j hj; exact absurd hj (by show ¬ j < 0; omega), by show (M 258 25).toInt = 0; exact hs0, hI, hF, hG⟩ rfl rfl rfl ?_
  rintro ⟨x1_2, M_2, L_2⟩ ⟨j2_0, j2_1, j2_2, j2_3, j2_4, j2_5, j2_6, j2_7, j2_8, j2_9, hI, hF, hG⟩ ih_2
  dsimp only at j2_0 j2_1 j2_2 j2_3 j2_4 j2_5 j2_6 j2_7 j2_8 j2_9 hI hF hG ih_2 ⊢
  have k25 : M_2 258 25 = M_2 258 25 := rfl
  have k29 : M_2 258 29 = M_2 258 29 := rfl
  have k31 : M_2 258 31 = M_2 258 31 := rfl
  have l23 : L_2 258 23 = L_2 258 23 := rfl
  have l24 : L_2 258 24 = L_2 258 24 := rfl
  have p280 : L_2 280 = L_2 280 := rfl
  have p281 : L_2 281 = L_2 281 := rfl
  have p284 : L_2 284 = L_2 284 := rfl
  have p285 : L_2 285 = L_2 285 := rfl
  have q277 : M_2 277 = M_2 277 := rfl
  have q278 : M_2 278 = M_2 278 := rfl
  have q279 : M_2 279 = M_2 279 := rfl
  have q282 : M_2 282 = M_2 282 := rfl
  have q294 : M_2 294 = M_2 294 := rfl
  have hNI := j2_5
  have n1_ := ixn (x := x1_2) (by omega)
  refine g_aload_n C 1 dX11_countRunOff_2 rfl ?_
  refine g_callVi C (n := 0) (As := []) (st := []) (s_X11_inMany l D ad cs _ _  hI ) gX11_countRunOff_X11_inMany rfl rfl rfl (by decide +kernel) ⟨Nat.le_of_ble_eq_true rfl, Nat.le_of_ble_eq_true rfl⟩ rfl (Nat.le_of_ble_eq_true rfl) ⟨Nat.zero_le _, Nat.zero_le _⟩ (by decide) (ce_model ad cs _ _) rfl rfl dX11_countRunOff_3 (fun r2 M3 L4 hr2 => ?_)
  obtain ⟨hq1, hq2, hr2⟩ := hr2
  obtain rfl := hq1.symm
  obtain rfl := hq2.symm
  have tin := hr2
  rw [show (M_2 258 2).toNatClampNeg = (M 258 2).toNatClampNeg from congrArg Int32.toNatClampNeg (hF 258 2 (by omega))] at tin
  refine g_iconst C 1 dX11_countRunOff_6 (by decide) ?_
  refine g_icmp_le C 45 dX11_countRunOff_7 (by decide) (fun c5 => ?_) (fun c5 => ?_)
  ·
    have f6 := fle rfl (by decide : (1 : Int32).toInt = 1) c5
    have hr9 : x1_2.toNatClampNeg = cI (M 282) (M 258 2).toNatClampNeg - 1 := by have n1_ := ixn (x := x1_2) (by omega); omega
    have n1_ := ixn (x := x1_2) (by omega)
    refine g_aload_n C 1 dX11_countRunOff_45 rfl ?_
    have hF0 := hF
    have hG0 := hG
    refine g_callVv C (n := 0) (As := []) (st := []) (k_X11_tallyFirsts l D ad cs _ _  hI (fun i hi => by rw [hG 286 i (by omega), hG 287 i (by omega)]; exact hW i hi) (by omega) (by rw [show vR M_2 = vR M from vR_fr (fun k i hk => hF k i (by omega)), hF 258 27 (by omega)]; exact hX) (by rw [show vR M_2 = vR M from vR_fr (fun k i hk => hF k i (by omega))]; exact hB8)) gX11_countRunOff_X11_tallyFirsts rfl rfl rfl (by decide +kernel) ⟨Nat.le_of_ble_eq_true rfl, Nat.le_of_ble_eq_true rfl⟩ rfl (Nat.le_of_ble_eq_true rfl) ⟨Nat.zero_le _, Nat.zero_le _⟩ (by decide) (ce_model ad cs _ _) rfl rfl dX11_countRunOff_46 (fun M8 L9 hr7 => ?_)
    obtain ⟨hr7, hI, hFr7, hGr7⟩ := hr7
    have hF : ∀ k i, ¬ (k = 258 ∧ i = 25) ∧ ¬ (k = 258 ∧ i = 29) ∧ ¬ (k = 258 ∧ i = 31) ∧ k ≠ 277 ∧ k ≠ 278 ∧ k ≠ 279 ∧ k ≠ 282 ∧ k ≠ 294 → M8 k i = M k i := fun k i hk => by (rw [hFr7 k i (by omega)]; try exact hF k i hk)
    have hG : ∀ k i, ¬ (k = 258 ∧ i = 23) ∧ ¬ (k = 258 ∧ i = 24) ∧ k ≠ 284 ∧ k ≠ 285 ∧ k ≠ 280 ∧ k ≠ 281 → L9 k i = L k i := fun k i hk => by (rw [hGr7 k i (by omega)]; try exact hG k i hk)
    have k29 : M8 258 29 = M_2 258 29 := (hFr7 258 29 (by omega)).trans k29
    have k31 : M8 258 31 = M_2 258 31 := (hFr7 258 31 (by omega)).trans k31
    have k25 : M8 258 25 = M8 258 25 := rfl
    have kt25 := congrArg Int32.toInt k25
    have kt29 := congrArg Int32.toInt k29
    have kt31 := congrArg Int32.toInt k31
    have l23 : L9 258 23 = L9 258 23 := rfl
    have l24 : L9 258 24 = L9 258 24 := rfl
    have p280 : L9 280 = L_2 280 := (funext (fun i => hGr7 280 i (by omega))).trans p280
    have p281 : L9 281 = L_2 281 := (funext (fun i => hGr7 281 i (by omega))).trans p281
    have p284 : L9 284 = L9 284 := rfl
    have p285 : L9 285 = L9 285 := rfl
    have q277 : M8 277 = M_2 277 := (funext (fun i => hFr7 277 i (by omega))).trans q277
    have q278 : M8 278 = M_2 278 := (funext (fun i => hFr7 278 i (by omega))).trans q278
    have q279 : M8 279 = M_2 279 := (funext (fun i => hFr7 279 i (by omega))).trans q279
    have q282 : M8 282 = M_2 282 := (funext (fun i => hFr7 282 i (by omega))).trans q282
    have q294 : M8 294 = M_2 294 := (funext (fun i => hFr7 294 i (by omega))).trans q294
    obtain ⟨tfo, tfs, tfe⟩ := hr7
    rw [show vR M_2 = vR M from vR_fr (fun k i hk => hF0 k i (by omega)), hF0 258 27 (by omega), show M_2 282 = (roI (vR M) (M 260) (M 282) (fun i => vR M 8 (40 * (M 258 27).toNatClampNeg + i)) (vR M 7 (M 258 27).toNatClampNeg).toNatClampNeg (M 258 2).toNatClampNeg x1_2.toNatClampNeg) from j2_6, show L_2 286 = L 286 from funext (fun i => hG0 286 i (by omega)), show L_2 287 = L 287 from funext (fun i => hG0 287 i (by omega))] at tfs tfe
    rw [stW_F (V := vR M) (I := (roI (vR M) (M 260) (M 282) (fun i => vR M 8 (40 * (M 258 27).toNatClampNeg + i)) (vR M 7 (M 258 27).toNatClampNeg).toNatClampNeg (M 258 2).toNatClampNeg x1_2.toNatClampNeg)) (p := (fun i => vR M 8 (40 * (M 258 27).toNatClampNeg + i))) (wu := L 286) (wd := L 287) (fun b => hI0 262 b) hWp (vR M 7 (M 258 27).toNatClampNeg).toNatClampNeg (by omega)] at tfs tfe
    have tfe : ∀ c, c < 10 → L9 284 c = tfV (vR M) (roI (vR M) (M 260) (M 282) (fun i => vR M 8 (40 * (M 258 27).toNatClampNeg + i)) (vR M 7 (M 258 27).toNatClampNeg).toNatClampNeg (M 258 2).toNatClampNeg x1_2.toNatClampNeg) (fun i => vR M 8 (40 * (M 258 27).toNatClampNeg + i)) (vR M 7 (M 258 27).toNatClampNeg).toNatClampNeg c ∧ L9 285 c = 1 := fun c hc => ⟨(tfe rfl c hc).1, (tfe rfl c hc).2.1⟩
    have tfs : (M8 258 25).toInt = 0 := tfs.mpr rfl
    refine g_aload_n C 1 dX11_countRunOff_49 rfl ?_
    refine g_callVi C (n := 0) (As := []) (st := []) (k_X11_greatest l D ad cs _ _  hI (DP_k hD (hF 258 2 (by omega)) (fun i => hF 260 i (by omega)))) gX11_countRunOff_X11_greatest rfl rfl rfl (by decide +kernel) ⟨Nat.le_of_ble_eq_true rfl, Nat.le_of_ble_eq_true rfl⟩ rfl (Nat.le_of_ble_eq_true rfl) ⟨Nat.zero_le _, Nat.zero_le _⟩ (by decide) (ce_model ad cs _ _) rfl rfl dX11_countRunOff_50 (fun r10 M11 L12 hr10 => ?_)
    obtain ⟨hq1, hq2, hr10⟩ := hr10
    obtain rfl := hq1.symm
    obtain rfl := hq2.symm
    obtain ⟨br10, ir10, xr10, yr10⟩ := hr10
    have w9 : (vR M8 0 0).toInt = (M 258 2).toInt := congrArg Int32.toInt (hF 258 2 (by omega))
    have hc282 : M8 282 = M_2 282 := q282
    have hpos : 0 < cI (M_2 282) (M 258 2).toNatClampNeg := by omega
    obtain ⟨c9, hc9, hi9⟩ := cI_ex _ hpos
    have hne9 := xr10 ⟨c9, by omega, by rw [hc282]; exact hi9⟩
    have nr9 := ixn (x := r10) (by omega)
    have hin9 := ir10 (by omega)
    rw [hc282] at hin9
    have hlt9 := hNI r10.toNatClampNeg (by omega) hin9
    have r260 : M8 260 = M 260 := funext (fun i => hF 260 i (by omega))
    have r2 : M8 258 2 = M 258 2 := hF 258 2 (by omega)
    rw [r260, hc282, r2] at yr10
    rw [show M_2 282 = roI (vR M) (M 260) (M 282) (fun i => vR M 8 (40 * (M 258 27).toNatClampNeg + i)) (vR M 7 (M 258 27).toNatClampNeg).toNatClampNeg (M 258 2).toNatClampNeg x1_2.toNatClampNeg from j2_6] at yr10
    have er10 : r10 = roW (vR M) (M 260) (M 282) (fun i => vR M 8 (40 * (M 258 27).toNatClampNeg + i)) (vR M 7 (M 258 27).toNatClampNeg).toNatClampNeg (M 258 2).toNatClampNeg x1_2.toNatClampNeg := yr10.trans (grF_ext (row := M 260) (D1 := fun _ => 1) (fun i => hI0 260 i) (fun _ _ => rfl) (fun c hc => (tfe c hc).1) (fun c hc => (tfe c hc).2) (M 258 2).toNatClampNeg).1
    refine g_istore_n C [(2, .int r10), (1, .int x1_2), (0, .ref (ad 258))] dX11_countRunOff_53 (by decide) rfl ?_
    refine g_aload_n C 2 dX11_countRunOff_54 rfl ?_
    refine g_iconst C 1 dX11_countRunOff_55 (by decide) ?_
    refine g_iload_n C 0 dX11_countRunOff_56 rfl ?_
    have hRb : RP (M_2 258 29) (M_2 277) (M_2 258 31) (M_2 278) (M_2 279) [] (twoR (roO (vR M) (M 260) (M 282) (fun i => vR M 8 (40 * (M 258 27).toNatClampNeg + i)) (vR M 7 (M 258 27).toNatClampNeg).toNatClampNeg (M 258 2).toNatClampNeg x1_2.toNatClampNeg)) := j2_7
    rw [← k29, ← k31, ← q277, ← q278, ← q279] at hRb
    refine g_callVv C (n := 2) (As := [.int 1, .int r10]) (st := []) (k_X11_happens l D ad cs _ _ 1 r10 hI (by omega)) gX11_countRunOff_X11_happens rfl rfl rfl (by decide +kernel) ⟨Nat.le_of_ble_eq_true rfl, Nat.le_of_ble_eq_true rfl⟩ rfl (Nat.le_of_ble_eq_true rfl) ⟨Nat.zero_le _, Nat.zero_le _⟩ (by decide) (ce_model ad cs _ _) rfl rfl dX11_countRunOff_57 (fun M14 L15 hr13 => ?_)
    obtain ⟨hr13, hI, hFr13, hGr13⟩ := hr13
    have hF : ∀ k i, ¬ (k = 258 ∧ i = 25) ∧ ¬ (k = 258 ∧ i = 29) ∧ ¬ (k = 258 ∧ i = 31) ∧ k ≠ 277 ∧ k ≠ 278 ∧ k ≠ 279 ∧ k ≠ 282 ∧ k ≠ 294 → M14 k i = M k i := fun k i hk => by (rw [hFr13 k i (by omega)]; try exact hF k i hk)
    have hG : ∀ k i, ¬ (k = 258 ∧ i = 23) ∧ ¬ (k = 258 ∧ i = 24) ∧ k ≠ 284 ∧ k ≠ 285 ∧ k ≠ 280 ∧ k ≠ 281 → L15 k i = L k i := fun k i hk => by (rw [hGr13 k i (by omega)]; try exact hG k i hk)
    have k25 : M14 258 25 = M8 258 25 := (hFr13 258 25 (by omega)).trans k25
    have k29 : M14 258 29 = M_2 258 29 := (hFr13 258 29 (by omega)).trans k29
    have k31 : M14 258 31 = M14 258 31 := rfl
    have kt25 := congrArg Int32.toInt k25
    have kt29 := congrArg Int32.toInt k29
    have kt31 := congrArg Int32.toInt k31
    have l23 : L15 258 23 = L9 258 23 := (hGr13 258 23 (by omega)).trans l23
    have l24 : L15 258 24 = L9 258 24 := (hGr13 258 24 (by omega)).trans l24
    have p280 : L15 280 = L15 280 := rfl
    have p281 : L15 281 = L15 281 := rfl
    have p284 : L15 284 = L9 284 := (funext (fun i => hGr13 284 i (by omega))).trans p284
    have p285 : L15 285 = L9 285 := (funext (fun i => hGr13 285 i (by omega))).trans p285
    have q277 : M14 277 = M_2 277 := (funext (fun i => hFr13 277 i (by omega))).trans q277
    have q278 : M14 278 = M14 278 := rfl
    have q279 : M14 279 = M14 279 := rfl
    have q282 : M14 282 = M_2 282 := (funext (fun i => hFr13 282 i (by omega))).trans q282
    have q294 : M14 294 = M_2 294 := (funext (fun i => hFr13 294 i (by omega))).trans q294
    obtain ⟨hp31, hp278, hp279⟩ := hr13
    have hp29 : M14 258 29 = M8 258 29 := hFr13 258 29 (by omega)
    have hp277 : M14 277 = M8 277 := funext (fun i => hFr13 277 i (by omega))
    have hb9 : RP (M8 258 29) (M8 277) (M8 258 31) (M8 278) (M8 279) _ _ := hRb
    rw [← hp29, ← hp277] at hb9
    have rp1 := RP_note hb9 hp31 hp278 hp279
    refine g_aload_n C 2 dX11_countRunOff_60 rfl ?_
    refine g_iload_n C 0 dX11_countRunOff_61 rfl ?_
    refine g_callVv C (n := 1) (As := [.int r10]) (st := []) (k_X11_gives l D ad cs _ _ r10 hI (by omega)) gX11_countRunOff_X11_gives rfl rfl rfl (by decide +kernel) ⟨Nat.le_of_ble_eq_true rfl, Nat.le_of_ble_eq_true rfl⟩ rfl (Nat.le_of_ble_eq_true rfl) ⟨Nat.zero_le _, Nat.zero_le _⟩ (by decide) (ce_model ad cs _ _) rfl rfl dX11_countRunOff_62 (fun M17 L18 hr16 => ?_)
    obtain ⟨hr16, hI, hFr16, hGr16⟩ := hr16
    have hF : ∀ k i, ¬ (k = 258 ∧ i = 25) ∧ ¬ (k = 258 ∧ i = 29) ∧ ¬ (k = 258 ∧ i = 31) ∧ k ≠ 277 ∧ k ≠ 278 ∧ k ≠ 279 ∧ k ≠ 282 ∧ k ≠ 294 → M17 k i = M k i := fun k i hk => by (rw [hFr16 k i (by omega)]; try exact hF k i hk)
    have hG : ∀ k i, ¬ (k = 258 ∧ i = 23) ∧ ¬ (k = 258 ∧ i = 24) ∧ k ≠ 284 ∧ k ≠ 285 ∧ k ≠ 280 ∧ k ≠ 281 → L18 k i = L k i := fun k i hk => by (rw [hGr16 k i trivial]; try exact hG k i hk)
    have k25 : M17 258 25 = M8 258 25 := (hFr16 258 25 (by omega)).trans k25
    have k31 : M17 258 31 = M14 258 31 := (hFr16 258 31 (by omega)).trans k31
    have k29 : M17 258 29 = M17 258 29 := rfl
    have kt25 := congrArg Int32.toInt k25
    have kt29 := congrArg Int32.toInt k29
    have kt31 := congrArg Int32.toInt k31
    have l23 : L18 258 23 = L9 258 23 := (hGr16 258 23 trivial).trans l23
    have l24 : L18 258 24 = L9 258 24 := (hGr16 258 24 trivial).trans l24
    have p280 : L18 280 = L15 280 := (funext (fun i => hGr16 280 i trivial)).trans p280
    have p281 : L18 281 = L15 281 := (funext (fun i => hGr16 281 i trivial)).trans p281
    have p284 : L18 284 = L9 284 := (funext (fun i => hGr16 284 i trivial)).trans p284
    have p285 : L18 285 = L9 285 := (funext (fun i => hGr16 285 i trivial)).trans p285
    have q277 : M17 277 = M17 277 := rfl
    have q278 : M17 278 = M14 278 := (funext (fun i => hFr16 278 i (by omega))).trans q278
    have q279 : M17 279 = M14 279 := (funext (fun i => hFr16 279 i (by omega))).trans q279
    have q282 : M17 282 = M_2 282 := (funext (fun i => hFr16 282 i (by omega))).trans q282
    have q294 : M17 294 = M_2 294 := (funext (fun i => hFr16 294 i (by omega))).trans q294
    obtain ⟨gv29, gv277⟩ := hr16
    have gv31 : M17 258 31 = M14 258 31 := hFr16 258 31 (by omega)
    have gv278 : M17 278 = M14 278 := funext (fun i => hFr16 278 i (by omega))
    have gv279 : M17 279 = M14 279 := funext (fun i => hFr16 279 i (by omega))
    have hb9 : RP (M14 258 29) (M14 277) (M14 258 31) (M14 278) (M14 279) _ _ := rp1
    rw [← gv31, ← gv278, ← gv279] at hb9
    have rp2 := RP_give hb9 gv29 gv277
    refine g_iload_n C 1 dX11_countRunOff_65 rfl ?_
    refine g_iconst C 1 dX11_countRunOff_66 (by decide) ?_
    refine g_isub C dX11_countRunOff_67 ?_
    refine g_ni (fun v19 ev19 => ?_)
    try have fv19 := fsub rfl (by decide : (1 : Int32).toInt = 1) ev19 (by omega) (by omega)
    refine g_istore_n C [(3, .int v19), (2, .int r10), (1, .int x1_2), (0, .ref (ad 258))] dX11_countRunOff_68 (by decide) rfl ?_
    have k29t := congrArg Int32.toInt k29
    have ej0 : (x1_2.toInt - 1 - v19.toInt).toNat = 0 := by omega
    have rpw := rp2
    rw [er10] at rpw
    refine g_loop (α := Int32 × MI × ML) (fun a => (a.1.toInt + 1).toNat) (fun a => (-1 ≤ a.1.toInt) ∧ (a.1.toInt ≤ x1_2.toInt - 1) ∧ ((a.2.1 258 29).toInt = x1_2.toInt - a.1.toInt) ∧ (RR a.2.1 (roT (vR M) (M 260) (M 282) (fun i => vR M 8 (40 * (M 258 27).toNatClampNeg + i)) (vR M 7 (M 258 27).toNatClampNeg).toNatClampNeg (M 258 2).toNatClampNeg x1_2.toNatClampNeg (x1_2.toInt - 1 - a.1.toInt).toNat) (twoR (roO (vR M) (M 260) (M 282) (fun i => vR M 8 (40 * (M 258 27).toNatClampNeg + i)) (vR M 7 (M 258 27).toNatClampNeg).toNatClampNeg (M 258 2).toNatClampNeg x1_2.toNatClampNeg) ++ [(1, roW (vR M) (M 260) (M 282) (fun i => vR M 8 (40 * (M 258 27).toNatClampNeg + i)) (vR M 7 (M 258 27).toNatClampNeg).toNatClampNeg (M 258 2).toNatClampNeg x1_2.toNatClampNeg)])) ∧ (∀ j : Nat, j < x1_2.toNatClampNeg → a.2.1 294 j = roC (vR M) (M 260) (M 282) (fun i => vR M 8 (40 * (M 258 27).toNatClampNeg + i)) (vR M 7 (M 258 27).toNatClampNeg).toNatClampNeg (M 258 2).toNatClampNeg j) ∧ ((a.2.1 258 29).toInt ≤ (M 258 28).toInt) ∧ ((a.2.1 258 25).toInt = 0) ∧ IR a.2.1 ∧ (∀ k i, ¬ (k = 258 ∧ i = 25) ∧ ¬ (k = 258 ∧ i = 29) ∧ ¬ (k = 258 ∧ i = 31) ∧ k ≠ 277 ∧ k ≠ 278 ∧ k ≠ 279 ∧ k ≠ 282 ∧ k ≠ 294 → a.2.1 k i = M k i) ∧ (∀ k i, ¬ (k = 258 ∧ i = 23) ∧ ¬ (k = 258 ∧ i = 24) ∧ k ≠ 284 ∧ k ≠ 285 ∧ k ≠ 280 ∧ k ≠ 281 → a.2.2 k i = L k i)) (fun a => a.2.1) (fun a => a.2.2) (fun a => [(3, .int a.1), (2, .int r10), (1, .int x1_2), (0, .ref (ad 258))]) (v19, M17, L18) ⟨by show -1 ≤ v19.toInt; omega, by show v19.toInt ≤ x1_2.toInt - 1; omega, by show (M17 258 29).toInt = x1_2.toInt - v19.toInt; omega, by show RR M17 (roT (vR M) (M 260) (M 282) (fun i => vR M 8 (40 * (M 258 27).toNatClampNeg + i)) (vR M 7 (M 258 27).toNatClampNeg).toNatClampNeg (M 258 2).toNatClampNeg x1_2.toNatClampNeg (x1_2.toInt - 1 - v19.toInt).toNat) (twoR (roO (vR M) (M 260) (M 282) (fun i => vR M 8 (40 * (M 258 27).toNatClampNeg + i)) (vR M 7 (M 258 27).toNatClampNeg).toNatClampNeg (M 258 2).toNatClampNeg x1_2.toNatClampNeg) ++ [(1, roW (vR M) (M 260) (M 282) (fun i => vR M 8 (40 * (M 258 27).toNatClampNeg + i)) (vR M 7 (M 258 27).toNatClampNeg).toNatClampNeg (M 258 2).toNatClampNeg x1_2.toNatClampNeg)]); rw [ej0]; exact rpw, by show ∀ j : Nat, j < x1_2.toNatClampNeg → M17 294 j = roC (vR M) (M 260) (M 282) (fun i => vR M 8 (40 * (M 258 27).toNatClampNeg + i)) (vR M 7 (M 258 27).toNatClampNeg).toNatClampNeg (M 258 2).toNatClampNeg j; intro j hj; rw [congrFun q294 j]; exact j2_8 j hj, by show (M17 258 29).toInt ≤ (M 258 28).toInt; omega, by show (M17 258 25).toInt = 0; rw [k25]; exact tfs, hI, hF, hG⟩ rfl rfl rfl ?_
    rintro ⟨x3_69, M_69, L_69⟩ ⟨j69_0, j69_1, j69_2, j69_3, j69_4, j69_5, j69_6, hI, hF, hG⟩ ih_69
    dsimp only at j69_0 j69_1 j69_2 j69_3 j69_4 j69_5 j69_6 hI hF hG ih_69 ⊢
    have k25 : M_69 258 25 = M_69 258 25 := rfl
    have k29 : M_69 258 29 = M_69 258 29 := rfl
    have k31 : M_69 258 31 = M_69 258 31 := rfl
    have l23 : L_69 258 23 = L_69 258 23 := rfl
    have l24 : L_69 258 24 = L_69 258 24 := rfl
    have p280 : L_69 280 = L_69 280 := rfl
    have p281 : L_69 281 = L_69 281 := rfl
    have p284 : L_69 284 = L_69 284 := rfl
    have p285 : L_69 285 = L_69 285 := rfl
    have q277 : M_69 277 = M_69 277 := rfl
    have q278 : M_69 278 = M_69 278 := rfl
    have q279 : M_69 279 = M_69 279 := rfl
    have q282 : M_69 282 = M_69 282 := rfl
    have q294 : M_69 294 = M_69 294 := rfl
    refine g_iload_n C 0 dX11_countRunOff_69 rfl ?_
    refine g_if_lt C 100 dX11_countRunOff_70 (by decide) (fun c20 => ?_) (fun c20 => ?_)
    ·
      have f21 := fl rfl (by decide : (0 : Int32).toInt = 0) c20
      exact g_vret C hr ⟨(by have ej : (x1_2.toInt - 1 - x3_69.toInt).toNat = min (cI (M 282) (M 258 2).toNatClampNeg - 1) ((M 258 28).toNatClampNeg - 1) := (by omega); rw [ej, hr9] at j69_3; exact ⟨j69_3, j69_6⟩), hI, hF, hG⟩ dX11_countRunOff_100
    ·
      have f22 := fnl rfl (by decide : (0 : Int32).toInt = 0) c20
      refine g_aload_n C 3 dX11_countRunOff_73 rfl ?_
      refine g_get C (.int (M_69 258 29)) 29 in_X11_countRunOff_11 (List.mem_of_getElem? (i := 3) rfl) (by decide) (ce_model ad cs _ _) rfl (by decide) rfl rfl dX11_countRunOff_74 ?_
      refine g_ni (fun v23 ev23 => ?_)
      have gv23 : v23 = M_69 258 29 := ev23.trans k29
      have tv23 := congrArg Int32.toInt gv23
      obtain ⟨bv23, dv23⟩ := (show rg 0 30 v23 from (by rw [ev23]; exact hI 258 29))
      refine g_aload_n C 3 dX11_countRunOff_77 rfl ?_
      refine g_get C (.int (M_69 258 28)) 28 in_X11_countRunOff_11 (List.mem_of_getElem? (i := 4) rfl) (by decide) (ce_model ad cs _ _) rfl (by decide) rfl rfl dX11_countRunOff_78 ?_
      refine g_ni (fun v24 ev24 => ?_)
      have gv24 : v24 = M 258 28 := ev24.trans (hF 258 28 (by omega))
      have tv24 := congrArg Int32.toInt gv24
      obtain ⟨bv24, dv24⟩ := (show rg 0 30 v24 from (by rw [ev24]; exact hI 258 28))
      refine g_icmp_ge C 100 dX11_countRunOff_81 (by decide) (fun c25 => ?_) (fun c25 => ?_)
      ·
        have f26 := fle rfl rfl c25
        exact g_vret C hr ⟨(by have ej : (x1_2.toInt - 1 - x3_69.toInt).toNat = min (cI (M 282) (M 258 2).toNatClampNeg - 1) ((M 258 28).toNatClampNeg - 1) := (by omega); rw [ej, hr9] at j69_3; exact ⟨j69_3, j69_6⟩), hI, hF, hG⟩ dX11_countRunOff_100
      ·
        have f27 := fnle rfl rfl c25
        refine g_aload_n C 3 dX11_countRunOff_84 rfl ?_
        refine g_aload_n C 3 dX11_countRunOff_85 rfl ?_
        refine g_get C (.ref (ad 294)) 50 in_X11_countRunOff_11 (List.mem_of_getElem? (i := 2) rfl) (by decide) (ce_model ad cs _ _) rfl (by decide) rfl rfl dX11_countRunOff_86 ?_
        refine g_iload_n C 0 dX11_countRunOff_89 rfl ?_
        refine g_iald C (by decide) (ce_m_gone ad cs _ _) (fin' (n := 10) rfl (by omega) (by omega)) dX11_countRunOff_90 ?_
        refine g_ni (fun v28 ev28 => ?_)
        have gv28 : v28 = M_69 294 x3_69.toNatClampNeg := ev28.trans (congrFun q294 _)
        have tv28 := congrArg Int32.toInt gv28
        refine g_callVv C (n := 1) (As := [.int v28]) (st := []) (k_X11_gives l D ad cs _ _ v28 hI (by omega)) gX11_countRunOff_X11_gives rfl rfl rfl (by decide +kernel) ⟨Nat.le_of_ble_eq_true rfl, Nat.le_of_ble_eq_true rfl⟩ rfl (Nat.le_of_ble_eq_true rfl) ⟨Nat.zero_le _, Nat.zero_le _⟩ (by decide) (ce_model ad cs _ _) rfl rfl dX11_countRunOff_91 (fun M30 L31 hr29 => ?_)
        obtain ⟨hr29, hI, hFr29, hGr29⟩ := hr29
        have hF : ∀ k i, ¬ (k = 258 ∧ i = 25) ∧ ¬ (k = 258 ∧ i = 29) ∧ ¬ (k = 258 ∧ i = 31) ∧ k ≠ 277 ∧ k ≠ 278 ∧ k ≠ 279 ∧ k ≠ 282 ∧ k ≠ 294 → M30 k i = M k i := fun k i hk => by (rw [hFr29 k i (by omega)]; try exact hF k i hk)
        have hG : ∀ k i, ¬ (k = 258 ∧ i = 23) ∧ ¬ (k = 258 ∧ i = 24) ∧ k ≠ 284 ∧ k ≠ 285 ∧ k ≠ 280 ∧ k ≠ 281 → L31 k i = L k i := fun k i hk => by (rw [hGr29 k i trivial]; try exact hG k i hk)
        have k25 : M30 258 25 = M_69 258 25 := (hFr29 258 25 (by omega)).trans k25
        have k31 : M30 258 31 = M_69 258 31 := (hFr29 258 31 (by omega)).trans k31
        have k29 : M30 258 29 = M30 258 29 := rfl
        have kt25 := congrArg Int32.toInt k25
        have kt29 := congrArg Int32.toInt k29
        have kt31 := congrArg Int32.toInt k31
        have l23 : L31 258 23 = L_69 258 23 := (hGr29 258 23 trivial).trans l23
        have l24 : L31 258 24 = L_69 258 24 := (hGr29 258 24 trivial).trans l24
        have p280 : L31 280 = L_69 280 := (funext (fun i => hGr29 280 i trivial)).trans p280
        have p281 : L31 281 = L_69 281 := (funext (fun i => hGr29 281 i trivial)).trans p281
        have p284 : L31 284 = L_69 284 := (funext (fun i => hGr29 284 i trivial)).trans p284
        have p285 : L31 285 = L_69 285 := (funext (fun i => hGr29 285 i trivial)).trans p285
        have q277 : M30 277 = M30 277 := rfl
        have q278 : M30 278 = M_69 278 := (funext (fun i => hFr29 278 i (by omega))).trans q278
        have q279 : M30 279 = M_69 279 := (funext (fun i => hFr29 279 i (by omega))).trans q279
        have q282 : M30 282 = M_69 282 := (funext (fun i => hFr29 282 i (by omega))).trans q282
        have q294 : M30 294 = M_69 294 := (funext (fun i => hFr29 294 i (by omega))).trans q294
        obtain ⟨gv29, gv277⟩ := hr29
        have gv31 : M30 258 31 = M_69 258 31 := hFr29 258 31 (by omega)
        have gv278 : M30 278 = M_69 278 := funext (fun i => hFr29 278 i (by omega))
        have gv279 : M30 279 = M_69 279 := funext (fun i => hFr29 279 i (by omega))
        have hb9 : RP (M_69 258 29) (M_69 277) (M_69 258 31) (M_69 278) (M_69 279) _ _ := j69_3
        rw [← gv31, ← gv278, ← gv279] at hb9
        have rp2 := RP_give hb9 gv29 gv277
        have rpz := rp2
        rw [gv28] at rpz
        obtain ⟨v32, ev32⟩ : ∃ y : Int32, y = x3_69 + (-1) := ⟨_, rfl⟩
        try have fv32 := fadd rfl (by decide : ((-1) : Int32).toInt = (-1)) ev32 (by omega) (by omega)
        refine g_iinc C 0 v32 [(3, .int v32), (2, .int r10), (1, .int x1_2), (0, .ref (ad 258))] dX11_countRunOff_94 rfl (by rw [ev32]; rfl) (by decide) rfl ?_
        refine g_goto C 69 dX11_countRunOff_97 (by decide) ?_
        have k29t := congrArg Int32.toInt k29
        have nv := ixn (x := x3_69) (by omega)
        have iv : (x1_2.toInt - 1 - v32.toInt).toNat = (x1_2.toInt - 1 - x3_69.toInt).toNat + 1 := by omega
        have eR : RR M30 (roT (vR M) (M 260) (M 282) (fun i => vR M 8 (40 * (M 258 27).toNatClampNeg + i)) (vR M 7 (M 258 27).toNatClampNeg).toNatClampNeg (M 258 2).toNatClampNeg x1_2.toNatClampNeg (x1_2.toInt - 1 - v32.toInt).toNat) (twoR (roO (vR M) (M 260) (M 282) (fun i => vR M 8 (40 * (M 258 27).toNatClampNeg + i)) (vR M 7 (M 258 27).toNatClampNeg).toNatClampNeg (M 258 2).toNatClampNeg x1_2.toNatClampNeg) ++ [(1, roW (vR M) (M 260) (M 282) (fun i => vR M 8 (40 * (M 258 27).toNatClampNeg + i)) (vR M 7 (M 258 27).toNatClampNeg).toNatClampNeg (M 258 2).toNatClampNeg x1_2.toNatClampNeg)]) := by
          rw [iv]
          show RR M30 (roT (vR M) (M 260) (M 282) (fun i => vR M 8 (40 * (M 258 27).toNatClampNeg + i)) (vR M 7 (M 258 27).toNatClampNeg).toNatClampNeg (M 258 2).toNatClampNeg x1_2.toNatClampNeg (x1_2.toInt - 1 - x3_69.toInt).toNat ++ [roC (vR M) (M 260) (M 282) (fun i => vR M 8 (40 * (M 258 27).toNatClampNeg + i)) (vR M 7 (M 258 27).toNatClampNeg).toNatClampNeg (M 258 2).toNatClampNeg (x1_2.toNatClampNeg - 1 - (x1_2.toInt - 1 - x3_69.toInt).toNat)]) _
          rw [show x1_2.toNatClampNeg - 1 - (x1_2.toInt - 1 - x3_69.toInt).toNat = x3_69.toNatClampNeg by omega, ← j69_4 x3_69.toNatClampNeg (by omega)]
          exact rpz
        exact ih_69 (v32, M30, L31) ⟨by show -1 ≤ v32.toInt; omega, by show v32.toInt ≤ x1_2.toInt - 1; omega, by show (M30 258 29).toInt = x1_2.toInt - v32.toInt; omega, by show RR M30 (roT (vR M) (M 260) (M 282) (fun i => vR M 8 (40 * (M 258 27).toNatClampNeg + i)) (vR M 7 (M 258 27).toNatClampNeg).toNatClampNeg (M 258 2).toNatClampNeg x1_2.toNatClampNeg (x1_2.toInt - 1 - v32.toInt).toNat) (twoR (roO (vR M) (M 260) (M 282) (fun i => vR M 8 (40 * (M 258 27).toNatClampNeg + i)) (vR M 7 (M 258 27).toNatClampNeg).toNatClampNeg (M 258 2).toNatClampNeg x1_2.toNatClampNeg) ++ [(1, roW (vR M) (M 260) (M 282) (fun i => vR M 8 (40 * (M 258 27).toNatClampNeg + i)) (vR M 7 (M 258 27).toNatClampNeg).toNatClampNeg (M 258 2).toNatClampNeg x1_2.toNatClampNeg)]); exact eR, by show ∀ j : Nat, j < x1_2.toNatClampNeg → M30 294 j = roC (vR M) (M 260) (M 282) (fun i => vR M 8 (40 * (M 258 27).toNatClampNeg + i)) (vR M 7 (M 258 27).toNatClampNeg).toNatClampNeg (M 258 2).toNatClampNeg j; intro j hj; rw [congrFun q294 j]; exact j69_4 j hj, by show (M30 258 29).toInt ≤ (M 258 28).toInt; omega, by show (M30 258 25).toInt = 0; rw [k25]; exact j69_6, hI, hF, hG⟩ (by show (v32.toInt + 1).toNat < (x3_69.toInt + 1).toNat; omega)
  ·
    have f33 := fnle rfl (by decide : (1 : Int32).toInt = 1) c5
    refine g_aload_n C 1 dX11_countRunOff_10 rfl ?_
    have hF0 := hF
    have hG0 := hG
    refine g_callVv C (n := 0) (As := []) (st := []) (k_X11_tallyFirsts l D ad cs _ _  hI (fun i hi => by rw [hG 286 i (by omega), hG 287 i (by omega)]; exact hW i hi) (by omega) (by rw [show vR M_2 = vR M from vR_fr (fun k i hk => hF k i (by omega)), hF 258 27 (by omega)]; exact hX) (by rw [show vR M_2 = vR M from vR_fr (fun k i hk => hF k i (by omega))]; exact hB8)) gX11_countRunOff_X11_tallyFirsts rfl rfl rfl (by decide +kernel) ⟨Nat.le_of_ble_eq_true rfl, Nat.le_of_ble_eq_true rfl⟩ rfl (Nat.le_of_ble_eq_true rfl) ⟨Nat.zero_le _, Nat.zero_le _⟩ (by decide) (ce_model ad cs _ _) rfl rfl dX11_countRunOff_11 (fun M35 L36 hr34 => ?_)
    obtain ⟨hr34, hI, hFr34, hGr34⟩ := hr34
    have hF : ∀ k i, ¬ (k = 258 ∧ i = 25) ∧ ¬ (k = 258 ∧ i = 29) ∧ ¬ (k = 258 ∧ i = 31) ∧ k ≠ 277 ∧ k ≠ 278 ∧ k ≠ 279 ∧ k ≠ 282 ∧ k ≠ 294 → M35 k i = M k i := fun k i hk => by (rw [hFr34 k i (by omega)]; try exact hF k i hk)
    have hG : ∀ k i, ¬ (k = 258 ∧ i = 23) ∧ ¬ (k = 258 ∧ i = 24) ∧ k ≠ 284 ∧ k ≠ 285 ∧ k ≠ 280 ∧ k ≠ 281 → L36 k i = L k i := fun k i hk => by (rw [hGr34 k i (by omega)]; try exact hG k i hk)
    have k29 : M35 258 29 = M_2 258 29 := (hFr34 258 29 (by omega)).trans k29
    have k31 : M35 258 31 = M_2 258 31 := (hFr34 258 31 (by omega)).trans k31
    have k25 : M35 258 25 = M35 258 25 := rfl
    have kt25 := congrArg Int32.toInt k25
    have kt29 := congrArg Int32.toInt k29
    have kt31 := congrArg Int32.toInt k31
    have l23 : L36 258 23 = L36 258 23 := rfl
    have l24 : L36 258 24 = L36 258 24 := rfl
    have p280 : L36 280 = L_2 280 := (funext (fun i => hGr34 280 i (by omega))).trans p280
    have p281 : L36 281 = L_2 281 := (funext (fun i => hGr34 281 i (by omega))).trans p281
    have p284 : L36 284 = L36 284 := rfl
    have p285 : L36 285 = L36 285 := rfl
    have q277 : M35 277 = M_2 277 := (funext (fun i => hFr34 277 i (by omega))).trans q277
    have q278 : M35 278 = M_2 278 := (funext (fun i => hFr34 278 i (by omega))).trans q278
    have q279 : M35 279 = M_2 279 := (funext (fun i => hFr34 279 i (by omega))).trans q279
    have q282 : M35 282 = M_2 282 := (funext (fun i => hFr34 282 i (by omega))).trans q282
    have q294 : M35 294 = M_2 294 := (funext (fun i => hFr34 294 i (by omega))).trans q294
    obtain ⟨tfo, tfs, tfe⟩ := hr34
    rw [show vR M_2 = vR M from vR_fr (fun k i hk => hF0 k i (by omega)), hF0 258 27 (by omega), show M_2 282 = (roI (vR M) (M 260) (M 282) (fun i => vR M 8 (40 * (M 258 27).toNatClampNeg + i)) (vR M 7 (M 258 27).toNatClampNeg).toNatClampNeg (M 258 2).toNatClampNeg x1_2.toNatClampNeg) from j2_6, show L_2 286 = L 286 from funext (fun i => hG0 286 i (by omega)), show L_2 287 = L 287 from funext (fun i => hG0 287 i (by omega))] at tfs tfe
    rw [stW_F (V := vR M) (I := (roI (vR M) (M 260) (M 282) (fun i => vR M 8 (40 * (M 258 27).toNatClampNeg + i)) (vR M 7 (M 258 27).toNatClampNeg).toNatClampNeg (M 258 2).toNatClampNeg x1_2.toNatClampNeg)) (p := (fun i => vR M 8 (40 * (M 258 27).toNatClampNeg + i))) (wu := L 286) (wd := L 287) (fun b => hI0 262 b) hWp (vR M 7 (M 258 27).toNatClampNeg).toNatClampNeg (by omega)] at tfs tfe
    have tfe : ∀ c, c < 10 → L36 284 c = tfV (vR M) (roI (vR M) (M 260) (M 282) (fun i => vR M 8 (40 * (M 258 27).toNatClampNeg + i)) (vR M 7 (M 258 27).toNatClampNeg).toNatClampNeg (M 258 2).toNatClampNeg x1_2.toNatClampNeg) (fun i => vR M 8 (40 * (M 258 27).toNatClampNeg + i)) (vR M 7 (M 258 27).toNatClampNeg).toNatClampNeg c ∧ L36 285 c = 1 := fun c hc => ⟨(tfe rfl c hc).1, (tfe rfl c hc).2.1⟩
    have tfs : (M35 258 25).toInt = 0 := tfs.mpr rfl
    refine g_aload_n C 1 dX11_countRunOff_14 rfl ?_
    refine g_callVi C (n := 0) (As := []) (st := []) (k_X11_least l D ad cs _ _  hI (DP_k hD (hF 258 2 (by omega)) (fun i => hF 260 i (by omega)))) gX11_countRunOff_X11_least rfl rfl rfl (by decide +kernel) ⟨Nat.le_of_ble_eq_true rfl, Nat.le_of_ble_eq_true rfl⟩ rfl (Nat.le_of_ble_eq_true rfl) ⟨Nat.zero_le _, Nat.zero_le _⟩ (by decide) (ce_model ad cs _ _) rfl rfl dX11_countRunOff_15 (fun r37 M38 L39 hr37 => ?_)
    obtain ⟨hq1, hq2, hr37⟩ := hr37
    obtain rfl := hq1.symm
    obtain rfl := hq2.symm
    obtain ⟨br37, ir37, xr37, yr37⟩ := hr37
    have w9 : (vR M35 0 0).toInt = (M 258 2).toInt := congrArg Int32.toInt (hF 258 2 (by omega))
    have hc282 : M35 282 = M_2 282 := q282
    have hpos : 0 < cI (M_2 282) (M 258 2).toNatClampNeg := by omega
    obtain ⟨c9, hc9, hi9⟩ := cI_ex _ hpos
    have hne9 := xr37 ⟨c9, by omega, by rw [hc282]; exact hi9⟩
    have nr9 := ixn (x := r37) (by omega)
    have hin9 := ir37 (by omega)
    rw [hc282] at hin9
    have hlt9 := hNI r37.toNatClampNeg (by omega) hin9
    have r260 : M35 260 = M 260 := funext (fun i => hF 260 i (by omega))
    have r2 : M35 258 2 = M 258 2 := hF 258 2 (by omega)
    rw [r260, hc282, r2] at yr37
    rw [show M_2 282 = roI (vR M) (M 260) (M 282) (fun i => vR M 8 (40 * (M 258 27).toNatClampNeg + i)) (vR M 7 (M 258 27).toNatClampNeg).toNatClampNeg (M 258 2).toNatClampNeg x1_2.toNatClampNeg from j2_6] at yr37
    have er37 : r37 = roC (vR M) (M 260) (M 282) (fun i => vR M 8 (40 * (M 258 27).toNatClampNeg + i)) (vR M 7 (M 258 27).toNatClampNeg).toNatClampNeg (M 258 2).toNatClampNeg x1_2.toNatClampNeg := yr37.trans (leF_ext (row := M 260) (D1 := fun _ => 1) (fun i => hI0 260 i) (fun _ _ => rfl) (fun c hc => (tfe c hc).1) (fun c hc => (tfe c hc).2) (M 258 2).toNatClampNeg).1
    refine g_istore_n C [(2, .int r37), (1, .int x1_2), (0, .ref (ad 258))] dX11_countRunOff_18 (by decide) rfl ?_
    refine g_aload_n C 2 dX11_countRunOff_19 rfl ?_
    refine g_iconst C 2 dX11_countRunOff_20 (by decide) ?_
    refine g_iload_n C 0 dX11_countRunOff_21 rfl ?_
    have hRb : RP (M_2 258 29) (M_2 277) (M_2 258 31) (M_2 278) (M_2 279) [] (twoR (roO (vR M) (M 260) (M 282) (fun i => vR M 8 (40 * (M 258 27).toNatClampNeg + i)) (vR M 7 (M 258 27).toNatClampNeg).toNatClampNeg (M 258 2).toNatClampNeg x1_2.toNatClampNeg)) := j2_7
    rw [← k29, ← k31, ← q277, ← q278, ← q279] at hRb
    refine g_callVv C (n := 2) (As := [.int 2, .int r37]) (st := []) (k_X11_happens l D ad cs _ _ 2 r37 hI (by omega)) gX11_countRunOff_X11_happens rfl rfl rfl (by decide +kernel) ⟨Nat.le_of_ble_eq_true rfl, Nat.le_of_ble_eq_true rfl⟩ rfl (Nat.le_of_ble_eq_true rfl) ⟨Nat.zero_le _, Nat.zero_le _⟩ (by decide) (ce_model ad cs _ _) rfl rfl dX11_countRunOff_22 (fun M41 L42 hr40 => ?_)
    obtain ⟨hr40, hI, hFr40, hGr40⟩ := hr40
    have hF : ∀ k i, ¬ (k = 258 ∧ i = 25) ∧ ¬ (k = 258 ∧ i = 29) ∧ ¬ (k = 258 ∧ i = 31) ∧ k ≠ 277 ∧ k ≠ 278 ∧ k ≠ 279 ∧ k ≠ 282 ∧ k ≠ 294 → M41 k i = M k i := fun k i hk => by (rw [hFr40 k i (by omega)]; try exact hF k i hk)
    have hG : ∀ k i, ¬ (k = 258 ∧ i = 23) ∧ ¬ (k = 258 ∧ i = 24) ∧ k ≠ 284 ∧ k ≠ 285 ∧ k ≠ 280 ∧ k ≠ 281 → L42 k i = L k i := fun k i hk => by (rw [hGr40 k i (by omega)]; try exact hG k i hk)
    have k25 : M41 258 25 = M35 258 25 := (hFr40 258 25 (by omega)).trans k25
    have k29 : M41 258 29 = M_2 258 29 := (hFr40 258 29 (by omega)).trans k29
    have k31 : M41 258 31 = M41 258 31 := rfl
    have kt25 := congrArg Int32.toInt k25
    have kt29 := congrArg Int32.toInt k29
    have kt31 := congrArg Int32.toInt k31
    have l23 : L42 258 23 = L36 258 23 := (hGr40 258 23 (by omega)).trans l23
    have l24 : L42 258 24 = L36 258 24 := (hGr40 258 24 (by omega)).trans l24
    have p280 : L42 280 = L42 280 := rfl
    have p281 : L42 281 = L42 281 := rfl
    have p284 : L42 284 = L36 284 := (funext (fun i => hGr40 284 i (by omega))).trans p284
    have p285 : L42 285 = L36 285 := (funext (fun i => hGr40 285 i (by omega))).trans p285
    have q277 : M41 277 = M_2 277 := (funext (fun i => hFr40 277 i (by omega))).trans q277
    have q278 : M41 278 = M41 278 := rfl
    have q279 : M41 279 = M41 279 := rfl
    have q282 : M41 282 = M_2 282 := (funext (fun i => hFr40 282 i (by omega))).trans q282
    have q294 : M41 294 = M_2 294 := (funext (fun i => hFr40 294 i (by omega))).trans q294
    obtain ⟨hp31, hp278, hp279⟩ := hr40
    have hp29 : M41 258 29 = M35 258 29 := hFr40 258 29 (by omega)
    have hp277 : M41 277 = M35 277 := funext (fun i => hFr40 277 i (by omega))
    have hb9 : RP (M35 258 29) (M35 277) (M35 258 31) (M35 278) (M35 279) _ _ := hRb
    rw [← hp29, ← hp277] at hb9
    have rp1 := RP_note hb9 hp31 hp278 hp279
    refine g_aload_n C 2 dX11_countRunOff_25 rfl ?_
    refine g_get C (.ref (ad 282)) 36 in_X11_countRunOff_11 (List.mem_of_getElem? (i := 1) rfl) (by decide) (ce_model ad cs _ _) rfl (by decide) rfl rfl dX11_countRunOff_26 ?_
    refine g_iload_n C 0 dX11_countRunOff_29 rfl ?_
    refine g_iconst C 0 dX11_countRunOff_30 (by decide) ?_
    refine g_zast C (by decide) (ce_m_isIn ad cs _ _) (by rw [sI_k]; rfl) (fin' (n := 10) rfl (by omega) (by omega)) dX11_countRunOff_31 ?_
    refine g_nm (fun M43 hM43 => ?_)
    have zy44 : (0 : Int32).toInt = 0 := by decide
    have hI : IR M43 := by rw [hM43]; exact hI.st (show bR 282 _ _ from trivial)
    have hF : ∀ k i, ¬ (k = 258 ∧ i = 25) ∧ ¬ (k = 258 ∧ i = 29) ∧ ¬ (k = 258 ∧ i = 31) ∧ k ≠ 277 ∧ k ≠ 278 ∧ k ≠ 279 ∧ k ≠ 282 ∧ k ≠ 294 → M43 k i = M k i := fun k i hk => by (rw [hM43, sI_at, if_neg (by omega)]; try exact hF k i hk)
    have k25 : M43 258 25 = M35 258 25 := by rw [hM43, sI_n _ _ _ (by decide)]; try exact k25
    have k29 : M43 258 29 = M_2 258 29 := by rw [hM43, sI_n _ _ _ (by decide)]; try exact k29
    have k31 : M43 258 31 = M41 258 31 := by rw [hM43, sI_n _ _ _ (by decide)]; try exact k31
    have q277 : M43 277 = M_2 277 := by rw [hM43, sI_n _ _ _ (by decide)]; try exact q277
    have q278 : M43 278 = M41 278 := by rw [hM43, sI_n _ _ _ (by decide)]; try exact q278
    have q279 : M43 279 = M41 279 := by rw [hM43, sI_n _ _ _ (by decide)]; try exact q279
    have q294 : M43 294 = M_2 294 := by rw [hM43, sI_n _ _ _ (by decide)]; try exact q294
    have h282 : M43 282 = upd (M_2 282) r37.toNatClampNeg 0 := by rw [hM43, sI_k, q282]; rfl
    have hcu := cI_upd (T := M_2 282) (b := r37.toNatClampNeg) hin9 (M 258 2).toNatClampNeg
    rw [if_pos (by omega), ← h282] at hcu
    have hNI2 : NIn (M43 282) (M 258 2).toInt := by rw [h282]; exact NIn_upd hNI _
    have q282 : M43 282 = M43 282 := rfl
    have e1 : M43 258 = M41 258 := by rw [hM43, sI_n _ _ _ (by decide)]
    have e277 : M43 277 = M41 277 := by rw [hM43, sI_n _ _ _ (by decide)]
    have e278 : M43 278 = M41 278 := by rw [hM43, sI_n _ _ _ (by decide)]
    have e279 : M43 279 = M41 279 := by rw [hM43, sI_n _ _ _ (by decide)]
    have rp3 : RP (M41 258 29) (M41 277) (M41 258 31) (M41 278) (M41 279) _ _ := rp1
    rw [← e1, ← e277, ← e278, ← e279] at rp3
    refine g_aload_n C 2 dX11_countRunOff_32 rfl ?_
    refine g_get C (.ref (ad 294)) 50 in_X11_countRunOff_11 (List.mem_of_getElem? (i := 2) rfl) (by decide) (ce_model ad cs _ _) rfl (by decide) rfl rfl dX11_countRunOff_33 ?_
    refine g_iload_n C 1 dX11_countRunOff_36 rfl ?_
    refine g_iload_n C 0 dX11_countRunOff_37 rfl ?_
    refine g_iast C (by decide) (ce_m_gone ad cs _ _) (by rw [sI_k]; rfl) (fin' (n := 10) rfl (by omega) (by omega)) dX11_countRunOff_38 ?_
    refine g_nm (fun M45 hM45 => ?_)
    have hI : IR M45 := by rw [hM45]; exact hI.st (show bR 294 _ _ from trivial)
    have hF : ∀ k i, ¬ (k = 258 ∧ i = 25) ∧ ¬ (k = 258 ∧ i = 29) ∧ ¬ (k = 258 ∧ i = 31) ∧ k ≠ 277 ∧ k ≠ 278 ∧ k ≠ 279 ∧ k ≠ 282 ∧ k ≠ 294 → M45 k i = M k i := fun k i hk => by (rw [hM45, sI_at, if_neg (by omega)]; try exact hF k i hk)
    have k25 : M45 258 25 = M35 258 25 := by rw [hM45, sI_n _ _ _ (by decide)]; try exact k25
    have k29 : M45 258 29 = M_2 258 29 := by rw [hM45, sI_n _ _ _ (by decide)]; try exact k29
    have k31 : M45 258 31 = M41 258 31 := by rw [hM45, sI_n _ _ _ (by decide)]; try exact k31
    have q277 : M45 277 = M_2 277 := by rw [hM45, sI_n _ _ _ (by decide)]; try exact q277
    have q278 : M45 278 = M41 278 := by rw [hM45, sI_n _ _ _ (by decide)]; try exact q278
    have q279 : M45 279 = M41 279 := by rw [hM45, sI_n _ _ _ (by decide)]; try exact q279
    have q282 : M45 282 = M43 282 := by rw [hM45, sI_n _ _ _ (by decide)]; try exact q282
    have a294 : ∀ j : Nat, j < x1_2.toNatClampNeg + 1 → M45 294 j = roC (vR M) (M 260) (M 282) (fun i => vR M 8 (40 * (M 258 27).toNatClampNeg + i)) (vR M 7 (M 258 27).toNatClampNeg).toNatClampNeg (M 258 2).toNatClampNeg j := by
      intro j hj
      rw [hM45, sI_at]
      by_cases e9 : j = x1_2.toNatClampNeg
      · rw [if_pos ⟨rfl, e9⟩, e9]; exact er37
      · rw [if_neg (fun h => e9 h.2), congrFun q294 j]; exact j2_8 j (by omega)
    have f258 : M45 258 = M43 258 := by rw [hM45, sI_n _ _ _ (by decide)]
    have f277 : M45 277 = M43 277 := by rw [hM45, sI_n _ _ _ (by decide)]
    have f278 : M45 278 = M43 278 := by rw [hM45, sI_n _ _ _ (by decide)]
    have f279 : M45 279 = M43 279 := by rw [hM45, sI_n _ _ _ (by decide)]
    have rp4 := rp3
    rw [← f258, ← f277, ← f278, ← f279] at rp4
    obtain ⟨v46, ev46⟩ : ∃ y : Int32, y = x1_2 + 1 := ⟨_, rfl⟩
    try have fv46 := fadd rfl (by decide : (1 : Int32).toInt = 1) ev46 (by omega) (by omega)
    refine g_iinc C 1 v46 [(1, .int v46), (2, .int r37), (0, .ref (ad 258))] dX11_countRunOff_39 rfl (by rw [ev46]; rfl) (by decide) rfl ?_
    refine g_goto C 2 dX11_countRunOff_42 (by decide) ?_
    refine g_lv [0, 2] [(1, .int v46), (0, .ref (ad 258))] rfl ?_
    have k29t := congrArg Int32.toInt k29
    have k31t := congrArg Int32.toInt k31
    have e282 : M45 282 = M43 282 := q282
    have n1_ := ixn (x := x1_2) (by omega)
    have nv := ixn (x := v46) (by omega)
    have iv : v46.toNatClampNeg = x1_2.toNatClampNeg + 1 := by omega
    have eI : M45 282 = roI (vR M) (M 260) (M 282) (fun i => vR M 8 (40 * (M 258 27).toNatClampNeg + i)) (vR M 7 (M 258 27).toNatClampNeg).toNatClampNeg (M 258 2).toNatClampNeg v46.toNatClampNeg := by rw [e282, h282, j2_6, iv]; show upd (roI (vR M) (M 260) (M 282) (fun i => vR M 8 (40 * (M 258 27).toNatClampNeg + i)) (vR M 7 (M 258 27).toNatClampNeg).toNatClampNeg (M 258 2).toNatClampNeg x1_2.toNatClampNeg) r37.toNatClampNeg 0 = upd (roI (vR M) (M 260) (M 282) (fun i => vR M 8 (40 * (M 258 27).toNatClampNeg + i)) (vR M 7 (M 258 27).toNatClampNeg).toNatClampNeg (M 258 2).toNatClampNeg x1_2.toNatClampNeg) (roC (vR M) (M 260) (M 282) (fun i => vR M 8 (40 * (M 258 27).toNatClampNeg + i)) (vR M 7 (M 258 27).toNatClampNeg).toNatClampNeg (M 258 2).toNatClampNeg x1_2.toNatClampNeg).toNatClampNeg 0; rw [er37]
    have eR : RR M45 [] (twoR (roO (vR M) (M 260) (M 282) (fun i => vR M 8 (40 * (M 258 27).toNatClampNeg + i)) (vR M 7 (M 258 27).toNatClampNeg).toNatClampNeg (M 258 2).toNatClampNeg v46.toNatClampNeg)) := by
      rw [iv]
      show RR M45 [] (twoR (roO (vR M) (M 260) (M 282) (fun i => vR M 8 (40 * (M 258 27).toNatClampNeg + i)) (vR M 7 (M 258 27).toNatClampNeg).toNatClampNeg (M 258 2).toNatClampNeg x1_2.toNatClampNeg ++ [roC (vR M) (M 260) (M 282) (fun i => vR M 8 (40 * (M 258 27).toNatClampNeg + i)) (vR M 7 (M 258 27).toNatClampNeg).toNatClampNeg (M 258 2).toNatClampNeg x1_2.toNatClampNeg]))
      rw [twoR_app, ← er37]
      exact rp4
    exact ih_2 (v46, M45, L42) ⟨by show 0 ≤ v46.toInt; omega, by show v46.toInt + (cI (M45 282) (M 258 2).toNatClampNeg : Int) = (cI (M 282) (M 258 2).toNatClampNeg : Int); rw [e282]; omega, by show 1 ≤ cI (M45 282) (M 258 2).toNatClampNeg; rw [e282]; omega, by show (M45 258 31).toInt = v46.toInt; omega, by show (M45 258 29).toInt = 0; omega, by show NIn (M45 282) (M 258 2).toInt; rw [e282]; exact hNI2, by show M45 282 = roI (vR M) (M 260) (M 282) (fun i => vR M 8 (40 * (M 258 27).toNatClampNeg + i)) (vR M 7 (M 258 27).toNatClampNeg).toNatClampNeg (M 258 2).toNatClampNeg v46.toNatClampNeg; exact eI, by show RR M45 [] (twoR (roO (vR M) (M 260) (M 282) (fun i => vR M 8 (40 * (M 258 27).toNatClampNeg + i)) (vR M 7 (M 258 27).toNatClampNeg).toNatClampNeg (M 258 2).toNatClampNeg v46.toNatClampNeg)); exact eR, by show ∀ j : Nat, j < v46.toNatClampNeg → M45 294 j = roC (vR M) (M 260) (M 282) (fun i => vR M 8 (40 * (M 258 27).toNatClampNeg + i)) (vR M 7 (M 258 27).toNatClampNeg).toNatClampNeg (M 258 2).toNatClampNeg j; rw [iv]; exact a294, by show (M45 258 25).toInt = 0; rw [k25]; exact tfs, hI, hF, hG⟩ (by show cI (M45 282) (M 258 2).toNatClampNeg < cI (M_2 282) (M 258 2).toNatClampNeg; rw [e282]; omega)
