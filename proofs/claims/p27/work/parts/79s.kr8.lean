set_option maxHeartbeats 4000000 in
set_option maxRecDepth 100000 in
theorem k_X11_countBy (l : Launch) (D : va_G) (ad : Nat → Nat) (cs : Nat → ClassId) (M : MI) (L : ML) (x : Int32) (hI : IR M) (hD : DP (vR M)) (hNI0 : NIn (M 282) (M 258 2).toInt) (hW : WT L) (hg0 : (M 258 29).toInt = 0) (hm0 : (M 258 31).toInt = 0) (hX : hasX (vR M) (M 258 27)) (hC : x.toInt ≠ 6 → x.toInt ≠ 7 → (M 258 28).toInt ≤ (cI (M 282) (M 258 2).toNatClampNeg : Int)) (hC1 : 1 ≤ cI (M 282) (M 258 2).toNatClampNeg) (hs1 : 1 ≤ (M 258 28).toInt) (hn1 : 1 ≤ (M 258 2).toInt) (hs0 : (M 258 25).toInt = 0) (hB8 : ∀ i : Nat, (vR M 8 i).toInt = -9 ∨ (0 ≤ (vR M 8 i).toInt ∧ (vR M 8 i).toInt ≤ 59)) (hWp : ∀ i, i < 40 → (vR M 8 (40 * (M 258 27).toNatClampNeg + i)).toInt ≠ -9 → L 286 i = (vR M 3 (vR M 8 (40 * (M 258 27).toNatClampNeg + i)).toNatClampNeg).toInt64 ∧ L 287 i = 1) (hrl : ∀ i, i < (M 258 2).toNatClampNeg → (M 260 i).toInt < ((M 258 2).toNatClampNeg : Int)) (hl4 : ∀ b : Nat, b < 60 → (vR M 4 b).toInt ≤ (vR M 0 0).toInt) : Cv l yX11_countBy wsX11_countBy ({ frames := 5, cells := 0, slots := 0, locals := 128 }) D ad cs [.ref (ad 258), .int x] M L (fun M1 L1 => (∃ ok S R, CRo (vR M) (M 260) (M 282) (fun i => vR M 8 (40 * (M 258 27).toNatClampNeg + i)) (vR M 7 (M 258 27).toNatClampNeg).toNatClampNeg (M 258 2).toNatClampNeg (M 258 28).toNatClampNeg x (L 286) (L 287) ((sumP (vR M) (M 258 27).toNatClampNeg (vR M 7 (M 258 27).toNatClampNeg).toNatClampNeg / (M 258 28 + 1)).toInt64 + 1) ok S R ∧ ((M1 258 25).toInt = 0 ↔ ok = true) ∧ (ok = true → RR M1 S R)) ∧ IR M1 ∧ (∀ k i, ¬ (k = 258 ∧ i = 25) ∧ ¬ (k = 258 ∧ i = 29) ∧ ¬ (k = 258 ∧ i = 31) ∧ k ≠ 277 ∧ k ≠ 278 ∧ k ≠ 279 ∧ k ≠ 282 ∧ k ≠ 293 ∧ k ≠ 294 → M1 k i = M k i) ∧ ∀ k i, ¬ (k = 258 ∧ i = 23) ∧ ¬ (k = 258 ∧ i = 24) ∧ k ≠ 284 ∧ k ≠ 285 ∧ k ≠ 280 ∧ k ≠ 281 ∧ k ≠ 286 ∧ k ≠ 287 ∧ k ≠ 295 ∧ k ≠ 296 → L1 k i = L k i) := by
  refine enter_v RX11 rfl [(0, .ref (ad 258)), (1, .int x)] rfl (Nat.le_of_ble_eq_true rfl) (by decide +kernel) rfl ?_
  intro p e s m below meth c C hr
  have hF : ∀ k i, ¬ (k = 258 ∧ i = 25) ∧ ¬ (k = 258 ∧ i = 29) ∧ ¬ (k = 258 ∧ i = 31) ∧ k ≠ 277 ∧ k ≠ 278 ∧ k ≠ 279 ∧ k ≠ 282 ∧ k ≠ 293 ∧ k ≠ 294 → M k i = M k i := fun _ _ _ => rfl
  have hG : ∀ k i, ¬ (k = 258 ∧ i = 23) ∧ ¬ (k = 258 ∧ i = 24) ∧ k ≠ 284 ∧ k ≠ 285 ∧ k ≠ 280 ∧ k ≠ 281 ∧ k ≠ 286 ∧ k ≠ 287 ∧ k ≠ 295 ∧ k ≠ 296 → L k i = L k i := fun _ _ _ => rfl
  have hI0 := hI
  have hX1 := hX.1
  have hX2 := hX.2
  obtain ⟨sza, szb⟩ := (show rg 0 40 (vR M 7 (M 258 27).toNatClampNeg) from hI 266 _)
  have nsz := ixn sza
  have nsd := ixn (show 0 ≤ (M 258 28).toInt by omega)
  have k25 : M 258 25 = M 258 25 := rfl
  have k29 : M 258 29 = M 258 29 := rfl
  have k31 : M 258 31 = M 258 31 := rfl
  have l23 : L 258 23 = L 258 23 := rfl
  have l24 : L 258 24 = L 258 24 := rfl
  have p280 : L 280 = L 280 := rfl
  have p281 : L 281 = L 281 := rfl
  have p284 : L 284 = L 284 := rfl
  have p285 : L 285 = L 285 := rfl
  have p286 : L 286 = L 286 := rfl
  have p287 : L 287 = L 287 := rfl
  have p295 : L 295 = L 295 := rfl
  have p296 : L 296 = L 296 := rfl
  have q277 : M 277 = M 277 := rfl
  have q278 : M 278 = M 278 := rfl
  have q279 : M 279 = M 279 := rfl
  have q282 : M 282 = M 282 := rfl
  have q293 : M 293 = M 293 := rfl
  have q294 : M 294 = M 294 := rfl
  refine g_iload_n C 1 dX11_countBy_0 rfl ?_
  by_cases hsw : x.toInt < 0 ∨ 5 < x.toInt
  ·
    refine g_tableOut C 93 dX11_countBy_1 hsw (by decide) ?_
    refine g_aload_n C 0 dX11_countBy_93 rfl ?_
    refine g_iload_n C 1 dX11_countBy_94 rfl ?_
    refine g_bipush C 7 dX11_countBy_95 (by decide) ?_
    refine g_icmp_ne C 104 dX11_countBy_97 (by decide) (fun c1 => ?_) (fun c1 => ?_)
    ·
      have f2 := fne rfl (by decide : (7 : Int32).toInt = 7) c1
      refine g_iconst C 1 dX11_countBy_104 (by decide) ?_
      refine g_callVv C (n := 1) (As := [.int 1]) (st := []) (k_X11_countDivisors l D ad cs _ _ 1 hI hW hs0 hn1 hg0 hm0 hX hB8 hWp) gX11_countBy_X11_countDivisors rfl rfl rfl (by decide +kernel) ⟨Nat.le_of_ble_eq_true rfl, Nat.le_of_ble_eq_true rfl⟩ rfl (Nat.le_of_ble_eq_true rfl) ⟨Nat.zero_le _, Nat.zero_le _⟩ (by decide) (ce_model ad cs _ _) rfl rfl dX11_countBy_105 (fun M4 L5 hr3 => ?_)
      obtain ⟨hr3, hI, hFr3, hGr3⟩ := hr3
      have hF : ∀ k i, ¬ (k = 258 ∧ i = 25) ∧ ¬ (k = 258 ∧ i = 29) ∧ ¬ (k = 258 ∧ i = 31) ∧ k ≠ 277 ∧ k ≠ 278 ∧ k ≠ 279 ∧ k ≠ 282 ∧ k ≠ 293 ∧ k ≠ 294 → M4 k i = M k i := fun k i hk => by (rw [hFr3 k i (by omega)]; try exact hF k i hk)
      have hG : ∀ k i, ¬ (k = 258 ∧ i = 23) ∧ ¬ (k = 258 ∧ i = 24) ∧ k ≠ 284 ∧ k ≠ 285 ∧ k ≠ 280 ∧ k ≠ 281 ∧ k ≠ 286 ∧ k ≠ 287 ∧ k ≠ 295 ∧ k ≠ 296 → L5 k i = L k i := fun k i hk => by (rw [hGr3 k i (by omega)]; try exact hG k i hk)
      have k25 : M4 258 25 = M4 258 25 := rfl
      have k29 : M4 258 29 = M4 258 29 := rfl
      have k31 : M4 258 31 = M4 258 31 := rfl
      have kt25 := congrArg Int32.toInt k25
      have kt29 := congrArg Int32.toInt k29
      have kt31 := congrArg Int32.toInt k31
      have l23 : L5 258 23 = L5 258 23 := rfl
      have l24 : L5 258 24 = L5 258 24 := rfl
      have p280 : L5 280 = L5 280 := rfl
      have p281 : L5 281 = L5 281 := rfl
      have p284 : L5 284 = L5 284 := rfl
      have p285 : L5 285 = L5 285 := rfl
      have p286 : L5 286 = L 286 := (funext (fun i => hGr3 286 i (by omega))).trans p286
      have p287 : L5 287 = L 287 := (funext (fun i => hGr3 287 i (by omega))).trans p287
      have p295 : L5 295 = L 295 := (funext (fun i => hGr3 295 i (by omega))).trans p295
      have p296 : L5 296 = L 296 := (funext (fun i => hGr3 296 i (by omega))).trans p296
      have q277 : M4 277 = M4 277 := rfl
      have q278 : M4 278 = M4 278 := rfl
      have q279 : M4 279 = M4 279 := rfl
      have q282 : M4 282 = M 282 := (funext (fun i => hFr3 282 i (by omega))).trans q282
      have q293 : M4 293 = M4 293 := rfl
      have q294 : M4 294 = M 294 := (funext (fun i => hFr3 294 i (by omega))).trans q294
      have hrr := hr3
      exact g_vret C hr ⟨(⟨true, (dvS (M 260) (tfV (vR M) (M 282) (fun i => vR M 8 (40 * (M 258 27).toNatClampNeg + i)) (vR M 7 (M 258 27).toNatClampNeg).toNatClampNeg) 1 (M 258 2).toNatClampNeg (M 258 28).toNatClampNeg), oneR (dvS (M 260) (tfV (vR M) (M 282) (fun i => vR M 8 (40 * (M 258 27).toNatClampNeg + i)) (vR M 7 (M 258 27).toNatClampNeg).toNatClampNeg) 1 (M 258 2).toNatClampNeg (M 258 28).toNatClampNeg), by unfold CRo; rw [if_neg (by omega)]; rw [if_neg (by omega)]; rw [if_neg (by omega)]; rw [if_neg (by omega)]; rw [if_neg (by omega)]; rw [if_neg (by omega)]; rw [if_neg (by omega)]; exact ⟨rfl, rfl, rfl⟩, ⟨fun _ => rfl, fun _ => hrr.2⟩, fun _ => hrr.1⟩), hI, hF, hG⟩ dX11_countBy_108
    ·
      have f6 := feq rfl (by decide : (7 : Int32).toInt = 7) c1
      refine g_iconst C 2 dX11_countBy_100 (by decide) ?_
      refine g_goto C 105 dX11_countBy_101 (by decide) ?_
      refine g_callVv C (n := 1) (As := [.int 2]) (st := []) (k_X11_countDivisors l D ad cs _ _ 2 hI hW hs0 hn1 hg0 hm0 hX hB8 hWp) gX11_countBy_X11_countDivisors rfl rfl rfl (by decide +kernel) ⟨Nat.le_of_ble_eq_true rfl, Nat.le_of_ble_eq_true rfl⟩ rfl (Nat.le_of_ble_eq_true rfl) ⟨Nat.zero_le _, Nat.zero_le _⟩ (by decide) (ce_model ad cs _ _) rfl rfl dX11_countBy_105 (fun M8 L9 hr7 => ?_)
      obtain ⟨hr7, hI, hFr7, hGr7⟩ := hr7
      have hF : ∀ k i, ¬ (k = 258 ∧ i = 25) ∧ ¬ (k = 258 ∧ i = 29) ∧ ¬ (k = 258 ∧ i = 31) ∧ k ≠ 277 ∧ k ≠ 278 ∧ k ≠ 279 ∧ k ≠ 282 ∧ k ≠ 293 ∧ k ≠ 294 → M8 k i = M k i := fun k i hk => by (rw [hFr7 k i (by omega)]; try exact hF k i hk)
      have hG : ∀ k i, ¬ (k = 258 ∧ i = 23) ∧ ¬ (k = 258 ∧ i = 24) ∧ k ≠ 284 ∧ k ≠ 285 ∧ k ≠ 280 ∧ k ≠ 281 ∧ k ≠ 286 ∧ k ≠ 287 ∧ k ≠ 295 ∧ k ≠ 296 → L9 k i = L k i := fun k i hk => by (rw [hGr7 k i (by omega)]; try exact hG k i hk)
      have k25 : M8 258 25 = M8 258 25 := rfl
      have k29 : M8 258 29 = M8 258 29 := rfl
      have k31 : M8 258 31 = M8 258 31 := rfl
      have kt25 := congrArg Int32.toInt k25
      have kt29 := congrArg Int32.toInt k29
      have kt31 := congrArg Int32.toInt k31
      have l23 : L9 258 23 = L9 258 23 := rfl
      have l24 : L9 258 24 = L9 258 24 := rfl
      have p280 : L9 280 = L9 280 := rfl
      have p281 : L9 281 = L9 281 := rfl
      have p284 : L9 284 = L9 284 := rfl
      have p285 : L9 285 = L9 285 := rfl
      have p286 : L9 286 = L 286 := (funext (fun i => hGr7 286 i (by omega))).trans p286
      have p287 : L9 287 = L 287 := (funext (fun i => hGr7 287 i (by omega))).trans p287
      have p295 : L9 295 = L 295 := (funext (fun i => hGr7 295 i (by omega))).trans p295
      have p296 : L9 296 = L 296 := (funext (fun i => hGr7 296 i (by omega))).trans p296
      have q277 : M8 277 = M8 277 := rfl
      have q278 : M8 278 = M8 278 := rfl
      have q279 : M8 279 = M8 279 := rfl
      have q282 : M8 282 = M 282 := (funext (fun i => hFr7 282 i (by omega))).trans q282
      have q293 : M8 293 = M8 293 := rfl
      have q294 : M8 294 = M 294 := (funext (fun i => hFr7 294 i (by omega))).trans q294
      have hrr := hr7
      exact g_vret C hr ⟨(⟨true, (dvS (M 260) (tfV (vR M) (M 282) (fun i => vR M 8 (40 * (M 258 27).toNatClampNeg + i)) (vR M 7 (M 258 27).toNatClampNeg).toNatClampNeg) 2 (M 258 2).toNatClampNeg (M 258 28).toNatClampNeg), oneR (dvS (M 260) (tfV (vR M) (M 282) (fun i => vR M 8 (40 * (M 258 27).toNatClampNeg + i)) (vR M 7 (M 258 27).toNatClampNeg).toNatClampNeg) 2 (M 258 2).toNatClampNeg (M 258 28).toNatClampNeg), by unfold CRo; rw [if_neg (by omega)]; rw [if_neg (by omega)]; rw [if_neg (by omega)]; rw [if_neg (by omega)]; rw [if_neg (by omega)]; rw [if_neg (by omega)]; rw [if_pos (by omega)]; exact ⟨rfl, rfl, rfl⟩, ⟨fun _ => rfl, fun _ => hrr.2⟩, fun _ => hrr.1⟩), hI, hF, hG⟩ dX11_countBy_108
  ·
    have hsw1 : ¬ x.toInt < 0 := fun h => hsw (Or.inl h)
    have hsw2 : ¬ 5 < x.toInt := fun h => hsw (Or.inr h)
    rcases (show x.toInt = 0 ∨ x.toInt = 1 ∨ x.toInt = 2 ∨ x.toInt = 3 ∨ x.toInt = 4 ∨ x.toInt = 5 by omega) with hq | hq | hq | hq | hq | hq
    ·
      refine g_tableIn C 40 dX11_countBy_1 hsw1 hsw2 (off := 39) (by rw [hq]; rfl) (by decide) ?_
      refine g_aload_n C 0 dX11_countBy_40 rfl ?_
      have hF0 := hF
      have hG0 := hG
      refine g_callVv C (n := 0) (As := []) (st := []) (k_X11_tallyFirsts l D ad cs _ _  hI hW hs0 hX hB8) gX11_countBy_X11_tallyFirsts rfl rfl rfl (by decide +kernel) ⟨Nat.le_of_ble_eq_true rfl, Nat.le_of_ble_eq_true rfl⟩ rfl (Nat.le_of_ble_eq_true rfl) ⟨Nat.zero_le _, Nat.zero_le _⟩ (by decide) (ce_model ad cs _ _) rfl rfl dX11_countBy_41 (fun M11 L12 hr10 => ?_)
      obtain ⟨hr10, hI, hFr10, hGr10⟩ := hr10
      have hF : ∀ k i, ¬ (k = 258 ∧ i = 25) ∧ ¬ (k = 258 ∧ i = 29) ∧ ¬ (k = 258 ∧ i = 31) ∧ k ≠ 277 ∧ k ≠ 278 ∧ k ≠ 279 ∧ k ≠ 282 ∧ k ≠ 293 ∧ k ≠ 294 → M11 k i = M k i := fun k i hk => by (rw [hFr10 k i (by omega)]; try exact hF k i hk)
      have hG : ∀ k i, ¬ (k = 258 ∧ i = 23) ∧ ¬ (k = 258 ∧ i = 24) ∧ k ≠ 284 ∧ k ≠ 285 ∧ k ≠ 280 ∧ k ≠ 281 ∧ k ≠ 286 ∧ k ≠ 287 ∧ k ≠ 295 ∧ k ≠ 296 → L12 k i = L k i := fun k i hk => by (rw [hGr10 k i (by omega)]; try exact hG k i hk)
      have k29 : M11 258 29 = M 258 29 := (hFr10 258 29 (by omega)).trans k29
      have k31 : M11 258 31 = M 258 31 := (hFr10 258 31 (by omega)).trans k31
      have k25 : M11 258 25 = M11 258 25 := rfl
      have kt25 := congrArg Int32.toInt k25
      have kt29 := congrArg Int32.toInt k29
      have kt31 := congrArg Int32.toInt k31
      have l23 : L12 258 23 = L12 258 23 := rfl
      have l24 : L12 258 24 = L12 258 24 := rfl
      have p280 : L12 280 = L 280 := (funext (fun i => hGr10 280 i (by omega))).trans p280
      have p281 : L12 281 = L 281 := (funext (fun i => hGr10 281 i (by omega))).trans p281
      have p284 : L12 284 = L12 284 := rfl
      have p285 : L12 285 = L12 285 := rfl
      have p286 : L12 286 = L 286 := (funext (fun i => hGr10 286 i (by omega))).trans p286
      have p287 : L12 287 = L 287 := (funext (fun i => hGr10 287 i (by omega))).trans p287
      have p295 : L12 295 = L 295 := (funext (fun i => hGr10 295 i (by omega))).trans p295
      have p296 : L12 296 = L 296 := (funext (fun i => hGr10 296 i (by omega))).trans p296
      have q277 : M11 277 = M 277 := (funext (fun i => hFr10 277 i (by omega))).trans q277
      have q278 : M11 278 = M 278 := (funext (fun i => hFr10 278 i (by omega))).trans q278
      have q279 : M11 279 = M 279 := (funext (fun i => hFr10 279 i (by omega))).trans q279
      have q282 : M11 282 = M 282 := (funext (fun i => hFr10 282 i (by omega))).trans q282
      have q293 : M11 293 = M 293 := (funext (fun i => hFr10 293 i (by omega))).trans q293
      have q294 : M11 294 = M 294 := (funext (fun i => hFr10 294 i (by omega))).trans q294
      obtain ⟨tfo, tfs, tfe⟩ := hr10
      rw [stW_F (V := vR M) (I := (M 282)) (p := (fun i => vR M 8 (40 * (M 258 27).toNatClampNeg + i))) (wu := L 286) (wd := L 287) (fun b => hI0 262 b) hWp (vR M 7 (M 258 27).toNatClampNeg).toNatClampNeg (by omega)] at tfs tfe
      have tfe : ∀ c, c < 10 → L12 284 c = tfV (vR M) (M 282) (fun i => vR M 8 (40 * (M 258 27).toNatClampNeg + i)) (vR M 7 (M 258 27).toNatClampNeg).toNatClampNeg c ∧ L12 285 c = 1 := fun c hc => ⟨(tfe rfl c hc).1, (tfe rfl c hc).2.1⟩
      have tfs : (M11 258 25).toInt = 0 := tfs.mpr rfl
      have eU9 : ∀ c, c < 10 → L12 284 c = (tfV (vR M) (M 282) (fun i => vR M 8 (40 * (M 258 27).toNatClampNeg + i)) (vR M 7 (M 258 27).toNatClampNeg).toNatClampNeg) c := fun c hc => (tfe c hc).1
      have eD9 : ∀ c, c < 10 → L12 285 c = (fun _ => 1) c := fun c hc => (tfe c hc).2
      refine g_aload_n C 0 dX11_countBy_44 rfl ?_
      have hF0 := hF
      have hG0 := hG
      have q282b := q282
      refine g_callVv C (n := 0) (As := []) (st := []) (k_X11_countByTallies l D ad cs _ _  hI (DP_k hD (hF 258 2 (by omega)) (fun i => hF 260 i (by omega))) (by rw [(show M11 282 = M 282 from q282), (show M11 258 2 = M 258 2 from hF 258 2 (by omega))]; exact hNI0) (by rw [k29]; exact hg0) (by rw [k31]; exact hm0) (by rw [(show M11 258 28 = M 258 28 from hF 258 28 (by omega)), (show M11 282 = M 282 from q282), (show M11 258 2 = M 258 2 from hF 258 2 (by omega))]; exact hC (by omega) (by omega))) gX11_countBy_X11_countByTallies rfl rfl rfl (by decide +kernel) ⟨Nat.le_of_ble_eq_true rfl, Nat.le_of_ble_eq_true rfl⟩ rfl (Nat.le_of_ble_eq_true rfl) ⟨Nat.zero_le _, Nat.zero_le _⟩ (by decide) (ce_model ad cs _ _) rfl rfl dX11_countBy_45 (fun M14 L15 hr13 => ?_)
      obtain ⟨hr13, hI, hFr13, hGr13⟩ := hr13
      have hF : ∀ k i, ¬ (k = 258 ∧ i = 25) ∧ ¬ (k = 258 ∧ i = 29) ∧ ¬ (k = 258 ∧ i = 31) ∧ k ≠ 277 ∧ k ≠ 278 ∧ k ≠ 279 ∧ k ≠ 282 ∧ k ≠ 293 ∧ k ≠ 294 → M14 k i = M k i := fun k i hk => by (rw [hFr13 k i (by omega)]; try exact hF k i hk)
      have hG : ∀ k i, ¬ (k = 258 ∧ i = 23) ∧ ¬ (k = 258 ∧ i = 24) ∧ k ≠ 284 ∧ k ≠ 285 ∧ k ≠ 280 ∧ k ≠ 281 ∧ k ≠ 286 ∧ k ≠ 287 ∧ k ≠ 295 ∧ k ≠ 296 → L15 k i = L k i := fun k i hk => by (rw [hGr13 k i (by omega)]; try exact hG k i hk)
      have k25 : M14 258 25 = M11 258 25 := (hFr13 258 25 (by omega)).trans k25
      have k29 : M14 258 29 = M14 258 29 := rfl
      have k31 : M14 258 31 = M14 258 31 := rfl
      have kt25 := congrArg Int32.toInt k25
      have kt29 := congrArg Int32.toInt k29
      have kt31 := congrArg Int32.toInt k31
      have l23 : L15 258 23 = L12 258 23 := (hGr13 258 23 (by omega)).trans l23
      have l24 : L15 258 24 = L12 258 24 := (hGr13 258 24 (by omega)).trans l24
      have p280 : L15 280 = L15 280 := rfl
      have p281 : L15 281 = L15 281 := rfl
      have p284 : L15 284 = L12 284 := (funext (fun i => hGr13 284 i (by omega))).trans p284
      have p285 : L15 285 = L12 285 := (funext (fun i => hGr13 285 i (by omega))).trans p285
      have p286 : L15 286 = L 286 := (funext (fun i => hGr13 286 i (by omega))).trans p286
      have p287 : L15 287 = L 287 := (funext (fun i => hGr13 287 i (by omega))).trans p287
      have p295 : L15 295 = L 295 := (funext (fun i => hGr13 295 i (by omega))).trans p295
      have p296 : L15 296 = L 296 := (funext (fun i => hGr13 296 i (by omega))).trans p296
      have q277 : M14 277 = M14 277 := rfl
      have q278 : M14 278 = M14 278 := rfl
      have q279 : M14 279 = M14 279 := rfl
      have q282 : M14 282 = M14 282 := rfl
      have q293 : M14 293 = M 293 := (funext (fun i => hFr13 293 i (by omega))).trans q293
      have q294 : M14 294 = M 294 := (funext (fun i => hFr13 294 i (by omega))).trans q294
      have hrr := hr13
      rw [show M11 260 = M 260 from funext (fun i => hF0 260 i (by omega)), show M11 282 = M 282 from q282b, show M11 258 2 = M 258 2 from hF0 258 2 (by omega), show M11 258 28 = M 258 28 from hF0 258 28 (by omega), (bt_ext (n := (M 258 2).toNatClampNeg) (fun i => hI0 260 i) (fun _ _ => rfl) eU9 eD9 (M 258 28).toNatClampNeg).2] at hrr
      refine g_goto C 108 dX11_countBy_48 (by decide) ?_
      exact g_vret C hr ⟨(⟨true, (btS (M 260) (M 282) (tfV (vR M) (M 282) (fun i => vR M 8 (40 * (M 258 27).toNatClampNeg + i)) (vR M 7 (M 258 27).toNatClampNeg).toNatClampNeg) (fun _ => 1) (M 258 2).toNatClampNeg (M 258 28).toNatClampNeg), oneR (btS (M 260) (M 282) (tfV (vR M) (M 282) (fun i => vR M 8 (40 * (M 258 27).toNatClampNeg + i)) (vR M 7 (M 258 27).toNatClampNeg).toNatClampNeg) (fun _ => 1) (M 258 2).toNatClampNeg (M 258 28).toNatClampNeg), by unfold CRo; rw [if_pos (by omega)]; exact ⟨rfl, rfl, rfl⟩, ⟨fun _ => rfl, fun _ => by rw [k25]; exact tfs⟩, fun _ => hrr⟩), hI, hF, hG⟩ dX11_countBy_108
    ·
      refine g_tableIn C 51 dX11_countBy_1 hsw1 hsw2 (off := 50) (by rw [hq]; rfl) (by decide) ?_
      refine g_aload_n C 0 dX11_countBy_51 rfl ?_
      refine g_iload_n C 1 dX11_countBy_52 rfl ?_
      refine g_iconst C 2 dX11_countBy_53 (by decide) ?_
      refine g_icmp_ne C 61 dX11_countBy_54 (by decide) (fun c16 => ?_) (fun c16 => ?_)
      ·
        have f17 := fne rfl (by decide : (2 : Int32).toInt = 2) c16
        refine g_iconst C 0 dX11_countBy_61 (by decide) ?_
        refine g_callVv C (n := 1) (As := [.int 0]) (st := []) (k_X11_tallyPoints l D ad cs _ _ 0 hI hs0 hX hB8 hl4) gX11_countBy_X11_tallyPoints rfl rfl rfl (by decide +kernel) ⟨Nat.le_of_ble_eq_true rfl, Nat.le_of_ble_eq_true rfl⟩ rfl (Nat.le_of_ble_eq_true rfl) ⟨Nat.zero_le _, Nat.zero_le _⟩ (by decide) (ce_model ad cs _ _) rfl rfl dX11_countBy_62 (fun M19 L20 hr18 => ?_)
        obtain ⟨hr18, hI, hFr18, hGr18⟩ := hr18
        have hF : ∀ k i, ¬ (k = 258 ∧ i = 25) ∧ ¬ (k = 258 ∧ i = 29) ∧ ¬ (k = 258 ∧ i = 31) ∧ k ≠ 277 ∧ k ≠ 278 ∧ k ≠ 279 ∧ k ≠ 282 ∧ k ≠ 293 ∧ k ≠ 294 → M19 k i = M k i := fun k i hk => by (rw [hFr18 k i (by omega)]; try exact hF k i hk)
        have hG : ∀ k i, ¬ (k = 258 ∧ i = 23) ∧ ¬ (k = 258 ∧ i = 24) ∧ k ≠ 284 ∧ k ≠ 285 ∧ k ≠ 280 ∧ k ≠ 281 ∧ k ≠ 286 ∧ k ≠ 287 ∧ k ≠ 295 ∧ k ≠ 296 → L20 k i = L k i := fun k i hk => by (rw [hGr18 k i (by omega)]; try exact hG k i hk)
        have k29 : M19 258 29 = M 258 29 := (hFr18 258 29 (by omega)).trans k29
        have k31 : M19 258 31 = M 258 31 := (hFr18 258 31 (by omega)).trans k31
        have k25 : M19 258 25 = M19 258 25 := rfl
        have kt25 := congrArg Int32.toInt k25
        have kt29 := congrArg Int32.toInt k29
        have kt31 := congrArg Int32.toInt k31
        have l23 : L20 258 23 = L20 258 23 := rfl
        have l24 : L20 258 24 = L20 258 24 := rfl
        have p280 : L20 280 = L 280 := (funext (fun i => hGr18 280 i (by omega))).trans p280
        have p281 : L20 281 = L 281 := (funext (fun i => hGr18 281 i (by omega))).trans p281
        have p284 : L20 284 = L20 284 := rfl
        have p285 : L20 285 = L20 285 := rfl
        have p286 : L20 286 = L 286 := (funext (fun i => hGr18 286 i (by omega))).trans p286
        have p287 : L20 287 = L 287 := (funext (fun i => hGr18 287 i (by omega))).trans p287
        have p295 : L20 295 = L 295 := (funext (fun i => hGr18 295 i (by omega))).trans p295
        have p296 : L20 296 = L 296 := (funext (fun i => hGr18 296 i (by omega))).trans p296
        have q277 : M19 277 = M 277 := (funext (fun i => hFr18 277 i (by omega))).trans q277
        have q278 : M19 278 = M 278 := (funext (fun i => hFr18 278 i (by omega))).trans q278
        have q279 : M19 279 = M 279 := (funext (fun i => hFr18 279 i (by omega))).trans q279
        have q282 : M19 282 = M 282 := (funext (fun i => hFr18 282 i (by omega))).trans q282
        have q293 : M19 293 = M 293 := (funext (fun i => hFr18 293 i (by omega))).trans q293
        have q294 : M19 294 = M 294 := (funext (fun i => hFr18 294 i (by omega))).trans q294
        obtain ⟨tfo, tfs, tfe⟩ := hr18
        have eU9 : ∀ c, c < 10 → L20 284 c = (foP (stP (vR M) (ptX (vR M) 0) (M 258 2).toNatClampNeg) (fun i => vR M 8 (40 * (M 258 27).toNatClampNeg + i)) (vR M 7 (M 258 27).toNatClampNeg).toNatClampNeg (fun _ => 0)) c := fun c hc => (tfe c hc).1
        have eD9 : ∀ c, c < 10 → L20 285 c = (fun _ => 1) c := fun c hc => (tfe c hc).2
        refine g_aload_n C 0 dX11_countBy_65 rfl ?_
        have hF0 := hF
        have hG0 := hG
        have q282b := q282
        refine g_callVv C (n := 0) (As := []) (st := []) (k_X11_countByTallies l D ad cs _ _  hI (DP_k hD (hF 258 2 (by omega)) (fun i => hF 260 i (by omega))) (by rw [(show M19 282 = M 282 from q282), (show M19 258 2 = M 258 2 from hF 258 2 (by omega))]; exact hNI0) (by rw [k29]; exact hg0) (by rw [k31]; exact hm0) (by rw [(show M19 258 28 = M 258 28 from hF 258 28 (by omega)), (show M19 282 = M 282 from q282), (show M19 258 2 = M 258 2 from hF 258 2 (by omega))]; exact hC (by omega) (by omega))) gX11_countBy_X11_countByTallies rfl rfl rfl (by decide +kernel) ⟨Nat.le_of_ble_eq_true rfl, Nat.le_of_ble_eq_true rfl⟩ rfl (Nat.le_of_ble_eq_true rfl) ⟨Nat.zero_le _, Nat.zero_le _⟩ (by decide) (ce_model ad cs _ _) rfl rfl dX11_countBy_66 (fun M22 L23 hr21 => ?_)
        obtain ⟨hr21, hI, hFr21, hGr21⟩ := hr21
        have hF : ∀ k i, ¬ (k = 258 ∧ i = 25) ∧ ¬ (k = 258 ∧ i = 29) ∧ ¬ (k = 258 ∧ i = 31) ∧ k ≠ 277 ∧ k ≠ 278 ∧ k ≠ 279 ∧ k ≠ 282 ∧ k ≠ 293 ∧ k ≠ 294 → M22 k i = M k i := fun k i hk => by (rw [hFr21 k i (by omega)]; try exact hF k i hk)
        have hG : ∀ k i, ¬ (k = 258 ∧ i = 23) ∧ ¬ (k = 258 ∧ i = 24) ∧ k ≠ 284 ∧ k ≠ 285 ∧ k ≠ 280 ∧ k ≠ 281 ∧ k ≠ 286 ∧ k ≠ 287 ∧ k ≠ 295 ∧ k ≠ 296 → L23 k i = L k i := fun k i hk => by (rw [hGr21 k i (by omega)]; try exact hG k i hk)
        have k25 : M22 258 25 = M19 258 25 := (hFr21 258 25 (by omega)).trans k25
        have k29 : M22 258 29 = M22 258 29 := rfl
        have k31 : M22 258 31 = M22 258 31 := rfl
        have kt25 := congrArg Int32.toInt k25
        have kt29 := congrArg Int32.toInt k29
        have kt31 := congrArg Int32.toInt k31
        have l23 : L23 258 23 = L20 258 23 := (hGr21 258 23 (by omega)).trans l23
        have l24 : L23 258 24 = L20 258 24 := (hGr21 258 24 (by omega)).trans l24
        have p280 : L23 280 = L23 280 := rfl
        have p281 : L23 281 = L23 281 := rfl
        have p284 : L23 284 = L20 284 := (funext (fun i => hGr21 284 i (by omega))).trans p284
        have p285 : L23 285 = L20 285 := (funext (fun i => hGr21 285 i (by omega))).trans p285
        have p286 : L23 286 = L 286 := (funext (fun i => hGr21 286 i (by omega))).trans p286
        have p287 : L23 287 = L 287 := (funext (fun i => hGr21 287 i (by omega))).trans p287
        have p295 : L23 295 = L 295 := (funext (fun i => hGr21 295 i (by omega))).trans p295
        have p296 : L23 296 = L 296 := (funext (fun i => hGr21 296 i (by omega))).trans p296
        have q277 : M22 277 = M22 277 := rfl
        have q278 : M22 278 = M22 278 := rfl
        have q279 : M22 279 = M22 279 := rfl
        have q282 : M22 282 = M22 282 := rfl
        have q293 : M22 293 = M 293 := (funext (fun i => hFr21 293 i (by omega))).trans q293
        have q294 : M22 294 = M 294 := (funext (fun i => hFr21 294 i (by omega))).trans q294
        have hrr := hr21
        rw [show M19 260 = M 260 from funext (fun i => hF0 260 i (by omega)), show M19 282 = M 282 from q282b, show M19 258 2 = M 258 2 from hF0 258 2 (by omega), show M19 258 28 = M 258 28 from hF0 258 28 (by omega), (bt_ext (n := (M 258 2).toNatClampNeg) (fun i => hI0 260 i) (fun _ _ => rfl) eU9 eD9 (M 258 28).toNatClampNeg).2] at hrr
        refine g_goto C 108 dX11_countBy_69 (by decide) ?_
        exact g_vret C hr ⟨(⟨true, (btS (M 260) (M 282) (foP (stP (vR M) (ptX (vR M) 0) (M 258 2).toNatClampNeg) (fun i => vR M 8 (40 * (M 258 27).toNatClampNeg + i)) (vR M 7 (M 258 27).toNatClampNeg).toNatClampNeg (fun _ => 0)) (fun _ => 1) (M 258 2).toNatClampNeg (M 258 28).toNatClampNeg), oneR (btS (M 260) (M 282) (foP (stP (vR M) (ptX (vR M) 0) (M 258 2).toNatClampNeg) (fun i => vR M 8 (40 * (M 258 27).toNatClampNeg + i)) (vR M 7 (M 258 27).toNatClampNeg).toNatClampNeg (fun _ => 0)) (fun _ => 1) (M 258 2).toNatClampNeg (M 258 28).toNatClampNeg), by unfold CRo; rw [if_neg (by omega)]; rw [if_pos (by omega)]; exact ⟨rfl, rfl, rfl⟩, ⟨fun _ => rfl, fun _ => by rw [k25]; exact tfs⟩, fun _ => hrr⟩), hI, hF, hG⟩ dX11_countBy_108
      ·
        have f24 := feq rfl (by decide : (2 : Int32).toInt = 2) c16
        refine g_iconst C 1 dX11_countBy_57 (by decide) ?_
        refine g_goto C 62 dX11_countBy_58 (by decide) ?_
        refine g_callVv C (n := 1) (As := [.int 1]) (st := []) (k_X11_tallyPoints l D ad cs _ _ 1 hI hs0 hX hB8 hl4) gX11_countBy_X11_tallyPoints rfl rfl rfl (by decide +kernel) ⟨Nat.le_of_ble_eq_true rfl, Nat.le_of_ble_eq_true rfl⟩ rfl (Nat.le_of_ble_eq_true rfl) ⟨Nat.zero_le _, Nat.zero_le _⟩ (by decide) (ce_model ad cs _ _) rfl rfl dX11_countBy_62 (fun M26 L27 hr25 => ?_)
        obtain ⟨hr25, hI, hFr25, hGr25⟩ := hr25
        have hF : ∀ k i, ¬ (k = 258 ∧ i = 25) ∧ ¬ (k = 258 ∧ i = 29) ∧ ¬ (k = 258 ∧ i = 31) ∧ k ≠ 277 ∧ k ≠ 278 ∧ k ≠ 279 ∧ k ≠ 282 ∧ k ≠ 293 ∧ k ≠ 294 → M26 k i = M k i := fun k i hk => by (rw [hFr25 k i (by omega)]; try exact hF k i hk)
        have hG : ∀ k i, ¬ (k = 258 ∧ i = 23) ∧ ¬ (k = 258 ∧ i = 24) ∧ k ≠ 284 ∧ k ≠ 285 ∧ k ≠ 280 ∧ k ≠ 281 ∧ k ≠ 286 ∧ k ≠ 287 ∧ k ≠ 295 ∧ k ≠ 296 → L27 k i = L k i := fun k i hk => by (rw [hGr25 k i (by omega)]; try exact hG k i hk)
        have k29 : M26 258 29 = M 258 29 := (hFr25 258 29 (by omega)).trans k29
        have k31 : M26 258 31 = M 258 31 := (hFr25 258 31 (by omega)).trans k31
        have k25 : M26 258 25 = M26 258 25 := rfl
        have kt25 := congrArg Int32.toInt k25
        have kt29 := congrArg Int32.toInt k29
        have kt31 := congrArg Int32.toInt k31
        have l23 : L27 258 23 = L27 258 23 := rfl
        have l24 : L27 258 24 = L27 258 24 := rfl
        have p280 : L27 280 = L 280 := (funext (fun i => hGr25 280 i (by omega))).trans p280
        have p281 : L27 281 = L 281 := (funext (fun i => hGr25 281 i (by omega))).trans p281
        have p284 : L27 284 = L27 284 := rfl
        have p285 : L27 285 = L27 285 := rfl
        have p286 : L27 286 = L 286 := (funext (fun i => hGr25 286 i (by omega))).trans p286
        have p287 : L27 287 = L 287 := (funext (fun i => hGr25 287 i (by omega))).trans p287
        have p295 : L27 295 = L 295 := (funext (fun i => hGr25 295 i (by omega))).trans p295
        have p296 : L27 296 = L 296 := (funext (fun i => hGr25 296 i (by omega))).trans p296
        have q277 : M26 277 = M 277 := (funext (fun i => hFr25 277 i (by omega))).trans q277
        have q278 : M26 278 = M 278 := (funext (fun i => hFr25 278 i (by omega))).trans q278
        have q279 : M26 279 = M 279 := (funext (fun i => hFr25 279 i (by omega))).trans q279
        have q282 : M26 282 = M 282 := (funext (fun i => hFr25 282 i (by omega))).trans q282
        have q293 : M26 293 = M 293 := (funext (fun i => hFr25 293 i (by omega))).trans q293
        have q294 : M26 294 = M 294 := (funext (fun i => hFr25 294 i (by omega))).trans q294
        obtain ⟨tfo, tfs, tfe⟩ := hr25
        have eU9 : ∀ c, c < 10 → L27 284 c = (foP (stP (vR M) (ptX (vR M) 1) (M 258 2).toNatClampNeg) (fun i => vR M 8 (40 * (M 258 27).toNatClampNeg + i)) (vR M 7 (M 258 27).toNatClampNeg).toNatClampNeg (fun _ => 0)) c := fun c hc => (tfe c hc).1
        have eD9 : ∀ c, c < 10 → L27 285 c = (fun _ => 1) c := fun c hc => (tfe c hc).2
        refine g_aload_n C 0 dX11_countBy_65 rfl ?_
        have hF0 := hF
        have hG0 := hG
        have q282b := q282
        refine g_callVv C (n := 0) (As := []) (st := []) (k_X11_countByTallies l D ad cs _ _  hI (DP_k hD (hF 258 2 (by omega)) (fun i => hF 260 i (by omega))) (by rw [(show M26 282 = M 282 from q282), (show M26 258 2 = M 258 2 from hF 258 2 (by omega))]; exact hNI0) (by rw [k29]; exact hg0) (by rw [k31]; exact hm0) (by rw [(show M26 258 28 = M 258 28 from hF 258 28 (by omega)), (show M26 282 = M 282 from q282), (show M26 258 2 = M 258 2 from hF 258 2 (by omega))]; exact hC (by omega) (by omega))) gX11_countBy_X11_countByTallies rfl rfl rfl (by decide +kernel) ⟨Nat.le_of_ble_eq_true rfl, Nat.le_of_ble_eq_true rfl⟩ rfl (Nat.le_of_ble_eq_true rfl) ⟨Nat.zero_le _, Nat.zero_le _⟩ (by decide) (ce_model ad cs _ _) rfl rfl dX11_countBy_66 (fun M29 L30 hr28 => ?_)
        obtain ⟨hr28, hI, hFr28, hGr28⟩ := hr28
        have hF : ∀ k i, ¬ (k = 258 ∧ i = 25) ∧ ¬ (k = 258 ∧ i = 29) ∧ ¬ (k = 258 ∧ i = 31) ∧ k ≠ 277 ∧ k ≠ 278 ∧ k ≠ 279 ∧ k ≠ 282 ∧ k ≠ 293 ∧ k ≠ 294 → M29 k i = M k i := fun k i hk => by (rw [hFr28 k i (by omega)]; try exact hF k i hk)
        have hG : ∀ k i, ¬ (k = 258 ∧ i = 23) ∧ ¬ (k = 258 ∧ i = 24) ∧ k ≠ 284 ∧ k ≠ 285 ∧ k ≠ 280 ∧ k ≠ 281 ∧ k ≠ 286 ∧ k ≠ 287 ∧ k ≠ 295 ∧ k ≠ 296 → L30 k i = L k i := fun k i hk => by (rw [hGr28 k i (by omega)]; try exact hG k i hk)
        have k25 : M29 258 25 = M26 258 25 := (hFr28 258 25 (by omega)).trans k25
        have k29 : M29 258 29 = M29 258 29 := rfl
        have k31 : M29 258 31 = M29 258 31 := rfl
        have kt25 := congrArg Int32.toInt k25
        have kt29 := congrArg Int32.toInt k29
        have kt31 := congrArg Int32.toInt k31
        have l23 : L30 258 23 = L27 258 23 := (hGr28 258 23 (by omega)).trans l23
        have l24 : L30 258 24 = L27 258 24 := (hGr28 258 24 (by omega)).trans l24
        have p280 : L30 280 = L30 280 := rfl
        have p281 : L30 281 = L30 281 := rfl
        have p284 : L30 284 = L27 284 := (funext (fun i => hGr28 284 i (by omega))).trans p284
        have p285 : L30 285 = L27 285 := (funext (fun i => hGr28 285 i (by omega))).trans p285
        have p286 : L30 286 = L 286 := (funext (fun i => hGr28 286 i (by omega))).trans p286
        have p287 : L30 287 = L 287 := (funext (fun i => hGr28 287 i (by omega))).trans p287
        have p295 : L30 295 = L 295 := (funext (fun i => hGr28 295 i (by omega))).trans p295
        have p296 : L30 296 = L 296 := (funext (fun i => hGr28 296 i (by omega))).trans p296
        have q277 : M29 277 = M29 277 := rfl
        have q278 : M29 278 = M29 278 := rfl
        have q279 : M29 279 = M29 279 := rfl
        have q282 : M29 282 = M29 282 := rfl
        have q293 : M29 293 = M 293 := (funext (fun i => hFr28 293 i (by omega))).trans q293
        have q294 : M29 294 = M 294 := (funext (fun i => hFr28 294 i (by omega))).trans q294
        have hrr := hr28
        rw [show M26 260 = M 260 from funext (fun i => hF0 260 i (by omega)), show M26 282 = M 282 from q282b, show M26 258 2 = M 258 2 from hF0 258 2 (by omega), show M26 258 28 = M 258 28 from hF0 258 28 (by omega), (bt_ext (n := (M 258 2).toNatClampNeg) (fun i => hI0 260 i) (fun _ _ => rfl) eU9 eD9 (M 258 28).toNatClampNeg).2] at hrr
        refine g_goto C 108 dX11_countBy_69 (by decide) ?_
        exact g_vret C hr ⟨(⟨true, (btS (M 260) (M 282) (foP (stP (vR M) (ptX (vR M) 1) (M 258 2).toNatClampNeg) (fun i => vR M 8 (40 * (M 258 27).toNatClampNeg + i)) (vR M 7 (M 258 27).toNatClampNeg).toNatClampNeg (fun _ => 0)) (fun _ => 1) (M 258 2).toNatClampNeg (M 258 28).toNatClampNeg), oneR (btS (M 260) (M 282) (foP (stP (vR M) (ptX (vR M) 1) (M 258 2).toNatClampNeg) (fun i => vR M 8 (40 * (M 258 27).toNatClampNeg + i)) (vR M 7 (M 258 27).toNatClampNeg).toNatClampNeg (fun _ => 0)) (fun _ => 1) (M 258 2).toNatClampNeg (M 258 28).toNatClampNeg), by unfold CRo; rw [if_neg (by omega)]; rw [if_neg (by omega)]; rw [if_pos (by omega)]; exact ⟨rfl, rfl, rfl⟩, ⟨fun _ => rfl, fun _ => by rw [k25]; exact tfs⟩, fun _ => hrr⟩), hI, hF, hG⟩ dX11_countBy_108
    ·
      refine g_tableIn C 51 dX11_countBy_1 hsw1 hsw2 (off := 50) (by rw [hq]; rfl) (by decide) ?_
      refine g_aload_n C 0 dX11_countBy_51 rfl ?_
      refine g_iload_n C 1 dX11_countBy_52 rfl ?_
      refine g_iconst C 2 dX11_countBy_53 (by decide) ?_
      refine g_icmp_ne C 61 dX11_countBy_54 (by decide) (fun c31 => ?_) (fun c31 => ?_)
      ·
        have f32 := fne rfl (by decide : (2 : Int32).toInt = 2) c31
        refine g_iconst C 0 dX11_countBy_61 (by decide) ?_
        refine g_callVv C (n := 1) (As := [.int 0]) (st := []) (k_X11_tallyPoints l D ad cs _ _ 0 hI hs0 hX hB8 hl4) gX11_countBy_X11_tallyPoints rfl rfl rfl (by decide +kernel) ⟨Nat.le_of_ble_eq_true rfl, Nat.le_of_ble_eq_true rfl⟩ rfl (Nat.le_of_ble_eq_true rfl) ⟨Nat.zero_le _, Nat.zero_le _⟩ (by decide) (ce_model ad cs _ _) rfl rfl dX11_countBy_62 (fun M34 L35 hr33 => ?_)
        obtain ⟨hr33, hI, hFr33, hGr33⟩ := hr33
        have hF : ∀ k i, ¬ (k = 258 ∧ i = 25) ∧ ¬ (k = 258 ∧ i = 29) ∧ ¬ (k = 258 ∧ i = 31) ∧ k ≠ 277 ∧ k ≠ 278 ∧ k ≠ 279 ∧ k ≠ 282 ∧ k ≠ 293 ∧ k ≠ 294 → M34 k i = M k i := fun k i hk => by (rw [hFr33 k i (by omega)]; try exact hF k i hk)
        have hG : ∀ k i, ¬ (k = 258 ∧ i = 23) ∧ ¬ (k = 258 ∧ i = 24) ∧ k ≠ 284 ∧ k ≠ 285 ∧ k ≠ 280 ∧ k ≠ 281 ∧ k ≠ 286 ∧ k ≠ 287 ∧ k ≠ 295 ∧ k ≠ 296 → L35 k i = L k i := fun k i hk => by (rw [hGr33 k i (by omega)]; try exact hG k i hk)
        have k29 : M34 258 29 = M 258 29 := (hFr33 258 29 (by omega)).trans k29
        have k31 : M34 258 31 = M 258 31 := (hFr33 258 31 (by omega)).trans k31
        have k25 : M34 258 25 = M34 258 25 := rfl
        have kt25 := congrArg Int32.toInt k25
        have kt29 := congrArg Int32.toInt k29
        have kt31 := congrArg Int32.toInt k31
        have l23 : L35 258 23 = L35 258 23 := rfl
        have l24 : L35 258 24 = L35 258 24 := rfl
        have p280 : L35 280 = L 280 := (funext (fun i => hGr33 280 i (by omega))).trans p280
        have p281 : L35 281 = L 281 := (funext (fun i => hGr33 281 i (by omega))).trans p281
        have p284 : L35 284 = L35 284 := rfl
        have p285 : L35 285 = L35 285 := rfl
        have p286 : L35 286 = L 286 := (funext (fun i => hGr33 286 i (by omega))).trans p286
        have p287 : L35 287 = L 287 := (funext (fun i => hGr33 287 i (by omega))).trans p287
        have p295 : L35 295 = L 295 := (funext (fun i => hGr33 295 i (by omega))).trans p295
        have p296 : L35 296 = L 296 := (funext (fun i => hGr33 296 i (by omega))).trans p296
        have q277 : M34 277 = M 277 := (funext (fun i => hFr33 277 i (by omega))).trans q277
        have q278 : M34 278 = M 278 := (funext (fun i => hFr33 278 i (by omega))).trans q278
        have q279 : M34 279 = M 279 := (funext (fun i => hFr33 279 i (by omega))).trans q279
        have q282 : M34 282 = M 282 := (funext (fun i => hFr33 282 i (by omega))).trans q282
        have q293 : M34 293 = M 293 := (funext (fun i => hFr33 293 i (by omega))).trans q293
        have q294 : M34 294 = M 294 := (funext (fun i => hFr33 294 i (by omega))).trans q294
        obtain ⟨tfo, tfs, tfe⟩ := hr33
        have eU9 : ∀ c, c < 10 → L35 284 c = (foP (stP (vR M) (ptX (vR M) 0) (M 258 2).toNatClampNeg) (fun i => vR M 8 (40 * (M 258 27).toNatClampNeg + i)) (vR M 7 (M 258 27).toNatClampNeg).toNatClampNeg (fun _ => 0)) c := fun c hc => (tfe c hc).1
        have eD9 : ∀ c, c < 10 → L35 285 c = (fun _ => 1) c := fun c hc => (tfe c hc).2
        refine g_aload_n C 0 dX11_countBy_65 rfl ?_
        have hF0 := hF
        have hG0 := hG
        have q282b := q282
        refine g_callVv C (n := 0) (As := []) (st := []) (k_X11_countByTallies l D ad cs _ _  hI (DP_k hD (hF 258 2 (by omega)) (fun i => hF 260 i (by omega))) (by rw [(show M34 282 = M 282 from q282), (show M34 258 2 = M 258 2 from hF 258 2 (by omega))]; exact hNI0) (by rw [k29]; exact hg0) (by rw [k31]; exact hm0) (by rw [(show M34 258 28 = M 258 28 from hF 258 28 (by omega)), (show M34 282 = M 282 from q282), (show M34 258 2 = M 258 2 from hF 258 2 (by omega))]; exact hC (by omega) (by omega))) gX11_countBy_X11_countByTallies rfl rfl rfl (by decide +kernel) ⟨Nat.le_of_ble_eq_true rfl, Nat.le_of_ble_eq_true rfl⟩ rfl (Nat.le_of_ble_eq_true rfl) ⟨Nat.zero_le _, Nat.zero_le _⟩ (by decide) (ce_model ad cs _ _) rfl rfl dX11_countBy_66 (fun M37 L38 hr36 => ?_)
        obtain ⟨hr36, hI, hFr36, hGr36⟩ := hr36
        have hF : ∀ k i, ¬ (k = 258 ∧ i = 25) ∧ ¬ (k = 258 ∧ i = 29) ∧ ¬ (k = 258 ∧ i = 31) ∧ k ≠ 277 ∧ k ≠ 278 ∧ k ≠ 279 ∧ k ≠ 282 ∧ k ≠ 293 ∧ k ≠ 294 → M37 k i = M k i := fun k i hk => by (rw [hFr36 k i (by omega)]; try exact hF k i hk)
        have hG : ∀ k i, ¬ (k = 258 ∧ i = 23) ∧ ¬ (k = 258 ∧ i = 24) ∧ k ≠ 284 ∧ k ≠ 285 ∧ k ≠ 280 ∧ k ≠ 281 ∧ k ≠ 286 ∧ k ≠ 287 ∧ k ≠ 295 ∧ k ≠ 296 → L38 k i = L k i := fun k i hk => by (rw [hGr36 k i (by omega)]; try exact hG k i hk)
        have k25 : M37 258 25 = M34 258 25 := (hFr36 258 25 (by omega)).trans k25
        have k29 : M37 258 29 = M37 258 29 := rfl
        have k31 : M37 258 31 = M37 258 31 := rfl
        have kt25 := congrArg Int32.toInt k25
        have kt29 := congrArg Int32.toInt k29
        have kt31 := congrArg Int32.toInt k31
        have l23 : L38 258 23 = L35 258 23 := (hGr36 258 23 (by omega)).trans l23
        have l24 : L38 258 24 = L35 258 24 := (hGr36 258 24 (by omega)).trans l24
        have p280 : L38 280 = L38 280 := rfl
        have p281 : L38 281 = L38 281 := rfl
        have p284 : L38 284 = L35 284 := (funext (fun i => hGr36 284 i (by omega))).trans p284
        have p285 : L38 285 = L35 285 := (funext (fun i => hGr36 285 i (by omega))).trans p285
        have p286 : L38 286 = L 286 := (funext (fun i => hGr36 286 i (by omega))).trans p286
        have p287 : L38 287 = L 287 := (funext (fun i => hGr36 287 i (by omega))).trans p287
        have p295 : L38 295 = L 295 := (funext (fun i => hGr36 295 i (by omega))).trans p295
        have p296 : L38 296 = L 296 := (funext (fun i => hGr36 296 i (by omega))).trans p296
        have q277 : M37 277 = M37 277 := rfl
        have q278 : M37 278 = M37 278 := rfl
        have q279 : M37 279 = M37 279 := rfl
        have q282 : M37 282 = M37 282 := rfl
        have q293 : M37 293 = M 293 := (funext (fun i => hFr36 293 i (by omega))).trans q293
        have q294 : M37 294 = M 294 := (funext (fun i => hFr36 294 i (by omega))).trans q294
        have hrr := hr36
        rw [show M34 260 = M 260 from funext (fun i => hF0 260 i (by omega)), show M34 282 = M 282 from q282b, show M34 258 2 = M 258 2 from hF0 258 2 (by omega), show M34 258 28 = M 258 28 from hF0 258 28 (by omega), (bt_ext (n := (M 258 2).toNatClampNeg) (fun i => hI0 260 i) (fun _ _ => rfl) eU9 eD9 (M 258 28).toNatClampNeg).2] at hrr
        refine g_goto C 108 dX11_countBy_69 (by decide) ?_
        exact g_vret C hr ⟨(⟨true, (btS (M 260) (M 282) (foP (stP (vR M) (ptX (vR M) 0) (M 258 2).toNatClampNeg) (fun i => vR M 8 (40 * (M 258 27).toNatClampNeg + i)) (vR M 7 (M 258 27).toNatClampNeg).toNatClampNeg (fun _ => 0)) (fun _ => 1) (M 258 2).toNatClampNeg (M 258 28).toNatClampNeg), oneR (btS (M 260) (M 282) (foP (stP (vR M) (ptX (vR M) 0) (M 258 2).toNatClampNeg) (fun i => vR M 8 (40 * (M 258 27).toNatClampNeg + i)) (vR M 7 (M 258 27).toNatClampNeg).toNatClampNeg (fun _ => 0)) (fun _ => 1) (M 258 2).toNatClampNeg (M 258 28).toNatClampNeg), by unfold CRo; rw [if_neg (by omega)]; rw [if_pos (by omega)]; exact ⟨rfl, rfl, rfl⟩, ⟨fun _ => rfl, fun _ => by rw [k25]; exact tfs⟩, fun _ => hrr⟩), hI, hF, hG⟩ dX11_countBy_108
      ·
        have f39 := feq rfl (by decide : (2 : Int32).toInt = 2) c31
        refine g_iconst C 1 dX11_countBy_57 (by decide) ?_
        refine g_goto C 62 dX11_countBy_58 (by decide) ?_
        refine g_callVv C (n := 1) (As := [.int 1]) (st := []) (k_X11_tallyPoints l D ad cs _ _ 1 hI hs0 hX hB8 hl4) gX11_countBy_X11_tallyPoints rfl rfl rfl (by decide +kernel) ⟨Nat.le_of_ble_eq_true rfl, Nat.le_of_ble_eq_true rfl⟩ rfl (Nat.le_of_ble_eq_true rfl) ⟨Nat.zero_le _, Nat.zero_le _⟩ (by decide) (ce_model ad cs _ _) rfl rfl dX11_countBy_62 (fun M41 L42 hr40 => ?_)
        obtain ⟨hr40, hI, hFr40, hGr40⟩ := hr40
        have hF : ∀ k i, ¬ (k = 258 ∧ i = 25) ∧ ¬ (k = 258 ∧ i = 29) ∧ ¬ (k = 258 ∧ i = 31) ∧ k ≠ 277 ∧ k ≠ 278 ∧ k ≠ 279 ∧ k ≠ 282 ∧ k ≠ 293 ∧ k ≠ 294 → M41 k i = M k i := fun k i hk => by (rw [hFr40 k i (by omega)]; try exact hF k i hk)
        have hG : ∀ k i, ¬ (k = 258 ∧ i = 23) ∧ ¬ (k = 258 ∧ i = 24) ∧ k ≠ 284 ∧ k ≠ 285 ∧ k ≠ 280 ∧ k ≠ 281 ∧ k ≠ 286 ∧ k ≠ 287 ∧ k ≠ 295 ∧ k ≠ 296 → L42 k i = L k i := fun k i hk => by (rw [hGr40 k i (by omega)]; try exact hG k i hk)
        have k29 : M41 258 29 = M 258 29 := (hFr40 258 29 (by omega)).trans k29
        have k31 : M41 258 31 = M 258 31 := (hFr40 258 31 (by omega)).trans k31
        have k25 : M41 258 25 = M41 258 25 := rfl
        have kt25 := congrArg Int32.toInt k25
        have kt29 := congrArg Int32.toInt k29
        have kt31 := congrArg Int32.toInt k31
        have l23 : L42 258 23 = L42 258 23 := rfl
        have l24 : L42 258 24 = L42 258 24 := rfl
        have p280 : L42 280 = L 280 := (funext (fun i => hGr40 280 i (by omega))).trans p280
        have p281 : L42 281 = L 281 := (funext (fun i => hGr40 281 i (by omega))).trans p281
        have p284 : L42 284 = L42 284 := rfl
        have p285 : L42 285 = L42 285 := rfl
        have p286 : L42 286 = L 286 := (funext (fun i => hGr40 286 i (by omega))).trans p286
        have p287 : L42 287 = L 287 := (funext (fun i => hGr40 287 i (by omega))).trans p287
        have p295 : L42 295 = L 295 := (funext (fun i => hGr40 295 i (by omega))).trans p295
        have p296 : L42 296 = L 296 := (funext (fun i => hGr40 296 i (by omega))).trans p296
        have q277 : M41 277 = M 277 := (funext (fun i => hFr40 277 i (by omega))).trans q277
        have q278 : M41 278 = M 278 := (funext (fun i => hFr40 278 i (by omega))).trans q278
        have q279 : M41 279 = M 279 := (funext (fun i => hFr40 279 i (by omega))).trans q279
        have q282 : M41 282 = M 282 := (funext (fun i => hFr40 282 i (by omega))).trans q282
        have q293 : M41 293 = M 293 := (funext (fun i => hFr40 293 i (by omega))).trans q293
        have q294 : M41 294 = M 294 := (funext (fun i => hFr40 294 i (by omega))).trans q294
        obtain ⟨tfo, tfs, tfe⟩ := hr40
        have eU9 : ∀ c, c < 10 → L42 284 c = (foP (stP (vR M) (ptX (vR M) 1) (M 258 2).toNatClampNeg) (fun i => vR M 8 (40 * (M 258 27).toNatClampNeg + i)) (vR M 7 (M 258 27).toNatClampNeg).toNatClampNeg (fun _ => 0)) c := fun c hc => (tfe c hc).1
        have eD9 : ∀ c, c < 10 → L42 285 c = (fun _ => 1) c := fun c hc => (tfe c hc).2
        refine g_aload_n C 0 dX11_countBy_65 rfl ?_
        have hF0 := hF
        have hG0 := hG
        have q282b := q282
        refine g_callVv C (n := 0) (As := []) (st := []) (k_X11_countByTallies l D ad cs _ _  hI (DP_k hD (hF 258 2 (by omega)) (fun i => hF 260 i (by omega))) (by rw [(show M41 282 = M 282 from q282), (show M41 258 2 = M 258 2 from hF 258 2 (by omega))]; exact hNI0) (by rw [k29]; exact hg0) (by rw [k31]; exact hm0) (by rw [(show M41 258 28 = M 258 28 from hF 258 28 (by omega)), (show M41 282 = M 282 from q282), (show M41 258 2 = M 258 2 from hF 258 2 (by omega))]; exact hC (by omega) (by omega))) gX11_countBy_X11_countByTallies rfl rfl rfl (by decide +kernel) ⟨Nat.le_of_ble_eq_true rfl, Nat.le_of_ble_eq_true rfl⟩ rfl (Nat.le_of_ble_eq_true rfl) ⟨Nat.zero_le _, Nat.zero_le _⟩ (by decide) (ce_model ad cs _ _) rfl rfl dX11_countBy_66 (fun M44 L45 hr43 => ?_)
        obtain ⟨hr43, hI, hFr43, hGr43⟩ := hr43
        have hF : ∀ k i, ¬ (k = 258 ∧ i = 25) ∧ ¬ (k = 258 ∧ i = 29) ∧ ¬ (k = 258 ∧ i = 31) ∧ k ≠ 277 ∧ k ≠ 278 ∧ k ≠ 279 ∧ k ≠ 282 ∧ k ≠ 293 ∧ k ≠ 294 → M44 k i = M k i := fun k i hk => by (rw [hFr43 k i (by omega)]; try exact hF k i hk)
        have hG : ∀ k i, ¬ (k = 258 ∧ i = 23) ∧ ¬ (k = 258 ∧ i = 24) ∧ k ≠ 284 ∧ k ≠ 285 ∧ k ≠ 280 ∧ k ≠ 281 ∧ k ≠ 286 ∧ k ≠ 287 ∧ k ≠ 295 ∧ k ≠ 296 → L45 k i = L k i := fun k i hk => by (rw [hGr43 k i (by omega)]; try exact hG k i hk)
        have k25 : M44 258 25 = M41 258 25 := (hFr43 258 25 (by omega)).trans k25
        have k29 : M44 258 29 = M44 258 29 := rfl
        have k31 : M44 258 31 = M44 258 31 := rfl
        have kt25 := congrArg Int32.toInt k25
        have kt29 := congrArg Int32.toInt k29
        have kt31 := congrArg Int32.toInt k31
        have l23 : L45 258 23 = L42 258 23 := (hGr43 258 23 (by omega)).trans l23
        have l24 : L45 258 24 = L42 258 24 := (hGr43 258 24 (by omega)).trans l24
        have p280 : L45 280 = L45 280 := rfl
        have p281 : L45 281 = L45 281 := rfl
        have p284 : L45 284 = L42 284 := (funext (fun i => hGr43 284 i (by omega))).trans p284
        have p285 : L45 285 = L42 285 := (funext (fun i => hGr43 285 i (by omega))).trans p285
        have p286 : L45 286 = L 286 := (funext (fun i => hGr43 286 i (by omega))).trans p286
        have p287 : L45 287 = L 287 := (funext (fun i => hGr43 287 i (by omega))).trans p287
        have p295 : L45 295 = L 295 := (funext (fun i => hGr43 295 i (by omega))).trans p295
        have p296 : L45 296 = L 296 := (funext (fun i => hGr43 296 i (by omega))).trans p296
        have q277 : M44 277 = M44 277 := rfl
        have q278 : M44 278 = M44 278 := rfl
        have q279 : M44 279 = M44 279 := rfl
        have q282 : M44 282 = M44 282 := rfl
        have q293 : M44 293 = M 293 := (funext (fun i => hFr43 293 i (by omega))).trans q293
        have q294 : M44 294 = M 294 := (funext (fun i => hFr43 294 i (by omega))).trans q294
        have hrr := hr43
        rw [show M41 260 = M 260 from funext (fun i => hF0 260 i (by omega)), show M41 282 = M 282 from q282b, show M41 258 2 = M 258 2 from hF0 258 2 (by omega), show M41 258 28 = M 258 28 from hF0 258 28 (by omega), (bt_ext (n := (M 258 2).toNatClampNeg) (fun i => hI0 260 i) (fun _ _ => rfl) eU9 eD9 (M 258 28).toNatClampNeg).2] at hrr
        refine g_goto C 108 dX11_countBy_69 (by decide) ?_
        exact g_vret C hr ⟨(⟨true, (btS (M 260) (M 282) (foP (stP (vR M) (ptX (vR M) 1) (M 258 2).toNatClampNeg) (fun i => vR M 8 (40 * (M 258 27).toNatClampNeg + i)) (vR M 7 (M 258 27).toNatClampNeg).toNatClampNeg (fun _ => 0)) (fun _ => 1) (M 258 2).toNatClampNeg (M 258 28).toNatClampNeg), oneR (btS (M 260) (M 282) (foP (stP (vR M) (ptX (vR M) 1) (M 258 2).toNatClampNeg) (fun i => vR M 8 (40 * (M 258 27).toNatClampNeg + i)) (vR M 7 (M 258 27).toNatClampNeg).toNatClampNeg (fun _ => 0)) (fun _ => 1) (M 258 2).toNatClampNeg (M 258 28).toNatClampNeg), by unfold CRo; rw [if_neg (by omega)]; rw [if_neg (by omega)]; rw [if_pos (by omega)]; exact ⟨rfl, rfl, rfl⟩, ⟨fun _ => rfl, fun _ => by rw [k25]; exact tfs⟩, fun _ => hrr⟩), hI, hF, hG⟩ dX11_countBy_108
    ·
      refine g_tableIn C 72 dX11_countBy_1 hsw1 hsw2 (off := 71) (by rw [hq]; rfl) (by decide) ?_
      refine g_aload_n C 0 dX11_countBy_72 rfl ?_
      refine g_callVv C (n := 0) (As := []) (st := []) (k_X11_countRunOff l D ad cs _ _  hI hD hNI0 hW hs0 hg0 hm0 hC1 hs1 hX hB8 hWp) gX11_countBy_X11_countRunOff rfl rfl rfl (by decide +kernel) ⟨Nat.le_of_ble_eq_true rfl, Nat.le_of_ble_eq_true rfl⟩ rfl (Nat.le_of_ble_eq_true rfl) ⟨Nat.zero_le _, Nat.zero_le _⟩ (by decide) (ce_model ad cs _ _) rfl rfl dX11_countBy_73 (fun M47 L48 hr46 => ?_)
      obtain ⟨hr46, hI, hFr46, hGr46⟩ := hr46
      have hF : ∀ k i, ¬ (k = 258 ∧ i = 25) ∧ ¬ (k = 258 ∧ i = 29) ∧ ¬ (k = 258 ∧ i = 31) ∧ k ≠ 277 ∧ k ≠ 278 ∧ k ≠ 279 ∧ k ≠ 282 ∧ k ≠ 293 ∧ k ≠ 294 → M47 k i = M k i := fun k i hk => by (rw [hFr46 k i (by omega)]; try exact hF k i hk)
      have hG : ∀ k i, ¬ (k = 258 ∧ i = 23) ∧ ¬ (k = 258 ∧ i = 24) ∧ k ≠ 284 ∧ k ≠ 285 ∧ k ≠ 280 ∧ k ≠ 281 ∧ k ≠ 286 ∧ k ≠ 287 ∧ k ≠ 295 ∧ k ≠ 296 → L48 k i = L k i := fun k i hk => by (rw [hGr46 k i (by omega)]; try exact hG k i hk)
      have k25 : M47 258 25 = M47 258 25 := rfl
      have k29 : M47 258 29 = M47 258 29 := rfl
      have k31 : M47 258 31 = M47 258 31 := rfl
      have kt25 := congrArg Int32.toInt k25
      have kt29 := congrArg Int32.toInt k29
      have kt31 := congrArg Int32.toInt k31
      have l23 : L48 258 23 = L48 258 23 := rfl
      have l24 : L48 258 24 = L48 258 24 := rfl
      have p280 : L48 280 = L48 280 := rfl
      have p281 : L48 281 = L48 281 := rfl
      have p284 : L48 284 = L48 284 := rfl
      have p285 : L48 285 = L48 285 := rfl
      have p286 : L48 286 = L 286 := (funext (fun i => hGr46 286 i (by omega))).trans p286
      have p287 : L48 287 = L 287 := (funext (fun i => hGr46 287 i (by omega))).trans p287
      have p295 : L48 295 = L 295 := (funext (fun i => hGr46 295 i (by omega))).trans p295
      have p296 : L48 296 = L 296 := (funext (fun i => hGr46 296 i (by omega))).trans p296
      have q277 : M47 277 = M47 277 := rfl
      have q278 : M47 278 = M47 278 := rfl
      have q279 : M47 279 = M47 279 := rfl
      have q282 : M47 282 = M47 282 := rfl
      have q293 : M47 293 = M 293 := (funext (fun i => hFr46 293 i (by omega))).trans q293
      have q294 : M47 294 = M47 294 := rfl
      have hrr := hr46
      refine g_goto C 108 dX11_countBy_76 (by decide) ?_
      exact g_vret C hr ⟨(⟨true, roT (vR M) (M 260) (M 282) (fun i => vR M 8 (40 * (M 258 27).toNatClampNeg + i)) (vR M 7 (M 258 27).toNatClampNeg).toNatClampNeg (M 258 2).toNatClampNeg (cI (M 282) (M 258 2).toNatClampNeg - 1) (min (cI (M 282) (M 258 2).toNatClampNeg - 1) ((M 258 28).toNatClampNeg - 1)), twoR (roO (vR M) (M 260) (M 282) (fun i => vR M 8 (40 * (M 258 27).toNatClampNeg + i)) (vR M 7 (M 258 27).toNatClampNeg).toNatClampNeg (M 258 2).toNatClampNeg (cI (M 282) (M 258 2).toNatClampNeg - 1)) ++ [(1, roW (vR M) (M 260) (M 282) (fun i => vR M 8 (40 * (M 258 27).toNatClampNeg + i)) (vR M 7 (M 258 27).toNatClampNeg).toNatClampNeg (M 258 2).toNatClampNeg (cI (M 282) (M 258 2).toNatClampNeg - 1))], by unfold CRo; rw [if_neg (by omega)]; rw [if_neg (by omega)]; rw [if_neg (by omega)]; rw [if_pos (by omega)]; exact ⟨rfl, rfl, rfl⟩, ⟨fun _ => rfl, fun _ => hrr.2⟩, fun _ => hrr.1⟩), hI, hF, hG⟩ dX11_countBy_108
    ·
      refine g_tableIn C 79 dX11_countBy_1 hsw1 hsw2 (off := 78) (by rw [hq]; rfl) (by decide) ?_
      refine g_aload_n C 0 dX11_countBy_79 rfl ?_
      refine g_callVv C (n := 0) (As := []) (st := []) (k_X11_countWays l D ad cs _ _  hI hD hrl hNI0 hg0 hm0 (hC (by omega) (by omega)) hX hB8) gX11_countBy_X11_countWays rfl rfl rfl (by decide +kernel) ⟨Nat.le_of_ble_eq_true rfl, Nat.le_of_ble_eq_true rfl⟩ rfl (Nat.le_of_ble_eq_true rfl) ⟨Nat.zero_le _, Nat.zero_le _⟩ (by decide) (ce_model ad cs _ _) rfl rfl dX11_countBy_80 (fun M50 L51 hr49 => ?_)
      obtain ⟨hr49, hI, hFr49, hGr49⟩ := hr49
      have hF : ∀ k i, ¬ (k = 258 ∧ i = 25) ∧ ¬ (k = 258 ∧ i = 29) ∧ ¬ (k = 258 ∧ i = 31) ∧ k ≠ 277 ∧ k ≠ 278 ∧ k ≠ 279 ∧ k ≠ 282 ∧ k ≠ 293 ∧ k ≠ 294 → M50 k i = M k i := fun k i hk => by (rw [hFr49 k i (by omega)]; try exact hF k i hk)
      have hG : ∀ k i, ¬ (k = 258 ∧ i = 23) ∧ ¬ (k = 258 ∧ i = 24) ∧ k ≠ 284 ∧ k ≠ 285 ∧ k ≠ 280 ∧ k ≠ 281 ∧ k ≠ 286 ∧ k ≠ 287 ∧ k ≠ 295 ∧ k ≠ 296 → L51 k i = L k i := fun k i hk => by (rw [hGr49 k i (by omega)]; try exact hG k i hk)
      have k25 : M50 258 25 = M 258 25 := (hFr49 258 25 (by omega)).trans k25
      have k29 : M50 258 29 = M50 258 29 := rfl
      have k31 : M50 258 31 = M50 258 31 := rfl
      have kt25 := congrArg Int32.toInt k25
      have kt29 := congrArg Int32.toInt k29
      have kt31 := congrArg Int32.toInt k31
      have l23 : L51 258 23 = L 258 23 := (hGr49 258 23 (by omega)).trans l23
      have l24 : L51 258 24 = L 258 24 := (hGr49 258 24 (by omega)).trans l24
      have p280 : L51 280 = L51 280 := rfl
      have p281 : L51 281 = L51 281 := rfl
      have p284 : L51 284 = L51 284 := rfl
      have p285 : L51 285 = L51 285 := rfl
      have p286 : L51 286 = L 286 := (funext (fun i => hGr49 286 i (by omega))).trans p286
      have p287 : L51 287 = L 287 := (funext (fun i => hGr49 287 i (by omega))).trans p287
      have p295 : L51 295 = L51 295 := rfl
      have p296 : L51 296 = L51 296 := rfl
      have q277 : M50 277 = M50 277 := rfl
      have q278 : M50 278 = M50 278 := rfl
      have q279 : M50 279 = M50 279 := rfl
      have q282 : M50 282 = M50 282 := rfl
      have q293 : M50 293 = M 293 := (funext (fun i => hFr49 293 i (by omega))).trans q293
      have q294 : M50 294 = M 294 := (funext (fun i => hFr49 294 i (by omega))).trans q294
      have hrr := hr49
      refine g_goto C 108 dX11_countBy_83 (by decide) ?_
      exact g_vret C hr ⟨(by obtain ⟨S9, w1, w2, w3⟩ := hrr; exact ⟨true, S9, oneR S9, by unfold CRo; rw [if_neg (by omega)]; rw [if_neg (by omega)]; rw [if_neg (by omega)]; rw [if_neg (by omega)]; rw [if_pos (by omega)]; exact ⟨rfl, ⟨_, w1⟩, by omega, rfl⟩, ⟨fun _ => rfl, fun _ => by rw [k25]; exact hs0⟩, fun _ => w3⟩), hI, hF, hG⟩ dX11_countBy_108
    ·
      refine g_tableIn C 86 dX11_countBy_1 hsw1 hsw2 (off := 85) (by rw [hq]; rfl) (by decide) ?_
      refine g_aload_n C 0 dX11_countBy_86 rfl ?_
      refine g_callVv C (n := 0) (As := []) (st := []) (k_X11_countTransfer l D ad cs _ _  hI hD hNI0 hW hs0 hg0 hm0 hX hB8) gX11_countBy_X11_countTransfer rfl rfl rfl (by decide +kernel) ⟨Nat.le_of_ble_eq_true rfl, Nat.le_of_ble_eq_true rfl⟩ rfl (Nat.le_of_ble_eq_true rfl) ⟨Nat.zero_le _, Nat.zero_le _⟩ (by decide) (ce_model ad cs _ _) rfl rfl dX11_countBy_87 (fun M53 L54 hr52 => ?_)
      obtain ⟨hr52, hI, hFr52, hGr52⟩ := hr52
      have hF : ∀ k i, ¬ (k = 258 ∧ i = 25) ∧ ¬ (k = 258 ∧ i = 29) ∧ ¬ (k = 258 ∧ i = 31) ∧ k ≠ 277 ∧ k ≠ 278 ∧ k ≠ 279 ∧ k ≠ 282 ∧ k ≠ 293 ∧ k ≠ 294 → M53 k i = M k i := fun k i hk => by (rw [hFr52 k i (by omega)]; try exact hF k i hk)
      have hG : ∀ k i, ¬ (k = 258 ∧ i = 23) ∧ ¬ (k = 258 ∧ i = 24) ∧ k ≠ 284 ∧ k ≠ 285 ∧ k ≠ 280 ∧ k ≠ 281 ∧ k ≠ 286 ∧ k ≠ 287 ∧ k ≠ 295 ∧ k ≠ 296 → L54 k i = L k i := fun k i hk => by (rw [hGr52 k i (by omega)]; try exact hG k i hk)
      have k25 : M53 258 25 = M53 258 25 := rfl
      have k29 : M53 258 29 = M53 258 29 := rfl
      have k31 : M53 258 31 = M53 258 31 := rfl
      have kt25 := congrArg Int32.toInt k25
      have kt29 := congrArg Int32.toInt k29
      have kt31 := congrArg Int32.toInt k31
      have l23 : L54 258 23 = L54 258 23 := rfl
      have l24 : L54 258 24 = L54 258 24 := rfl
      have p280 : L54 280 = L54 280 := rfl
      have p281 : L54 281 = L54 281 := rfl
      have p284 : L54 284 = L54 284 := rfl
      have p285 : L54 285 = L54 285 := rfl
      have p286 : L54 286 = L54 286 := rfl
      have p287 : L54 287 = L54 287 := rfl
      have p295 : L54 295 = L 295 := (funext (fun i => hGr52 295 i (by omega))).trans p295
      have p296 : L54 296 = L 296 := (funext (fun i => hGr52 296 i (by omega))).trans p296
      have q277 : M53 277 = M53 277 := rfl
      have q278 : M53 278 = M53 278 := rfl
      have q279 : M53 279 = M53 279 := rfl
      have q282 : M53 282 = M53 282 := rfl
      have q293 : M53 293 = M 293 := (funext (fun i => hFr52 293 i (by omega))).trans q293
      have q294 : M53 294 = M 294 := (funext (fun i => hFr52 294 i (by omega))).trans q294
      have hrr := hr52
      refine g_goto C 108 dX11_countBy_90 (by decide) ?_
      exact g_vret C hr ⟨(by obtain ⟨k9, z1, z2, z3, z4⟩ := hrr; exact ⟨(qrN (vR M) (M 260) (fun i => vR M 8 (40 * (M 258 27).toNatClampNeg + i)) (vR M 7 (M 258 27).toNatClampNeg).toNatClampNeg (M 258 2).toNatClampNeg (M 258 28).toNatClampNeg ((sumP (vR M) (M 258 27).toNatClampNeg (vR M 7 (M 258 27).toNatClampNeg).toNatClampNeg / (M 258 28 + 1)).toInt64 + 1) (M 282, (L 286, L 287), [], [], true) k9).2.2.2.2, (qrN (vR M) (M 260) (fun i => vR M 8 (40 * (M 258 27).toNatClampNeg + i)) (vR M 7 (M 258 27).toNatClampNeg).toNatClampNeg (M 258 2).toNatClampNeg (M 258 28).toNatClampNeg ((sumP (vR M) (M 258 27).toNatClampNeg (vR M 7 (M 258 27).toNatClampNeg).toNatClampNeg / (M 258 28 + 1)).toInt64 + 1) (M 282, (L 286, L 287), [], [], true) k9).2.2.1, (qrN (vR M) (M 260) (fun i => vR M 8 (40 * (M 258 27).toNatClampNeg + i)) (vR M 7 (M 258 27).toNatClampNeg).toNatClampNeg (M 258 2).toNatClampNeg (M 258 28).toNatClampNeg ((sumP (vR M) (M 258 27).toNatClampNeg (vR M 7 (M 258 27).toNatClampNeg).toNatClampNeg / (M 258 28 + 1)).toInt64 + 1) (M 282, (L 286, L 287), [], [], true) k9).2.2.2.1, by unfold CRo; rw [if_neg (by omega)]; rw [if_neg (by omega)]; rw [if_neg (by omega)]; rw [if_neg (by omega)]; rw [if_neg (by omega)]; rw [if_pos (by omega)]; exact ⟨k9, z1, z2, rfl, fun _ => ⟨rfl, rfl⟩⟩, z3, fun h9 => z4 (z3.mpr h9)⟩), hI, hF, hG⟩ dX11_countBy_108
