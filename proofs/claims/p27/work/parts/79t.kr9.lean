set_option maxHeartbeats 4000000 in
set_option maxRecDepth 100000 in
theorem k_X11_count_73 (l : Launch) (D : va_G) (ad : Nat → Nat) (cs : Nat → ClassId) (M : MI) (L : ML) (x : Int32) (y : Int32) (z : Int32) (hI0 : IR M) (hN : NOv (vR M)) (hT : tr01 (vR M 13) (M 274)) (hB : b012 (vR M 13)) (hD : DP (vR M)) (hB8 : ∀ i : Nat, (vR M 8 i).toInt = -9 ∨ (0 ≤ (vR M 8 i).toInt ∧ (vR M 8 i).toInt ≤ 59)) (hrl : ∀ i, i < (M 258 2).toNatClampNeg → (M 260 i).toInt < ((M 258 2).toNatClampNeg : Int)) (hl4 : ∀ b : Nat, b < 60 → (vR M 4 b).toInt ≤ (vR M 0 0).toInt)  (x4c : Int32) {p : Program} {e : Env} {s : State} {m : MethodId} {below : List Frame} {meth : Method} {c : Code} (C : Cx p s m #[.ref (ad 258), .int x, .int y, .int z] meth c cX11_count 6 wsX11_count RX11 D ad cs) (hr : meth.sig.returnType = some .int) (Mc : MI) (Lc : ML) (hI : IR Mc) (hF : ∀ k i, ¬ (k = 258 ∧ i = 0) ∧ k ≠ 259 ∧ ¬ (k = 258 ∧ i = 26) ∧ k ≠ 273 ∧ k ≠ 274 ∧ k ≠ 275 ∧ ¬ (k = 258 ∧ i = 27) ∧ ¬ (k = 258 ∧ i = 28) ∧ ¬ (k = 258 ∧ i = 42) ∧ ¬ (k = 258 ∧ i = 44) ∧ k ≠ 288 ∧ k ≠ 289 ∧ k ≠ 290 ∧ ¬ (k = 258 ∧ i = 25) ∧ ¬ (k = 258 ∧ i = 29) ∧ ¬ (k = 258 ∧ i = 31) ∧ k ≠ 277 ∧ k ≠ 278 ∧ k ≠ 279 ∧ k ≠ 282 ∧ k ≠ 293 ∧ k ≠ 294 → Mc k i = M k i) (hG : ∀ k i, ¬ (k = 258 ∧ i = 23) ∧ ¬ (k = 258 ∧ i = 24) ∧ k ≠ 284 ∧ k ≠ 285 ∧ k ≠ 280 ∧ k ≠ 281 ∧ k ≠ 286 ∧ k ≠ 287 ∧ k ≠ 295 ∧ k ≠ 296 ∧ k ≠ 291 ∧ k ≠ 292 → Lc k i = L k i) (hV : vR Mc = sI (vR M) 0 5 (-9)) (hq274 : Mc 274 = M 274) (gx4c : x4c = vR M 9 x.toNatClampNeg) (htd : TDs M Mc) (hcnd : 0 ≤ x.toInt ∧ x.toInt < (vR M 0 3).toInt ∧ 0 ≤ y.toInt ∧ y.toInt < (vR M 0 2).toInt ∧ (1 ≤ z.toInt ∧ z.toInt ≤ 30) ∧ (vR M 0 0).toInt ≠ 0 ∧ (z.toInt ≤ (vR M 0 0).toInt ∨ (vR M 9 x.toNatClampNeg).toInt = 6 ∨ (vR M 9 x.toNatClampNeg).toInt = 7)) : G p l e ({ frames := 6, cells := 0, slots := 0, locals := 149 }) s m #[.ref (ad 258), .int x, .int y, .int z] below meth c 0 0 (MQ below (Qi D ad cs (fun r M1 L1 => ((A_count (vR M) x y z).2 = vR M1 ∧ ((A_count (vR M) x y z).1 ≠ 0 → r = (A_count (vR M) x y z).1 ∧ TDs M M1) ∧ tr01 (vR M1 13) (M1 274) ∧ ((A_count (vR M) x y z).1 = 0 → ∃ ok S R, OUT (A_count (vR M) x y z).2 (vR M 9 (x.toNatClampNeg)) y z ok S R ∧ (ok = true → r.toInt = (S.length : Int) ∧ TD M1 S R) ∧ (ok = false → r = -6 ∧ TDs M M1))) ∧ IR M1 ∧ (∀ k i, ¬ (k = 258 ∧ i = 0) ∧ k ≠ 259 ∧ ¬ (k = 258 ∧ i = 26) ∧ k ≠ 273 ∧ k ≠ 274 ∧ k ≠ 275 ∧ ¬ (k = 258 ∧ i = 27) ∧ ¬ (k = 258 ∧ i = 28) ∧ ¬ (k = 258 ∧ i = 42) ∧ ¬ (k = 258 ∧ i = 44) ∧ k ≠ 288 ∧ k ≠ 289 ∧ k ≠ 290 ∧ ¬ (k = 258 ∧ i = 25) ∧ ¬ (k = 258 ∧ i = 29) ∧ ¬ (k = 258 ∧ i = 31) ∧ k ≠ 277 ∧ k ≠ 278 ∧ k ≠ 279 ∧ k ≠ 282 ∧ k ≠ 293 ∧ k ≠ 294 → M1 k i = M k i) ∧ ∀ k i, ¬ (k = 258 ∧ i = 23) ∧ ¬ (k = 258 ∧ i = 24) ∧ k ≠ 284 ∧ k ≠ 285 ∧ k ≠ 280 ∧ k ≠ 281 ∧ k ≠ 286 ∧ k ≠ 287 ∧ k ≠ 295 ∧ k ≠ 296 ∧ k ≠ 291 ∧ k ≠ 292 → L1 k i = L k i)) #[.ref (ad 258), .int x, .int y, .int z] s 0 0 (Ar ad)) D ad cs 6 Mc Lc 73 [(0, .ref (ad 258)), (1, .int x), (2, .int y), (3, .int z), (4, .int x4c)] [] := by
  have hI0 := hI0
  have w0 : (vR M 0 0).toInt = (M 258 2).toInt := rfl
  have w1 : (vR M 0 1).toInt = (M 258 4).toInt := rfl
  have w2 : (vR M 0 2).toInt = (M 258 9).toInt := rfl
  have w3 : (vR M 0 3).toInt = (M 258 14).toInt := rfl
  obtain ⟨y0a, y0b⟩ := (show rg 0 10 (M 258 2) from hI0 258 2)
  obtain ⟨y1a, y1b⟩ := (show rg 0 60 (M 258 4) from hI0 258 4)
  obtain ⟨y2a, y2b⟩ := (show rg 0 8 (M 258 9) from hI0 258 9)
  obtain ⟨y3a, y3b⟩ := (show rg 0 20 (M 258 14) from hI0 258 14)
  have hJ0 := trivial
  have k0 : Mc 258 0 = Mc 258 0 := rfl
  have k25 : Mc 258 25 = Mc 258 25 := rfl
  have k26 : Mc 258 26 = Mc 258 26 := rfl
  have k27 : Mc 258 27 = Mc 258 27 := rfl
  have k28 : Mc 258 28 = Mc 258 28 := rfl
  have k29 : Mc 258 29 = Mc 258 29 := rfl
  have k31 : Mc 258 31 = Mc 258 31 := rfl
  have k42 : Mc 258 42 = Mc 258 42 := rfl
  have k44 : Mc 258 44 = Mc 258 44 := rfl
  have l23 : Lc 258 23 = Lc 258 23 := rfl
  have l24 : Lc 258 24 = Lc 258 24 := rfl
  have q259 : Mc 259 = Mc 259 := rfl
  have q273 : Mc 273 = Mc 273 := rfl
  have q274 : Mc 274 = Mc 274 := rfl
  have q275 : Mc 275 = Mc 275 := rfl
  have q277 : Mc 277 = Mc 277 := rfl
  have q278 : Mc 278 = Mc 278 := rfl
  have q279 : Mc 279 = Mc 279 := rfl
  have q282 : Mc 282 = Mc 282 := rfl
  have q288 : Mc 288 = Mc 288 := rfl
  have q289 : Mc 289 = Mc 289 := rfl
  have q290 : Mc 290 = Mc 290 := rfl
  have q293 : Mc 293 = Mc 293 := rfl
  have q294 : Mc 294 = Mc 294 := rfl
  have p280 : Lc 280 = Lc 280 := rfl
  have p281 : Lc 281 = Lc 281 := rfl
  have p284 : Lc 284 = Lc 284 := rfl
  have p285 : Lc 285 = Lc 285 := rfl
  have p286 : Lc 286 = Lc 286 := rfl
  have p287 : Lc 287 = Lc 287 := rfl
  have p291 : Lc 291 = Lc 291 := rfl
  have p292 : Lc 292 = Lc 292 := rfl
  have p295 : Lc 295 = Lc 295 := rfl
  have p296 : Lc 296 = Lc 296 := rfl
  obtain ⟨u1, u2, u3, u4, u5, u6, u7⟩ := hcnd
  obtain ⟨k42, k44, q288, q289, q290⟩ := htd
  have hT1 : tr01 (vR Mc 13) (Mc 274) := by rw [hV, sI_n _ _ _ (by decide), hq274]; exact hT
  have hN1 : NOv (vR Mc) := by rw [hV]; exact NOv_w hN _
  have eS : startV (vR Mc) x = sI (startV (vR M) x) 0 5 (-9) := by rw [hV, startV_w]
  have tx4 := congrArg Int32.toInt gx4c
  have x0 : (vR Mc 0 0).toInt = (vR M 0 0).toInt := by rw [hV, sI_at, if_neg (by decide)]
  have x2 : (vR Mc 0 2).toInt = (vR M 0 2).toInt := by rw [hV, sI_at, if_neg (by decide)]
  have x3 : (vR Mc 0 3).toInt = (vR M 0 3).toInt := by rw [hV, sI_at, if_neg (by decide)]
  refine g_aload_n C 0 dX11_count_73 rfl ?_
  refine g_iload_n C 1 dX11_count_74 rfl ?_
  refine g_callVi C (n := 1) (As := [.int x]) (st := []) (s_X11_started l D ad cs _ _ x hI ⟨by omega, by omega⟩ hN1 hT1) gX11_count_X11_started rfl rfl rfl (by decide +kernel) ⟨Nat.le_of_ble_eq_true rfl, Nat.le_of_ble_eq_true rfl⟩ rfl (Nat.le_of_ble_eq_true rfl) ⟨Nat.zero_le _, Nat.zero_le _⟩ (by decide) (ce_model ad cs _ _) rfl rfl dX11_count_75 (fun r1036 M1037 L1038 hr1036 => ?_)
  obtain ⟨hr1036, hI, hFr1036, hGr1036⟩ := hr1036
  have hF : ∀ k i, ¬ (k = 258 ∧ i = 0) ∧ k ≠ 259 ∧ ¬ (k = 258 ∧ i = 26) ∧ k ≠ 273 ∧ k ≠ 274 ∧ k ≠ 275 ∧ ¬ (k = 258 ∧ i = 27) ∧ ¬ (k = 258 ∧ i = 28) ∧ ¬ (k = 258 ∧ i = 42) ∧ ¬ (k = 258 ∧ i = 44) ∧ k ≠ 288 ∧ k ≠ 289 ∧ k ≠ 290 ∧ ¬ (k = 258 ∧ i = 25) ∧ ¬ (k = 258 ∧ i = 29) ∧ ¬ (k = 258 ∧ i = 31) ∧ k ≠ 277 ∧ k ≠ 278 ∧ k ≠ 279 ∧ k ≠ 282 ∧ k ≠ 293 ∧ k ≠ 294 → M1037 k i = M k i := fun k i hk => by (rw [hFr1036 k i (by omega)]; try exact hF k i hk)
  have hG : ∀ k i, ¬ (k = 258 ∧ i = 23) ∧ ¬ (k = 258 ∧ i = 24) ∧ k ≠ 284 ∧ k ≠ 285 ∧ k ≠ 280 ∧ k ≠ 281 ∧ k ≠ 286 ∧ k ≠ 287 ∧ k ≠ 295 ∧ k ≠ 296 ∧ k ≠ 291 ∧ k ≠ 292 → L1038 k i = L k i := fun k i hk => by (rw [hGr1036 k i trivial]; try exact hG k i hk)
  have hV : vR M1037 = startV (sI (vR M) 0 5 (-9)) x := by rw [hr1036.1, hV]
  have k0 : M1037 258 0 = Mc 258 0 := (hFr1036 258 0 (by omega)).trans k0
  have k25 : M1037 258 25 = Mc 258 25 := (hFr1036 258 25 (by omega)).trans k25
  have k26 : M1037 258 26 = Mc 258 26 := (hFr1036 258 26 (by omega)).trans k26
  have k27 : M1037 258 27 = Mc 258 27 := (hFr1036 258 27 (by omega)).trans k27
  have k28 : M1037 258 28 = Mc 258 28 := (hFr1036 258 28 (by omega)).trans k28
  have k29 : M1037 258 29 = Mc 258 29 := (hFr1036 258 29 (by omega)).trans k29
  have k31 : M1037 258 31 = Mc 258 31 := (hFr1036 258 31 (by omega)).trans k31
  have k42 : M1037 258 42 = M 258 42 := (hFr1036 258 42 (by omega)).trans k42
  have k44 : M1037 258 44 = M 258 44 := (hFr1036 258 44 (by omega)).trans k44
  have l23 : L1038 258 23 = Lc 258 23 := (hGr1036 258 23 trivial).trans l23
  have l24 : L1038 258 24 = Lc 258 24 := (hGr1036 258 24 trivial).trans l24
  have p280 : L1038 280 = Lc 280 := (funext (fun i => hGr1036 280 i trivial)).trans p280
  have p281 : L1038 281 = Lc 281 := (funext (fun i => hGr1036 281 i trivial)).trans p281
  have p284 : L1038 284 = Lc 284 := (funext (fun i => hGr1036 284 i trivial)).trans p284
  have p285 : L1038 285 = Lc 285 := (funext (fun i => hGr1036 285 i trivial)).trans p285
  have p286 : L1038 286 = Lc 286 := (funext (fun i => hGr1036 286 i trivial)).trans p286
  have p287 : L1038 287 = Lc 287 := (funext (fun i => hGr1036 287 i trivial)).trans p287
  have p291 : L1038 291 = Lc 291 := (funext (fun i => hGr1036 291 i trivial)).trans p291
  have p292 : L1038 292 = Lc 292 := (funext (fun i => hGr1036 292 i trivial)).trans p292
  have p295 : L1038 295 = Lc 295 := (funext (fun i => hGr1036 295 i trivial)).trans p295
  have p296 : L1038 296 = Lc 296 := (funext (fun i => hGr1036 296 i trivial)).trans p296
  have q259 : M1037 259 = Mc 259 := (funext (fun i => hFr1036 259 i (by omega))).trans q259
  have q273 : M1037 273 = M1037 273 := rfl
  have q274 : M1037 274 = M1037 274 := rfl
  have q275 : M1037 275 = M1037 275 := rfl
  have q277 : M1037 277 = Mc 277 := (funext (fun i => hFr1036 277 i (by omega))).trans q277
  have q278 : M1037 278 = Mc 278 := (funext (fun i => hFr1036 278 i (by omega))).trans q278
  have q279 : M1037 279 = Mc 279 := (funext (fun i => hFr1036 279 i (by omega))).trans q279
  have q282 : M1037 282 = Mc 282 := (funext (fun i => hFr1036 282 i (by omega))).trans q282
  have q288 : M1037 288 = M 288 := (funext (fun i => hFr1036 288 i (by omega))).trans q288
  have q289 : M1037 289 = M 289 := (funext (fun i => hFr1036 289 i (by omega))).trans q289
  have q290 : M1037 290 = M 290 := (funext (fun i => hFr1036 290 i (by omega))).trans q290
  have q293 : M1037 293 = Mc 293 := (funext (fun i => hFr1036 293 i (by omega))).trans q293
  have q294 : M1037 294 = Mc 294 := (funext (fun i => hFr1036 294 i (by omega))).trans q294
  obtain ⟨hr1036v, hr1036, hr1036t⟩ := hr1036
  have ht9 := hr1036t
  rw [eS] at hr1036 hr1036v
  rw [sI_n _ _ _ (by decide)] at hr1036
  have tr1036 := congrArg Int32.toInt hr1036
  have h12 := start12 (V := vR M) hB (m := x) (by omega)
  have hV : vR M1037 = sI (startV (vR M) x) 0 5 (-9) := hr1036v
  have y8 : vR M1037 8 = vR M 8 := by rw [hV, sI_n _ _ _ (by decide)]; rfl
  have y2 : vR M1037 2 = vR M 2 := by rw [hV, sI_n _ _ _ (by decide)]; rfl
  have y7 : vR M1037 7 = vR M 7 := by rw [hV, sI_n _ _ _ (by decide)]; rfl
  have y02 : (vR M1037 0 2).toInt = (vR M 0 2).toInt := by rw [hV, sI_at, if_neg (by decide)]; rfl
  have hVs : vR M1037 13 = startV (vR M) x 13 := by rw [hV, sI_n _ _ _ (by decide)]
  refine g_iconst C 2 dX11_count_78 (by decide) ?_
  refine g_icmp_ne C 85 dX11_count_79 (by decide) (fun c1039 => ?_) (fun c1039 => ?_)
  ·
    have f1040 := fne rfl (by decide : (2 : Int32).toInt = 2) c1039
    refine g_aload_n C 0 dX11_count_85 rfl ?_
    refine g_iload C 4 dX11_count_86 rfl ?_
    refine g_iload_n C 2 dX11_count_88 rfl ?_
    refine g_callVi C (n := 2) (As := [.int x4c, .int y]) (st := []) (s_X11_unlikeAt l D ad cs _ _ x4c y hI ⟨by omega, by omega⟩) gX11_count_X11_unlikeAt rfl rfl rfl (by decide +kernel) ⟨Nat.le_of_ble_eq_true rfl, Nat.le_of_ble_eq_true rfl⟩ rfl (Nat.le_of_ble_eq_true rfl) ⟨Nat.zero_le _, Nat.zero_le _⟩ (by decide) (ce_model ad cs _ _) rfl rfl dX11_count_89 (fun r1041 M1042 L1043 hr1041 => ?_)
    obtain ⟨hq1, hq2, hr1041⟩ := hr1041
    obtain rfl := hq1.symm
    obtain rfl := hq2.symm
    obtain ⟨hr1041, br1041⟩ := hr1041
    have hr1041 : r1041 = unV (vR M) y x4c := by rw [hr1041]; unfold unV; rw [y7, unF_ext y8 y2]
    have hku : unV (vR M) y x4c = unV (vR M) y (vR M 9 x.toNatClampNeg) := by rw [gx4c]
    rw [hku] at hr1041
    have tr1041 := congrArg Int32.toInt hr1041
    refine g_istore C [(5, .int r1041), (0, .ref (ad 258)), (1, .int x), (2, .int y), (3, .int z), (4, .int x4c)] dX11_count_92 (by decide) rfl ?_
    refine g_iload C 0 dX11_count_94 rfl ?_
    refine g_bipush C (-9) dX11_count_96 (by decide) ?_
    refine g_icmp_eq C 113 dX11_count_98 (by decide) (fun c1044 => ?_) (fun c1044 => ?_)
    ·
      have f1045 := feq rfl (by decide : ((-9) : Int32).toInt = (-9)) c1044
      refine g_aload_n C 1 dX11_count_113 rfl ?_
      refine g_iload_n C 3 dX11_count_114 rfl ?_
      refine g_iload_n C 4 dX11_count_115 rfl ?_
      have hF0b : (M1037 258 2).toInt = (M 258 2).toInt := congrArg Int32.toInt (hF 258 2 (by omega))
      have hF0k := hF
      refine g_callVv C (n := 2) (As := [.int y, .int z]) (st := []) (k_X11_begin l D ad cs _ _ y z hI ⟨by omega, by omega⟩ ⟨by omega, by omega⟩) gX11_count_X11_begin rfl rfl rfl (by decide +kernel) ⟨Nat.le_of_ble_eq_true rfl, Nat.le_of_ble_eq_true rfl⟩ rfl (Nat.le_of_ble_eq_true rfl) ⟨Nat.zero_le _, Nat.zero_le _⟩ (by decide) (ce_model ad cs _ _) rfl rfl dX11_count_116 (fun M1047 L1048 hr1046 => ?_)
      obtain ⟨hr1046, hI, hFr1046, hGr1046⟩ := hr1046
      have hF : ∀ k i, ¬ (k = 258 ∧ i = 0) ∧ k ≠ 259 ∧ ¬ (k = 258 ∧ i = 26) ∧ k ≠ 273 ∧ k ≠ 274 ∧ k ≠ 275 ∧ ¬ (k = 258 ∧ i = 27) ∧ ¬ (k = 258 ∧ i = 28) ∧ ¬ (k = 258 ∧ i = 42) ∧ ¬ (k = 258 ∧ i = 44) ∧ k ≠ 288 ∧ k ≠ 289 ∧ k ≠ 290 ∧ ¬ (k = 258 ∧ i = 25) ∧ ¬ (k = 258 ∧ i = 29) ∧ ¬ (k = 258 ∧ i = 31) ∧ k ≠ 277 ∧ k ≠ 278 ∧ k ≠ 279 ∧ k ≠ 282 ∧ k ≠ 293 ∧ k ≠ 294 → M1047 k i = M k i := fun k i hk => by (rw [hFr1046 k i (by omega)]; try exact hF k i hk)
      have hG : ∀ k i, ¬ (k = 258 ∧ i = 23) ∧ ¬ (k = 258 ∧ i = 24) ∧ k ≠ 284 ∧ k ≠ 285 ∧ k ≠ 280 ∧ k ≠ 281 ∧ k ≠ 286 ∧ k ≠ 287 ∧ k ≠ 295 ∧ k ≠ 296 ∧ k ≠ 291 ∧ k ≠ 292 → L1048 k i = L k i := fun k i hk => by (rw [hGr1046 k i (by omega)]; try exact hG k i hk)
      have hV : vR M1047 = sI (startV (vR M) x) 0 5 (-9) := by rw [vR_fr (fun k i hk => hFr1046 k i (by omega)), hV]
      have k0 : M1047 258 0 = Mc 258 0 := (hFr1046 258 0 (by omega)).trans k0
      have k26 : M1047 258 26 = Mc 258 26 := (hFr1046 258 26 (by omega)).trans k26
      have k42 : M1047 258 42 = M 258 42 := (hFr1046 258 42 (by omega)).trans k42
      have k44 : M1047 258 44 = M 258 44 := (hFr1046 258 44 (by omega)).trans k44
      have k25 : M1047 258 25 = M1047 258 25 := rfl
      have k27 : M1047 258 27 = M1047 258 27 := rfl
      have k28 : M1047 258 28 = M1047 258 28 := rfl
      have k29 : M1047 258 29 = M1047 258 29 := rfl
      have k31 : M1047 258 31 = M1047 258 31 := rfl
      have l23 : L1048 258 23 = Lc 258 23 := (hGr1046 258 23 (by omega)).trans l23
      have l24 : L1048 258 24 = Lc 258 24 := (hGr1046 258 24 (by omega)).trans l24
      have p280 : L1048 280 = Lc 280 := (funext (fun i => hGr1046 280 i (by omega))).trans p280
      have p281 : L1048 281 = Lc 281 := (funext (fun i => hGr1046 281 i (by omega))).trans p281
      have p284 : L1048 284 = Lc 284 := (funext (fun i => hGr1046 284 i (by omega))).trans p284
      have p285 : L1048 285 = Lc 285 := (funext (fun i => hGr1046 285 i (by omega))).trans p285
      have p286 : L1048 286 = L1048 286 := rfl
      have p287 : L1048 287 = L1048 287 := rfl
      have p291 : L1048 291 = Lc 291 := (funext (fun i => hGr1046 291 i (by omega))).trans p291
      have p292 : L1048 292 = Lc 292 := (funext (fun i => hGr1046 292 i (by omega))).trans p292
      have p295 : L1048 295 = Lc 295 := (funext (fun i => hGr1046 295 i (by omega))).trans p295
      have p296 : L1048 296 = Lc 296 := (funext (fun i => hGr1046 296 i (by omega))).trans p296
      have q259 : M1047 259 = Mc 259 := (funext (fun i => hFr1046 259 i (by omega))).trans q259
      have q273 : M1047 273 = M1037 273 := (funext (fun i => hFr1046 273 i (by omega))).trans q273
      have q274 : M1047 274 = M1037 274 := (funext (fun i => hFr1046 274 i (by omega))).trans q274
      have q275 : M1047 275 = M1037 275 := (funext (fun i => hFr1046 275 i (by omega))).trans q275
      have q277 : M1047 277 = Mc 277 := (funext (fun i => hFr1046 277 i (by omega))).trans q277
      have q278 : M1047 278 = Mc 278 := (funext (fun i => hFr1046 278 i (by omega))).trans q278
      have q279 : M1047 279 = Mc 279 := (funext (fun i => hFr1046 279 i (by omega))).trans q279
      have q282 : M1047 282 = M1047 282 := rfl
      have q288 : M1047 288 = M 288 := (funext (fun i => hFr1046 288 i (by omega))).trans q288
      have q289 : M1047 289 = M 289 := (funext (fun i => hFr1046 289 i (by omega))).trans q289
      have q290 : M1047 290 = M 290 := (funext (fun i => hFr1046 290 i (by omega))).trans q290
      have q293 : M1047 293 = Mc 293 := (funext (fun i => hFr1046 293 i (by omega))).trans q293
      have q294 : M1047 294 = Mc 294 := (funext (fun i => hFr1046 294 i (by omega))).trans q294
      obtain ⟨z27, z28, z29, z31, z25, z282, zW⟩ := hr1046
      have hbm : M1047 258 2 = M 258 2 := hF 258 2 (by omega)
      have hDn : DP (vR M1047) := by rw [hV]; exact DP_w hD x
      have zNI : NIn (M1047 282) (M1047 258 2).toInt := by
        intro c hc hi
        rw [hbm]
        have h9 := z282 c hc
        by_cases e9 : (c : Int) < (M 258 2).toInt
        · exact e9
        · rw [if_neg (by rw [hF0b]; exact e9)] at h9; rw [h9] at hi; exact absurd (by decide) hi
      have zcI : cI (M1047 282) (M1047 258 2).toNatClampNeg = (M 258 2).toNatClampNeg := by
        rw [hbm]
        refine cI_all _ (fun c hc => ?_)
        have nc := ixn (x := M 258 2) (by omega)
        rw [z282 c (by omega), if_pos (by rw [hF0b]; omega)]
        decide
      have z27t := congrArg Int32.toInt z27
      have z28t := congrArg Int32.toInt z28
      have z29t := congrArg Int32.toInt z29
      have z31t := congrArg Int32.toInt z31
      have z25t := congrArg Int32.toInt z25
      have nM2 := ixn (x := M 258 2) (by omega)
      have hbmt := congrArg Int32.toInt hbm
      have z0z : (0 : Int32).toInt = 0 := by decide
      have hX9 : hasX (vR M1047) (M1047 258 27) := by rw [z27]; show 0 ≤ y.toInt ∧ y.toInt < (vR M1047 0 2).toInt; rw [hV, sI_at, if_neg (by decide)]; exact ⟨by omega, by show y.toInt < (vR M 0 2).toInt; omega⟩
      have hB8n : ∀ i : Nat, (vR M1047 8 i).toInt = -9 ∨ (0 ≤ (vR M1047 8 i).toInt ∧ (vR M1047 8 i).toInt ≤ 59) := by rw [show vR M1047 8 = vR M 8 by rw [hV, sI_n _ _ _ (by decide)]; rfl]; exact hB8
      have hWPn : ∀ i, i < 40 → (vR M1047 8 (40 * (M1047 258 27).toNatClampNeg + i)).toInt ≠ -9 → L1048 286 i = (vR M1047 3 (vR M1047 8 (40 * (M1047 258 27).toNatClampNeg + i)).toNatClampNeg).toInt64 ∧ L1048 287 i = 1 := by
        intro i hi hp
        have h9 := (zW i hi).2
        have e9 : vR M1047 8 (40 * (M1047 258 27).toNatClampNeg + i) = M1047 267 (40 * y.toNatClampNeg + i) := by rw [z27]; exact vR8 (by have e8 : (M1047 258 9).toInt = (M 258 9).toInt := congrArg Int32.toInt (hF 258 9 (by omega)); rw [e8]; show (((40 * y.toNatClampNeg + i) / 40 : Nat) : Int) < (M 258 9).toInt; have nyy := ixn (x := y) (by omega); have w2_ : (vR M 0 2).toInt = (M 258 9).toInt := rfl; omega)
        rw [e9] at hp ⊢
        have e7 : M1047 267 (40 * y.toNatClampNeg + i) = M1037 267 (40 * y.toNatClampNeg + i) := (hF 267 _ (by omega)).trans (hF0k 267 _ (by omega)).symm
        rw [if_neg (by rw [← e7]; exact hp)] at h9
        refine ⟨?_, h9.2⟩
        rw [h9.1, ← e7]
        exact congrArg Int32.toInt64 ((hF0k 262 _ (by omega)).trans (hF 262 _ (by omega)).symm)
      have hrln : ∀ i, i < (M1047 258 2).toNatClampNeg → (M1047 260 i).toInt < ((M1047 258 2).toNatClampNeg : Int) := by rw [hbm, show M1047 260 = M 260 from funext (fun i => hF 260 i (by omega))]; exact hrl
      have hl4n : ∀ b : Nat, b < 60 → (vR M1047 4 b).toInt ≤ (vR M1047 0 0).toInt := by rw [show vR M1047 4 = vR M 4 by rw [hV, sI_n _ _ _ (by decide)]; rfl, show vR M1047 0 0 = vR M 0 0 by rw [hV, sI_at, if_neg (by decide)]; rfl]; exact hl4
      refine g_aload_n C 1 dX11_count_119 rfl ?_
      refine g_iload C 5 dX11_count_120 rfl ?_
      have hVb : vR M1047 = (sI (startV (vR M) x) 0 5 (-9)) := hV
      have hkx : x4c = vR M 9 x.toNatClampNeg := gx4c
      refine g_callVv C (n := 1) (As := [.int x4c]) (st := []) (k_X11_countBy l D ad cs _ _ x4c hI hDn zNI (fun i hi => (zW i hi).1) (by omega) (by omega) hX9 (fun h6 h7 => by rw [zcI]; omega) (by rw [zcI]; omega) (by omega) (by omega) (by omega) hB8n hWPn hrln hl4n) gX11_count_X11_countBy rfl rfl rfl (by decide +kernel) ⟨Nat.le_of_ble_eq_true rfl, Nat.le_of_ble_eq_true rfl⟩ rfl (Nat.le_of_ble_eq_true rfl) ⟨Nat.zero_le _, Nat.zero_le _⟩ (by decide) (ce_model ad cs _ _) rfl rfl dX11_count_122 (fun M1050 L1051 hr1049 => ?_)
      obtain ⟨hr1049, hI, hFr1049, hGr1049⟩ := hr1049
      have hF : ∀ k i, ¬ (k = 258 ∧ i = 0) ∧ k ≠ 259 ∧ ¬ (k = 258 ∧ i = 26) ∧ k ≠ 273 ∧ k ≠ 274 ∧ k ≠ 275 ∧ ¬ (k = 258 ∧ i = 27) ∧ ¬ (k = 258 ∧ i = 28) ∧ ¬ (k = 258 ∧ i = 42) ∧ ¬ (k = 258 ∧ i = 44) ∧ k ≠ 288 ∧ k ≠ 289 ∧ k ≠ 290 ∧ ¬ (k = 258 ∧ i = 25) ∧ ¬ (k = 258 ∧ i = 29) ∧ ¬ (k = 258 ∧ i = 31) ∧ k ≠ 277 ∧ k ≠ 278 ∧ k ≠ 279 ∧ k ≠ 282 ∧ k ≠ 293 ∧ k ≠ 294 → M1050 k i = M k i := fun k i hk => by (rw [hFr1049 k i (by omega)]; try exact hF k i hk)
      have hG : ∀ k i, ¬ (k = 258 ∧ i = 23) ∧ ¬ (k = 258 ∧ i = 24) ∧ k ≠ 284 ∧ k ≠ 285 ∧ k ≠ 280 ∧ k ≠ 281 ∧ k ≠ 286 ∧ k ≠ 287 ∧ k ≠ 295 ∧ k ≠ 296 ∧ k ≠ 291 ∧ k ≠ 292 → L1051 k i = L k i := fun k i hk => by (rw [hGr1049 k i (by omega)]; try exact hG k i hk)
      have hV : vR M1050 = sI (startV (vR M) x) 0 5 (-9) := by rw [vR_fr (fun k i hk => hFr1049 k i (by omega)), hV]
      have k0 : M1050 258 0 = Mc 258 0 := (hFr1049 258 0 (by omega)).trans k0
      have k26 : M1050 258 26 = Mc 258 26 := (hFr1049 258 26 (by omega)).trans k26
      have k27 : M1050 258 27 = M1047 258 27 := (hFr1049 258 27 (by omega)).trans k27
      have k28 : M1050 258 28 = M1047 258 28 := (hFr1049 258 28 (by omega)).trans k28
      have k42 : M1050 258 42 = M 258 42 := (hFr1049 258 42 (by omega)).trans k42
      have k44 : M1050 258 44 = M 258 44 := (hFr1049 258 44 (by omega)).trans k44
      have k25 : M1050 258 25 = M1050 258 25 := rfl
      have k29 : M1050 258 29 = M1050 258 29 := rfl
      have k31 : M1050 258 31 = M1050 258 31 := rfl
      have l23 : L1051 258 23 = L1051 258 23 := rfl
      have l24 : L1051 258 24 = L1051 258 24 := rfl
      have p280 : L1051 280 = L1051 280 := rfl
      have p281 : L1051 281 = L1051 281 := rfl
      have p284 : L1051 284 = L1051 284 := rfl
      have p285 : L1051 285 = L1051 285 := rfl
      have p286 : L1051 286 = L1051 286 := rfl
      have p287 : L1051 287 = L1051 287 := rfl
      have p291 : L1051 291 = Lc 291 := (funext (fun i => hGr1049 291 i (by omega))).trans p291
      have p292 : L1051 292 = Lc 292 := (funext (fun i => hGr1049 292 i (by omega))).trans p292
      have p295 : L1051 295 = L1051 295 := rfl
      have p296 : L1051 296 = L1051 296 := rfl
      have q259 : M1050 259 = Mc 259 := (funext (fun i => hFr1049 259 i (by omega))).trans q259
      have q273 : M1050 273 = M1037 273 := (funext (fun i => hFr1049 273 i (by omega))).trans q273
      have q274 : M1050 274 = M1037 274 := (funext (fun i => hFr1049 274 i (by omega))).trans q274
      have q275 : M1050 275 = M1037 275 := (funext (fun i => hFr1049 275 i (by omega))).trans q275
      have q277 : M1050 277 = M1050 277 := rfl
      have q278 : M1050 278 = M1050 278 := rfl
      have q279 : M1050 279 = M1050 279 := rfl
      have q282 : M1050 282 = M1050 282 := rfl
      have q288 : M1050 288 = M 288 := (funext (fun i => hFr1049 288 i (by omega))).trans q288
      have q289 : M1050 289 = M 289 := (funext (fun i => hFr1049 289 i (by omega))).trans q289
      have q290 : M1050 290 = M 290 := (funext (fun i => hFr1049 290 i (by omega))).trans q290
      have q293 : M1050 293 = M1050 293 := rfl
      have q294 : M1050 294 = M1050 294 := rfl
      obtain ⟨ok9, S9, R9, hcr, hsp, hrr⟩ := hr1049
      obtain ⟨rr1, rr2⟩ := (show rg 0 40 (M1050 258 31) from hI 258 31)
      have hOUT : OUT (sI (startV (vR M) x) 0 5 (-9)) (vR M 9 x.toNatClampNeg) y z ok9 S9 R9 := by
        refine ⟨M1047 282, L1048 286, L1048 287, ?_, ?_, ?_⟩
        · intro c hc
          rw [z282 c hc, show ((sI (startV (vR M) x) 0 5 (-9)) 0 0) = M 258 2 from (by rw [sI_at, if_neg (by decide)]; rfl), hF0b]
        · intro i hi hp
          have h9 := hWPn i (by have sz9 : rg 0 40 (vR M 7 y.toNatClampNeg) := hI0 266 _; have sz8 := ixn sz9.1; have sz7 := sz9.2; have e7 : (sI (startV (vR M) x) 0 5 (-9)) 7 y.toNatClampNeg = vR M 7 y.toNatClampNeg := (by rw [sI_n _ _ _ (by decide)]; rfl); rw [e7] at hi; omega)
          rw [hVb, z27] at h9
          exact h9 hp
        · have h9 := hcr
          rw [hVb, z27, z28, show M1047 260 = (sI (startV (vR M) x) 0 5 (-9)) 1 from (by rw [← hVb]; rfl), show M1047 258 2 = (sI (startV (vR M) x) 0 5 (-9)) 0 0 from (by rw [← hVb]; rfl), hkx] at h9
          exact h9
      refine g_aload_n C 1 dX11_count_125 rfl ?_
      refine g_get C (.int (M1050 258 25)) 25 in_X11_count_11 (List.mem_of_getElem? (i := 4) rfl) (by decide) (ce_model ad cs _ _) rfl (by decide) rfl rfl dX11_count_126 ?_
      refine g_ni (fun v1052 ev1052 => ?_)
      have gv1052 : v1052 = M1050 258 25 := ev1052.trans k25
      have tv1052 := congrArg Int32.toInt gv1052
      obtain ⟨bv1052, dv1052⟩ := (show rg 0 1 v1052 from (by rw [ev1052]; exact hI 258 25))
      refine g_if_eq C 135 dX11_count_129 (by decide) (fun c1053 => ?_) (fun c1053 => ?_)
      ·
        have f1054 := feq rfl (by decide : (0 : Int32).toInt = 0) c1053
        refine g_aload_n C 1 dX11_count_135 rfl ?_
        refine g_callVv C (n := 0) (As := []) (st := []) (k_X11_takeOver l D ad cs _ _  hI ) gX11_count_X11_takeOver rfl rfl rfl (by decide +kernel) ⟨Nat.le_of_ble_eq_true rfl, Nat.le_of_ble_eq_true rfl⟩ rfl (Nat.le_of_ble_eq_true rfl) ⟨Nat.zero_le _, Nat.zero_le _⟩ (by decide) (ce_model ad cs _ _) rfl rfl dX11_count_136 (fun M1056 L1057 hr1055 => ?_)
        obtain ⟨hr1055, hI, hFr1055, hGr1055⟩ := hr1055
        have hF : ∀ k i, ¬ (k = 258 ∧ i = 0) ∧ k ≠ 259 ∧ ¬ (k = 258 ∧ i = 26) ∧ k ≠ 273 ∧ k ≠ 274 ∧ k ≠ 275 ∧ ¬ (k = 258 ∧ i = 27) ∧ ¬ (k = 258 ∧ i = 28) ∧ ¬ (k = 258 ∧ i = 42) ∧ ¬ (k = 258 ∧ i = 44) ∧ k ≠ 288 ∧ k ≠ 289 ∧ k ≠ 290 ∧ ¬ (k = 258 ∧ i = 25) ∧ ¬ (k = 258 ∧ i = 29) ∧ ¬ (k = 258 ∧ i = 31) ∧ k ≠ 277 ∧ k ≠ 278 ∧ k ≠ 279 ∧ k ≠ 282 ∧ k ≠ 293 ∧ k ≠ 294 → M1056 k i = M k i := fun k i hk => by (rw [hFr1055 k i (by omega)]; try exact hF k i hk)
        have hG : ∀ k i, ¬ (k = 258 ∧ i = 23) ∧ ¬ (k = 258 ∧ i = 24) ∧ k ≠ 284 ∧ k ≠ 285 ∧ k ≠ 280 ∧ k ≠ 281 ∧ k ≠ 286 ∧ k ≠ 287 ∧ k ≠ 295 ∧ k ≠ 296 ∧ k ≠ 291 ∧ k ≠ 292 → L1057 k i = L k i := fun k i hk => by (rw [hGr1055 k i (by omega)]; try exact hG k i hk)
        have hV : vR M1056 = sI (startV (vR M) x) 0 5 (-9) := by rw [vR_fr (fun k i hk => hFr1055 k i (by omega)), hV]
        have k0 : M1056 258 0 = Mc 258 0 := (hFr1055 258 0 (by omega)).trans k0
        have k25 : M1056 258 25 = M1050 258 25 := (hFr1055 258 25 (by omega)).trans k25
        have k26 : M1056 258 26 = Mc 258 26 := (hFr1055 258 26 (by omega)).trans k26
        have k27 : M1056 258 27 = M1047 258 27 := (hFr1055 258 27 (by omega)).trans k27
        have k28 : M1056 258 28 = M1047 258 28 := (hFr1055 258 28 (by omega)).trans k28
        have k29 : M1056 258 29 = M1050 258 29 := (hFr1055 258 29 (by omega)).trans k29
        have k31 : M1056 258 31 = M1050 258 31 := (hFr1055 258 31 (by omega)).trans k31
        have k42 : M1056 258 42 = M1056 258 42 := rfl
        have k44 : M1056 258 44 = M1056 258 44 := rfl
        have l23 : L1057 258 23 = L1051 258 23 := (hGr1055 258 23 (by omega)).trans l23
        have l24 : L1057 258 24 = L1051 258 24 := (hGr1055 258 24 (by omega)).trans l24
        have p280 : L1057 280 = L1051 280 := (funext (fun i => hGr1055 280 i (by omega))).trans p280
        have p281 : L1057 281 = L1051 281 := (funext (fun i => hGr1055 281 i (by omega))).trans p281
        have p284 : L1057 284 = L1051 284 := (funext (fun i => hGr1055 284 i (by omega))).trans p284
        have p285 : L1057 285 = L1051 285 := (funext (fun i => hGr1055 285 i (by omega))).trans p285
        have p286 : L1057 286 = L1051 286 := (funext (fun i => hGr1055 286 i (by omega))).trans p286
        have p287 : L1057 287 = L1051 287 := (funext (fun i => hGr1055 287 i (by omega))).trans p287
        have p291 : L1057 291 = L1057 291 := rfl
        have p292 : L1057 292 = L1057 292 := rfl
        have p295 : L1057 295 = L1051 295 := (funext (fun i => hGr1055 295 i (by omega))).trans p295
        have p296 : L1057 296 = L1051 296 := (funext (fun i => hGr1055 296 i (by omega))).trans p296
        have q259 : M1056 259 = Mc 259 := (funext (fun i => hFr1055 259 i (by omega))).trans q259
        have q273 : M1056 273 = M1037 273 := (funext (fun i => hFr1055 273 i (by omega))).trans q273
        have q274 : M1056 274 = M1037 274 := (funext (fun i => hFr1055 274 i (by omega))).trans q274
        have q275 : M1056 275 = M1037 275 := (funext (fun i => hFr1055 275 i (by omega))).trans q275
        have q277 : M1056 277 = M1050 277 := (funext (fun i => hFr1055 277 i (by omega))).trans q277
        have q278 : M1056 278 = M1050 278 := (funext (fun i => hFr1055 278 i (by omega))).trans q278
        have q279 : M1056 279 = M1050 279 := (funext (fun i => hFr1055 279 i (by omega))).trans q279
        have q282 : M1056 282 = M1050 282 := (funext (fun i => hFr1055 282 i (by omega))).trans q282
        have q288 : M1056 288 = M1056 288 := rfl
        have q289 : M1056 289 = M1056 289 := rfl
        have q290 : M1056 290 = M1056 290 := rfl
        have q293 : M1056 293 = M1050 293 := (funext (fun i => hFr1055 293 i (by omega))).trans q293
        have q294 : M1056 294 = M1050 294 := (funext (fun i => hFr1055 294 i (by omega))).trans q294
        obtain ⟨to42, to44, to288, to289⟩ := hr1055
        refine g_aload_n C 1 dX11_count_139 rfl ?_
        refine g_get C (.int (M1056 258 29)) 29 in_X11_count_11 (List.mem_of_getElem? (i := 5) rfl) (by decide) (ce_model ad cs _ _) rfl (by decide) rfl rfl dX11_count_140 ?_
        refine g_ni (fun v1058 ev1058 => ?_)
        have gv1058 : v1058 = M1050 258 29 := ev1058.trans k29
        have tv1058 := congrArg Int32.toInt gv1058
        obtain ⟨bv1058, dv1058⟩ := (show rg 0 30 v1058 from (by rw [ev1058]; exact hI 258 29))
        have hA : A_count (vR M) x y z = (0, sI (startV (vR M) x) 0 5 (-9)) := by dsimp only [A_count, hasM, hasX, seatsOk, bt]; (repeat (first | rw [if_pos (by omega)] | rw [if_neg (by omega)]))
        have hok : ok9 = true := hsp.mp (by omega)
        have hrr9 := hrr hok
        have hS9 := hrr9.1
        have hR9 := hrr9.2.2.1
        exact g_iret C hr ⟨⟨by rw [hA, hV], fun h => absurd (by rw [hA]) h, by (have e1 : vR M1056 13 = startV (vR M) x 13 := (by rw [hV, sI_n _ _ _ (by decide)]); rw [e1, q274]; rw [hVs] at ht9; exact ht9), fun _ => ⟨ok9, S9, R9, by rw [hA]; exact hOUT, fun _ => ⟨by omega, TD_of hrr9 (by omega) (by omega) to42 to44 to288 to289⟩, fun h9 => absurd (hok.symm.trans h9) (by decide)⟩⟩, hI, hF, hG⟩ dX11_count_143
      ·
        have f1059 := fne rfl (by decide : (0 : Int32).toInt = 0) c1053
        refine g_bipush C (-6) dX11_count_132 (by decide) ?_
        have hA : A_count (vR M) x y z = (0, sI (startV (vR M) x) 0 5 (-9)) := by dsimp only [A_count, hasM, hasX, seatsOk, bt]; (repeat (first | rw [if_pos (by omega)] | rw [if_neg (by omega)]))
        have zr9 : ((-6) : Int32).toInt = (-6) := by decide
        exact g_iret C hr ⟨⟨by rw [hA, hV], fun h => absurd (by rw [hA]) h, by (have e1 : vR M1050 13 = startV (vR M) x 13 := (by rw [hV, sI_n _ _ _ (by decide)]); rw [e1, q274]; rw [hVs] at ht9; exact ht9), fun _ => ⟨ok9, S9, R9, by rw [hA]; exact hOUT, fun h9 => absurd (hsp.mpr h9) (by omega), fun _ => ⟨rfl, ⟨k42, k44, q288, q289, q290⟩⟩⟩⟩, hI, hF, hG⟩ dX11_count_134
    ·
      have f1060 := fne rfl (by decide : ((-9) : Int32).toInt = (-9)) c1044
      refine g_aload_n C 1 dX11_count_101 rfl ?_
      refine g_iload C 0 dX11_count_102 rfl ?_
      refine g_putI C 26 in_X11_count_11 (List.mem_of_getElem? (i := 1) rfl) (by decide) (ce_model ad cs _ _) rfl (by decide) rfl tyX11 tyX11_ok nmX11 rfl rfl rfl rfl (Nat.le_of_ble_eq_true rfl) (by rw [sI_k]; rfl) dX11_count_104 ?_
      refine g_nm (fun M1061 hM1061 => ?_)
      have hI : IR M1061 := by rw [hM1061]; exact hI.st (show bR 258 26 _ from trivial)
      have hF : ∀ k i, ¬ (k = 258 ∧ i = 0) ∧ k ≠ 259 ∧ ¬ (k = 258 ∧ i = 26) ∧ k ≠ 273 ∧ k ≠ 274 ∧ k ≠ 275 ∧ ¬ (k = 258 ∧ i = 27) ∧ ¬ (k = 258 ∧ i = 28) ∧ ¬ (k = 258 ∧ i = 42) ∧ ¬ (k = 258 ∧ i = 44) ∧ k ≠ 288 ∧ k ≠ 289 ∧ k ≠ 290 ∧ ¬ (k = 258 ∧ i = 25) ∧ ¬ (k = 258 ∧ i = 29) ∧ ¬ (k = 258 ∧ i = 31) ∧ k ≠ 277 ∧ k ≠ 278 ∧ k ≠ 279 ∧ k ≠ 282 ∧ k ≠ 293 ∧ k ≠ 294 → M1061 k i = M k i := fun k i hk => by (rw [hM1061, sI_at, if_neg (by omega)]; try exact hF k i hk)
      have k0 : M1061 258 0 = Mc 258 0 := by rw [hM1061, sI_at, if_neg (by decide)]; try exact k0
      have k25 : M1061 258 25 = Mc 258 25 := by rw [hM1061, sI_at, if_neg (by decide)]; try exact k25
      have k27 : M1061 258 27 = Mc 258 27 := by rw [hM1061, sI_at, if_neg (by decide)]; try exact k27
      have k28 : M1061 258 28 = Mc 258 28 := by rw [hM1061, sI_at, if_neg (by decide)]; try exact k28
      have k29 : M1061 258 29 = Mc 258 29 := by rw [hM1061, sI_at, if_neg (by decide)]; try exact k29
      have k31 : M1061 258 31 = Mc 258 31 := by rw [hM1061, sI_at, if_neg (by decide)]; try exact k31
      have k42 : M1061 258 42 = M 258 42 := by rw [hM1061, sI_at, if_neg (by decide)]; try exact k42
      have k44 : M1061 258 44 = M 258 44 := by rw [hM1061, sI_at, if_neg (by decide)]; try exact k44
      have k26 : M1061 258 26 = r1041 := by rw [hM1061, sI_at, if_pos (by decide)]
      have q259 : M1061 259 = Mc 259 := by rw [hM1061, sI_n _ _ _ (by decide)]; try exact q259
      have q273 : M1061 273 = M1037 273 := by rw [hM1061, sI_n _ _ _ (by decide)]; try exact q273
      have q274 : M1061 274 = M1037 274 := by rw [hM1061, sI_n _ _ _ (by decide)]; try exact q274
      have q275 : M1061 275 = M1037 275 := by rw [hM1061, sI_n _ _ _ (by decide)]; try exact q275
      have q277 : M1061 277 = Mc 277 := by rw [hM1061, sI_n _ _ _ (by decide)]; try exact q277
      have q278 : M1061 278 = Mc 278 := by rw [hM1061, sI_n _ _ _ (by decide)]; try exact q278
      have q279 : M1061 279 = Mc 279 := by rw [hM1061, sI_n _ _ _ (by decide)]; try exact q279
      have q282 : M1061 282 = Mc 282 := by rw [hM1061, sI_n _ _ _ (by decide)]; try exact q282
      have q288 : M1061 288 = M 288 := by rw [hM1061, sI_n _ _ _ (by decide)]; try exact q288
      have q289 : M1061 289 = M 289 := by rw [hM1061, sI_n _ _ _ (by decide)]; try exact q289
      have q290 : M1061 290 = M 290 := by rw [hM1061, sI_n _ _ _ (by decide)]; try exact q290
      have q293 : M1061 293 = Mc 293 := by rw [hM1061, sI_n _ _ _ (by decide)]; try exact q293
      have q294 : M1061 294 = Mc 294 := by rw [hM1061, sI_n _ _ _ (by decide)]; try exact q294
      have hV : vR M1061 = sI (sI (startV (vR M) x) 0 5 (-9)) 0 5 r1041 := by rw [hM1061, vR_s (c := 5) (by decide), hV]
      refine g_aload_n C 1 dX11_count_107 rfl ?_
      refine g_iconst C 3 dX11_count_108 (by decide) ?_
      refine g_callVi C (n := 1) (As := [.int 3]) (st := []) (s_X11_meets l D ad cs _ _ 3 hI ⟨by first | omega | decide, by first | omega | decide⟩) gX11_count_X11_meets rfl rfl rfl (by decide +kernel) ⟨Nat.le_of_ble_eq_true rfl, Nat.le_of_ble_eq_true rfl⟩ rfl (Nat.le_of_ble_eq_true rfl) ⟨Nat.zero_le _, Nat.zero_le _⟩ (by decide) (ce_model ad cs _ _) rfl rfl dX11_count_109 (fun r1062 M1063 L1064 hr1062 => ?_)
      obtain ⟨hr1062, hI, hFr1062, hGr1062⟩ := hr1062
      have hF : ∀ k i, ¬ (k = 258 ∧ i = 0) ∧ k ≠ 259 ∧ ¬ (k = 258 ∧ i = 26) ∧ k ≠ 273 ∧ k ≠ 274 ∧ k ≠ 275 ∧ ¬ (k = 258 ∧ i = 27) ∧ ¬ (k = 258 ∧ i = 28) ∧ ¬ (k = 258 ∧ i = 42) ∧ ¬ (k = 258 ∧ i = 44) ∧ k ≠ 288 ∧ k ≠ 289 ∧ k ≠ 290 ∧ ¬ (k = 258 ∧ i = 25) ∧ ¬ (k = 258 ∧ i = 29) ∧ ¬ (k = 258 ∧ i = 31) ∧ k ≠ 277 ∧ k ≠ 278 ∧ k ≠ 279 ∧ k ≠ 282 ∧ k ≠ 293 ∧ k ≠ 294 → M1063 k i = M k i := fun k i hk => by (rw [hFr1062 k i (by omega)]; try exact hF k i hk)
      have hG : ∀ k i, ¬ (k = 258 ∧ i = 23) ∧ ¬ (k = 258 ∧ i = 24) ∧ k ≠ 284 ∧ k ≠ 285 ∧ k ≠ 280 ∧ k ≠ 281 ∧ k ≠ 286 ∧ k ≠ 287 ∧ k ≠ 295 ∧ k ≠ 296 ∧ k ≠ 291 ∧ k ≠ 292 → L1064 k i = L k i := fun k i hk => by (rw [hGr1062 k i trivial]; try exact hG k i hk)
      have hV : vR M1063 = meetsV (sI (sI (startV (vR M) x) 0 5 (-9)) 0 5 r1041) 3 := by rw [hr1062.2, hV]
      have k25 : M1063 258 25 = Mc 258 25 := (hFr1062 258 25 (by omega)).trans k25
      have k26 : M1063 258 26 = r1041 := (hFr1062 258 26 (by omega)).trans k26
      have k27 : M1063 258 27 = Mc 258 27 := (hFr1062 258 27 (by omega)).trans k27
      have k28 : M1063 258 28 = Mc 258 28 := (hFr1062 258 28 (by omega)).trans k28
      have k29 : M1063 258 29 = Mc 258 29 := (hFr1062 258 29 (by omega)).trans k29
      have k31 : M1063 258 31 = Mc 258 31 := (hFr1062 258 31 (by omega)).trans k31
      have k42 : M1063 258 42 = M 258 42 := (hFr1062 258 42 (by omega)).trans k42
      have k44 : M1063 258 44 = M 258 44 := (hFr1062 258 44 (by omega)).trans k44
      have k0 : M1063 258 0 = M1063 258 0 := rfl
      have l23 : L1064 258 23 = Lc 258 23 := (hGr1062 258 23 trivial).trans l23
      have l24 : L1064 258 24 = Lc 258 24 := (hGr1062 258 24 trivial).trans l24
      have p280 : L1064 280 = Lc 280 := (funext (fun i => hGr1062 280 i trivial)).trans p280
      have p281 : L1064 281 = Lc 281 := (funext (fun i => hGr1062 281 i trivial)).trans p281
      have p284 : L1064 284 = Lc 284 := (funext (fun i => hGr1062 284 i trivial)).trans p284
      have p285 : L1064 285 = Lc 285 := (funext (fun i => hGr1062 285 i trivial)).trans p285
      have p286 : L1064 286 = Lc 286 := (funext (fun i => hGr1062 286 i trivial)).trans p286
      have p287 : L1064 287 = Lc 287 := (funext (fun i => hGr1062 287 i trivial)).trans p287
      have p291 : L1064 291 = Lc 291 := (funext (fun i => hGr1062 291 i trivial)).trans p291
      have p292 : L1064 292 = Lc 292 := (funext (fun i => hGr1062 292 i trivial)).trans p292
      have p295 : L1064 295 = Lc 295 := (funext (fun i => hGr1062 295 i trivial)).trans p295
      have p296 : L1064 296 = Lc 296 := (funext (fun i => hGr1062 296 i trivial)).trans p296
      have q259 : M1063 259 = M1063 259 := rfl
      have q273 : M1063 273 = M1037 273 := (funext (fun i => hFr1062 273 i (by omega))).trans q273
      have q274 : M1063 274 = M1037 274 := (funext (fun i => hFr1062 274 i (by omega))).trans q274
      have q275 : M1063 275 = M1037 275 := (funext (fun i => hFr1062 275 i (by omega))).trans q275
      have q277 : M1063 277 = Mc 277 := (funext (fun i => hFr1062 277 i (by omega))).trans q277
      have q278 : M1063 278 = Mc 278 := (funext (fun i => hFr1062 278 i (by omega))).trans q278
      have q279 : M1063 279 = Mc 279 := (funext (fun i => hFr1062 279 i (by omega))).trans q279
      have q282 : M1063 282 = Mc 282 := (funext (fun i => hFr1062 282 i (by omega))).trans q282
      have q288 : M1063 288 = M 288 := (funext (fun i => hFr1062 288 i (by omega))).trans q288
      have q289 : M1063 289 = M 289 := (funext (fun i => hFr1062 289 i (by omega))).trans q289
      have q290 : M1063 290 = M 290 := (funext (fun i => hFr1062 290 i (by omega))).trans q290
      have q293 : M1063 293 = Mc 293 := (funext (fun i => hFr1062 293 i (by omega))).trans q293
      have q294 : M1063 294 = Mc 294 := (funext (fun i => hFr1062 294 i (by omega))).trans q294
      have hA : A_count (vR M) x y z = (-3, meetsV (sI (startV (vR M) x) 0 5 (unV (vR M) y (vR M 9 x.toNatClampNeg))) 3) := by dsimp only [A_count, hasM, hasX, seatsOk, bt]; (repeat (first | rw [if_pos (by omega)] | rw [if_neg (by omega)]))
      exact g_iret C hr ⟨⟨by rw [hA, hV, sI_sI, hr1041], fun _ => ⟨by rw [hA]; exact hr1062.1, ⟨k42, k44, q288, q289, q290⟩⟩, by (have e1 : vR M1063 13 = startV (vR M) x 13 := (by rw [hV]; unfold meetsV; rw [sI_n _ _ _ (by decide), sI_n _ _ _ (by decide), sI_n _ _ _ (by decide), sI_n _ _ _ (by decide)]); rw [e1, q274]; rw [hVs] at ht9; exact ht9), fun h => absurd h (by rw [hA]; show ¬ (-3 : Int32) = 0; decide)⟩, hI, hF, hG⟩ dX11_count_112
  ·
    have f1065 := feq rfl (by decide : (2 : Int32).toInt = 2) c1039
    refine g_bipush C (-4) dX11_count_82 (by decide) ?_
    have hA : A_count (vR M) x y z = (-4, sI (startV (vR M) x) 0 5 (-9)) := by dsimp only [A_count, hasM, hasX, seatsOk, bt]; (repeat (first | rw [if_pos (by omega)] | rw [if_neg (by omega)]))
    have zr9 : ((-4) : Int32).toInt = (-4) := by decide
    exact g_iret C hr ⟨⟨by rw [hA, hV], fun _ => ⟨by rw [hA], ⟨k42, k44, q288, q289, q290⟩⟩, ht9, fun h => absurd h (by rw [hA]; show ¬ (-4 : Int32) = 0; decide)⟩, hI, hF, hG⟩ dX11_count_84
set_option maxHeartbeats 4000000 in
set_option maxRecDepth 100000 in
theorem k_X11_count (l : Launch) (D : va_G) (ad : Nat → Nat) (cs : Nat → ClassId) (M : MI) (L : ML) (x : Int32) (y : Int32) (z : Int32) (hI : IR M) (hN : NOv (vR M)) (hT : tr01 (vR M 13) (M 274)) (hB : b012 (vR M 13)) (hD : DP (vR M)) (hB8 : ∀ i : Nat, (vR M 8 i).toInt = -9 ∨ (0 ≤ (vR M 8 i).toInt ∧ (vR M 8 i).toInt ≤ 59)) (hrl : ∀ i, i < (M 258 2).toNatClampNeg → (M 260 i).toInt < ((M 258 2).toNatClampNeg : Int)) (hl4 : ∀ b : Nat, b < 60 → (vR M 4 b).toInt ≤ (vR M 0 0).toInt) : Ci l yX11_count wsX11_count ({ frames := 6, cells := 0, slots := 0, locals := 149 }) D ad cs [.ref (ad 258), .int x, .int y, .int z] M L (fun r M1 L1 => ((A_count (vR M) x y z).2 = vR M1 ∧ ((A_count (vR M) x y z).1 ≠ 0 → r = (A_count (vR M) x y z).1 ∧ TDs M M1) ∧ tr01 (vR M1 13) (M1 274) ∧ ((A_count (vR M) x y z).1 = 0 → ∃ ok S R, OUT (A_count (vR M) x y z).2 (vR M 9 (x.toNatClampNeg)) y z ok S R ∧ (ok = true → r.toInt = (S.length : Int) ∧ TD M1 S R) ∧ (ok = false → r = -6 ∧ TDs M M1))) ∧ IR M1 ∧ (∀ k i, ¬ (k = 258 ∧ i = 0) ∧ k ≠ 259 ∧ ¬ (k = 258 ∧ i = 26) ∧ k ≠ 273 ∧ k ≠ 274 ∧ k ≠ 275 ∧ ¬ (k = 258 ∧ i = 27) ∧ ¬ (k = 258 ∧ i = 28) ∧ ¬ (k = 258 ∧ i = 42) ∧ ¬ (k = 258 ∧ i = 44) ∧ k ≠ 288 ∧ k ≠ 289 ∧ k ≠ 290 ∧ ¬ (k = 258 ∧ i = 25) ∧ ¬ (k = 258 ∧ i = 29) ∧ ¬ (k = 258 ∧ i = 31) ∧ k ≠ 277 ∧ k ≠ 278 ∧ k ≠ 279 ∧ k ≠ 282 ∧ k ≠ 293 ∧ k ≠ 294 → M1 k i = M k i) ∧ ∀ k i, ¬ (k = 258 ∧ i = 23) ∧ ¬ (k = 258 ∧ i = 24) ∧ k ≠ 284 ∧ k ≠ 285 ∧ k ≠ 280 ∧ k ≠ 281 ∧ k ≠ 286 ∧ k ≠ 287 ∧ k ≠ 295 ∧ k ≠ 296 ∧ k ≠ 291 ∧ k ≠ 292 → L1 k i = L k i) := by
  refine enter_i RX11 rfl [(0, .ref (ad 258)), (1, .int x), (2, .int y), (3, .int z)] rfl (Nat.le_of_ble_eq_true rfl) (by decide +kernel) rfl ?_
  intro p e s m below meth c C hr
  have hF : ∀ k i, ¬ (k = 258 ∧ i = 0) ∧ k ≠ 259 ∧ ¬ (k = 258 ∧ i = 26) ∧ k ≠ 273 ∧ k ≠ 274 ∧ k ≠ 275 ∧ ¬ (k = 258 ∧ i = 27) ∧ ¬ (k = 258 ∧ i = 28) ∧ ¬ (k = 258 ∧ i = 42) ∧ ¬ (k = 258 ∧ i = 44) ∧ k ≠ 288 ∧ k ≠ 289 ∧ k ≠ 290 ∧ ¬ (k = 258 ∧ i = 25) ∧ ¬ (k = 258 ∧ i = 29) ∧ ¬ (k = 258 ∧ i = 31) ∧ k ≠ 277 ∧ k ≠ 278 ∧ k ≠ 279 ∧ k ≠ 282 ∧ k ≠ 293 ∧ k ≠ 294 → M k i = M k i := fun _ _ _ => rfl
  have hG : ∀ k i, ¬ (k = 258 ∧ i = 23) ∧ ¬ (k = 258 ∧ i = 24) ∧ k ≠ 284 ∧ k ≠ 285 ∧ k ≠ 280 ∧ k ≠ 281 ∧ k ≠ 286 ∧ k ≠ 287 ∧ k ≠ 295 ∧ k ≠ 296 ∧ k ≠ 291 ∧ k ≠ 292 → L k i = L k i := fun _ _ _ => rfl
  have w0 : (vR M 0 0).toInt = (M 258 2).toInt := rfl
  have w1 : (vR M 0 1).toInt = (M 258 4).toInt := rfl
  have w2 : (vR M 0 2).toInt = (M 258 9).toInt := rfl
  have w3 : (vR M 0 3).toInt = (M 258 14).toInt := rfl
  obtain ⟨y0a, y0b⟩ := (show rg 0 10 (M 258 2) from hI 258 2)
  obtain ⟨y1a, y1b⟩ := (show rg 0 60 (M 258 4) from hI 258 4)
  obtain ⟨y2a, y2b⟩ := (show rg 0 8 (M 258 9) from hI 258 9)
  obtain ⟨y3a, y3b⟩ := (show rg 0 20 (M 258 14) from hI 258 14)
  have hJ0 := trivial
  have k0 : M 258 0 = vR M 0 4 := rfl
  have k25 : M 258 25 = M 258 25 := rfl
  have k26 : M 258 26 = vR M 0 5 := rfl
  have k27 : M 258 27 = M 258 27 := rfl
  have k28 : M 258 28 = M 258 28 := rfl
  have k29 : M 258 29 = M 258 29 := rfl
  have k31 : M 258 31 = M 258 31 := rfl
  have k42 : M 258 42 = M 258 42 := rfl
  have k44 : M 258 44 = M 258 44 := rfl
  have l23 : L 258 23 = L 258 23 := rfl
  have l24 : L 258 24 = L 258 24 := rfl
  have p280 : L 280 = L 280 := rfl
  have p281 : L 281 = L 281 := rfl
  have p284 : L 284 = L 284 := rfl
  have p285 : L 285 = L 285 := rfl
  have p286 : L 286 = L 286 := rfl
  have p287 : L 287 = L 287 := rfl
  have p291 : L 291 = L 291 := rfl
  have p292 : L 292 = L 292 := rfl
  have p295 : L 295 = L 295 := rfl
  have p296 : L 296 = L 296 := rfl
  have q259 : M 259 = M 259 := rfl
  have q273 : M 273 = M 273 := rfl
  have q274 : M 274 = M 274 := rfl
  have q275 : M 275 = M 275 := rfl
  have q277 : M 277 = M 277 := rfl
  have q278 : M 278 = M 278 := rfl
  have q279 : M 279 = M 279 := rfl
  have q282 : M 282 = M 282 := rfl
  have q288 : M 288 = M 288 := rfl
  have q289 : M 289 = M 289 := rfl
  have q290 : M 290 = M 290 := rfl
  have q293 : M 293 = M 293 := rfl
  have q294 : M 294 = M 294 := rfl
  have hV : vR M = vR M := rfl
  have hI0 := hI
  refine g_aload_n C 0 dX11_count_0 rfl ?_
  refine g_bipush C (-9) dX11_count_1 (by decide) ?_
  refine g_putI C 26 in_X11_count_11 (List.mem_of_getElem? (i := 1) rfl) (by decide) (ce_model ad cs _ _) rfl (by decide) rfl tyX11 tyX11_ok nmX11 rfl rfl rfl rfl (Nat.le_of_ble_eq_true rfl) (by rw [sI_k]; rfl) dX11_count_3 ?_
  refine g_nm (fun M1 hM1 => ?_)
  have zy2 : ((-9) : Int32).toInt = (-9) := by decide
  have hI : IR M1 := by rw [hM1]; exact hI.st (show bR 258 26 _ from trivial)
  have hF : ∀ k i, ¬ (k = 258 ∧ i = 0) ∧ k ≠ 259 ∧ ¬ (k = 258 ∧ i = 26) ∧ k ≠ 273 ∧ k ≠ 274 ∧ k ≠ 275 ∧ ¬ (k = 258 ∧ i = 27) ∧ ¬ (k = 258 ∧ i = 28) ∧ ¬ (k = 258 ∧ i = 42) ∧ ¬ (k = 258 ∧ i = 44) ∧ k ≠ 288 ∧ k ≠ 289 ∧ k ≠ 290 ∧ ¬ (k = 258 ∧ i = 25) ∧ ¬ (k = 258 ∧ i = 29) ∧ ¬ (k = 258 ∧ i = 31) ∧ k ≠ 277 ∧ k ≠ 278 ∧ k ≠ 279 ∧ k ≠ 282 ∧ k ≠ 293 ∧ k ≠ 294 → M1 k i = M k i := fun k i hk => by (rw [hM1, sI_at, if_neg (by omega)]; try exact hF k i hk)
  have k0 : M1 258 0 = vR M 0 4 := by rw [hM1, sI_at, if_neg (by decide)]; try exact k0
  have k25 : M1 258 25 = M 258 25 := by rw [hM1, sI_at, if_neg (by decide)]; try exact k25
  have k27 : M1 258 27 = M 258 27 := by rw [hM1, sI_at, if_neg (by decide)]; try exact k27
  have k28 : M1 258 28 = M 258 28 := by rw [hM1, sI_at, if_neg (by decide)]; try exact k28
  have k29 : M1 258 29 = M 258 29 := by rw [hM1, sI_at, if_neg (by decide)]; try exact k29
  have k31 : M1 258 31 = M 258 31 := by rw [hM1, sI_at, if_neg (by decide)]; try exact k31
  have k42 : M1 258 42 = M 258 42 := by rw [hM1, sI_at, if_neg (by decide)]; try exact k42
  have k44 : M1 258 44 = M 258 44 := by rw [hM1, sI_at, if_neg (by decide)]; try exact k44
  have k26 : M1 258 26 = (-9) := by rw [hM1, sI_at, if_pos (by decide)]
  have q259 : M1 259 = M 259 := by rw [hM1, sI_n _ _ _ (by decide)]; try exact q259
  have q273 : M1 273 = M 273 := by rw [hM1, sI_n _ _ _ (by decide)]; try exact q273
  have q274 : M1 274 = M 274 := by rw [hM1, sI_n _ _ _ (by decide)]; try exact q274
  have q275 : M1 275 = M 275 := by rw [hM1, sI_n _ _ _ (by decide)]; try exact q275
  have q277 : M1 277 = M 277 := by rw [hM1, sI_n _ _ _ (by decide)]; try exact q277
  have q278 : M1 278 = M 278 := by rw [hM1, sI_n _ _ _ (by decide)]; try exact q278
  have q279 : M1 279 = M 279 := by rw [hM1, sI_n _ _ _ (by decide)]; try exact q279
  have q282 : M1 282 = M 282 := by rw [hM1, sI_n _ _ _ (by decide)]; try exact q282
  have q288 : M1 288 = M 288 := by rw [hM1, sI_n _ _ _ (by decide)]; try exact q288
  have q289 : M1 289 = M 289 := by rw [hM1, sI_n _ _ _ (by decide)]; try exact q289
  have q290 : M1 290 = M 290 := by rw [hM1, sI_n _ _ _ (by decide)]; try exact q290
  have q293 : M1 293 = M 293 := by rw [hM1, sI_n _ _ _ (by decide)]; try exact q293
  have q294 : M1 294 = M 294 := by rw [hM1, sI_n _ _ _ (by decide)]; try exact q294
  have hV : vR M1 = sI (vR M) 0 5 ((-9)) := by rw [hM1, vR_s (c := 5) (by decide), hV]
  have x0 : (vR M1 0 0).toInt = (vR M 0 0).toInt := by rw [hV, sI_at, if_neg (by decide)]
  have x2 : (vR M1 0 2).toInt = (vR M 0 2).toInt := by rw [hV, sI_at, if_neg (by decide)]
  have x3 : (vR M1 0 3).toInt = (vR M 0 3).toInt := by rw [hV, sI_at, if_neg (by decide)]
  have hN1 : NOv (vR M1) := by rw [hV]; exact NOv_w hN _
  have hT1 : tr01 (vR M1 13) (M1 274) := by rw [hV, sI_n _ _ _ (by decide), q274]; exact hT
  have eS : startV (vR M1) x = sI (startV (vR M) x) 0 5 (-9) := by rw [hV, startV_w]
  refine g_aload_n C 0 dX11_count_6 rfl ?_
  refine g_iload_n C 1 dX11_count_7 rfl ?_
  refine g_callVi C (n := 1) (As := [.int x]) (st := []) (s_X11_isMethod l D ad cs _ _ x hI ) gX11_count_X11_isMethod rfl rfl rfl (by decide +kernel) ⟨Nat.le_of_ble_eq_true rfl, Nat.le_of_ble_eq_true rfl⟩ rfl (Nat.le_of_ble_eq_true rfl) ⟨Nat.zero_le _, Nat.zero_le _⟩ (by decide) (ce_model ad cs _ _) rfl rfl dX11_count_8 (fun r3 M4 L5 hr3 => ?_)
  obtain ⟨hq1, hq2, hr3⟩ := hr3
  obtain rfl := hq1.symm
  obtain rfl := hq2.symm
  obtain ⟨bar3, bbr3⟩ := zo_b hr3
  refine g_if_eq C 39 dX11_count_11 (by decide) (fun c6 => ?_) (fun c6 => ?_)
  ·
    have f7 := feq rfl (by decide : (0 : Int32).toInt = 0) c6
    have pr3 := zo_f hr3 c6
    try dsimp only [hasC, hasB, hasX, hasM, ofS, ofK, bt] at pr3
    refine g_iconst C (-1) dX11_count_39 (by decide) ?_
    have hA : A_count (vR M) x y z = (-1, sI (vR M) 0 5 (-9)) := by dsimp only [A_count, hasM, hasX, seatsOk, bt]; (repeat (first | rw [if_pos (by omega)] | rw [if_neg (by omega)]))
    have zr9 : ((-1) : Int32).toInt = (-1) := by decide
    exact g_iret C hr ⟨⟨by rw [hA, hV], fun _ => ⟨by rw [hA], ⟨k42, k44, q288, q289, q290⟩⟩, hT1, fun h => absurd h (by rw [hA]; show ¬ (-1 : Int32) = 0; decide)⟩, hI, hF, hG⟩ dX11_count_40
  ·
    have f8 := fne rfl (by decide : (0 : Int32).toInt = 0) c6
    have pr3 := zo_t hr3 c6
    try dsimp only [hasC, hasB, hasX, hasM, ofS, ofK, bt] at pr3
    refine g_aload_n C 0 dX11_count_14 rfl ?_
    refine g_iload_n C 2 dX11_count_15 rfl ?_
    refine g_callVi C (n := 1) (As := [.int y]) (st := []) (s_X11_isBox l D ad cs _ _ y hI ) gX11_count_X11_isBox rfl rfl rfl (by decide +kernel) ⟨Nat.le_of_ble_eq_true rfl, Nat.le_of_ble_eq_true rfl⟩ rfl (Nat.le_of_ble_eq_true rfl) ⟨Nat.zero_le _, Nat.zero_le _⟩ (by decide) (ce_model ad cs _ _) rfl rfl dX11_count_16 (fun r9 M10 L11 hr9 => ?_)
    obtain ⟨hq1, hq2, hr9⟩ := hr9
    obtain rfl := hq1.symm
    obtain rfl := hq2.symm
    obtain ⟨bar9, bbr9⟩ := zo_b hr9
    refine g_if_eq C 39 dX11_count_19 (by decide) (fun c12 => ?_) (fun c12 => ?_)
    ·
      have f13 := feq rfl (by decide : (0 : Int32).toInt = 0) c12
      have pr9 := zo_f hr9 c12
      try dsimp only [hasC, hasB, hasX, hasM, ofS, ofK, bt] at pr9
      refine g_iconst C (-1) dX11_count_39 (by decide) ?_
      have hA : A_count (vR M) x y z = (-1, sI (vR M) 0 5 (-9)) := by dsimp only [A_count, hasM, hasX, seatsOk, bt]; (repeat (first | rw [if_pos (by omega)] | rw [if_neg (by omega)]))
      have zr9 : ((-1) : Int32).toInt = (-1) := by decide
      exact g_iret C hr ⟨⟨by rw [hA, hV], fun _ => ⟨by rw [hA], ⟨k42, k44, q288, q289, q290⟩⟩, hT1, fun h => absurd h (by rw [hA]; show ¬ (-1 : Int32) = 0; decide)⟩, hI, hF, hG⟩ dX11_count_40
    ·
      have f14 := fne rfl (by decide : (0 : Int32).toInt = 0) c12
      have pr9 := zo_t hr9 c12
      try dsimp only [hasC, hasB, hasX, hasM, ofS, ofK, bt] at pr9
      refine g_iload_n C 3 dX11_count_22 rfl ?_
      refine g_iconst C 1 dX11_count_23 (by decide) ?_
      refine g_bipush C 30 dX11_count_24 (by decide) ?_
      refine g_callSi C (n := 3) (As := [.int z, .int 1, .int 30]) (st := []) (c_X11_in l D ad cs _ _ z 1 30 ) gX11_count_X11_in rfl rfl rfl (by decide +kernel) ⟨Nat.le_of_ble_eq_true rfl, Nat.le_of_ble_eq_true rfl⟩ rfl (Nat.le_of_ble_eq_true rfl) ⟨Nat.zero_le _, Nat.zero_le _⟩ rfl dX11_count_26 (fun r15 M16 L17 hr15 => ?_)
      obtain ⟨hq1, hq2, hr15⟩ := hr15
      obtain rfl := hq1.symm
      obtain rfl := hq2.symm
      have hr15 := zo_in hr15 (by decide : (1 : Int32).toInt = 1) (by decide : (30 : Int32).toInt = 30)
      obtain ⟨bar15, bbr15⟩ := zo_b hr15
      refine g_if_eq C 39 dX11_count_29 (by decide) (fun c18 => ?_) (fun c18 => ?_)
      ·
        have f19 := feq rfl (by decide : (0 : Int32).toInt = 0) c18
        have pr15 := zo_f hr15 c18
        try dsimp only [hasC, hasB, hasX, hasM, ofS, ofK, bt] at pr15
        refine g_iconst C (-1) dX11_count_39 (by decide) ?_
        have hA : A_count (vR M) x y z = (-1, sI (vR M) 0 5 (-9)) := by dsimp only [A_count, hasM, hasX, seatsOk, bt]; (repeat (first | rw [if_pos (by omega)] | rw [if_neg (by omega)]))
        have zr9 : ((-1) : Int32).toInt = (-1) := by decide
        exact g_iret C hr ⟨⟨by rw [hA, hV], fun _ => ⟨by rw [hA], ⟨k42, k44, q288, q289, q290⟩⟩, hT1, fun h => absurd h (by rw [hA]; show ¬ (-1 : Int32) = 0; decide)⟩, hI, hF, hG⟩ dX11_count_40
      ·
        have f20 := fne rfl (by decide : (0 : Int32).toInt = 0) c18
        have pr15 := zo_t hr15 c18
        try dsimp only [hasC, hasB, hasX, hasM, ofS, ofK, bt] at pr15
        refine g_aload_n C 0 dX11_count_32 rfl ?_
        refine g_get C (.int (M1 258 2)) 2 in_X11_count_11 (List.mem_of_getElem? (i := 2) rfl) (by decide) (ce_model ad cs _ _) rfl (by decide) rfl rfl dX11_count_33 ?_
        refine g_ni (fun v21 ev21 => ?_)
        have gv21 : v21 = vR M 0 0 := ev21.trans (hF 258 2 (by omega))
        have tv21 := congrArg Int32.toInt gv21
        obtain ⟨bv21, dv21⟩ := (show rg 0 10 v21 from (by rw [ev21]; exact hI 258 2))
        refine g_if_ne C 41 dX11_count_36 (by decide) (fun c22 => ?_) (fun c22 => ?_)
        ·
          have f23 := fne rfl (by decide : (0 : Int32).toInt = 0) c22
          refine g_aload_n C 0 dX11_count_41 rfl ?_
          refine g_get C (.ref (ad 269)) 15 in_X11_count_11 (List.mem_of_getElem? (i := 3) rfl) (by decide) (ce_model ad cs _ _) rfl (by decide) rfl rfl dX11_count_42 ?_
          refine g_iload_n C 1 dX11_count_45 rfl ?_
          refine g_iald C (by decide) (ce_m_kindOf ad cs _ _) (fin' (n := 20) rfl (by omega) (by omega)) dX11_count_46 ?_
          refine g_ni (fun v24 ev24 => ?_)
          have gv24 : v24 = vR M 9 x.toNatClampNeg := ev24.trans (hF 269 x.toNatClampNeg (by omega))
          have tv24 := congrArg Int32.toInt gv24
          refine g_istore C [(4, .int v24), (0, .ref (ad 258)), (1, .int x), (2, .int y), (3, .int z)] dX11_count_47 (by decide) rfl ?_
          refine g_iload_n C 4 dX11_count_49 rfl ?_
          refine g_aload_n C 1 dX11_count_50 rfl ?_
          refine g_get C (.int (M1 258 2)) 2 in_X11_count_11 (List.mem_of_getElem? (i := 2) rfl) (by decide) (ce_model ad cs _ _) rfl (by decide) rfl rfl dX11_count_51 ?_
          refine g_ni (fun v25 ev25 => ?_)
          have gv25 : v25 = vR M 0 0 := ev25.trans (hF 258 2 (by omega))
          have tv25 := congrArg Int32.toInt gv25
          obtain ⟨bv25, dv25⟩ := (show rg 0 10 v25 from (by rw [ev25]; exact hI 258 2))
          refine g_icmp_le C 73 dX11_count_54 (by decide) (fun c26 => ?_) (fun c26 => ?_)
          ·
            have f27 := fle rfl rfl c26
            refine g_lv [1, 2, 3, 4, 0] [(0, .ref (ad 258)), (1, .int x), (2, .int y), (3, .int z), (4, .int v24)] rfl ?_
            exact k_X11_count_73 l D ad cs M L x y z hI0 hN hT hB hD hB8 hrl hl4 v24 C hr _ _ hI hF hG (hV) (q274) (gv24) (⟨k42, k44, q288, q289, q290⟩) (⟨by omega, by omega, by omega, by omega, ⟨by omega, by omega⟩, by omega, by omega⟩)
          ·
            have f28 := fnle rfl rfl c26
            refine g_iload C 0 dX11_count_57 rfl ?_
            refine g_bipush C 6 dX11_count_59 (by decide) ?_
            refine g_icmp_eq C 73 dX11_count_61 (by decide) (fun c29 => ?_) (fun c29 => ?_)
            ·
              have f30 := feq rfl (by decide : (6 : Int32).toInt = 6) c29
              refine g_lv [1, 2, 3, 4, 0] [(0, .ref (ad 258)), (1, .int x), (2, .int y), (3, .int z), (4, .int v24)] rfl ?_
              exact k_X11_count_73 l D ad cs M L x y z hI0 hN hT hB hD hB8 hrl hl4 v24 C hr _ _ hI hF hG (hV) (q274) (gv24) (⟨k42, k44, q288, q289, q290⟩) (⟨by omega, by omega, by omega, by omega, ⟨by omega, by omega⟩, by omega, by omega⟩)
            ·
              have f31 := fne rfl (by decide : (6 : Int32).toInt = 6) c29
              refine g_iload C 0 dX11_count_64 rfl ?_
              refine g_bipush C 7 dX11_count_66 (by decide) ?_
              refine g_icmp_eq C 73 dX11_count_68 (by decide) (fun c32 => ?_) (fun c32 => ?_)
              ·
                have f33 := feq rfl (by decide : (7 : Int32).toInt = 7) c32
                refine g_lv [1, 2, 3, 4, 0] [(0, .ref (ad 258)), (1, .int x), (2, .int y), (3, .int z), (4, .int v24)] rfl ?_
                exact k_X11_count_73 l D ad cs M L x y z hI0 hN hT hB hD hB8 hrl hl4 v24 C hr _ _ hI hF hG (hV) (q274) (gv24) (⟨k42, k44, q288, q289, q290⟩) (⟨by omega, by omega, by omega, by omega, ⟨by omega, by omega⟩, by omega, by omega⟩)
              ·
                have f34 := fne rfl (by decide : (7 : Int32).toInt = 7) c32
                refine g_iconst C (-1) dX11_count_71 (by decide) ?_
                have hA : A_count (vR M) x y z = (-1, sI (vR M) 0 5 (-9)) := by dsimp only [A_count, hasM, hasX, seatsOk, bt]; (repeat (first | rw [if_pos (by omega)] | rw [if_neg (by omega)]))
                have zr9 : ((-1) : Int32).toInt = (-1) := by decide
                exact g_iret C hr ⟨⟨by rw [hA, hV], fun _ => ⟨by rw [hA], ⟨k42, k44, q288, q289, q290⟩⟩, hT1, fun h => absurd h (by rw [hA]; show ¬ (-1 : Int32) = 0; decide)⟩, hI, hF, hG⟩ dX11_count_72
        ·
          have f35 := feq rfl (by decide : (0 : Int32).toInt = 0) c22
          refine g_iconst C (-1) dX11_count_39 (by decide) ?_
          have hA : A_count (vR M) x y z = (-1, sI (vR M) 0 5 (-9)) := by dsimp only [A_count, hasM, hasX, seatsOk, bt]; (repeat (first | rw [if_pos (by omega)] | rw [if_neg (by omega)]))
          have zr9 : ((-1) : Int32).toInt = (-1) := by decide
          exact g_iret C hr ⟨⟨by rw [hA, hV], fun _ => ⟨by rw [hA], ⟨k42, k44, q288, q289, q290⟩⟩, hT1, fun h => absurd h (by rw [hA]; show ¬ (-1 : Int32) = 0; decide)⟩, hI, hF, hG⟩ dX11_count_40
