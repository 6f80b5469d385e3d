theorem dX11_countByTallies_0 : decode cX11_countByTallies 0 = .ok (.iconst 0, 1) := dw3 (n := 0) (i := 0) kc_cX11_countByTallies_0 (by decide +kernel)
theorem dX11_countByTallies_1 : decode cX11_countByTallies 1 = .ok (.istore_n 1, 1) := dw60 (n := 0) (i := 1) kc_cX11_countByTallies_0 (by decide +kernel)
theorem dX11_countByTallies_2 : decode cX11_countByTallies 2 = .ok (.iload_n 1, 1) := dw27 (n := 0) (i := 2) kc_cX11_countByTallies_0 (by decide +kernel)
theorem dX11_countByTallies_3 : decode cX11_countByTallies 3 = .ok (.aload_n 0, 1) := dw42 (n := 0) (i := 3) kc_cX11_countByTallies_0 (by decide +kernel)
theorem dX11_countByTallies_4 : decode cX11_countByTallies 4 = .ok (.getfield 231, 3) := dw180 (n := 0) (i := 4) (a := 0) (b := 231) kc_cX11_countByTallies_0 (by decide +kernel) (by decide)
theorem in_X11_countByTallies_11 : ∀ w ∈ u_ws RX11 TX11 53, w ∈ wsX11_countByTallies := fun _ h => List.mem_cons_of_mem _ (List.mem_append_right _ h)
theorem dX11_countByTallies_7 : decode cX11_countByTallies 7 = .ok (.if_icmp .ge 32, 3) := dw162 (n := 0) (i := 7) (a := 0) (b := 32) kc_cX11_countByTallies_0 (by decide +kernel) (by decide)
theorem dX11_countByTallies_39 : decode cX11_countByTallies 39 = .ok (.return_, 1) := dw177 (n := 32) (i := 7) kc_cX11_countByTallies_1 (by decide +kernel)
theorem dX11_countByTallies_10 : decode cX11_countByTallies 10 = .ok (.aload_n 0, 1) := dw42 (n := 0) (i := 10) kc_cX11_countByTallies_0 (by decide +kernel)
theorem dX11_countByTallies_11 : decode cX11_countByTallies 11 = .ok (.invokevirtual 234, 3) := dw182 (n := 0) (i := 11) (a := 0) (b := 234) kc_cX11_countByTallies_0 (by decide +kernel) (by decide)
set_option maxRecDepth 20000 in
theorem ggX11_countByTallies_X11_greatest : GoodIn wsX11_countByTallies wsX11_greatest := (gk_code 7 rfl (gk_fieldLink 8 rfl (gk_fieldLink 9 rfl (gk_fieldLink 2 rfl (gk_fieldLink 10 rfl (gk_fieldLink 11 rfl (gk_methodLink 12 rfl (gk_static 13 rfl (gk_initialized 6 rfl (gk_code 14 rfl (gk_lays 30 rfl (gk_laysFinal 31 rfl (gk_lays 32 rfl (gk_laysFinal 33 rfl (gk_lays 34 rfl (gk_laysFinal 35 rfl (gk_laysFinal 36 rfl (gk_laysFinal 37 rfl (gk_laysFinal 38 rfl (gk_lays 39 rfl (gk_laysFinal 40 rfl (gk_laysFinal 41 rfl (gk_laysFinal 42 rfl (gk_laysFinal 43 rfl (gk_lays 44 rfl (gk_laysFinal 45 rfl (gk_laysFinal 46 rfl (gk_laysFinal 47 rfl (gk_laysFinal 48 rfl (gk_laysFinal 49 rfl (gk_laysFinal 50 rfl (gk_laysFinal 51 rfl (gk_laysFinal 52 rfl (gk_lays 53 rfl (gk_lays 54 rfl (gk_lays 55 rfl (gk_lays 56 rfl (gk_lays 57 rfl (gk_lays 58 rfl (gk_lays 59 rfl (gk_laysFinal 60 rfl (gk_lays 61 rfl (gk_laysFinal 62 rfl (gk_laysFinal 63 rfl (gk_laysFinal 64 rfl (gk_laysFinal 65 rfl (gk_laysFinal 66 rfl (gk_laysFinal 67 rfl (gk_laysFinal 68 rfl (gk_laysFinal 69 rfl (gk_laysFinal 70 rfl (gk_laysFinal 71 rfl (gk_lays 72 rfl (gk_laysFinal 73 rfl (gk_lays 74 rfl (gk_laysFinal 75 rfl (gk_laysFinal 76 rfl (gk_laysFinal 77 rfl (gk_laysFinal 78 rfl (gk_laysFinal 79 rfl (gk_laysFinal 80 rfl (gk_laysFinal 81 rfl (gk_laysFinal 82 rfl (gn))))))))))))))))))))))))))))))))))))))))))))))))))))))))))))))))
set_option maxRecDepth 20000 in
theorem gX11_countByTallies_X11_greatest : GoodIn wsX11_countByTallies (wsV RX11 234 RX11 yX11_greatest wsX11_greatest) := goodIn_app (gk_methodLink 3 rfl (gk_instanceMethod 4 rfl (gk_selects 5 rfl (gk_initialized 6 rfl (gn))))) ggX11_countByTallies_X11_greatest
theorem dX11_countByTallies_14 : decode cX11_countByTallies 14 = .ok (.istore_n 2, 1) := dw61 (n := 0) (i := 14) kc_cX11_countByTallies_0 (by decide +kernel)
theorem dX11_countByTallies_15 : decode cX11_countByTallies 15 = .ok (.aload_n 0, 1) := dw42 (n := 0) (i := 15) kc_cX11_countByTallies_0 (by decide +kernel)
theorem dX11_countByTallies_16 : decode cX11_countByTallies 16 = .ok (.iconst 1, 1) := dw4 (n := 0) (i := 16) kc_cX11_countByTallies_0 (by decide +kernel)
theorem dX11_countByTallies_17 : decode cX11_countByTallies 17 = .ok (.iload_n 2, 1) := dw28 (n := 0) (i := 17) kc_cX11_countByTallies_0 (by decide +kernel)
theorem dX11_countByTallies_18 : decode cX11_countByTallies 18 = .ok (.invokevirtual 238, 3) := dw182 (n := 0) (i := 18) (a := 0) (b := 238) kc_cX11_countByTallies_0 (by decide +kernel) (by decide)
set_option maxRecDepth 20000 in
theorem ggX11_countByTallies_X11_happens : GoodIn wsX11_countByTallies wsX11_happens := (gk_code 18 rfl (gk_fieldLink 19 rfl (gk_fieldLink 20 rfl (gk_fieldLink 21 rfl (gk_fieldLink 22 rfl (gk_fieldLink 10 rfl (gk_fieldLink 23 rfl (gk_fieldLink 11 rfl (gk_lays 30 rfl (gk_laysFinal 31 rfl (gk_lays 32 rfl (gk_laysFinal 33 rfl (gk_lays 34 rfl (gk_laysFinal 35 rfl (gk_laysFinal 36 rfl (gk_laysFinal 37 rfl (gk_laysFinal 38 rfl (gk_lays 39 rfl (gk_laysFinal 40 rfl (gk_laysFinal 41 rfl (gk_laysFinal 42 rfl (gk_laysFinal 43 rfl (gk_lays 44 rfl (gk_laysFinal 45 rfl (gk_laysFinal 46 rfl (gk_laysFinal 47 rfl (gk_laysFinal 48 rfl (gk_laysFinal 49 rfl (gk_laysFinal 50 rfl (gk_laysFinal 51 rfl (gk_laysFinal 52 rfl (gk_lays 53 rfl (gk_lays 54 rfl (gk_lays 55 rfl (gk_lays 56 rfl (gk_lays 57 rfl (gk_lays 58 rfl (gk_lays 59 rfl (gk_laysFinal 60 rfl (gk_lays 61 rfl (gk_laysFinal 62 rfl (gk_laysFinal 63 rfl (gk_laysFinal 64 rfl (gk_laysFinal 65 rfl (gk_laysFinal 66 rfl (gk_laysFinal 67 rfl (gk_laysFinal 68 rfl (gk_laysFinal 69 rfl (gk_laysFinal 70 rfl (gk_laysFinal 71 rfl (gk_lays 72 rfl (gk_laysFinal 73 rfl (gk_lays 74 rfl (gk_laysFinal 75 rfl (gk_laysFinal 76 rfl (gk_laysFinal 77 rfl (gk_laysFinal 78 rfl (gk_laysFinal 79 rfl (gk_laysFinal 80 rfl (gk_laysFinal 81 rfl (gk_laysFinal 82 rfl (gn))))))))))))))))))))))))))))))))))))))))))))))))))))))))))))))
set_option maxRecDepth 20000 in
theorem gX11_countByTallies_X11_happens : GoodIn wsX11_countByTallies (wsV RX11 238 RX11 yX11_happens wsX11_happens) := goodIn_app (gk_methodLink 15 rfl (gk_instanceMethod 16 rfl (gk_selects 17 rfl (gk_initialized 6 rfl (gn))))) ggX11_countByTallies_X11_happens
theorem dX11_countByTallies_21 : decode cX11_countByTallies 21 = .ok (.aload_n 0, 1) := dw42 (n := 0) (i := 21) kc_cX11_countByTallies_0 (by decide +kernel)
theorem dX11_countByTallies_22 : decode cX11_countByTallies 22 = .ok (.iload_n 2, 1) := dw28 (n := 0) (i := 22) kc_cX11_countByTallies_0 (by decide +kernel)
theorem dX11_countByTallies_23 : decode cX11_countByTallies 23 = .ok (.invokevirtual 242, 3) := dw182 (n := 0) (i := 23) (a := 0) (b := 242) kc_cX11_countByTallies_0 (by decide +kernel) (by decide)
set_option maxRecDepth 20000 in
theorem ggX11_countByTallies_X11_gives : GoodIn wsX11_countByTallies wsX11_gives := (gk_code 27 rfl (gk_fieldLink 28 rfl (gk_fieldLink 29 rfl (gk_lays 30 rfl (gk_laysFinal 31 rfl (gk_lays 32 rfl (gk_laysFinal 33 rfl (gk_lays 34 rfl (gk_laysFinal 35 rfl (gk_laysFinal 36 rfl (gk_laysFinal 37 rfl (gk_laysFinal 38 rfl (gk_lays 39 rfl (gk_laysFinal 40 rfl (gk_laysFinal 41 rfl (gk_laysFinal 42 rfl (gk_laysFinal 43 rfl (gk_lays 44 rfl (gk_laysFinal 45 rfl (gk_laysFinal 46 rfl (gk_laysFinal 47 rfl (gk_laysFinal 48 rfl (gk_laysFinal 49 rfl (gk_laysFinal 50 rfl (gk_laysFinal 51 rfl (gk_laysFinal 52 rfl (gk_lays 53 rfl (gk_lays 54 rfl (gk_lays 55 rfl (gk_lays 56 rfl (gk_lays 57 rfl (gk_lays 58 rfl (gk_lays 59 rfl (gk_laysFinal 60 rfl (gk_lays 61 rfl (gk_laysFinal 62 rfl (gk_laysFinal 63 rfl (gk_laysFinal 64 rfl (gk_laysFinal 65 rfl (gk_laysFinal 66 rfl (gk_laysFinal 67 rfl (gk_laysFinal 68 rfl (gk_laysFinal 69 rfl (gk_laysFinal 70 rfl (gk_laysFinal 71 rfl (gk_lays 72 rfl (gk_laysFinal 73 rfl (gk_lays 74 rfl (gk_laysFinal 75 rfl (gk_laysFinal 76 rfl (gk_laysFinal 77 rfl (gk_laysFinal 78 rfl (gk_laysFinal 79 rfl (gk_laysFinal 80 rfl (gk_laysFinal 81 rfl (gk_laysFinal 82 rfl (gn)))))))))))))))))))))))))))))))))))))))))))))))))))))))))
set_option maxRecDepth 20000 in
theorem gX11_countByTallies_X11_gives : GoodIn wsX11_countByTallies (wsV RX11 242 RX11 yX11_gives wsX11_gives) := goodIn_app (gk_methodLink 24 rfl (gk_instanceMethod 25 rfl (gk_selects 26 rfl (gk_initialized 6 rfl (gn))))) ggX11_countByTallies_X11_gives
theorem dX11_countByTallies_26 : decode cX11_countByTallies 26 = .ok (.aload_n 0, 1) := dw42 (n := 0) (i := 26) kc_cX11_countByTallies_0 (by decide +kernel)
theorem dX11_countByTallies_27 : decode cX11_countByTallies 27 = .ok (.getfield 81, 3) := dw180 (n := 0) (i := 27) (a := 0) (b := 81) kc_cX11_countByTallies_0 (by decide +kernel) (by decide)
theorem dX11_countByTallies_30 : decode cX11_countByTallies 30 = .ok (.iload_n 2, 1) := dw28 (n := 0) (i := 30) kc_cX11_countByTallies_0 (by decide +kernel)
theorem dX11_countByTallies_31 : decode cX11_countByTallies 31 = .ok (.iconst 0, 1) := dw3 (n := 0) (i := 31) kc_cX11_countByTallies_0 (by decide +kernel)
theorem dX11_countByTallies_32 : decode cX11_countByTallies 32 = .ok (.bastore, 1) := dw84 (n := 32) (i := 0) kc_cX11_countByTallies_1 (by decide +kernel)
theorem dX11_countByTallies_33 : decode cX11_countByTallies 33 = .ok (.iinc 1 1, 3) := by decide +kernel
theorem dX11_countByTallies_36 : decode cX11_countByTallies 36 = .ok (.goto (-34), 3) := dw167 (n := 32) (i := 4) (a := 255) (b := 222) kc_cX11_countByTallies_1 (by decide +kernel) (by decide)
set_option maxHeartbeats 4000000 in
set_option maxRecDepth 100000 in
theorem s_X11_countByTallies (l : Launch) (D : va_G) (ad : Nat → Nat) (cs : Nat → ClassId) (M : MI) (L : ML)  (hI : IR M) (hD : DP (vR M)) (hNI0 : NIn (M 282) (M 258 2).toInt) (hg0 : (M 258 29).toInt = 0) (hm0 : (M 258 31).toInt = 0) (hC : (M 258 28).toInt ≤ (cI (M 282) (M 258 2).toNatClampNeg : Int)) : Cv l yX11_countByTallies wsX11_countByTallies ({ frames := 2, cells := 0, slots := 0, locals := 50 }) D ad cs [.ref (ad 258)] M L (fun M1 L1 => (True) ∧ IR M1 ∧ (∀ k i, ¬ (k = 258 ∧ i = 29) ∧ ¬ (k = 258 ∧ i = 31) ∧ k ≠ 277 ∧ k ≠ 278 ∧ k ≠ 279 ∧ k ≠ 282 → M1 k i = M k i) ∧ ∀ k i, k ≠ 280 ∧ k ≠ 281 → L1 k i = L k i) := by
  refine enter_v RX11 rfl [(0, .ref (ad 258))] rfl (Nat.le_of_ble_eq_true rfl) (by decide +kernel) rfl ?_
  intro p e s m below meth c C hr
  have hF : ∀ k i, ¬ (k = 258 ∧ i = 29) ∧ ¬ (k = 258 ∧ i = 31) ∧ k ≠ 277 ∧ k ≠ 278 ∧ k ≠ 279 ∧ k ≠ 282 → M k i = M k i := fun _ _ _ => rfl
  have hG : ∀ k i, k ≠ 280 ∧ k ≠ 281 → L k i = L k i := fun _ _ _ => rfl
  obtain ⟨ca, cb⟩ := (show rg 0 10 (M 258 2) from hI 258 2)
  have n02 := ixn ca
  obtain ⟨sa, sb⟩ := (show rg 0 30 (M 258 28) from hI 258 28)
  have k29 : M 258 29 = M 258 29 := rfl
  have k31 : M 258 31 = M 258 31 := rfl
  have p280 : L 280 = L 280 := rfl
  have p281 : L 281 = L 281 := rfl
  have q277 : M 277 = M 277 := rfl
  have q278 : M 278 = M 278 := rfl
  have q279 : M 279 = M 279 := rfl
  have q282 : M 282 = M 282 := rfl
  refine g_iconst C 0 dX11_countByTallies_0 (by decide) ?_
  refine g_istore_n C [(1, .int 0), (0, .ref (ad 258))] dX11_countByTallies_1 (by decide) rfl ?_
  have zy1 : (0 : Int32).toInt = 0 := by decide
  refine g_loop (α := Int32 × MI × ML) (fun a => (31 - a.1.toInt).toNat) (fun a => (0 ≤ a.1.toInt) ∧ (a.1.toInt ≤ (M 258 28).toInt) ∧ ((a.2.1 258 29).toInt = a.1.toInt) ∧ ((a.2.1 258 31).toInt = a.1.toInt) ∧ ((M 258 28).toInt ≤ (cI (a.2.1 282) (M 258 2).toNatClampNeg : Int) + a.1.toInt) ∧ (NIn (a.2.1 282) (M 258 2).toInt) ∧ IR a.2.1 ∧ (∀ k i, ¬ (k = 258 ∧ i = 29) ∧ ¬ (k = 258 ∧ i = 31) ∧ k ≠ 277 ∧ k ≠ 278 ∧ k ≠ 279 ∧ k ≠ 282 → a.2.1 k i = M k i) ∧ (∀ k i, k ≠ 280 ∧ k ≠ 281 → a.2.2 k i = L k i)) (fun a => a.2.1) (fun a => a.2.2) (fun a => [(1, .int a.1), (0, .ref (ad 258))]) ((0 : Int32), M, L) ⟨by show 0 ≤ (0 : Int32).toInt; omega, by show (0 : Int32).toInt ≤ (M 258 28).toInt; omega, by show (M 258 29).toInt = (0 : Int32).toInt; omega, by show (M 258 31).toInt = (0 : Int32).toInt; omega, by show (M 258 28).toInt ≤ (cI (M 282) (M 258 2).toNatClampNeg : Int) + (0 : Int32).toInt; omega, by show NIn (M 282) (M 258 2).toInt; exact hNI0, hI, hF, hG⟩ rfl rfl rfl ?_
  rintro ⟨x1_2, M_2, L_2⟩ ⟨j2_0, j2_1, j2_2, j2_3, j2_4, j2_5, hI, hF, hG⟩ ih_2
  dsimp only at j2_0 j2_1 j2_2 j2_3 j2_4 j2_5 hI hF hG ih_2 ⊢
  have k29 : M_2 258 29 = M_2 258 29 := rfl
  have k31 : M_2 258 31 = M_2 258 31 := rfl
  have p280 : L_2 280 = L_2 280 := rfl
  have p281 : L_2 281 = L_2 281 := rfl
  have q277 : M_2 277 = M_2 277 := rfl
  have q278 : M_2 278 = M_2 278 := rfl
  have q279 : M_2 279 = M_2 279 := rfl
  have q282 : M_2 282 = M_2 282 := rfl
  have hNI := j2_5
  refine g_iload_n C 0 dX11_countByTallies_2 rfl ?_
  refine g_aload_n C 1 dX11_countByTallies_3 rfl ?_
  refine g_get C (.int (M_2 258 28)) 28 in_X11_countByTallies_11 (List.mem_of_getElem? (i := 1) rfl) (by decide) (ce_model ad cs _ _) rfl (by decide) rfl rfl dX11_countByTallies_4 ?_
  refine g_ni (fun v2 ev2 => ?_)
  have gv2 : v2 = M 258 28 := ev2.trans (hF 258 28 (by omega))
  have tv2 := congrArg Int32.toInt gv2
  obtain ⟨bv2, dv2⟩ := (show rg 0 30 v2 from (by rw [ev2]; exact hI 258 28))
  refine g_icmp_ge C 39 dX11_countByTallies_7 (by decide) (fun c3 => ?_) (fun c3 => ?_)
  ·
    have f4 := fle rfl rfl c3
    exact g_vret C hr ⟨trivial, hI, hF, hG⟩ dX11_countByTallies_39
  ·
    have f5 := fnle rfl rfl c3
    refine g_aload_n C 1 dX11_countByTallies_10 rfl ?_
    refine g_callVi C (n := 0) (As := []) (st := []) (s_X11_greatest l D ad cs _ _  hI (DP_k hD (hF 258 2 (by omega)) (fun i => hF 260 i (by omega)))) gX11_countByTallies_X11_greatest rfl rfl rfl (by decide +kernel) ⟨Nat.le_of_ble_eq_true rfl, Nat.le_of_ble_eq_true rfl⟩ rfl (Nat.le_of_ble_eq_true rfl) ⟨Nat.zero_le _, Nat.zero_le _⟩ (by decide) (ce_model ad cs _ _) rfl rfl dX11_countByTallies_11 (fun r6 M7 L8 hr6 => ?_)
    obtain ⟨hq1, hq2, hr6⟩ := hr6
    obtain rfl := hq1.symm
    obtain rfl := hq2.symm
    obtain ⟨br6, ir6, xr6⟩ := hr6
    have w9 : (vR M_2 0 0).toInt = (M 258 2).toInt := congrArg Int32.toInt (hF 258 2 (by omega))
    have hc282 : M_2 282 = M_2 282 := q282
    have hpos : 0 < cI (M_2 282) (M 258 2).toNatClampNeg := by omega
    obtain ⟨c9, hc9, hi9⟩ := cI_ex _ hpos
    have hne9 := xr6 ⟨c9, by omega, by rw [hc282]; exact hi9⟩
    have nr9 := ixn (x := r6) (by omega)
    have hin9 := ir6 (by omega)
    rw [hc282] at hin9
    have hlt9 := hNI r6.toNatClampNeg (by omega) hin9
    refine g_istore_n C [(2, .int r6), (1, .int x1_2), (0, .ref (ad 258))] dX11_countByTallies_14 (by decide) rfl ?_
    refine g_aload_n C 2 dX11_countByTallies_15 rfl ?_
    refine g_iconst C 1 dX11_countByTallies_16 (by decide) ?_
    refine g_iload_n C 0 dX11_countByTallies_17 rfl ?_
    refine g_callVv C (n := 2) (As := [.int 1, .int r6]) (st := []) (s_X11_happens l D ad cs _ _ 1 r6 hI (by omega)) gX11_countByTallies_X11_happens rfl rfl rfl (by decide +kernel) ⟨Nat.le_of_ble_eq_true rfl, Nat.le_of_ble_eq_true rfl⟩ rfl (Nat.le_of_ble_eq_true rfl) ⟨Nat.zero_le _, Nat.zero_le _⟩ (by decide) (ce_model ad cs _ _) rfl rfl dX11_countByTallies_18 (fun M10 L11 hr9 => ?_)
    obtain ⟨hr9, hI, hFr9, hGr9⟩ := hr9
    have hF : ∀ k i, ¬ (k = 258 ∧ i = 29) ∧ ¬ (k = 258 ∧ i = 31) ∧ k ≠ 277 ∧ k ≠ 278 ∧ k ≠ 279 ∧ k ≠ 282 → M10 k i = M k i := fun k i hk => by (rw [hFr9 k i (by omega)]; try exact hF k i hk)
    have hG : ∀ k i, k ≠ 280 ∧ k ≠ 281 → L11 k i = L k i := fun k i hk => by (rw [hGr9 k i (by omega)]; try exact hG k i hk)
    have k29 : M10 258 29 = M_2 258 29 := (hFr9 258 29 (by omega)).trans k29
    have k31 : M10 258 31 = M10 258 31 := rfl
    have kt29 := congrArg Int32.toInt k29
    have kt31 := congrArg Int32.toInt k31
    have p280 : L11 280 = L11 280 := rfl
    have p281 : L11 281 = L11 281 := rfl
    have q277 : M10 277 = M_2 277 := (funext (fun i => hFr9 277 i (by omega))).trans q277
    have q278 : M10 278 = M10 278 := rfl
    have q279 : M10 279 = M10 279 := rfl
    have q282 : M10 282 = M_2 282 := (funext (fun i => hFr9 282 i (by omega))).trans q282
    have ur9 := hr9
    refine g_aload_n C 2 dX11_countByTallies_21 rfl ?_
    refine g_iload_n C 0 dX11_countByTallies_22 rfl ?_
    refine g_callVv C (n := 1) (As := [.int r6]) (st := []) (s_X11_gives l D ad cs _ _ r6 hI (by omega)) gX11_countByTallies_X11_gives rfl rfl rfl (by decide +kernel) ⟨Nat.le_of_ble_eq_true rfl, Nat.le_of_ble_eq_true rfl⟩ rfl (Nat.le_of_ble_eq_true rfl) ⟨Nat.zero_le _, Nat.zero_le _⟩ (by decide) (ce_model ad cs _ _) rfl rfl dX11_countByTallies_23 (fun M13 L14 hr12 => ?_)
    obtain ⟨hr12, hI, hFr12, hGr12⟩ := hr12
    have hF : ∀ k i, ¬ (k = 258 ∧ i = 29) ∧ ¬ (k = 258 ∧ i = 31) ∧ k ≠ 277 ∧ k ≠ 278 ∧ k ≠ 279 ∧ k ≠ 282 → M13 k i = M k i := fun k i hk => by (rw [hFr12 k i (by omega)]; try exact hF k i hk)
    have hG : ∀ k i, k ≠ 280 ∧ k ≠ 281 → L14 k i = L k i := fun k i hk => by (rw [hGr12 k i trivial]; try exact hG k i hk)
    have k31 : M13 258 31 = M10 258 31 := (hFr12 258 31 (by omega)).trans k31
    have k29 : M13 258 29 = M13 258 29 := rfl
    have kt29 := congrArg Int32.toInt k29
    have kt31 := congrArg Int32.toInt k31
    have p280 : L14 280 = L11 280 := (funext (fun i => hGr12 280 i trivial)).trans p280
    have p281 : L14 281 = L11 281 := (funext (fun i => hGr12 281 i trivial)).trans p281
    have q277 : M13 277 = M13 277 := rfl
    have q278 : M13 278 = M10 278 := (funext (fun i => hFr12 278 i (by omega))).trans q278
    have q279 : M13 279 = M10 279 := (funext (fun i => hFr12 279 i (by omega))).trans q279
    have q282 : M13 282 = M_2 282 := (funext (fun i => hFr12 282 i (by omega))).trans q282
    have ur12 := hr12
    refine g_aload_n C 2 dX11_countByTallies_26 rfl ?_
    refine g_get C (.ref (ad 282)) 36 in_X11_countByTallies_11 (List.mem_of_getElem? (i := 2) rfl) (by decide) (ce_model ad cs _ _) rfl (by decide) rfl rfl dX11_countByTallies_27 ?_
    refine g_iload_n C 0 dX11_countByTallies_30 rfl ?_
    refine g_iconst C 0 dX11_countByTallies_31 (by decide) ?_
    refine g_zast C (by decide) (ce_m_isIn ad cs _ _) (by rw [sI_k]; rfl) (fin' (n := 10) rfl (by omega) (by omega)) dX11_countByTallies_32 ?_
    refine g_nm (fun M15 hM15 => ?_)
    have zy16 : (0 : Int32).toInt = 0 := by decide
    have hI : IR M15 := by rw [hM15]; exact hI.st (show bR 282 _ _ from trivial)
    have hF : ∀ k i, ¬ (k = 258 ∧ i = 29) ∧ ¬ (k = 258 ∧ i = 31) ∧ k ≠ 277 ∧ k ≠ 278 ∧ k ≠ 279 ∧ k ≠ 282 → M15 k i = M k i := fun k i hk => by (rw [hM15, sI_at, if_neg (by omega)]; try exact hF k i hk)
    have k29 : M15 258 29 = M13 258 29 := by rw [hM15, sI_n _ _ _ (by decide)]; try exact k29
    have k31 : M15 258 31 = M10 258 31 := by rw [hM15, sI_n _ _ _ (by decide)]; try exact k31
    have q277 : M15 277 = M13 277 := by rw [hM15, sI_n _ _ _ (by decide)]; try exact q277
    have q278 : M15 278 = M10 278 := by rw [hM15, sI_n _ _ _ (by decide)]; try exact q278
    have q279 : M15 279 = M10 279 := by rw [hM15, sI_n _ _ _ (by decide)]; try exact q279
    have h282 : M15 282 = upd (M_2 282) r6.toNatClampNeg 0 := by rw [hM15, sI_k, q282]; rfl
    have hcu := cI_upd (T := M_2 282) (b := r6.toNatClampNeg) hin9 (M 258 2).toNatClampNeg
    rw [if_pos (by omega), ← h282] at hcu
    have hNI2 : NIn (M15 282) (M 258 2).toInt := by rw [h282]; exact NIn_upd hNI _
    have q282 : M15 282 = M15 282 := rfl
    obtain ⟨v17, ev17⟩ : ∃ y : Int32, y = x1_2 + 1 := ⟨_, rfl⟩
    try have fv17 := fadd rfl (by decide : (1 : Int32).toInt = 1) ev17 (by omega) (by omega)
    refine g_iinc C 1 v17 [(1, .int v17), (2, .int r6), (0, .ref (ad 258))] dX11_countByTallies_33 rfl (by rw [ev17]; rfl) (by decide) rfl ?_
    refine g_goto C 2 dX11_countByTallies_36 (by decide) ?_
    refine g_lv [0, 2] [(1, .int v17), (0, .ref (ad 258))] rfl ?_
    have k29t := congrArg Int32.toInt k29
    have k31t := congrArg Int32.toInt k31
    exact ih_2 (v17, M15, L14) ⟨by show 0 ≤ v17.toInt; omega, by show v17.toInt ≤ (M 258 28).toInt; omega, by show (M15 258 29).toInt = v17.toInt; omega, by show (M15 258 31).toInt = v17.toInt; omega, by show (M 258 28).toInt ≤ (cI (M15 282) (M 258 2).toNatClampNeg : Int) + v17.toInt; omega, by show NIn (M15 282) (M 258 2).toInt; exact hNI2, hI, hF, hG⟩ (by show (31 - v17.toInt).toNat < (31 - x1_2.toInt).toNat; omega)
theorem dX11_countDivisors_0 : decode cX11_countDivisors 0 = .ok (.aload_n 0, 1) := dw42 (n := 0) (i := 0) kc_cX11_countDivisors_0 (by decide +kernel)
theorem dX11_countDivisors_1 : decode cX11_countDivisors 1 = .ok (.invokevirtual 246, 3) := dw182 (n := 0) (i := 1) (a := 0) (b := 246) kc_cX11_countDivisors_0 (by decide +kernel) (by decide)
set_option maxRecDepth 20000 in
theorem ggX11_countDivisors_X11_tallyFirsts : GoodIn wsX11_countDivisors wsX11_tallyFirsts := (gk_code 10 rfl (gk_fieldLink 11 rfl (gk_fieldLink 12 rfl (gk_fieldLink 13 rfl (gk_fieldLink 14 rfl (gk_methodLink 15 rfl (gk_instanceMethod 16 rfl (gk_selects 17 rfl (gk_initialized 9 rfl (gk_code 18 rfl (gk_fieldLink 5 rfl (gk_fieldLink 19 rfl (gk_methodLink 20 rfl (gk_instanceMethod 21 rfl (gk_selects 22 rfl (gk_code 23 rfl (gk_fieldLink 24 rfl (gk_methodLink 25 rfl (gk_instanceMethod 26 rfl (gk_selects 27 rfl (gk_code 28 rfl (gk_fieldLink 29 rfl (gk_fieldLink 30 rfl (gk_fieldLink 31 rfl (gk_methodLink 32 rfl (gk_instanceMethod 33 rfl (gk_selects 34 rfl (gk_code 35 rfl (gk_fieldLink 36 rfl (gk_fieldLink 37 rfl (gk_methodLink 38 rfl (gk_instanceMethod 39 rfl (gk_selects 40 rfl (gk_code 41 rfl (gk_fieldLink 42 rfl (gk_constantLong 43 rfl (gk_methodLink 44 rfl (gk_static 45 rfl (gk_code 46 rfl (gk_lays 65 rfl (gk_laysFinal 66 rfl (gk_lays 67 rfl (gk_laysFinal 68 rfl (gk_lays 69 rfl (gk_laysFinal 70 rfl (gk_laysFinal 71 rfl (gk_laysFinal 72 rfl (gk_laysFinal 73 rfl (gk_lays 74 rfl (gk_laysFinal 75 rfl (gk_laysFinal 76 rfl (gk_laysFinal 77 rfl (gk_laysFinal 78 rfl (gk_lays 79 rfl (gk_laysFinal 80 rfl (gk_laysFinal 81 rfl (gk_laysFinal 82 rfl (gk_laysFinal 83 rfl (gk_laysFinal 84 rfl (gk_laysFinal 85 rfl (gk_laysFinal 86 rfl (gk_laysFinal 87 rfl (gk_lays 88 rfl (gk_lays 89 rfl (gk_lays 90 rfl (gk_lays 91 rfl (gk_lays 92 rfl (gk_lays 93 rfl (gk_lays 94 rfl (gk_laysFinal 95 rfl (gk_lays 96 rfl (gk_laysFinal 97 rfl (gk_laysFinal 98 rfl (gk_laysFinal 99 rfl (gk_laysFinal 100 rfl (gk_laysFinal 101 rfl (gk_laysFinal 102 rfl (gk_laysFinal 103 rfl (gk_laysFinal 104 rfl (gk_laysFinal 105 rfl (gk_laysFinal 106 rfl (gk_lays 107 rfl (gk_laysFinal 108 rfl (gk_lays 109 rfl (gk_laysFinal 110 rfl (gk_laysFinal 111 rfl (gk_laysFinal 112 rfl (gk_laysFinal 113 rfl (gk_laysFinal 114 rfl (gk_laysFinal 115 rfl (gk_laysFinal 116 rfl (gk_laysFinal 117 rfl (gn)))))))))))))))))))))))))))))))))))))))))))))))))))))))))))))))))))))))))))))))))))))))))))))
set_option maxRecDepth 20000 in
theorem gX11_countDivisors_X11_tallyFirsts : GoodIn wsX11_countDivisors (wsV RX11 246 RX11 yX11_tallyFirsts wsX11_tallyFirsts) := goodIn_app (gk_methodLink 6 rfl (gk_instanceMethod 7 rfl (gk_selects 8 rfl (gk_initialized 9 rfl (gn))))) ggX11_countDivisors_X11_tallyFirsts
theorem dX11_countDivisors_4 : decode cX11_countDivisors 4 = .ok (.iconst 0, 1) := dw3 (n := 0) (i := 4) kc_cX11_countDivisors_0 (by decide +kernel)
theorem dX11_countDivisors_5 : decode cX11_countDivisors 5 = .ok (.istore_n 2, 1) := dw61 (n := 0) (i := 5) kc_cX11_countDivisors_0 (by decide +kernel)
theorem dX11_countDivisors_6 : decode cX11_countDivisors 6 = .ok (.iload_n 2, 1) := dw28 (n := 0) (i := 6) kc_cX11_countDivisors_0 (by decide +kernel)
theorem dX11_countDivisors_7 : decode cX11_countDivisors 7 = .ok (.bipush 10, 2) := dw16 (n := 0) (i := 7) (a := 10) kc_cX11_countDivisors_0 (by decide +kernel) (by decide)
theorem dX11_countDivisors_9 : decode cX11_countDivisors 9 = .ok (.if_icmp .ge 16, 3) := dw162 (n := 0) (i := 9) (a := 0) (b := 16) kc_cX11_countDivisors_0 (by decide +kernel) (by decide)
theorem dX11_countDivisors_25 : decode cX11_countDivisors 25 = .ok (.iconst 0, 1) := dw3 (n := 0) (i := 25) kc_cX11_countDivisors_0 (by decide +kernel)
theorem dX11_countDivisors_26 : decode cX11_countDivisors 26 = .ok (.istore_n 2, 1) := dw61 (n := 0) (i := 26) kc_cX11_countDivisors_0 (by decide +kernel)
theorem dX11_countDivisors_27 : decode cX11_countDivisors 27 = .ok (.iload_n 2, 1) := dw28 (n := 0) (i := 27) kc_cX11_countDivisors_0 (by decide +kernel)
theorem dX11_countDivisors_28 : decode cX11_countDivisors 28 = .ok (.aload_n 0, 1) := dw42 (n := 0) (i := 28) kc_cX11_countDivisors_0 (by decide +kernel)
theorem dX11_countDivisors_29 : decode cX11_countDivisors 29 = .ok (.getfield 231, 3) := dw180 (n := 0) (i := 29) (a := 0) (b := 231) kc_cX11_countDivisors_0 (by decide +kernel) (by decide)
theorem in_X11_countDivisors_11 : ∀ w ∈ u_ws RX11 TX11 53, w ∈ wsX11_countDivisors := fun _ h => List.mem_cons_of_mem _ (List.mem_append_right _ h)
theorem dX11_countDivisors_32 : decode cX11_countDivisors 32 = .ok (.if_icmp .ge 115, 3) := dw162 (n := 32) (i := 0) (a := 0) (b := 115) kc_cX11_countDivisors_1 (by decide +kernel) (by decide)
theorem dX11_countDivisors_147 : decode cX11_countDivisors 147 = .ok (.return_, 1) := dw177 (n := 128) (i := 19) kc_cX11_countDivisors_4 (by decide +kernel)
theorem dX11_countDivisors_35 : decode cX11_countDivisors 35 = .ok (.bipush (-9), 2) := dw16 (n := 32) (i := 3) (a := 247) kc_cX11_countDivisors_1 (by decide +kernel) (by decide)
theorem dX11_countDivisors_37 : decode cX11_countDivisors 37 = .ok (.istore_n 3, 1) := dw62 (n := 32) (i := 5) kc_cX11_countDivisors_1 (by decide +kernel)
theorem dX11_countDivisors_38 : decode cX11_countDivisors 38 = .ok (.iconst 0, 1) := dw3 (n := 32) (i := 6) kc_cX11_countDivisors_1 (by decide +kernel)
theorem dX11_countDivisors_39 : decode cX11_countDivisors 39 = .ok (.istore 4, 2) := dw54 (n := 32) (i := 7) (a := 4) kc_cX11_countDivisors_1 (by decide +kernel) (by decide)
theorem dX11_countDivisors_41 : decode cX11_countDivisors 41 = .ok (.iload 4, 2) := dw21 (n := 32) (i := 9) (a := 4) kc_cX11_countDivisors_1 (by decide +kernel) (by decide)
theorem dX11_countDivisors_43 : decode cX11_countDivisors 43 = .ok (.aload_n 0, 1) := dw42 (n := 32) (i := 11) kc_cX11_countDivisors_1 (by decide +kernel)
theorem dX11_countDivisors_44 : decode cX11_countDivisors 44 = .ok (.getfield 137, 3) := dw180 (n := 32) (i := 12) (a := 0) (b := 137) kc_cX11_countDivisors_1 (by decide +kernel) (by decide)
theorem dX11_countDivisors_47 : decode cX11_countDivisors 47 = .ok (.if_icmp .ge 73, 3) := dw162 (n := 32) (i := 15) (a := 0) (b := 73) kc_cX11_countDivisors_1 (by decide +kernel) (by decide)
theorem dX11_countDivisors_120 : decode cX11_countDivisors 120 = .ok (.aload_n 0, 1) := dw42 (n := 96) (i := 24) kc_cX11_countDivisors_3 (by decide +kernel)
theorem dX11_countDivisors_121 : decode cX11_countDivisors 121 = .ok (.iconst 1, 1) := dw4 (n := 96) (i := 25) kc_cX11_countDivisors_3 (by decide +kernel)
theorem dX11_countDivisors_122 : decode cX11_countDivisors 122 = .ok (.iload_n 3, 1) := dw29 (n := 96) (i := 26) kc_cX11_countDivisors_3 (by decide +kernel)
theorem dX11_countDivisors_123 : decode cX11_countDivisors 123 = .ok (.invokevirtual 238, 3) := dw182 (n := 96) (i := 27) (a := 0) (b := 238) kc_cX11_countDivisors_3 (by decide +kernel) (by decide)
set_option maxRecDepth 20000 in
theorem ggX11_countDivisors_X11_happens : GoodIn wsX11_countDivisors wsX11_happens := (gk_code 53 rfl (gk_fieldLink 54 rfl (gk_fieldLink 55 rfl (gk_fieldLink 56 rfl (gk_fieldLink 57 rfl (gk_fieldLink 5 rfl (gk_fieldLink 58 rfl (gk_fieldLink 19 rfl (gk_lays 65 rfl (gk_laysFinal 66 rfl (gk_lays 67 rfl (gk_laysFinal 68 rfl (gk_lays 69 rfl (gk_laysFinal 70 rfl (gk_laysFinal 71 rfl (gk_laysFinal 72 rfl (gk_laysFinal 73 rfl (gk_lays 74 rfl (gk_laysFinal 75 rfl (gk_laysFinal 76 rfl (gk_laysFinal 77 rfl (gk_laysFinal 78 rfl (gk_lays 79 rfl (gk_laysFinal 80 rfl (gk_laysFinal 81 rfl (gk_laysFinal 82 rfl (gk_laysFinal 83 rfl (gk_laysFinal 84 rfl (gk_laysFinal 85 rfl (gk_laysFinal 86 rfl (gk_laysFinal 87 rfl (gk_lays 88 rfl (gk_lays 89 rfl (gk_lays 90 rfl (gk_lays 91 rfl (gk_lays 92 rfl (gk_lays 93 rfl (gk_lays 94 rfl (gk_laysFinal 95 rfl (gk_lays 96 rfl (gk_laysFinal 97 rfl (gk_laysFinal 98 rfl (gk_laysFinal 99 rfl (gk_laysFinal 100 rfl (gk_laysFinal 101 rfl (gk_laysFinal 102 rfl (gk_laysFinal 103 rfl (gk_laysFinal 104 rfl (gk_laysFinal 105 rfl (gk_laysFinal 106 rfl (gk_lays 107 rfl (gk_laysFinal 108 rfl (gk_lays 109 rfl (gk_laysFinal 110 rfl (gk_laysFinal 111 rfl (gk_laysFinal 112 rfl (gk_laysFinal 113 rfl (gk_laysFinal 114 rfl (gk_laysFinal 115 rfl (gk_laysFinal 116 rfl (gk_laysFinal 117 rfl (gn))))))))))))))))))))))))))))))))))))))))))))))))))))))))))))))
set_option maxRecDepth 20000 in
theorem gX11_countDivisors_X11_happens : GoodIn wsX11_countDivisors (wsV RX11 238 RX11 yX11_happens wsX11_happens) := goodIn_app (gk_methodLink 50 rfl (gk_instanceMethod 51 rfl (gk_selects 52 rfl (gk_initialized 9 rfl (gn))))) ggX11_countDivisors_X11_happens
theorem dX11_countDivisors_126 : decode cX11_countDivisors 126 = .ok (.aload_n 0, 1) := dw42 (n := 96) (i := 30) kc_cX11_countDivisors_3 (by decide +kernel)
theorem dX11_countDivisors_127 : decode cX11_countDivisors 127 = .ok (.iload_n 3, 1) := dw29 (n := 96) (i := 31) kc_cX11_countDivisors_3 (by decide +kernel)
theorem dX11_countDivisors_128 : decode cX11_countDivisors 128 = .ok (.invokevirtual 242, 3) := dw182 (n := 128) (i := 0) (a := 0) (b := 242) kc_cX11_countDivisors_4 (by decide +kernel) (by decide)
set_option maxRecDepth 20000 in
theorem ggX11_countDivisors_X11_gives : GoodIn wsX11_countDivisors wsX11_gives := (gk_code 62 rfl (gk_fieldLink 63 rfl (gk_fieldLink 64 rfl (gk_lays 65 rfl (gk_laysFinal 66 rfl (gk_lays 67 rfl (gk_laysFinal 68 rfl (gk_lays 69 rfl (gk_laysFinal 70 rfl (gk_laysFinal 71 rfl (gk_laysFinal 72 rfl (gk_laysFinal 73 rfl (gk_lays 74 rfl (gk_laysFinal 75 rfl (gk_laysFinal 76 rfl (gk_laysFinal 77 rfl (gk_laysFinal 78 rfl (gk_lays 79 rfl (gk_laysFinal 80 rfl (gk_laysFinal 81 rfl (gk_laysFinal 82 rfl (gk_laysFinal 83 rfl (gk_laysFinal 84 rfl (gk_laysFinal 85 rfl (gk_laysFinal 86 rfl (gk_laysFinal 87 rfl (gk_lays 88 rfl (gk_lays 89 rfl (gk_lays 90 rfl (gk_lays 91 rfl (gk_lays 92 rfl (gk_lays 93 rfl (gk_lays 94 rfl (gk_laysFinal 95 rfl (gk_lays 96 rfl (gk_laysFinal 97 rfl (gk_laysFinal 98 rfl (gk_laysFinal 99 rfl (gk_laysFinal 100 rfl (gk_laysFinal 101 rfl (gk_laysFinal 102 rfl (gk_laysFinal 103 rfl (gk_laysFinal 104 rfl (gk_laysFinal 105 rfl (gk_laysFinal 106 rfl (gk_lays 107 rfl (gk_laysFinal 108 rfl (gk_lays 109 rfl (gk_laysFinal 110 rfl (gk_laysFinal 111 rfl (gk_laysFinal 112 rfl (gk_laysFinal 113 rfl (gk_laysFinal 114 rfl (gk_laysFinal 115 rfl (gk_laysFinal 116 rfl (gk_laysFinal 117 rfl (gn)))))))))))))))))))))))))))))))))))))))))))))))))))))))))
set_option maxRecDepth 20000 in
theorem gX11_countDivisors_X11_gives : GoodIn wsX11_countDivisors (wsV RX11 242 RX11 yX11_gives wsX11_gives) := goodIn_app (gk_methodLink 59 rfl (gk_instanceMethod 60 rfl (gk_selects 61 rfl (gk_initialized 9 rfl (gn))))) ggX11_countDivisors_X11_gives
theorem dX11_countDivisors_131 : decode cX11_countDivisors 131 = .ok (.aload_n 0, 1) := dw42 (n := 128) (i := 3) kc_cX11_countDivisors_4 (by decide +kernel)
theorem dX11_countDivisors_132 : decode cX11_countDivisors 132 = .ok (.getfield 114, 3) := dw180 (n := 128) (i := 4) (a := 0) (b := 114) kc_cX11_countDivisors_4 (by decide +kernel) (by decide)
theorem dX11_countDivisors_135 : decode cX11_countDivisors 135 = .ok (.iload_n 3, 1) := dw29 (n := 128) (i := 7) kc_cX11_countDivisors_4 (by decide +kernel)
theorem dX11_countDivisors_136 : decode cX11_countDivisors 136 = .ok (.dup2, 1) := dw92 (n := 128) (i := 8) kc_cX11_countDivisors_4 (by decide +kernel)
theorem dX11_countDivisors_137 : decode cX11_countDivisors 137 = .ok (.iaload, 1) := dw46 (n := 128) (i := 9) kc_cX11_countDivisors_4 (by decide +kernel)
theorem dX11_countDivisors_138 : decode cX11_countDivisors 138 = .ok (.iconst 1, 1) := dw4 (n := 128) (i := 10) kc_cX11_countDivisors_4 (by decide +kernel)
theorem dX11_countDivisors_139 : decode cX11_countDivisors 139 = .ok (.iadd, 1) := dw96 (n := 128) (i := 11) kc_cX11_countDivisors_4 (by decide +kernel)
theorem dX11_countDivisors_140 : decode cX11_countDivisors 140 = .ok (.iastore, 1) := dw79 (n := 128) (i := 12) kc_cX11_countDivisors_4 (by decide +kernel)
theorem dX11_countDivisors_141 : decode cX11_countDivisors 141 = .ok (.iinc 2 1, 3) := by decide +kernel
theorem dX11_countDivisors_144 : decode cX11_countDivisors 144 = .ok (.goto (-117), 3) := dw167 (n := 128) (i := 16) (a := 255) (b := 139) kc_cX11_countDivisors_4 (by decide +kernel) (by decide)
theorem dX11_countDivisors_50 : decode cX11_countDivisors 50 = .ok (.aload_n 0, 1) := dw42 (n := 32) (i := 18) kc_cX11_countDivisors_1 (by decide +kernel)
theorem dX11_countDivisors_51 : decode cX11_countDivisors 51 = .ok (.getfield 13, 3) := dw180 (n := 32) (i := 19) (a := 0) (b := 13) kc_cX11_countDivisors_1 (by decide +kernel) (by decide)
theorem dX11_countDivisors_54 : decode cX11_countDivisors 54 = .ok (.iload 4, 2) := dw21 (n := 32) (i := 22) (a := 4) kc_cX11_countDivisors_1 (by decide +kernel) (by decide)
theorem dX11_countDivisors_56 : decode cX11_countDivisors 56 = .ok (.iaload, 1) := dw46 (n := 32) (i := 24) kc_cX11_countDivisors_1 (by decide +kernel)
theorem dX11_countDivisors_57 : decode cX11_countDivisors 57 = .ok (.istore 5, 2) := dw54 (n := 32) (i := 25) (a := 5) kc_cX11_countDivisors_1 (by decide +kernel) (by decide)
theorem dX11_countDivisors_59 : decode cX11_countDivisors 59 = .ok (.iload_n 3, 1) := dw29 (n := 32) (i := 27) kc_cX11_countDivisors_1 (by decide +kernel)
theorem dX11_countDivisors_60 : decode cX11_countDivisors 60 = .ok (.bipush (-9), 2) := dw16 (n := 32) (i := 28) (a := 247) kc_cX11_countDivisors_1 (by decide +kernel) (by decide)
theorem dX11_countDivisors_62 : decode cX11_countDivisors 62 = .ok (.if_icmp .eq 45, 3) := dw159 (n := 32) (i := 30) (a := 0) (b := 45) kc_cX11_countDivisors_1 (by decide +kernel) (by decide)
theorem dX11_countDivisors_107 : decode cX11_countDivisors 107 = .ok (.iload 5, 2) := dw21 (n := 96) (i := 11) (a := 5) kc_cX11_countDivisors_3 (by decide +kernel) (by decide)
theorem dX11_countDivisors_109 : decode cX11_countDivisors 109 = .ok (.goto 4, 3) := dw167 (n := 96) (i := 13) (a := 0) (b := 4) kc_cX11_countDivisors_3 (by decide +kernel) (by decide)
theorem dX11_countDivisors_113 : decode cX11_countDivisors 113 = .ok (.istore_n 3, 1) := dw62 (n := 96) (i := 17) kc_cX11_countDivisors_3 (by decide +kernel)
theorem dX11_countDivisors_114 : decode cX11_countDivisors 114 = .ok (.iinc 4 1, 3) := by decide +kernel
theorem dX11_countDivisors_117 : decode cX11_countDivisors 117 = .ok (.goto (-76), 3) := dw167 (n := 96) (i := 21) (a := 255) (b := 180) kc_cX11_countDivisors_3 (by decide +kernel) (by decide)
theorem dX11_countDivisors_65 : decode cX11_countDivisors 65 = .ok (.aload_n 0, 1) := dw42 (n := 64) (i := 1) kc_cX11_countDivisors_2 (by decide +kernel)
theorem dX11_countDivisors_66 : decode cX11_countDivisors 66 = .ok (.getfield 87, 3) := dw180 (n := 64) (i := 2) (a := 0) (b := 87) kc_cX11_countDivisors_2 (by decide +kernel) (by decide)
theorem dX11_countDivisors_69 : decode cX11_countDivisors 69 = .ok (.iload 5, 2) := dw21 (n := 64) (i := 5) (a := 5) kc_cX11_countDivisors_2 (by decide +kernel) (by decide)
theorem dX11_countDivisors_71 : decode cX11_countDivisors 71 = .ok (.laload, 1) := dw47 (n := 64) (i := 7) kc_cX11_countDivisors_2 (by decide +kernel)
theorem dX11_countDivisors_72 : decode cX11_countDivisors 72 = .ok (.iconst 1, 1) := dw4 (n := 64) (i := 8) kc_cX11_countDivisors_2 (by decide +kernel)
theorem dX11_countDivisors_73 : decode cX11_countDivisors 73 = .ok (.iload_n 1, 1) := dw27 (n := 64) (i := 9) kc_cX11_countDivisors_2 (by decide +kernel)
theorem dX11_countDivisors_74 : decode cX11_countDivisors 74 = .ok (.aload_n 0, 1) := dw42 (n := 64) (i := 10) kc_cX11_countDivisors_2 (by decide +kernel)
theorem dX11_countDivisors_75 : decode cX11_countDivisors 75 = .ok (.getfield 114, 3) := dw180 (n := 64) (i := 11) (a := 0) (b := 114) kc_cX11_countDivisors_2 (by decide +kernel) (by decide)
theorem dX11_countDivisors_78 : decode cX11_countDivisors 78 = .ok (.iload 5, 2) := dw21 (n := 64) (i := 14) (a := 5) kc_cX11_countDivisors_2 (by decide +kernel) (by decide)
theorem dX11_countDivisors_80 : decode cX11_countDivisors 80 = .ok (.iaload, 1) := dw46 (n := 64) (i := 16) kc_cX11_countDivisors_2 (by decide +kernel)
theorem dX11_countDivisors_81 : decode cX11_countDivisors 81 = .ok (.imul, 1) := dw104 (n := 64) (i := 17) kc_cX11_countDivisors_2 (by decide +kernel)
theorem dX11_countDivisors_82 : decode cX11_countDivisors 82 = .ok (.iadd, 1) := dw96 (n := 64) (i := 18) kc_cX11_countDivisors_2 (by decide +kernel)
theorem dX11_countDivisors_83 : decode cX11_countDivisors 83 = .ok (.i2l, 1) := dw133 (n := 64) (i := 19) kc_cX11_countDivisors_2 (by decide +kernel)
theorem dX11_countDivisors_84 : decode cX11_countDivisors 84 = .ok (.aload_n 0, 1) := dw42 (n := 64) (i := 20) kc_cX11_countDivisors_2 (by decide +kernel)
theorem dX11_countDivisors_85 : decode cX11_countDivisors 85 = .ok (.getfield 87, 3) := dw180 (n := 64) (i := 21) (a := 0) (b := 87) kc_cX11_countDivisors_2 (by decide +kernel) (by decide)
theorem dX11_countDivisors_88 : decode cX11_countDivisors 88 = .ok (.iload_n 3, 1) := dw29 (n := 64) (i := 24) kc_cX11_countDivisors_2 (by decide +kernel)
theorem dX11_countDivisors_89 : decode cX11_countDivisors 89 = .ok (.laload, 1) := dw47 (n := 64) (i := 25) kc_cX11_countDivisors_2 (by decide +kernel)
theorem dX11_countDivisors_90 : decode cX11_countDivisors 90 = .ok (.iconst 1, 1) := dw4 (n := 64) (i := 26) kc_cX11_countDivisors_2 (by decide +kernel)
theorem dX11_countDivisors_91 : decode cX11_countDivisors 91 = .ok (.iload_n 1, 1) := dw27 (n := 64) (i := 27) kc_cX11_countDivisors_2 (by decide +kernel)
theorem dX11_countDivisors_92 : decode cX11_countDivisors 92 = .ok (.aload_n 0, 1) := dw42 (n := 64) (i := 28) kc_cX11_countDivisors_2 (by decide +kernel)
theorem dX11_countDivisors_93 : decode cX11_countDivisors 93 = .ok (.getfield 114, 3) := dw180 (n := 64) (i := 29) (a := 0) (b := 114) kc_cX11_countDivisors_2 (by decide +kernel) (by decide)
theorem dX11_countDivisors_96 : decode cX11_countDivisors 96 = .ok (.iload_n 3, 1) := dw29 (n := 96) (i := 0) kc_cX11_countDivisors_3 (by decide +kernel)
theorem dX11_countDivisors_97 : decode cX11_countDivisors 97 = .ok (.iaload, 1) := dw46 (n := 96) (i := 1) kc_cX11_countDivisors_3 (by decide +kernel)
theorem dX11_countDivisors_98 : decode cX11_countDivisors 98 = .ok (.imul, 1) := dw104 (n := 96) (i := 2) kc_cX11_countDivisors_3 (by decide +kernel)
theorem dX11_countDivisors_99 : decode cX11_countDivisors 99 = .ok (.iadd, 1) := dw96 (n := 96) (i := 3) kc_cX11_countDivisors_3 (by decide +kernel)
theorem dX11_countDivisors_100 : decode cX11_countDivisors 100 = .ok (.i2l, 1) := dw133 (n := 96) (i := 4) kc_cX11_countDivisors_3 (by decide +kernel)
theorem dX11_countDivisors_101 : decode cX11_countDivisors 101 = .ok (.invokestatic 227, 3) := dw184 (n := 96) (i := 5) (a := 0) (b := 227) kc_cX11_countDivisors_3 (by decide +kernel) (by decide)
set_option maxRecDepth 20000 in
theorem ggX11_countDivisors_X11_isMore : GoodIn wsX11_countDivisors wsX11_isMore := (gk_code 49 rfl (gn))
set_option maxRecDepth 20000 in
theorem gX11_countDivisors_X11_isMore : GoodIn wsX11_countDivisors (va_wsS RX11 227 yX11_isMore wsX11_isMore) := goodIn_app (gk_methodLink 47 rfl (gk_static 48 rfl (gk_initialized 9 rfl (gn)))) ggX11_countDivisors_X11_isMore
theorem dX11_countDivisors_104 : decode cX11_countDivisors 104 = .ok (.ifCond .eq 8, 3) := dw153 (n := 96) (i := 8) (a := 0) (b := 8) kc_cX11_countDivisors_3 (by decide +kernel) (by decide)
theorem dX11_countDivisors_112 : decode cX11_countDivisors 112 = .ok (.iload_n 3, 1) := dw29 (n := 96) (i := 16) kc_cX11_countDivisors_3 (by decide +kernel)
theorem dX11_countDivisors_12 : decode cX11_countDivisors 12 = .ok (.aload_n 0, 1) := dw42 (n := 0) (i := 12) kc_cX11_countDivisors_0 (by decide +kernel)
theorem dX11_countDivisors_13 : decode cX11_countDivisors 13 = .ok (.getfield 114, 3) := dw180 (n := 0) (i := 13) (a := 0) (b := 114) kc_cX11_countDivisors_0 (by decide +kernel) (by decide)
theorem dX11_countDivisors_16 : decode cX11_countDivisors 16 = .ok (.iload_n 2, 1) := dw28 (n := 0) (i := 16) kc_cX11_countDivisors_0 (by decide +kernel)
theorem dX11_countDivisors_17 : decode cX11_countDivisors 17 = .ok (.iconst 0, 1) := dw3 (n := 0) (i := 17) kc_cX11_countDivisors_0 (by decide +kernel)
theorem dX11_countDivisors_18 : decode cX11_countDivisors 18 = .ok (.iastore, 1) := dw79 (n := 0) (i := 18) kc_cX11_countDivisors_0 (by decide +kernel)
theorem dX11_countDivisors_19 : decode cX11_countDivisors 19 = .ok (.iinc 2 1, 3) := by decide +kernel
theorem dX11_countDivisors_22 : decode cX11_countDivisors 22 = .ok (.goto (-16), 3) := dw167 (n := 0) (i := 22) (a := 255) (b := 240) kc_cX11_countDivisors_0 (by decide +kernel) (by decide)
set_option maxHeartbeats 4000000 in
set_option maxRecDepth 100000 in
theorem s_X11_countDivisors (l : Launch) (D : va_G) (ad : Nat → Nat) (cs : Nat → ClassId) (M : MI) (L : ML) (x : Int32) (hI : IR M) (hW : WT L) (hn1 : 1 ≤ (M 258 2).toInt) (hg0 : (M 258 29).toInt = 0) (hm0 : (M 258 31).toInt = 0) : Cv l yX11_countDivisors wsX11_countDivisors ({ frames := 4, cells := 0, slots := 0, locals := 103 }) D ad cs [.ref (ad 258), .int x] M L (fun M1 L1 => (True) ∧ IR M1 ∧ (∀ k i, ¬ (k = 258 ∧ i = 25) ∧ ¬ (k = 258 ∧ i = 29) ∧ ¬ (k = 258 ∧ i = 31) ∧ k ≠ 277 ∧ k ≠ 278 ∧ k ≠ 279 ∧ k ≠ 293 → M1 k i = M k i) ∧ ∀ k i, ¬ (k = 258 ∧ i = 23) ∧ ¬ (k = 258 ∧ i = 24) ∧ k ≠ 284 ∧ k ≠ 285 ∧ k ≠ 280 ∧ k ≠ 281 → L1 k i = L k i) := by
  refine enter_v RX11 rfl [(0, .ref (ad 258)), (1, .int x)] rfl (Nat.le_of_ble_eq_true rfl) (by decide +kernel) rfl ?_
  intro p e s m below meth c C hr
  have hF : ∀ k i, ¬ (k = 258 ∧ i = 25) ∧ ¬ (k = 258 ∧ i = 29) ∧ ¬ (k = 258 ∧ i = 31) ∧ k ≠ 277 ∧ k ≠ 278 ∧ k ≠ 279 ∧ k ≠ 293 → M k i = M k i := fun _ _ _ => rfl
  have hG : ∀ k i, ¬ (k = 258 ∧ i = 23) ∧ ¬ (k = 258 ∧ i = 24) ∧ k ≠ 284 ∧ k ≠ 285 ∧ k ≠ 280 ∧ k ≠ 281 → L k i = L k i := fun _ _ _ => rfl
  obtain ⟨ca, cb⟩ := (show rg 0 10 (M 258 2) from hI 258 2)
  have n02 := ixn ca
  obtain ⟨sa, sb⟩ := (show rg 0 30 (M 258 28) from hI 258 28)
  have k25 : M 258 25 = M 258 25 := rfl
  have k29 : M 258 29 = M 258 29 := rfl
  have k31 : M 258 31 = M 258 31 := rfl
  have l23 : L 258 23 = L 258 23 := rfl
  have l24 : L 258 24 = L 258 24 := rfl
  have p280 : L 280 = L 280 := rfl
  have p281 : L 281 = L 281 := rfl
  have p284 : L 284 = L 284 := rfl
  have p285 : L 285 = L 285 := rfl
  have q277 : M 277 = M 277 := rfl
  have q278 : M 278 = M 278 := rfl
  have q279 : M 279 = M 279 := rfl
  have q293 : M 293 = M 293 := rfl
  refine g_aload_n C 0 dX11_countDivisors_0 rfl ?_
  refine g_callVv C (n := 0) (As := []) (st := []) (s_X11_tallyFirsts l D ad cs _ _  hI hW) gX11_countDivisors_X11_tallyFirsts rfl rfl rfl (by decide +kernel) ⟨Nat.le_of_ble_eq_true rfl, Nat.le_of_ble_eq_true rfl⟩ rfl (Nat.le_of_ble_eq_true rfl) ⟨Nat.zero_le _, Nat.zero_le _⟩ (by decide) (ce_model ad cs _ _) rfl rfl dX11_countDivisors_1 (fun M2 L3 hr1 => ?_)
  obtain ⟨hr1, hI, hFr1, hGr1⟩ := hr1
  have hF : ∀ k i, ¬ (k = 258 ∧ i = 25) ∧ ¬ (k = 258 ∧ i = 29) ∧ ¬ (k = 258 ∧ i = 31) ∧ k ≠ 277 ∧ k ≠ 278 ∧ k ≠ 279 ∧ k ≠ 293 → M2 k i = M k i := fun k i hk => by (rw [hFr1 k i (by omega)]; try exact hF k i hk)
  have hG : ∀ k i, ¬ (k = 258 ∧ i = 23) ∧ ¬ (k = 258 ∧ i = 24) ∧ k ≠ 284 ∧ k ≠ 285 ∧ k ≠ 280 ∧ k ≠ 281 → L3 k i = L k i := fun k i hk => by (rw [hGr1 k i (by omega)]; try exact hG k i hk)
  have k29 : M2 258 29 = M 258 29 := (hFr1 258 29 (by omega)).trans k29
  have k31 : M2 258 31 = M 258 31 := (hFr1 258 31 (by omega)).trans k31
  have k25 : M2 258 25 = M2 258 25 := rfl
  have kt25 := congrArg Int32.toInt k25
  have kt29 := congrArg Int32.toInt k29
  have kt31 := congrArg Int32.toInt k31
  have l23 : L3 258 23 = L3 258 23 := rfl
  have l24 : L3 258 24 = L3 258 24 := rfl
  have p280 : L3 280 = L 280 := (funext (fun i => hGr1 280 i (by omega))).trans p280
  have p281 : L3 281 = L 281 := (funext (fun i => hGr1 281 i (by omega))).trans p281
  have p284 : L3 284 = L3 284 := rfl
  have p285 : L3 285 = L3 285 := rfl
  have q277 : M2 277 = M 277 := (funext (fun i => hFr1 277 i (by omega))).trans q277
  have q278 : M2 278 = M 278 := (funext (fun i => hFr1 278 i (by omega))).trans q278
  have q279 : M2 279 = M 279 := (funext (fun i => hFr1 279 i (by omega))).trans q279
  have q293 : M2 293 = M 293 := (funext (fun i => hFr1 293 i (by omega))).trans q293
  refine g_iconst C 0 dX11_countDivisors_4 (by decide) ?_
  refine g_istore_n C [(2, .int 0), (0, .ref (ad 258)), (1, .int x)] dX11_countDivisors_5 (by decide) rfl ?_
  have zy4 : (0 : Int32).toInt = 0 := by decide
  refine g_loop (α := Int32 × MI × ML) (fun a => (11 - a.1.toInt).toNat) (fun a => (0 ≤ a.1.toInt) ∧ (a.1.toInt ≤ 10) ∧ ((a.2.1 258 29).toInt = 0) ∧ ((a.2.1 258 31).toInt = 0) ∧ IR a.2.1 ∧ (∀ k i, ¬ (k = 258 ∧ i = 25) ∧ ¬ (k = 258 ∧ i = 29) ∧ ¬ (k = 258 ∧ i = 31) ∧ k ≠ 277 ∧ k ≠ 278 ∧ k ≠ 279 ∧ k ≠ 293 → a.2.1 k i = M k i) ∧ (∀ k i, ¬ (k = 258 ∧ i = 23) ∧ ¬ (k = 258 ∧ i = 24) ∧ k ≠ 284 ∧ k ≠ 285 ∧ k ≠ 280 ∧ k ≠ 281 → a.2.2 k i = L k i)) (fun a => a.2.1) (fun a => a.2.2) (fun a => [(2, .int a.1), (0, .ref (ad 258)), (1, .int x)]) ((0 : Int32), M2, L3) ⟨by show 0 ≤ (0 : Int32).toInt; omega, by show (0 : Int32).toInt ≤ 10; omega, by show (M2 258 29).toInt = 0; rw [k29]; exact hg0, by show (M2 258 31).toInt = 0; rw [k31]; exact hm0, hI, hF, hG⟩ rfl rfl rfl ?_
  rintro ⟨x2_6, M_6, L_6⟩ ⟨j6_0, j6_1, j6_2, j6_3, hI, hF, hG⟩ ih_6
  dsimp only at j6_0 j6_1 j6_2 j6_3 hI hF hG ih_6 ⊢
  have k25 : M_6 258 25 = M_6 258 25 := rfl
  have k29 : M_6 258 29 = M_6 258 29 := rfl
  have k31 : M_6 258 31 = M_6 258 31 := rfl
  have l23 : L_6 258 23 = L_6 258 23 := rfl
  have l24 : L_6 258 24 = L_6 258 24 := rfl
  have p280 : L_6 280 = L_6 280 := rfl
  have p281 : L_6 281 = L_6 281 := rfl
  have p284 : L_6 284 = L_6 284 := rfl
  have p285 : L_6 285 = L_6 285 := rfl
  have q277 : M_6 277 = M_6 277 := rfl
  have q278 : M_6 278 = M_6 278 := rfl
  have q279 : M_6 279 = M_6 279 := rfl
  have q293 : M_6 293 = M_6 293 := rfl
  refine g_iload_n C 0 dX11_countDivisors_6 rfl ?_
  refine g_bipush C 10 dX11_countDivisors_7 (by decide) ?_
  refine g_icmp_ge C 25 dX11_countDivisors_9 (by decide) (fun c5 => ?_) (fun c5 => ?_)
  ·
    have f6 := fle (by decide : (10 : Int32).toInt = 10) rfl c5
    refine g_iconst C 0 dX11_countDivisors_25 (by decide) ?_
    refine g_istore_n C [(2, .int 0), (0, .ref (ad 258)), (1, .int x)] dX11_countDivisors_26 (by decide) rfl ?_
    have zy7 : (0 : Int32).toInt = 0 := by decide
    refine g_loop (α := Int32 × MI × ML) (fun a => (31 - a.1.toInt).toNat) (fun a => (0 ≤ a.1.toInt) ∧ (a.1.toInt ≤ (M 258 28).toInt) ∧ ((a.2.1 258 29).toInt = a.1.toInt) ∧ ((a.2.1 258 31).toInt = a.1.toInt) ∧ IR a.2.1 ∧ (∀ k i, ¬ (k = 258 ∧ i = 25) ∧ ¬ (k = 258 ∧ i = 29) ∧ ¬ (k = 258 ∧ i = 31) ∧ k ≠ 277 ∧ k ≠ 278 ∧ k ≠ 279 ∧ k ≠ 293 → a.2.1 k i = M k i) ∧ (∀ k i, ¬ (k = 258 ∧ i = 23) ∧ ¬ (k = 258 ∧ i = 24) ∧ k ≠ 284 ∧ k ≠ 285 ∧ k ≠ 280 ∧ k ≠ 281 → a.2.2 k i = L k i)) (fun a => a.2.1) (fun a => a.2.2) (fun a => [(2, .int a.1), (0, .ref (ad 258)), (1, .int x)]) ((0 : Int32), M_6, L_6) ⟨by show 0 ≤ (0 : Int32).toInt; omega, by show (0 : Int32).toInt ≤ (M 258 28).toInt; omega, by show (M_6 258 29).toInt = (0 : Int32).toInt; rw [k29]; exact j6_2, by show (M_6 258 31).toInt = (0 : Int32).toInt; rw [k31]; exact j6_3, hI, hF, hG⟩ rfl rfl rfl ?_
    rintro ⟨x2_27, M_27, L_27⟩ ⟨j27_0, j27_1, j27_2, j27_3, hI, hF, hG⟩ ih_27
    dsimp only at j27_0 j27_1 j27_2 j27_3 hI hF hG ih_27 ⊢
    have k25 : M_27 258 25 = M_27 258 25 := rfl
    have k29 : M_27 258 29 = M_27 258 29 := rfl
    have k31 : M_27 258 31 = M_27 258 31 := rfl
    have l23 : L_27 258 23 = L_27 258 23 := rfl
    have l24 : L_27 258 24 = L_27 258 24 := rfl
    have p280 : L_27 280 = L_27 280 := rfl
    have p281 : L_27 281 = L_27 281 := rfl
    have p284 : L_27 284 = L_27 284 := rfl
    have p285 : L_27 285 = L_27 285 := rfl
    have q277 : M_27 277 = M_27 277 := rfl
    have q278 : M_27 278 = M_27 278 := rfl
    have q279 : M_27 279 = M_27 279 := rfl
    have q293 : M_27 293 = M_27 293 := rfl
    refine g_iload_n C 0 dX11_countDivisors_27 rfl ?_
    refine g_aload_n C 1 dX11_countDivisors_28 rfl ?_
    refine g_get C (.int (M_27 258 28)) 28 in_X11_countDivisors_11 (List.mem_of_getElem? (i := 2) rfl) (by decide) (ce_model ad cs _ _) rfl (by decide) rfl rfl dX11_countDivisors_29 ?_
    refine g_ni (fun v8 ev8 => ?_)
    have gv8 : v8 = M 258 28 := ev8.trans (hF 258 28 (by omega))
    have tv8 := congrArg Int32.toInt gv8
    obtain ⟨bv8, dv8⟩ := (show rg 0 30 v8 from (by rw [ev8]; exact hI 258 28))
    refine g_icmp_ge C 147 dX11_countDivisors_32 (by decide) (fun c9 => ?_) (fun c9 => ?_)
    ·
      have f10 := fle rfl rfl c9
      exact g_vret C hr ⟨trivial, hI, hF, hG⟩ dX11_countDivisors_147
    ·
      have f11 := fnle rfl rfl c9
      refine g_bipush C (-9) dX11_countDivisors_35 (by decide) ?_
      refine g_istore_n C [(3, .int ((-9))), (2, .int x2_27), (0, .ref (ad 258)), (1, .int x)] dX11_countDivisors_37 (by decide) rfl ?_
      refine g_iconst C 0 dX11_countDivisors_38 (by decide) ?_
      refine g_istore C [(4, .int 0), (3, .int ((-9))), (2, .int x2_27), (0, .ref (ad 258)), (1, .int x)] dX11_countDivisors_39 (by decide) rfl ?_
      have zy12 : (0 : Int32).toInt = 0 := by decide
      have zy13 : ((-9) : Int32).toInt = (-9) := by decide
      refine g_loop (α := Int32 × Int32 × MI × ML) (fun a => (11 - a.1.toInt).toNat) (fun a => (0 ≤ a.1.toInt) ∧ (a.1.toInt ≤ (M 258 2).toInt) ∧ ((a.2.1.toInt = -9 ∧ a.1.toInt = 0) ∨ (0 ≤ a.2.1.toInt ∧ a.2.1.toInt < 10)) ∧ (a.2.2.1 258 29 = M_27 258 29) ∧ (a.2.2.1 258 31 = M_27 258 31) ∧ IR a.2.2.1 ∧ (∀ k i, ¬ (k = 258 ∧ i = 25) ∧ ¬ (k = 258 ∧ i = 29) ∧ ¬ (k = 258 ∧ i = 31) ∧ k ≠ 277 ∧ k ≠ 278 ∧ k ≠ 279 ∧ k ≠ 293 → a.2.2.1 k i = M k i) ∧ (∀ k i, ¬ (k = 258 ∧ i = 23) ∧ ¬ (k = 258 ∧ i = 24) ∧ k ≠ 284 ∧ k ≠ 285 ∧ k ≠ 280 ∧ k ≠ 281 → a.2.2.2 k i = L k i)) (fun a => a.2.2.1) (fun a => a.2.2.2) (fun a => [(4, .int a.1), (3, .int a.2.1), (2, .int x2_27), (0, .ref (ad 258)), (1, .int x)]) ((0 : Int32), (-9 : Int32), M_27, L_27) ⟨by show 0 ≤ (0 : Int32).toInt; omega, by show (0 : Int32).toInt ≤ (M 258 2).toInt; omega, by show ((-9 : Int32).toInt = -9 ∧ (0 : Int32).toInt = 0) ∨ (0 ≤ (-9 : Int32).toInt ∧ (-9 : Int32).toInt < 10); omega, by show M_27 258 29 = M_27 258 29; exact k29, by show M_27 258 31 = M_27 258 31; exact k31, hI, hF, hG⟩ rfl rfl rfl ?_
      rintro ⟨x4_41, x3_41, M_41, L_41⟩ ⟨j41_0, j41_1, j41_2, j41_3, j41_4, hI, hF, hG⟩ ih_41
      dsimp only at j41_0 j41_1 j41_2 j41_3 j41_4 hI hF hG ih_41 ⊢
      have k25 : M_41 258 25 = M_41 258 25 := rfl
      have k29 : M_41 258 29 = M_41 258 29 := rfl
      have k31 : M_41 258 31 = M_41 258 31 := rfl
      have l23 : L_41 258 23 = L_41 258 23 := rfl
      have l24 : L_41 258 24 = L_41 258 24 := rfl
      have p280 : L_41 280 = L_41 280 := rfl
      have p281 : L_41 281 = L_41 281 := rfl
      have p284 : L_41 284 = L_41 284 := rfl
      have p285 : L_41 285 = L_41 285 := rfl
      have q277 : M_41 277 = M_41 277 := rfl
      have q278 : M_41 278 = M_41 278 := rfl
      have q279 : M_41 279 = M_41 279 := rfl
      have q293 : M_41 293 = M_41 293 := rfl
      have k29t := congrArg Int32.toInt j41_3
      have k31t := congrArg Int32.toInt j41_4
      refine g_iload C 0 dX11_countDivisors_41 rfl ?_
      refine g_aload_n C 3 dX11_countDivisors_43 rfl ?_
      refine g_get C (.int (M_41 258 2)) 2 in_X11_countDivisors_11 (List.mem_of_getElem? (i := 3) rfl) (by decide) (ce_model ad cs _ _) rfl (by decide) rfl rfl dX11_countDivisors_44 ?_
      refine g_ni (fun v14 ev14 => ?_)
      have gv14 : v14 = M 258 2 := ev14.trans (hF 258 2 (by omega))
      have tv14 := congrArg Int32.toInt gv14
      obtain ⟨bv14, dv14⟩ := (show rg 0 10 v14 from (by rw [ev14]; exact hI 258 2))
      refine g_icmp_ge C 120 dX11_countDivisors_47 (by decide) (fun c15 => ?_) (fun c15 => ?_)
      ·
        have f16 := fle rfl rfl c15
        refine g_aload_n C 3 dX11_countDivisors_120 rfl ?_
        refine g_iconst C 1 dX11_countDivisors_121 (by decide) ?_
        refine g_iload_n C 1 dX11_countDivisors_122 rfl ?_
        refine g_callVv C (n := 2) (As := [.int 1, .int x3_41]) (st := []) (s_X11_happens l D ad cs _ _ 1 x3_41 hI (by omega)) gX11_countDivisors_X11_happens rfl rfl rfl (by decide +kernel) ⟨Nat.le_of_ble_eq_true rfl, Nat.le_of_ble_eq_true rfl⟩ rfl (Nat.le_of_ble_eq_true rfl) ⟨Nat.zero_le _, Nat.zero_le _⟩ (by decide) (ce_model ad cs _ _) rfl rfl dX11_countDivisors_123 (fun M18 L19 hr17 => ?_)
        obtain ⟨hr17, hI, hFr17, hGr17⟩ := hr17
        have hF : ∀ k i, ¬ (k = 258 ∧ i = 25) ∧ ¬ (k = 258 ∧ i = 29) ∧ ¬ (k = 258 ∧ i = 31) ∧ k ≠ 277 ∧ k ≠ 278 ∧ k ≠ 279 ∧ k ≠ 293 → M18 k i = M k i := fun k i hk => by (rw [hFr17 k i (by omega)]; try exact hF k i hk)
        have hG : ∀ k i, ¬ (k = 258 ∧ i = 23) ∧ ¬ (k = 258 ∧ i = 24) ∧ k ≠ 284 ∧ k ≠ 285 ∧ k ≠ 280 ∧ k ≠ 281 → L19 k i = L k i := fun k i hk => by (rw [hGr17 k i (by omega)]; try exact hG k i hk)
        have k25 : M18 258 25 = M_41 258 25 := (hFr17 258 25 (by omega)).trans k25
        have k29 : M18 258 29 = M_41 258 29 := (hFr17 258 29 (by omega)).trans k29
        have k31 : M18 258 31 = M18 258 31 := rfl
        have kt25 := congrArg Int32.toInt k25
        have kt29 := congrArg Int32.toInt k29
        have kt31 := congrArg Int32.toInt k31
        have l23 : L19 258 23 = L_41 258 23 := (hGr17 258 23 (by omega)).trans l23
        have l24 : L19 258 24 = L_41 258 24 := (hGr17 258 24 (by omega)).trans l24
        have p280 : L19 280 = L19 280 := rfl
        have p281 : L19 281 = L19 281 := rfl
        have p284 : L19 284 = L_41 284 := (funext (fun i => hGr17 284 i (by omega))).trans p284
        have p285 : L19 285 = L_41 285 := (funext (fun i => hGr17 285 i (by omega))).trans p285
        have q277 : M18 277 = M_41 277 := (funext (fun i => hFr17 277 i (by omega))).trans q277
        have q278 : M18 278 = M18 278 := rfl
        have q279 : M18 279 = M18 279 := rfl
        have q293 : M18 293 = M_41 293 := (funext (fun i => hFr17 293 i (by omega))).trans q293
        have ur17 := hr17
        refine g_aload_n C 3 dX11_countDivisors_126 rfl ?_
        refine g_iload_n C 1 dX11_countDivisors_127 rfl ?_
        refine g_callVv C (n := 1) (As := [.int x3_41]) (st := []) (s_X11_gives l D ad cs _ _ x3_41 hI (by omega)) gX11_countDivisors_X11_gives rfl rfl rfl (by decide +kernel) ⟨Nat.le_of_ble_eq_true rfl, Nat.le_of_ble_eq_true rfl⟩ rfl (Nat.le_of_ble_eq_true rfl) ⟨Nat.zero_le _, Nat.zero_le _⟩ (by decide) (ce_model ad cs _ _) rfl rfl dX11_countDivisors_128 (fun M21 L22 hr20 => ?_)
        obtain ⟨hr20, hI, hFr20, hGr20⟩ := hr20
        have hF : ∀ k i, ¬ (k = 258 ∧ i = 25) ∧ ¬ (k = 258 ∧ i = 29) ∧ ¬ (k = 258 ∧ i = 31) ∧ k ≠ 277 ∧ k ≠ 278 ∧ k ≠ 279 ∧ k ≠ 293 → M21 k i = M k i := fun k i hk => by (rw [hFr20 k i (by omega)]; try exact hF k i hk)
        have hG : ∀ k i, ¬ (k = 258 ∧ i = 23) ∧ ¬ (k = 258 ∧ i = 24) ∧ k ≠ 284 ∧ k ≠ 285 ∧ k ≠ 280 ∧ k ≠ 281 → L22 k i = L k i := fun k i hk => by (rw [hGr20 k i trivial]; try exact hG k i hk)
        have k25 : M21 258 25 = M_41 258 25 := (hFr20 258 25 (by omega)).trans k25
        have k31 : M21 258 31 = M18 258 31 := (hFr20 258 31 (by omega)).trans k31
        have k29 : M21 258 29 = M21 258 29 := rfl
        have kt25 := congrArg Int32.toInt k25
        have kt29 := congrArg Int32.toInt k29
        have kt31 := congrArg Int32.toInt k31
        have l23 : L22 258 23 = L_41 258 23 := (hGr20 258 23 trivial).trans l23
        have l24 : L22 258 24 = L_41 258 24 := (hGr20 258 24 trivial).trans l24
        have p280 : L22 280 = L19 280 := (funext (fun i => hGr20 280 i trivial)).trans p280
        have p281 : L22 281 = L19 281 := (funext (fun i => hGr20 281 i trivial)).trans p281
        have p284 : L22 284 = L_41 284 := (funext (fun i => hGr20 284 i trivial)).trans p284
        have p285 : L22 285 = L_41 285 := (funext (fun i => hGr20 285 i trivial)).trans p285
        have q277 : M21 277 = M21 277 := rfl
        have q278 : M21 278 = M18 278 := (funext (fun i => hFr20 278 i (by omega))).trans q278
        have q279 : M21 279 = M18 279 := (funext (fun i => hFr20 279 i (by omega))).trans q279
        have q293 : M21 293 = M_41 293 := (funext (fun i => hFr20 293 i (by omega))).trans q293
        have ur20 := hr20
        refine g_aload_n C 3 dX11_countDivisors_131 rfl ?_
        refine g_get C (.ref (ad 293)) 49 in_X11_countDivisors_11 (List.mem_of_getElem? (i := 1) rfl) (by decide) (ce_model ad cs _ _) rfl (by decide) rfl rfl dX11_countDivisors_132 ?_
        refine g_iload_n C 1 dX11_countDivisors_135 rfl ?_
        refine g_dup2 C dX11_countDivisors_136 rfl rfl ?_
        refine g_iald C (by decide) (ce_m_had ad cs _ _) (fin' (n := 10) rfl (by omega) (by omega)) dX11_countDivisors_137 ?_
        refine g_ni (fun v23 ev23 => ?_)
        have gv23 : v23 = M_41 293 x3_41.toNatClampNeg := ev23.trans (congrFun q293 _)
        have tv23 := congrArg Int32.toInt gv23
        refine g_iconst C 1 dX11_countDivisors_138 (by decide) ?_
        refine g_iadd C dX11_countDivisors_139 ?_
        refine g_ni (fun v24 ev24 => ?_)
        try have fv24 := fadd rfl (by decide : (1 : Int32).toInt = 1) ev24 (by omega) (by omega)
        refine g_iast C (by decide) (ce_m_had ad cs _ _) (by rw [sI_k]; rfl) (fin' (n := 10) rfl (by omega) (by omega)) dX11_countDivisors_140 ?_
        refine g_nm (fun M25 hM25 => ?_)
        have hI : IR M25 := by rw [hM25]; exact hI.st (show bR 293 _ _ from trivial)
        have hF : ∀ k i, ¬ (k = 258 ∧ i = 25) ∧ ¬ (k = 258 ∧ i = 29) ∧ ¬ (k = 258 ∧ i = 31) ∧ k ≠ 277 ∧ k ≠ 278 ∧ k ≠ 279 ∧ k ≠ 293 → M25 k i = M k i := fun k i hk => by (rw [hM25, sI_at, if_neg (by omega)]; try exact hF k i hk)
        have k25 : M25 258 25 = M_41 258 25 := by rw [hM25, sI_n _ _ _ (by decide)]; try exact k25
        have k29 : M25 258 29 = M21 258 29 := by rw [hM25, sI_n _ _ _ (by decide)]; try exact k29
        have k31 : M25 258 31 = M18 258 31 := by rw [hM25, sI_n _ _ _ (by decide)]; try exact k31
        have q277 : M25 277 = M21 277 := by rw [hM25, sI_n _ _ _ (by decide)]; try exact q277
        have q278 : M25 278 = M18 278 := by rw [hM25, sI_n _ _ _ (by decide)]; try exact q278
        have q279 : M25 279 = M18 279 := by rw [hM25, sI_n _ _ _ (by decide)]; try exact q279
        obtain ⟨v26, ev26⟩ : ∃ y : Int32, y = x2_27 + 1 := ⟨_, rfl⟩
        try have fv26 := fadd rfl (by decide : (1 : Int32).toInt = 1) ev26 (by omega) (by omega)
        refine g_iinc C 2 v26 [(2, .int v26), (4, .int x4_41), (3, .int x3_41), (0, .ref (ad 258)), (1, .int x)] dX11_countDivisors_141 rfl (by rw [ev26]; rfl) (by decide) rfl ?_
        refine g_goto C 27 dX11_countDivisors_144 (by decide) ?_
        refine g_lv [0, 3, 4] [(2, .int v26), (0, .ref (ad 258)), (1, .int x)] rfl ?_
        have k29t := congrArg Int32.toInt k29
        have k31t := congrArg Int32.toInt k31
        exact ih_27 (v26, M25, L22) ⟨by show 0 ≤ v26.toInt; omega, by show v26.toInt ≤ (M 258 28).toInt; omega, by show (M25 258 29).toInt = v26.toInt; omega, by show (M25 258 31).toInt = v26.toInt; omega, hI, hF, hG⟩ (by show (31 - v26.toInt).toNat < (31 - x2_27.toInt).toNat; omega)
      ·
        have f27 := fnle rfl rfl c15
        refine g_aload_n C 3 dX11_countDivisors_50 rfl ?_
        refine g_get C (.ref (ad 260)) 3 in_X11_countDivisors_11 (List.mem_of_getElem? (i := 4) rfl) (by decide) (ce_model ad cs _ _) rfl (by decide) rfl rfl dX11_countDivisors_51 ?_
        refine g_iload C 0 dX11_countDivisors_54 rfl ?_
        refine g_iald C (by decide) (ce_m_draw ad cs _ _) (fin' (n := 10) rfl (by omega) (by omega)) dX11_countDivisors_56 ?_
        refine g_ni (fun v28 ev28 => ?_)
        have gv28 : v28 = M 260 x4_41.toNatClampNeg := ev28.trans (hF 260 x4_41.toNatClampNeg (by omega))
        have tv28 := congrArg Int32.toInt gv28
        obtain ⟨bv28, dv28⟩ := (show rg 0 9 v28 from (by rw [ev28]; exact hI 260 x4_41.toNatClampNeg))
        refine g_istore C [(5, .int v28), (4, .int x4_41), (3, .int x3_41), (2, .int x2_27), (0, .ref (ad 258)), (1, .int x)] dX11_countDivisors_57 (by decide) rfl ?_
        refine g_iload_n C 2 dX11_countDivisors_59 rfl ?_
        refine g_bipush C (-9) dX11_countDivisors_60 (by decide) ?_
        refine g_icmp_eq C 107 dX11_countDivisors_62 (by decide) (fun c29 => ?_) (fun c29 => ?_)
        ·
          have f30 := feq rfl (by decide : ((-9) : Int32).toInt = (-9)) c29
          refine g_iload C 0 dX11_countDivisors_107 rfl ?_
          refine g_goto C 113 dX11_countDivisors_109 (by decide) ?_
          refine g_istore_n C [(3, .int v28), (5, .int v28), (4, .int x4_41), (2, .int x2_27), (0, .ref (ad 258)), (1, .int x)] dX11_countDivisors_113 (by decide) rfl ?_
          obtain ⟨v31, ev31⟩ : ∃ y : Int32, y = x4_41 + 1 := ⟨_, rfl⟩
          try have fv31 := fadd rfl (by decide : (1 : Int32).toInt = 1) ev31 (by omega) (by omega)
          refine g_iinc C 2 v31 [(4, .int v31), (3, .int v28), (5, .int v28), (2, .int x2_27), (0, .ref (ad 258)), (1, .int x)] dX11_countDivisors_114 rfl (by rw [ev31]; rfl) (by decide) rfl ?_
          refine g_goto C 41 dX11_countDivisors_117 (by decide) ?_
          refine g_lv [0, 1, 3, 4, 5] [(4, .int v31), (3, .int v28), (2, .int x2_27), (0, .ref (ad 258)), (1, .int x)] rfl ?_
          exact ih_41 (v31, v28, M_41, L_41) ⟨by show 0 ≤ v31.toInt; omega, by show v31.toInt ≤ (M 258 2).toInt; omega, by show (v28.toInt = -9 ∧ v31.toInt = 0) ∨ (0 ≤ v28.toInt ∧ v28.toInt < 10); omega, by show M_41 258 29 = M_27 258 29; exact k29.trans j41_3, by show M_41 258 31 = M_27 258 31; exact k31.trans j41_4, hI, hF, hG⟩ (by show (11 - v31.toInt).toNat < (11 - x4_41.toInt).toNat; omega)
        ·
          have f32 := fne rfl (by decide : ((-9) : Int32).toInt = (-9)) c29
          refine g_aload_n C 4 dX11_countDivisors_65 rfl ?_
          refine g_get C (.ref (ad 284)) 38 in_X11_countDivisors_11 (List.mem_of_getElem? (i := 5) rfl) (by decide) (ce_model ad cs _ _) rfl (by decide) rfl rfl dX11_countDivisors_66 ?_
          refine g_iload C 0 dX11_countDivisors_69 rfl ?_
          refine g_lald C (by decide) (ce_m_ups ad cs _ _) (fin' (n := 10) rfl (by omega) (by omega)) dX11_countDivisors_71 ?_
          refine g_nl (fun v33 ev33 => ?_)
          have gv33 : v33 = L_41 284 v28.toNatClampNeg := ev33.trans (congrFun p284 _)
          have tv33 := congrArg Int64.toInt gv33
          refine g_iconst C 1 dX11_countDivisors_72 (by decide) ?_
          refine g_iload_n C 5 dX11_countDivisors_73 rfl ?_
          refine g_aload_n C 4 dX11_countDivisors_74 rfl ?_
          refine g_get C (.ref (ad 293)) 49 in_X11_countDivisors_11 (List.mem_of_getElem? (i := 1) rfl) (by decide) (ce_model ad cs _ _) rfl (by decide) rfl rfl dX11_countDivisors_75 ?_
          refine g_iload C 0 dX11_countDivisors_78 rfl ?_
          refine g_iald C (by decide) (ce_m_had ad cs _ _) (fin' (n := 10) rfl (by omega) (by omega)) dX11_countDivisors_80 ?_
          refine g_ni (fun v34 ev34 => ?_)
          have gv34 : v34 = M_41 293 v28.toNatClampNeg := ev34.trans (congrFun q293 _)
          have tv34 := congrArg Int32.toInt gv34
          refine g_imul C dX11_countDivisors_81 ?_
          refine g_ni (fun v35 ev35 => ?_)
          try have fv35 := fmul rfl rfl ev35 (by omega) (by omega)
          refine g_iadd C dX11_countDivisors_82 ?_
          refine g_ni (fun v36 ev36 => ?_)
          try have fv36 := fadd (by decide : (1 : Int32).toInt = 1) rfl ev36 (by omega) (by omega)
          refine g_i2l C dX11_countDivisors_83 ?_
          refine g_nl (fun v37 ev37 => ?_)
          have fv37 := fi2l rfl ev37
          refine g_aload_n C 4 dX11_countDivisors_84 rfl ?_
          refine g_get C (.ref (ad 284)) 38 in_X11_countDivisors_11 (List.mem_of_getElem? (i := 5) rfl) (by decide) (ce_model ad cs _ _) rfl (by decide) rfl rfl dX11_countDivisors_85 ?_
          refine g_iload_n C 2 dX11_countDivisors_88 rfl ?_
          refine g_lald C (by decide) (ce_m_ups ad cs _ _) (fin' (n := 10) rfl (by omega) (by omega)) dX11_countDivisors_89 ?_
          refine g_nl (fun v38 ev38 => ?_)
          have gv38 : v38 = L_41 284 x3_41.toNatClampNeg := ev38.trans (congrFun p284 _)
          have tv38 := congrArg Int64.toInt gv38
          refine g_iconst C 1 dX11_countDivisors_90 (by decide) ?_
          refine g_iload_n C 5 dX11_countDivisors_91 rfl ?_
          refine g_aload_n C 4 dX11_countDivisors_92 rfl ?_
          refine g_get C (.ref (ad 293)) 49 in_X11_countDivisors_11 (List.mem_of_getElem? (i := 1) rfl) (by decide) (ce_model ad cs _ _) rfl (by decide) rfl rfl dX11_countDivisors_93 ?_
          refine g_iload_n C 2 dX11_countDivisors_96 rfl ?_
          refine g_iald C (by decide) (ce_m_had ad cs _ _) (fin' (n := 10) rfl (by omega) (by omega)) dX11_countDivisors_97 ?_
          refine g_ni (fun v39 ev39 => ?_)
          have gv39 : v39 = M_41 293 x3_41.toNatClampNeg := ev39.trans (congrFun q293 _)
          have tv39 := congrArg Int32.toInt gv39
          refine g_imul C dX11_countDivisors_98 ?_
          refine g_ni (fun v40 ev40 => ?_)
          try have fv40 := fmul rfl rfl ev40 (by omega) (by omega)
          refine g_iadd C dX11_countDivisors_99 ?_
          refine g_ni (fun v41 ev41 => ?_)
          try have fv41 := fadd (by decide : (1 : Int32).toInt = 1) rfl ev41 (by omega) (by omega)
          refine g_i2l C dX11_countDivisors_100 ?_
          refine g_nl (fun v42 ev42 => ?_)
          have fv42 := fi2l rfl ev42
          refine g_callSi C (n := 4) (As := [.long v33, .long v37, .long v38, .long v42]) (st := []) (s_X11_isMore l D ad cs _ _ v33 v37 v38 v42 hI ) gX11_countDivisors_X11_isMore rfl rfl rfl (by decide +kernel) ⟨Nat.le_of_ble_eq_true rfl, Nat.le_of_ble_eq_true rfl⟩ rfl (Nat.le_of_ble_eq_true rfl) ⟨Nat.zero_le _, Nat.zero_le _⟩ rfl dX11_countDivisors_101 (fun r43 M44 L45 hr43 => ?_)
          obtain ⟨hq1, hq2, hr43⟩ := hr43
          obtain rfl := hq1.symm
          obtain rfl := hq2.symm
          obtain ⟨bar43, bbr43⟩ := hr43
          refine g_if_eq C 112 dX11_countDivisors_104 (by decide) (fun c46 => ?_) (fun c46 => ?_)
          ·
            have f47 := feq rfl (by decide : (0 : Int32).toInt = 0) c46
            refine g_iload_n C 2 dX11_countDivisors_112 rfl ?_
            refine g_istore_n C [(3, .int x3_41), (5, .int v28), (4, .int x4_41), (2, .int x2_27), (0, .ref (ad 258)), (1, .int x)] dX11_countDivisors_113 (by decide) rfl ?_
            obtain ⟨v48, ev48⟩ : ∃ y : Int32, y = x4_41 + 1 := ⟨_, rfl⟩
            try have fv48 := fadd rfl (by decide : (1 : Int32).toInt = 1) ev48 (by omega) (by omega)
            refine g_iinc C 2 v48 [(4, .int v48), (3, .int x3_41), (5, .int v28), (2, .int x2_27), (0, .ref (ad 258)), (1, .int x)] dX11_countDivisors_114 rfl (by rw [ev48]; rfl) (by decide) rfl ?_
            refine g_goto C 41 dX11_countDivisors_117 (by decide) ?_
            refine g_lv [0, 1, 3, 4, 5] [(4, .int v48), (3, .int x3_41), (2, .int x2_27), (0, .ref (ad 258)), (1, .int x)] rfl ?_
            exact ih_41 (v48, x3_41, M_41, L_41) ⟨by show 0 ≤ v48.toInt; omega, by show v48.toInt ≤ (M 258 2).toInt; omega, by show (x3_41.toInt = -9 ∧ v48.toInt = 0) ∨ (0 ≤ x3_41.toInt ∧ x3_41.toInt < 10); omega, by show M_41 258 29 = M_27 258 29; exact k29.trans j41_3, by show M_41 258 31 = M_27 258 31; exact k31.trans j41_4, hI, hF, hG⟩ (by show (11 - v48.toInt).toNat < (11 - x4_41.toInt).toNat; omega)
          ·
            have f49 := fne rfl (by decide : (0 : Int32).toInt = 0) c46
            refine g_iload C 0 dX11_countDivisors_107 rfl ?_
            refine g_goto C 113 dX11_countDivisors_109 (by decide) ?_
            refine g_istore_n C [(3, .int v28), (5, .int v28), (4, .int x4_41), (2, .int x2_27), (0, .ref (ad 258)), (1, .int x)] dX11_countDivisors_113 (by decide) rfl ?_
            obtain ⟨v50, ev50⟩ : ∃ y : Int32, y = x4_41 + 1 := ⟨_, rfl⟩
            try have fv50 := fadd rfl (by decide : (1 : Int32).toInt = 1) ev50 (by omega) (by omega)
            refine g_iinc C 2 v50 [(4, .int v50), (3, .int v28), (5, .int v28), (2, .int x2_27), (0, .ref (ad 258)), (1, .int x)] dX11_countDivisors_114 rfl (by rw [ev50]; rfl) (by decide) rfl ?_
            refine g_goto C 41 dX11_countDivisors_117 (by decide) ?_
            refine g_lv [0, 1, 3, 4, 5] [(4, .int v50), (3, .int v28), (2, .int x2_27), (0, .ref (ad 258)), (1, .int x)] rfl ?_
            exact ih_41 (v50, v28, M_41, L_41) ⟨by show 0 ≤ v50.toInt; omega, by show v50.toInt ≤ (M 258 2).toInt; omega, by show (v28.toInt = -9 ∧ v50.toInt = 0) ∨ (0 ≤ v28.toInt ∧ v28.toInt < 10); omega, by show M_41 258 29 = M_27 258 29; exact k29.trans j41_3, by show M_41 258 31 = M_27 258 31; exact k31.trans j41_4, hI, hF, hG⟩ (by show (11 - v50.toInt).toNat < (11 - x4_41.toInt).toNat; omega)
  ·
    have f51 := fnle (by decide : (10 : Int32).toInt = 10) rfl c5
    refine g_aload_n C 1 dX11_countDivisors_12 rfl ?_
    refine g_get C (.ref (ad 293)) 49 in_X11_countDivisors_11 (List.mem_of_getElem? (i := 1) rfl) (by decide) (ce_model ad cs _ _) rfl (by decide) rfl rfl dX11_countDivisors_13 ?_
    refine g_iload_n C 0 dX11_countDivisors_16 rfl ?_
    refine g_iconst C 0 dX11_countDivisors_17 (by decide) ?_
    refine g_iast C (by decide) (ce_m_had ad cs _ _) (by rw [sI_k]; rfl) (fin' (n := 10) rfl (by omega) (by omega)) dX11_countDivisors_18 ?_
    refine g_nm (fun M52 hM52 => ?_)
    have zy53 : (0 : Int32).toInt = 0 := by decide
    have hI : IR M52 := by rw [hM52]; exact hI.st (show bR 293 _ _ from trivial)
    have hF : ∀ k i, ¬ (k = 258 ∧ i = 25) ∧ ¬ (k = 258 ∧ i = 29) ∧ ¬ (k = 258 ∧ i = 31) ∧ k ≠ 277 ∧ k ≠ 278 ∧ k ≠ 279 ∧ k ≠ 293 → M52 k i = M k i := fun k i hk => by (rw [hM52, sI_at, if_neg (by omega)]; try exact hF k i hk)
    have k25 : M52 258 25 = M_6 258 25 := by rw [hM52, sI_n _ _ _ (by decide)]; try exact k25
    have k29 : M52 258 29 = M_6 258 29 := by rw [hM52, sI_n _ _ _ (by decide)]; try exact k29
    have k31 : M52 258 31 = M_6 258 31 := by rw [hM52, sI_n _ _ _ (by decide)]; try exact k31
    have q277 : M52 277 = M_6 277 := by rw [hM52, sI_n _ _ _ (by decide)]; try exact q277
    have q278 : M52 278 = M_6 278 := by rw [hM52, sI_n _ _ _ (by decide)]; try exact q278
    have q279 : M52 279 = M_6 279 := by rw [hM52, sI_n _ _ _ (by decide)]; try exact q279
    obtain ⟨v54, ev54⟩ : ∃ y : Int32, y = x2_6 + 1 := ⟨_, rfl⟩
    try have fv54 := fadd rfl (by decide : (1 : Int32).toInt = 1) ev54 (by omega) (by omega)
    refine g_iinc C 0 v54 [(2, .int v54), (0, .ref (ad 258)), (1, .int x)] dX11_countDivisors_19 rfl (by rw [ev54]; rfl) (by decide) rfl ?_
    refine g_goto C 6 dX11_countDivisors_22 (by decide) ?_
    exact ih_6 (v54, M52, L_6) ⟨by show 0 ≤ v54.toInt; omega, by show v54.toInt ≤ 10; omega, by show (M52 258 29).toInt = 0; rw [k29]; exact j6_2, by show (M52 258 31).toInt = 0; rw [k31]; exact j6_3, hI, hF, hG⟩ (by show (11 - v54.toInt).toNat < (11 - x2_6.toInt).toNat; omega)
theorem dX11_countRunOff_0 : decode cX11_countRunOff 0 = .ok (.iconst 0, 1) := dw3 (n := 0) (i := 0) kc_cX11_countRunOff_0 (by decide +kernel)
theorem dX11_countRunOff_1 : decode cX11_countRunOff 1 = .ok (.istore_n 1, 1) := dw60 (n := 0) (i := 1) kc_cX11_countRunOff_0 (by decide +kernel)
theorem dX11_countRunOff_2 : decode cX11_countRunOff 2 = .ok (.aload_n 0, 1) := dw42 (n := 0) (i := 2) kc_cX11_countRunOff_0 (by decide +kernel)
theorem dX11_countRunOff_3 : decode cX11_countRunOff 3 = .ok (.invokevirtual 249, 3) := dw182 (n := 0) (i := 3) (a := 0) (b := 249) kc_cX11_countRunOff_0 (by decide +kernel) (by decide)
set_option maxRecDepth 20000 in
theorem ggX11_countRunOff_X11_inMany : GoodIn wsX11_countRunOff wsX11_inMany := (gk_code 9 rfl (gk_fieldLink 10 rfl (gk_fieldLink 1 rfl (gk_lays 77 rfl (gk_laysFinal 78 rfl (gk_lays 79 rfl (gk_laysFinal 80 rfl (gk_lays 81 rfl (gk_laysFinal 82 rfl (gk_laysFinal 83 rfl (gk_laysFinal 84 rfl (gk_laysFinal 85 rfl (gk_lays 86 rfl (gk_laysFinal 87 rfl (gk_laysFinal 88 rfl (gk_laysFinal 89 rfl (gk_laysFinal 90 rfl (gk_lays 91 rfl (gk_laysFinal 92 rfl (gk_laysFinal 93 rfl (gk_laysFinal 94 rfl (gk_laysFinal 95 rfl (gk_laysFinal 96 rfl (gk_laysFinal 97 rfl (gk_laysFinal 98 rfl (gk_laysFinal 99 rfl (gk_lays 100 rfl (gk_lays 101 rfl (gk_lays 102 rfl (gk_lays 103 rfl (gk_lays 104 rfl (gk_lays 105 rfl (gk_lays 106 rfl (gk_laysFinal 107 rfl (gk_lays 108 rfl (gk_laysFinal 109 rfl (gk_laysFinal 110 rfl (gk_laysFinal 111 rfl (gk_laysFinal 112 rfl (gk_laysFinal 113 rfl (gk_laysFinal 114 rfl (gk_laysFinal 115 rfl (gk_laysFinal 116 rfl (gk_laysFinal 117 rfl (gk_laysFinal 118 rfl (gk_lays 119 rfl (gk_laysFinal 120 rfl (gk_lays 121 rfl (gk_laysFinal 122 rfl (gk_laysFinal 123 rfl (gk_laysFinal 124 rfl (gk_laysFinal 125 rfl (gk_laysFinal 126 rfl (gk_laysFinal 127 rfl (gk_laysFinal 128 rfl (gk_laysFinal 129 rfl (gn)))))))))))))))))))))))))))))))))))))))))))))))))))))))))
set_option maxRecDepth 20000 in
theorem gX11_countRunOff_X11_inMany : GoodIn wsX11_countRunOff (wsV RX11 249 RX11 yX11_inMany wsX11_inMany) := goodIn_app (gk_methodLink 5 rfl (gk_instanceMethod 6 rfl (gk_selects 7 rfl (gk_initialized 8 rfl (gn))))) ggX11_countRunOff_X11_inMany
theorem dX11_countRunOff_6 : decode cX11_countRunOff 6 = .ok (.iconst 1, 1) := dw4 (n := 0) (i := 6) kc_cX11_countRunOff_0 (by decide +kernel)
theorem dX11_countRunOff_7 : decode cX11_countRunOff 7 = .ok (.if_icmp .le 38, 3) := dw164 (n := 0) (i := 7) (a := 0) (b := 38) kc_cX11_countRunOff_0 (by decide +kernel) (by decide)
theorem dX11_countRunOff_45 : decode cX11_countRunOff 45 = .ok (.aload_n 0, 1) := dw42 (n := 32) (i := 13) kc_cX11_countRunOff_1 (by decide +kernel)
theorem dX11_countRunOff_46 : decode cX11_countRunOff 46 = .ok (.invokevirtual 246, 3) := dw182 (n := 32) (i := 14) (a := 0) (b := 246) kc_cX11_countRunOff_1 (by decide +kernel) (by decide)
set_option maxRecDepth 20000 in
theorem ggX11_countRunOff_X11_tallyFirsts : GoodIn wsX11_countRunOff wsX11_tallyFirsts := (gk_code 14 rfl (gk_fieldLink 15 rfl (gk_fieldLink 16 rfl (gk_fieldLink 17 rfl (gk_fieldLink 18 rfl (gk_methodLink 19 rfl (gk_instanceMethod 20 rfl (gk_selects 21 rfl (gk_initialized 8 rfl (gk_code 22 rfl (gk_fieldLink 23 rfl (gk_fieldLink 24 rfl (gk_methodLink 25 rfl (gk_instanceMethod 26 rfl (gk_selects 27 rfl (gk_code 28 rfl (gk_fieldLink 29 rfl (gk_methodLink 30 rfl (gk_instanceMethod 31 rfl (gk_selects 32 rfl (gk_code 33 rfl (gk_fieldLink 34 rfl (gk_fieldLink 1 rfl (gk_fieldLink 35 rfl (gk_methodLink 36 rfl (gk_instanceMethod 37 rfl (gk_selects 38 rfl (gk_code 39 rfl (gk_fieldLink 40 rfl (gk_fieldLink 41 rfl (gk_methodLink 42 rfl (gk_instanceMethod 43 rfl (gk_selects 44 rfl (gk_code 45 rfl (gk_fieldLink 46 rfl (gk_constantLong 47 rfl (gk_methodLink 48 rfl (gk_static 49 rfl (gk_code 50 rfl (gk_lays 77 rfl (gk_laysFinal 78 rfl (gk_lays 79 rfl (gk_laysFinal 80 rfl (gk_lays 81 rfl (gk_laysFinal 82 rfl (gk_laysFinal 83 rfl (gk_laysFinal 84 rfl (gk_laysFinal 85 rfl (gk_lays 86 rfl (gk_laysFinal 87 rfl (gk_laysFinal 88 rfl (gk_laysFinal 89 rfl (gk_laysFinal 90 rfl (gk_lays 91 rfl (gk_laysFinal 92 rfl (gk_laysFinal 93 rfl (gk_laysFinal 94 rfl (gk_laysFinal 95 rfl (gk_laysFinal 96 rfl (gk_laysFinal 97 rfl (gk_laysFinal 98 rfl (gk_laysFinal 99 rfl (gk_lays 100 rfl (gk_lays 101 rfl (gk_lays 102 rfl (gk_lays 103 rfl (gk_lays 104 rfl (gk_lays 105 rfl (gk_lays 106 rfl (gk_laysFinal 107 rfl (gk_lays 108 rfl (gk_laysFinal 109 rfl (gk_laysFinal 110 rfl (gk_laysFinal 111 rfl (gk_laysFinal 112 rfl (gk_laysFinal 113 rfl (gk_laysFinal 114 rfl (gk_laysFinal 115 rfl (gk_laysFinal 116 rfl (gk_laysFinal 117 rfl (gk_laysFinal 118 rfl (gk_lays 119 rfl (gk_laysFinal 120 rfl (gk_lays 121 rfl (gk_laysFinal 122 rfl (gk_laysFinal 123 rfl (gk_laysFinal 124 rfl (gk_laysFinal 125 rfl (gk_laysFinal 126 rfl (gk_laysFinal 127 rfl (gk_laysFinal 128 rfl (gk_laysFinal 129 rfl (gn)))))))))))))))))))))))))))))))))))))))))))))))))))))))))))))))))))))))))))))))))))))))))))))
set_option maxRecDepth 20000 in
theorem gX11_countRunOff_X11_tallyFirsts : GoodIn wsX11_countRunOff (wsV RX11 246 RX11 yX11_tallyFirsts wsX11_tallyFirsts) := goodIn_app (gk_methodLink 11 rfl (gk_instanceMethod 12 rfl (gk_selects 13 rfl (gk_initialized 8 rfl (gn))))) ggX11_countRunOff_X11_tallyFirsts
theorem dX11_countRunOff_49 : decode cX11_countRunOff 49 = .ok (.aload_n 0, 1) := dw42 (n := 32) (i := 17) kc_cX11_countRunOff_1 (by decide +kernel)
theorem dX11_countRunOff_50 : decode cX11_countRunOff 50 = .ok (.invokevirtual 234, 3) := dw182 (n := 32) (i := 18) (a := 0) (b := 234) kc_cX11_countRunOff_1 (by decide +kernel) (by decide)
set_option maxRecDepth 20000 in
theorem ggX11_countRunOff_X11_greatest : GoodIn wsX11_countRunOff wsX11_greatest := (gk_code 71 rfl (gk_fieldLink 10 rfl (gk_fieldLink 55 rfl (gk_fieldLink 1 rfl (gk_fieldLink 23 rfl (gk_fieldLink 24 rfl (gk_methodLink 56 rfl (gk_static 57 rfl (gk_initialized 8 rfl (gk_code 58 rfl (gk_lays 77 rfl (gk_laysFinal 78 rfl (gk_lays 79 rfl (gk_laysFinal 80 rfl (gk_lays 81 rfl (gk_laysFinal 82 rfl (gk_laysFinal 83 rfl (gk_laysFinal 84 rfl (gk_laysFinal 85 rfl (gk_lays 86 rfl (gk_laysFinal 87 rfl (gk_laysFinal 88 rfl (gk_laysFinal 89 rfl (gk_laysFinal 90 rfl (gk_lays 91 rfl (gk_laysFinal 92 rfl (gk_laysFinal 93 rfl (gk_laysFinal 94 rfl (gk_laysFinal 95 rfl (gk_laysFinal 96 rfl (gk_laysFinal 97 rfl (gk_laysFinal 98 rfl (gk_laysFinal 99 rfl (gk_lays 100 rfl (gk_lays 101 rfl (gk_lays 102 rfl (gk_lays 103 rfl (gk_lays 104 rfl (gk_lays 105 rfl (gk_lays 106 rfl (gk_laysFinal 107 rfl (gk_lays 108 rfl (gk_laysFinal 109 rfl (gk_laysFinal 110 rfl (gk_laysFinal 111 rfl (gk_laysFinal 112 rfl (gk_laysFinal 113 rfl (gk_laysFinal 114 rfl (gk_laysFinal 115 rfl (gk_laysFinal 116 rfl (gk_laysFinal 117 rfl (gk_laysFinal 118 rfl (gk_lays 119 rfl (gk_laysFinal 120 rfl (gk_lays 121 rfl (gk_laysFinal 122 rfl (gk_laysFinal 123 rfl (gk_laysFinal 124 rfl (gk_laysFinal 125 rfl (gk_laysFinal 126 rfl (gk_laysFinal 127 rfl (gk_laysFinal 128 rfl (gk_laysFinal 129 rfl (gn))))))))))))))))))))))))))))))))))))))))))))))))))))))))))))))))
set_option maxRecDepth 20000 in
theorem gX11_countRunOff_X11_greatest : GoodIn wsX11_countRunOff (wsV RX11 234 RX11 yX11_greatest wsX11_greatest) := goodIn_app (gk_methodLink 68 rfl (gk_instanceMethod 69 rfl (gk_selects 70 rfl (gk_initialized 8 rfl (gn))))) ggX11_countRunOff_X11_greatest
theorem dX11_countRunOff_53 : decode cX11_countRunOff 53 = .ok (.istore_n 2, 1) := dw61 (n := 32) (i := 21) kc_cX11_countRunOff_1 (by decide +kernel)
theorem dX11_countRunOff_54 : decode cX11_countRunOff 54 = .ok (.aload_n 0, 1) := dw42 (n := 32) (i := 22) kc_cX11_countRunOff_1 (by decide +kernel)
theorem dX11_countRunOff_55 : decode cX11_countRunOff 55 = .ok (.iconst 1, 1) := dw4 (n := 32) (i := 23) kc_cX11_countRunOff_1 (by decide +kernel)
theorem dX11_countRunOff_56 : decode cX11_countRunOff 56 = .ok (.iload_n 2, 1) := dw28 (n := 32) (i := 24) kc_cX11_countRunOff_1 (by decide +kernel)
theorem dX11_countRunOff_57 : decode cX11_countRunOff 57 = .ok (.invokevirtual 238, 3) := dw182 (n := 32) (i := 25) (a := 0) (b := 238) kc_cX11_countRunOff_1 (by decide +kernel) (by decide)
set_option maxRecDepth 20000 in
theorem ggX11_countRunOff_X11_happens : GoodIn wsX11_countRunOff wsX11_happens := (gk_code 62 rfl (gk_fieldLink 63 rfl (gk_fieldLink 64 rfl (gk_fieldLink 65 rfl (gk_fieldLink 66 rfl (gk_fieldLink 23 rfl (gk_fieldLink 67 rfl (gk_fieldLink 24 rfl (gk_lays 77 rfl (gk_laysFinal 78 rfl (gk_lays 79 rfl (gk_laysFinal 80 rfl (gk_lays 81 rfl (gk_laysFinal 82 rfl (gk_laysFinal 83 rfl (gk_laysFinal 84 rfl (gk_laysFinal 85 rfl (gk_lays 86 rfl (gk_laysFinal 87 rfl (gk_laysFinal 88 rfl (gk_laysFinal 89 rfl (gk_laysFinal 90 rfl (gk_lays 91 rfl (gk_laysFinal 92 rfl (gk_laysFinal 93 rfl (gk_laysFinal 94 rfl (gk_laysFinal 95 rfl (gk_laysFinal 96 rfl (gk_laysFinal 97 rfl (gk_laysFinal 98 rfl (gk_laysFinal 99 rfl (gk_lays 100 rfl (gk_lays 101 rfl (gk_lays 102 rfl (gk_lays 103 rfl (gk_lays 104 rfl (gk_lays 105 rfl (gk_lays 106 rfl (gk_laysFinal 107 rfl (gk_lays 108 rfl (gk_laysFinal 109 rfl (gk_laysFinal 110 rfl (gk_laysFinal 111 rfl (gk_laysFinal 112 rfl (gk_laysFinal 113 rfl (gk_laysFinal 114 rfl (gk_laysFinal 115 rfl (gk_laysFinal 116 rfl (gk_laysFinal 117 rfl (gk_laysFinal 118 rfl (gk_lays 119 rfl (gk_laysFinal 120 rfl (gk_lays 121 rfl (gk_laysFinal 122 rfl (gk_laysFinal 123 rfl (gk_laysFinal 124 rfl (gk_laysFinal 125 rfl (gk_laysFinal 126 rfl (gk_laysFinal 127 rfl (gk_laysFinal 128 rfl (gk_laysFinal 129 rfl (gn))))))))))))))))))))))))))))))))))))))))))))))))))))))))))))))
set_option maxRecDepth 20000 in
theorem gX11_countRunOff_X11_happens : GoodIn wsX11_countRunOff (wsV RX11 238 RX11 yX11_happens wsX11_happens) := goodIn_app (gk_methodLink 59 rfl (gk_instanceMethod 60 rfl (gk_selects 61 rfl (gk_initialized 8 rfl (gn))))) ggX11_countRunOff_X11_happens
theorem dX11_countRunOff_60 : decode cX11_countRunOff 60 = .ok (.aload_n 0, 1) := dw42 (n := 32) (i := 28) kc_cX11_countRunOff_1 (by decide +kernel)
theorem dX11_countRunOff_61 : decode cX11_countRunOff 61 = .ok (.iload_n 2, 1) := dw28 (n := 32) (i := 29) kc_cX11_countRunOff_1 (by decide +kernel)
theorem dX11_countRunOff_62 : decode cX11_countRunOff 62 = .ok (.invokevirtual 242, 3) := dw182 (n := 32) (i := 30) (a := 0) (b := 242) kc_cX11_countRunOff_1 (by decide +kernel) (by decide)
set_option maxRecDepth 20000 in
theorem ggX11_countRunOff_X11_gives : GoodIn wsX11_countRunOff wsX11_gives := (gk_code 75 rfl (gk_fieldLink 76 rfl (gk_fieldLink 3 rfl (gk_lays 77 rfl (gk_laysFinal 78 rfl (gk_lays 79 rfl (gk_laysFinal 80 rfl (gk_lays 81 rfl (gk_laysFinal 82 rfl (gk_laysFinal 83 rfl (gk_laysFinal 84 rfl (gk_laysFinal 85 rfl (gk_lays 86 rfl (gk_laysFinal 87 rfl (gk_laysFinal 88 rfl (gk_laysFinal 89 rfl (gk_laysFinal 90 rfl (gk_lays 91 rfl (gk_laysFinal 92 rfl (gk_laysFinal 93 rfl (gk_laysFinal 94 rfl (gk_laysFinal 95 rfl (gk_laysFinal 96 rfl (gk_laysFinal 97 rfl (gk_laysFinal 98 rfl (gk_laysFinal 99 rfl (gk_lays 100 rfl (gk_lays 101 rfl (gk_lays 102 rfl (gk_lays 103 rfl (gk_lays 104 rfl (gk_lays 105 rfl (gk_lays 106 rfl (gk_laysFinal 107 rfl (gk_lays 108 rfl (gk_laysFinal 109 rfl (gk_laysFinal 110 rfl (gk_laysFinal 111 rfl (gk_laysFinal 112 rfl (gk_laysFinal 113 rfl (gk_laysFinal 114 rfl (gk_laysFinal 115 rfl (gk_laysFinal 116 rfl (gk_laysFinal 117 rfl (gk_laysFinal 118 rfl (gk_lays 119 rfl (gk_laysFinal 120 rfl (gk_lays 121 rfl (gk_laysFinal 122 rfl (gk_laysFinal 123 rfl (gk_laysFinal 124 rfl (gk_laysFinal 125 rfl (gk_laysFinal 126 rfl (gk_laysFinal 127 rfl (gk_laysFinal 128 rfl (gk_laysFinal 129 rfl (gn)))))))))))))))))))))))))))))))))))))))))))))))))))))))))
set_option maxRecDepth 20000 in
theorem gX11_countRunOff_X11_gives : GoodIn wsX11_countRunOff (wsV RX11 242 RX11 yX11_gives wsX11_gives) := goodIn_app (gk_methodLink 72 rfl (gk_instanceMethod 73 rfl (gk_selects 74 rfl (gk_initialized 8 rfl (gn))))) ggX11_countRunOff_X11_gives
theorem dX11_countRunOff_65 : decode cX11_countRunOff 65 = .ok (.iload_n 1, 1) := dw27 (n := 64) (i := 1) kc_cX11_countRunOff_2 (by decide +kernel)
theorem dX11_countRunOff_66 : decode cX11_countRunOff 66 = .ok (.iconst 1, 1) := dw4 (n := 64) (i := 2) kc_cX11_countRunOff_2 (by decide +kernel)
theorem dX11_countRunOff_67 : decode cX11_countRunOff 67 = .ok (.isub, 1) := dw100 (n := 64) (i := 3) kc_cX11_countRunOff_2 (by decide +kernel)
theorem dX11_countRunOff_68 : decode cX11_countRunOff 68 = .ok (.istore_n 3, 1) := dw62 (n := 64) (i := 4) kc_cX11_countRunOff_2 (by decide +kernel)
theorem dX11_countRunOff_69 : decode cX11_countRunOff 69 = .ok (.iload_n 3, 1) := dw29 (n := 64) (i := 5) kc_cX11_countRunOff_2 (by decide +kernel)
theorem dX11_countRunOff_70 : decode cX11_countRunOff 70 = .ok (.ifCond .lt 30, 3) := dw155 (n := 64) (i := 6) (a := 0) (b := 30) kc_cX11_countRunOff_2 (by decide +kernel) (by decide)
theorem dX11_countRunOff_100 : decode cX11_countRunOff 100 = .ok (.return_, 1) := dw177 (n := 96) (i := 4) kc_cX11_countRunOff_3 (by decide +kernel)
theorem dX11_countRunOff_73 : decode cX11_countRunOff 73 = .ok (.aload_n 0, 1) := dw42 (n := 64) (i := 9) kc_cX11_countRunOff_2 (by decide +kernel)
theorem dX11_countRunOff_74 : decode cX11_countRunOff 74 = .ok (.getfield 211, 3) := dw180 (n := 64) (i := 10) (a := 0) (b := 211) kc_cX11_countRunOff_2 (by decide +kernel) (by decide)
theorem in_X11_countRunOff_11 : ∀ w ∈ u_ws RX11 TX11 53, w ∈ wsX11_countRunOff := fun _ h => List.mem_cons_of_mem _ (List.mem_append_right _ h)
theorem dX11_countRunOff_77 : decode cX11_countRunOff 77 = .ok (.aload_n 0, 1) := dw42 (n := 64) (i := 13) kc_cX11_countRunOff_2 (by decide +kernel)
theorem dX11_countRunOff_78 : decode cX11_countRunOff 78 = .ok (.getfield 231, 3) := dw180 (n := 64) (i := 14) (a := 0) (b := 231) kc_cX11_countRunOff_2 (by decide +kernel) (by decide)
theorem dX11_countRunOff_81 : decode cX11_countRunOff 81 = .ok (.if_icmp .ge 19, 3) := dw162 (n := 64) (i := 17) (a := 0) (b := 19) kc_cX11_countRunOff_2 (by decide +kernel) (by decide)
theorem dX11_countRunOff_84 : decode cX11_countRunOff 84 = .ok (.aload_n 0, 1) := dw42 (n := 64) (i := 20) kc_cX11_countRunOff_2 (by decide +kernel)
theorem dX11_countRunOff_85 : decode cX11_countRunOff 85 = .ok (.aload_n 0, 1) := dw42 (n := 64) (i := 21) kc_cX11_countRunOff_2 (by decide +kernel)
theorem dX11_countRunOff_86 : decode cX11_countRunOff 86 = .ok (.getfield 117, 3) := dw180 (n := 64) (i := 22) (a := 0) (b := 117) kc_cX11_countRunOff_2 (by decide +kernel) (by decide)
theorem dX11_countRunOff_89 : decode cX11_countRunOff 89 = .ok (.iload_n 3, 1) := dw29 (n := 64) (i := 25) kc_cX11_countRunOff_2 (by decide +kernel)
theorem dX11_countRunOff_90 : decode cX11_countRunOff 90 = .ok (.iaload, 1) := dw46 (n := 64) (i := 26) kc_cX11_countRunOff_2 (by decide +kernel)
theorem dX11_countRunOff_91 : decode cX11_countRunOff 91 = .ok (.invokevirtual 242, 3) := dw182 (n := 64) (i := 27) (a := 0) (b := 242) kc_cX11_countRunOff_2 (by decide +kernel) (by decide)
theorem dX11_countRunOff_94 : decode cX11_countRunOff 94 = .ok (.iinc 3 (-1), 3) := by decide +kernel
theorem dX11_countRunOff_97 : decode cX11_countRunOff 97 = .ok (.goto (-28), 3) := dw167 (n := 96) (i := 1) (a := 255) (b := 228) kc_cX11_countRunOff_3 (by decide +kernel) (by decide)
theorem dX11_countRunOff_10 : decode cX11_countRunOff 10 = .ok (.aload_n 0, 1) := dw42 (n := 0) (i := 10) kc_cX11_countRunOff_0 (by decide +kernel)
theorem dX11_countRunOff_11 : decode cX11_countRunOff 11 = .ok (.invokevirtual 246, 3) := dw182 (n := 0) (i := 11) (a := 0) (b := 246) kc_cX11_countRunOff_0 (by decide +kernel) (by decide)
theorem dX11_countRunOff_14 : decode cX11_countRunOff 14 = .ok (.aload_n 0, 1) := dw42 (n := 0) (i := 14) kc_cX11_countRunOff_0 (by decide +kernel)
theorem dX11_countRunOff_15 : decode cX11_countRunOff 15 = .ok (.invokevirtual 252, 3) := dw182 (n := 0) (i := 15) (a := 0) (b := 252) kc_cX11_countRunOff_0 (by decide +kernel) (by decide)
set_option maxRecDepth 20000 in
theorem ggX11_countRunOff_X11_least : GoodIn wsX11_countRunOff wsX11_least := (gk_code 54 rfl (gk_fieldLink 10 rfl (gk_fieldLink 55 rfl (gk_fieldLink 1 rfl (gk_fieldLink 23 rfl (gk_fieldLink 24 rfl (gk_methodLink 56 rfl (gk_static 57 rfl (gk_initialized 8 rfl (gk_code 58 rfl (gk_lays 77 rfl (gk_laysFinal 78 rfl (gk_lays 79 rfl (gk_laysFinal 80 rfl (gk_lays 81 rfl (gk_laysFinal 82 rfl (gk_laysFinal 83 rfl (gk_laysFinal 84 rfl (gk_laysFinal 85 rfl (gk_lays 86 rfl (gk_laysFinal 87 rfl (gk_laysFinal 88 rfl (gk_laysFinal 89 rfl (gk_laysFinal 90 rfl (gk_lays 91 rfl (gk_laysFinal 92 rfl (gk_laysFinal 93 rfl (gk_laysFinal 94 rfl (gk_laysFinal 95 rfl (gk_laysFinal 96 rfl (gk_laysFinal 97 rfl (gk_laysFinal 98 rfl (gk_laysFinal 99 rfl (gk_lays 100 rfl (gk_lays 101 rfl (gk_lays 102 rfl (gk_lays 103 rfl (gk_lays 104 rfl (gk_lays 105 rfl (gk_lays 106 rfl (gk_laysFinal 107 rfl (gk_lays 108 rfl (gk_laysFinal 109 rfl (gk_laysFinal 110 rfl (gk_laysFinal 111 rfl (gk_laysFinal 112 rfl (gk_laysFinal 113 rfl (gk_laysFinal 114 rfl (gk_laysFinal 115 rfl (gk_laysFinal 116 rfl (gk_laysFinal 117 rfl (gk_laysFinal 118 rfl (gk_lays 119 rfl (gk_laysFinal 120 rfl (gk_lays 121 rfl (gk_laysFinal 122 rfl (gk_laysFinal 123 rfl (gk_laysFinal 124 rfl (gk_laysFinal 125 rfl (gk_laysFinal 126 rfl (gk_laysFinal 127 rfl (gk_laysFinal 128 rfl (gk_laysFinal 129 rfl (gn))))))))))))))))))))))))))))))))))))))))))))))))))))))))))))))))
set_option maxRecDepth 20000 in
theorem gX11_countRunOff_X11_least : GoodIn wsX11_countRunOff (wsV RX11 252 RX11 yX11_least wsX11_least) := goodIn_app (gk_methodLink 51 rfl (gk_instanceMethod 52 rfl (gk_selects 53 rfl (gk_initialized 8 rfl (gn))))) ggX11_countRunOff_X11_least
theorem dX11_countRunOff_18 : decode cX11_countRunOff 18 = .ok (.istore_n 2, 1) := dw61 (n := 0) (i := 18) kc_cX11_countRunOff_0 (by decide +kernel)
theorem dX11_countRunOff_19 : decode cX11_countRunOff 19 = .ok (.aload_n 0, 1) := dw42 (n := 0) (i := 19) kc_cX11_countRunOff_0 (by decide +kernel)
theorem dX11_countRunOff_20 : decode cX11_countRunOff 20 = .ok (.iconst 2, 1) := dw5 (n := 0) (i := 20) kc_cX11_countRunOff_0 (by decide +kernel)
theorem dX11_countRunOff_21 : decode cX11_countRunOff 21 = .ok (.iload_n 2, 1) := dw28 (n := 0) (i := 21) kc_cX11_countRunOff_0 (by decide +kernel)
theorem dX11_countRunOff_22 : decode cX11_countRunOff 22 = .ok (.invokevirtual 238, 3) := dw182 (n := 0) (i := 22) (a := 0) (b := 238) kc_cX11_countRunOff_0 (by decide +kernel) (by decide)
theorem dX11_countRunOff_25 : decode cX11_countRunOff 25 = .ok (.aload_n 0, 1) := dw42 (n := 0) (i := 25) kc_cX11_countRunOff_0 (by decide +kernel)
theorem dX11_countRunOff_26 : decode cX11_countRunOff 26 = .ok (.getfield 81, 3) := dw180 (n := 0) (i := 26) (a := 0) (b := 81) kc_cX11_countRunOff_0 (by decide +kernel) (by decide)
theorem dX11_countRunOff_29 : decode cX11_countRunOff 29 = .ok (.iload_n 2, 1) := dw28 (n := 0) (i := 29) kc_cX11_countRunOff_0 (by decide +kernel)
theorem dX11_countRunOff_30 : decode cX11_countRunOff 30 = .ok (.iconst 0, 1) := dw3 (n := 0) (i := 30) kc_cX11_countRunOff_0 (by decide +kernel)
theorem dX11_countRunOff_31 : decode cX11_countRunOff 31 = .ok (.bastore, 1) := dw84 (n := 0) (i := 31) kc_cX11_countRunOff_0 (by decide +kernel)
theorem dX11_countRunOff_32 : decode cX11_countRunOff 32 = .ok (.aload_n 0, 1) := dw42 (n := 32) (i := 0) kc_cX11_countRunOff_1 (by decide +kernel)
theorem dX11_countRunOff_33 : decode cX11_countRunOff 33 = .ok (.getfield 117, 3) := dw180 (n := 32) (i := 1) (a := 0) (b := 117) kc_cX11_countRunOff_1 (by decide +kernel) (by decide)
theorem dX11_countRunOff_36 : decode cX11_countRunOff 36 = .ok (.iload_n 1, 1) := dw27 (n := 32) (i := 4) kc_cX11_countRunOff_1 (by decide +kernel)
theorem dX11_countRunOff_37 : decode cX11_countRunOff 37 = .ok (.iload_n 2, 1) := dw28 (n := 32) (i := 5) kc_cX11_countRunOff_1 (by decide +kernel)
theorem dX11_countRunOff_38 : decode cX11_countRunOff 38 = .ok (.iastore, 1) := dw79 (n := 32) (i := 6) kc_cX11_countRunOff_1 (by decide +kernel)
theorem dX11_countRunOff_39 : decode cX11_countRunOff 39 = .ok (.iinc 1 1, 3) := by decide +kernel
theorem dX11_countRunOff_42 : decode cX11_countRunOff 42 = .ok (.goto (-40), 3) := dw167 (n := 32) (i := 10) (a := 255) (b := 216) kc_cX11_countRunOff_1 (by decide +kernel) (by decide)
set_option maxHeartbeats 4000000 in
set_option maxRecDepth 100000 in
theorem s_X11_countRunOff (l : Launch) (D : va_G) (ad : Nat → Nat) (cs : Nat → ClassId) (M : MI) (L : ML)  (hI : IR M) (hD : DP (vR M)) (hNI0 : NIn (M 282) (M 258 2).toInt) (hW : WT L) (hg0 : (M 258 29).toInt = 0) (hm0 : (M 258 31).toInt = 0) (hC : 1 ≤ cI (M 282) (M 258 2).toNatClampNeg) (hs1 : 1 ≤ (M 258 28).toInt) : Cv l yX11_countRunOff wsX11_countRunOff ({ frames := 4, cells := 0, slots := 0, locals := 103 }) D ad cs [.ref (ad 258)] M L (fun M1 L1 => (True) ∧ IR M1 ∧ (∀ k i, ¬ (k = 258 ∧ i = 25) ∧ ¬ (k = 258 ∧ i = 29) ∧ ¬ (k = 258 ∧ i = 31) ∧ k ≠ 277 ∧ k ≠ 278 ∧ k ≠ 279 ∧ k ≠ 282 ∧ k ≠ 294 → M1 k i = M k i) ∧ ∀ k i, ¬ (k = 258 ∧ i = 23) ∧ ¬ (k = 258 ∧ i = 24) ∧ k ≠ 284 ∧ k ≠ 285 ∧ k ≠ 280 ∧ k ≠ 281 → L1 k i = L k i) := by
  refine enter_v RX11 rfl [(0, .ref (ad 258))] rfl (Nat.le_of_ble_eq_true rfl) (by decide +kernel) rfl ?_
  intro p e s m below meth c C hr
  have hF : ∀ k i, ¬ (k = 258 ∧ i = 25) ∧ ¬ (k = 258 ∧ i = 29) ∧ ¬ (k = 258 ∧ i = 31) ∧ k ≠ 277 ∧ k ≠ 278 ∧ k ≠ 279 ∧ k ≠ 282 ∧ k ≠ 294 → M k i = M k i := fun _ _ _ => rfl
  have hG : ∀ k i, ¬ (k = 258 ∧ i = 23) ∧ ¬ (k = 258 ∧ i = 24) ∧ k ≠ 284 ∧ k ≠ 285 ∧ k ≠ 280 ∧ k ≠ 281 → L k i = L k i := fun _ _ _ => rfl
  obtain ⟨ca, cb⟩ := (show rg 0 10 (M 258 2) from hI 258 2)
  have n02 := ixn ca
  obtain ⟨sa, sb⟩ := (show rg 0 30 (M 258 28) from hI 258 28)
  have hle := cI_le (M 282) (M 258 2).toNatClampNeg
  have k25 : M 258 25 = M 258 25 := rfl
  have k29 : M 258 29 = M 258 29 := rfl
  have k31 : M 258 31 = M 258 31 := rfl
  have l23 : L 258 23 = L 258 23 := rfl
  have l24 : L 258 24 = L 258 24 := rfl
  have p280 : L 280 = L 280 := rfl
  have p281 : L 281 = L 281 := rfl
  have p284 : L 284 = L 284 := rfl
  have p285 : L 285 = L 285 := rfl
  have q277 : M 277 = M 277 := rfl
  have q278 : M 278 = M 278 := rfl
  have q279 : M 279 = M 279 := rfl
  have q282 : M 282 = M 282 := rfl
  have q294 : M 294 = M 294 := rfl
  refine g_iconst C 0 dX11_countRunOff_0 (by decide) ?_
  refine g_istore_n C [(1, .int 0), (0, .ref (ad 258))] dX11_countRunOff_1 (by decide) rfl ?_
  have zy1 : (0 : Int32).toInt = 0 := by decide
  refine g_loop (α := Int32 × MI × ML) (fun a => cI (a.2.1 282) (M 258 2).toNatClampNeg) (fun a => (0 ≤ a.1.toInt) ∧ (a.1.toInt + (cI (a.2.1 282) (M 258 2).toNatClampNeg : Int) ≤ 10) ∧ (1 ≤ cI (a.2.1 282) (M 258 2).toNatClampNeg) ∧ ((a.2.1 258 31).toInt = a.1.toInt) ∧ ((a.2.1 258 29).toInt = 0) ∧ (NIn (a.2.1 282) (M 258 2).toInt) ∧ IR a.2.1 ∧ (∀ k i, ¬ (k = 258 ∧ i = 25) ∧ ¬ (k = 258 ∧ i = 29) ∧ ¬ (k = 258 ∧ i = 31) ∧ k ≠ 277 ∧ k ≠ 278 ∧ k ≠ 279 ∧ k ≠ 282 ∧ k ≠ 294 → a.2.1 k i = M k i) ∧ (∀ k i, ¬ (k = 258 ∧ i = 23) ∧ ¬ (k = 258 ∧ i = 24) ∧ k ≠ 284 ∧ k ≠ 285 ∧ k ≠ 280 ∧ k ≠ 281 → a.2.2 k i = L k i)) (fun a => a.2.1) (fun a => a.2.2) (fun a => [(1, .int a.1), (0, .ref (ad 258))]) ((0 : Int32), M, L) ⟨by show 0 ≤ (0 : Int32).toInt; omega, by show (0 : Int32).toInt + (cI (M 282) (M 258 2).toNatClampNeg : Int) ≤ 10; omega, by show 1 ≤ cI (M 282) (M 258 2).toNatClampNeg; omega, by show (M 258 31).toInt = (0 : Int32).toInt; omega, by show (M 258 29).toInt = 0; omega, by show NIn (M 282) (M 258 2).toInt; exact hNI0, hI, hF, hG⟩ rfl rfl rfl ?_
  rintro ⟨x1_2, M_2, L_2⟩ ⟨j2_0, j2_1, j2_2, j2_3, j2_4, j2_5, hI, hF, hG⟩ ih_2
  dsimp only at j2_0 j2_1 j2_2 j2_3 j2_4 j2_5 hI hF hG ih_2 ⊢
  have k25 : M_2 258 25 = M_2 258 25 := rfl
  have k29 : M_2 258 29 = M_2 258 29 := rfl
  have k31 : M_2 258 31 = M_2 258 31 := rfl
  have l23 : L_2 258 23 = L_2 258 23 := rfl
  have l24 : L_2 258 24 = L_2 258 24 := rfl
  have p280 : L_2 280 = L_2 280 := rfl
  have p281 : L_2 281 = L_2 281 := rfl
  have p284 : L_2 284 = L_2 284 := rfl
  have p285 : L_2 285 = L_2 285 := rfl
  have q277 : M_2 277 = M_2 277 := rfl
  have q278 : M_2 278 = M_2 278 := rfl
  have q279 : M_2 279 = M_2 279 := rfl
  have q282 : M_2 282 = M_2 282 := rfl
  have q294 : M_2 294 = M_2 294 := rfl
  have hNI := j2_5
  refine g_aload_n C 1 dX11_countRunOff_2 rfl ?_
  refine g_callVi C (n := 0) (As := []) (st := []) (s_X11_inMany l D ad cs _ _  hI ) gX11_countRunOff_X11_inMany rfl rfl rfl (by decide +kernel) ⟨Nat.le_of_ble_eq_true rfl, Nat.le_of_ble_eq_true rfl⟩ rfl (Nat.le_of_ble_eq_true rfl) ⟨Nat.zero_le _, Nat.zero_le _⟩ (by decide) (ce_model ad cs _ _) rfl rfl dX11_countRunOff_3 (fun r2 M3 L4 hr2 => ?_)
  obtain ⟨hq1, hq2, hr2⟩ := hr2
  obtain rfl := hq1.symm
  obtain rfl := hq2.symm
  have tin := hr2
  rw [show (M_2 258 2).toNatClampNeg = (M 258 2).toNatClampNeg from congrArg Int32.toNatClampNeg (hF 258 2 (by omega))] at tin
  refine g_iconst C 1 dX11_countRunOff_6 (by decide) ?_
  refine g_icmp_le C 45 dX11_countRunOff_7 (by decide) (fun c5 => ?_) (fun c5 => ?_)
  ·
    have f6 := fle rfl (by decide : (1 : Int32).toInt = 1) c5
    refine g_aload_n C 1 dX11_countRunOff_45 rfl ?_
    refine g_callVv C (n := 0) (As := []) (st := []) (s_X11_tallyFirsts l D ad cs _ _  hI (fun i hi => by rw [hG 286 i (by omega), hG 287 i (by omega)]; exact hW i hi)) gX11_countRunOff_X11_tallyFirsts rfl rfl rfl (by decide +kernel) ⟨Nat.le_of_ble_eq_true rfl, Nat.le_of_ble_eq_true rfl⟩ rfl (Nat.le_of_ble_eq_true rfl) ⟨Nat.zero_le _, Nat.zero_le _⟩ (by decide) (ce_model ad cs _ _) rfl rfl dX11_countRunOff_46 (fun M8 L9 hr7 => ?_)
    obtain ⟨hr7, hI, hFr7, hGr7⟩ := hr7
    have hF : ∀ k i, ¬ (k = 258 ∧ i = 25) ∧ ¬ (k = 258 ∧ i = 29) ∧ ¬ (k = 258 ∧ i = 31) ∧ k ≠ 277 ∧ k ≠ 278 ∧ k ≠ 279 ∧ k ≠ 282 ∧ k ≠ 294 → M8 k i = M k i := fun k i hk => by (rw [hFr7 k i (by omega)]; try exact hF k i hk)
    have hG : ∀ k i, ¬ (k = 258 ∧ i = 23) ∧ ¬ (k = 258 ∧ i = 24) ∧ k ≠ 284 ∧ k ≠ 285 ∧ k ≠ 280 ∧ k ≠ 281 → L9 k i = L k i := fun k i hk => by (rw [hGr7 k i (by omega)]; try exact hG k i hk)
    have k29 : M8 258 29 = M_2 258 29 := (hFr7 258 29 (by omega)).trans k29
    have k31 : M8 258 31 = M_2 258 31 := (hFr7 258 31 (by omega)).trans k31
    have k25 : M8 258 25 = M8 258 25 := rfl
    have kt25 := congrArg Int32.toInt k25
    have kt29 := congrArg Int32.toInt k29
    have kt31 := congrArg Int32.toInt k31
    have l23 : L9 258 23 = L9 258 23 := rfl
    have l24 : L9 258 24 = L9 258 24 := rfl
    have p280 : L9 280 = L_2 280 := (funext (fun i => hGr7 280 i (by omega))).trans p280
    have p281 : L9 281 = L_2 281 := (funext (fun i => hGr7 281 i (by omega))).trans p281
    have p284 : L9 284 = L9 284 := rfl
    have p285 : L9 285 = L9 285 := rfl
    have q277 : M8 277 = M_2 277 := (funext (fun i => hFr7 277 i (by omega))).trans q277
    have q278 : M8 278 = M_2 278 := (funext (fun i => hFr7 278 i (by omega))).trans q278
    have q279 : M8 279 = M_2 279 := (funext (fun i => hFr7 279 i (by omega))).trans q279
    have q282 : M8 282 = M_2 282 := (funext (fun i => hFr7 282 i (by omega))).trans q282
    have q294 : M8 294 = M_2 294 := (funext (fun i => hFr7 294 i (by omega))).trans q294
    refine g_aload_n C 1 dX11_countRunOff_49 rfl ?_
    refine g_callVi C (n := 0) (As := []) (st := []) (s_X11_greatest l D ad cs _ _  hI (DP_k hD (hF 258 2 (by omega)) (fun i => hF 260 i (by omega)))) gX11_countRunOff_X11_greatest rfl rfl rfl (by decide +kernel) ⟨Nat.le_of_ble_eq_true rfl, Nat.le_of_ble_eq_true rfl⟩ rfl (Nat.le_of_ble_eq_true rfl) ⟨Nat.zero_le _, Nat.zero_le _⟩ (by decide) (ce_model ad cs _ _) rfl rfl dX11_countRunOff_50 (fun r10 M11 L12 hr10 => ?_)
    obtain ⟨hq1, hq2, hr10⟩ := hr10
    obtain rfl := hq1.symm
    obtain rfl := hq2.symm
    refine g_istore_n C [(2, .int r10), (1, .int x1_2), (0, .ref (ad 258))] dX11_countRunOff_53 (by decide) rfl ?_
    refine g_aload_n C 2 dX11_countRunOff_54 rfl ?_
    refine g_iconst C 1 dX11_countRunOff_55 (by decide) ?_
    refine g_iload_n C 0 dX11_countRunOff_56 rfl ?_
    refine g_callVv C (n := 2) (As := [.int 1, .int r10]) (st := []) (s_X11_happens l D ad cs _ _ 1 r10 hI (by omega)) gX11_countRunOff_X11_happens rfl rfl rfl (by decide +kernel) ⟨Nat.le_of_ble_eq_true rfl, Nat.le_of_ble_eq_true rfl⟩ rfl (Nat.le_of_ble_eq_true rfl) ⟨Nat.zero_le _, Nat.zero_le _⟩ (by decide) (ce_model ad cs _ _) rfl rfl dX11_countRunOff_57 (fun M14 L15 hr13 => ?_)
    obtain ⟨hr13, hI, hFr13, hGr13⟩ := hr13
    have hF : ∀ k i, ¬ (k = 258 ∧ i = 25) ∧ ¬ (k = 258 ∧ i = 29) ∧ ¬ (k = 258 ∧ i = 31) ∧ k ≠ 277 ∧ k ≠ 278 ∧ k ≠ 279 ∧ k ≠ 282 ∧ k ≠ 294 → M14 k i = M k i := fun k i hk => by (rw [hFr13 k i (by omega)]; try exact hF k i hk)
    have hG : ∀ k i, ¬ (k = 258 ∧ i = 23) ∧ ¬ (k = 258 ∧ i = 24) ∧ k ≠ 284 ∧ k ≠ 285 ∧ k ≠ 280 ∧ k ≠ 281 → L15 k i = L k i := fun k i hk => by (rw [hGr13 k i (by omega)]; try exact hG k i hk)
    have k25 : M14 258 25 = M8 258 25 := (hFr13 258 25 (by omega)).trans k25
    have k29 : M14 258 29 = M_2 258 29 := (hFr13 258 29 (by omega)).trans k29
    have k31 : M14 258 31 = M14 258 31 := rfl
    have kt25 := congrArg Int32.toInt k25
    have kt29 := congrArg Int32.toInt k29
    have kt31 := congrArg Int32.toInt k31
    have l23 : L15 258 23 = L9 258 23 := (hGr13 258 23 (by omega)).trans l23
    have l24 : L15 258 24 = L9 258 24 := (hGr13 258 24 (by omega)).trans l24
    have p280 : L15 280 = L15 280 := rfl
    have p281 : L15 281 = L15 281 := rfl
    have p284 : L15 284 = L9 284 := (funext (fun i => hGr13 284 i (by omega))).trans p284
    have p285 : L15 285 = L9 285 := (funext (fun i => hGr13 285 i (by omega))).trans p285
    have q277 : M14 277 = M_2 277 := (funext (fun i => hFr13 277 i (by omega))).trans q277
    have q278 : M14 278 = M14 278 := rfl
    have q279 : M14 279 = M14 279 := rfl
    have q282 : M14 282 = M_2 282 := (funext (fun i => hFr13 282 i (by omega))).trans q282
    have q294 : M14 294 = M_2 294 := (funext (fun i => hFr13 294 i (by omega))).trans q294
    have ur13 := hr13
    refine g_aload_n C 2 dX11_countRunOff_60 rfl ?_
    refine g_iload_n C 0 dX11_countRunOff_61 rfl ?_
    refine g_callVv C (n := 1) (As := [.int r10]) (st := []) (s_X11_gives l D ad cs _ _ r10 hI (by omega)) gX11_countRunOff_X11_gives rfl rfl rfl (by decide +kernel) ⟨Nat.le_of_ble_eq_true rfl, Nat.le_of_ble_eq_true rfl⟩ rfl (Nat.le_of_ble_eq_true rfl) ⟨Nat.zero_le _, Nat.zero_le _⟩ (by decide) (ce_model ad cs _ _) rfl rfl dX11_countRunOff_62 (fun M17 L18 hr16 => ?_)
    obtain ⟨hr16, hI, hFr16, hGr16⟩ := hr16
    have hF : ∀ k i, ¬ (k = 258 ∧ i = 25) ∧ ¬ (k = 258 ∧ i = 29) ∧ ¬ (k = 258 ∧ i = 31) ∧ k ≠ 277 ∧ k ≠ 278 ∧ k ≠ 279 ∧ k ≠ 282 ∧ k ≠ 294 → M17 k i = M k i := fun k i hk => by (rw [hFr16 k i (by omega)]; try exact hF k i hk)
    have hG : ∀ k i, ¬ (k = 258 ∧ i = 23) ∧ ¬ (k = 258 ∧ i = 24) ∧ k ≠ 284 ∧ k ≠ 285 ∧ k ≠ 280 ∧ k ≠ 281 → L18 k i = L k i := fun k i hk => by (rw [hGr16 k i trivial]; try exact hG k i hk)
    have k25 : M17 258 25 = M8 258 25 := (hFr16 258 25 (by omega)).trans k25
    have k31 : M17 258 31 = M14 258 31 := (hFr16 258 31 (by omega)).trans k31
    have k29 : M17 258 29 = M17 258 29 := rfl
    have kt25 := congrArg Int32.toInt k25
    have kt29 := congrArg Int32.toInt k29
    have kt31 := congrArg Int32.toInt k31
    have l23 : L18 258 23 = L9 258 23 := (hGr16 258 23 trivial).trans l23
    have l24 : L18 258 24 = L9 258 24 := (hGr16 258 24 trivial).trans l24
    have p280 : L18 280 = L15 280 := (funext (fun i => hGr16 280 i trivial)).trans p280
    have p281 : L18 281 = L15 281 := (funext (fun i => hGr16 281 i trivial)).trans p281
    have p284 : L18 284 = L9 284 := (funext (fun i => hGr16 284 i trivial)).trans p284
    have p285 : L18 285 = L9 285 := (funext (fun i => hGr16 285 i trivial)).trans p285
    have q277 : M17 277 = M17 277 := rfl
    have q278 : M17 278 = M14 278 := (funext (fun i => hFr16 278 i (by omega))).trans q278
    have q279 : M17 279 = M14 279 := (funext (fun i => hFr16 279 i (by omega))).trans q279
    have q282 : M17 282 = M_2 282 := (funext (fun i => hFr16 282 i (by omega))).trans q282
    have q294 : M17 294 = M_2 294 := (funext (fun i => hFr16 294 i (by omega))).trans q294
    have ur16 := hr16
    refine g_iload_n C 1 dX11_countRunOff_65 rfl ?_
    refine g_iconst C 1 dX11_countRunOff_66 (by decide) ?_
    refine g_isub C dX11_countRunOff_67 ?_
    refine g_ni (fun v19 ev19 => ?_)
    try have fv19 := fsub rfl (by decide : (1 : Int32).toInt = 1) ev19 (by omega) (by omega)
    refine g_istore_n C [(3, .int v19), (2, .int r10), (1, .int x1_2), (0, .ref (ad 258))] dX11_countRunOff_68 (by decide) rfl ?_
    have k29t := congrArg Int32.toInt k29
    refine g_loop (α := Int32 × MI × ML) (fun a => (a.1.toInt + 1).toNat) (fun a => (-1 ≤ a.1.toInt) ∧ (a.1.toInt ≤ 9) ∧ (0 ≤ (a.2.1 258 29).toInt) ∧ IR a.2.1 ∧ (∀ k i, ¬ (k = 258 ∧ i = 25) ∧ ¬ (k = 258 ∧ i = 29) ∧ ¬ (k = 258 ∧ i = 31) ∧ k ≠ 277 ∧ k ≠ 278 ∧ k ≠ 279 ∧ k ≠ 282 ∧ k ≠ 294 → a.2.1 k i = M k i) ∧ (∀ k i, ¬ (k = 258 ∧ i = 23) ∧ ¬ (k = 258 ∧ i = 24) ∧ k ≠ 284 ∧ k ≠ 285 ∧ k ≠ 280 ∧ k ≠ 281 → a.2.2 k i = L k i)) (fun a => a.2.1) (fun a => a.2.2) (fun a => [(3, .int a.1), (2, .int r10), (1, .int x1_2), (0, .ref (ad 258))]) (v19, M17, L18) ⟨by show -1 ≤ v19.toInt; omega, by show v19.toInt ≤ 9; omega, by show 0 ≤ (M17 258 29).toInt; omega, hI, hF, hG⟩ rfl rfl rfl ?_
    rintro ⟨x3_69, M_69, L_69⟩ ⟨j69_0, j69_1, j69_2, hI, hF, hG⟩ ih_69
    dsimp only at j69_0 j69_1 j69_2 hI hF hG ih_69 ⊢
    have k25 : M_69 258 25 = M_69 258 25 := rfl
    have k29 : M_69 258 29 = M_69 258 29 := rfl
    have k31 : M_69 258 31 = M_69 258 31 := rfl
    have l23 : L_69 258 23 = L_69 258 23 := rfl
    have l24 : L_69 258 24 = L_69 258 24 := rfl
    have p280 : L_69 280 = L_69 280 := rfl
    have p281 : L_69 281 = L_69 281 := rfl
    have p284 : L_69 284 = L_69 284 := rfl
    have p285 : L_69 285 = L_69 285 := rfl
    have q277 : M_69 277 = M_69 277 := rfl
    have q278 : M_69 278 = M_69 278 := rfl
    have q279 : M_69 279 = M_69 279 := rfl
    have q282 : M_69 282 = M_69 282 := rfl
    have q294 : M_69 294 = M_69 294 := rfl
    refine g_iload_n C 0 dX11_countRunOff_69 rfl ?_
    refine g_if_lt C 100 dX11_countRunOff_70 (by decide) (fun c20 => ?_) (fun c20 => ?_)
    ·
      have f21 := fl rfl (by decide : (0 : Int32).toInt = 0) c20
      exact g_vret C hr ⟨trivial, hI, hF, hG⟩ dX11_countRunOff_100
    ·
      have f22 := fnl rfl (by decide : (0 : Int32).toInt = 0) c20
      refine g_aload_n C 3 dX11_countRunOff_73 rfl ?_
      refine g_get C (.int (M_69 258 29)) 29 in_X11_countRunOff_11 (List.mem_of_getElem? (i := 3) rfl) (by decide) (ce_model ad cs _ _) rfl (by decide) rfl rfl dX11_countRunOff_74 ?_
      refine g_ni (fun v23 ev23 => ?_)
      have gv23 : v23 = M_69 258 29 := ev23.trans k29
      have tv23 := congrArg Int32.toInt gv23
      obtain ⟨bv23, dv23⟩ := (show rg 0 30 v23 from (by rw [ev23]; exact hI 258 29))
      refine g_aload_n C 3 dX11_countRunOff_77 rfl ?_
      refine g_get C (.int (M_69 258 28)) 28 in_X11_countRunOff_11 (List.mem_of_getElem? (i := 4) rfl) (by decide) (ce_model ad cs _ _) rfl (by decide) rfl rfl dX11_countRunOff_78 ?_
      refine g_ni (fun v24 ev24 => ?_)
      have gv24 : v24 = M 258 28 := ev24.trans (hF 258 28 (by omega))
      have tv24 := congrArg Int32.toInt gv24
      obtain ⟨bv24, dv24⟩ := (show rg 0 30 v24 from (by rw [ev24]; exact hI 258 28))
      refine g_icmp_ge C 100 dX11_countRunOff_81 (by decide) (fun c25 => ?_) (fun c25 => ?_)
      ·
        have f26 := fle rfl rfl c25
        exact g_vret C hr ⟨trivial, hI, hF, hG⟩ dX11_countRunOff_100
      ·
        have f27 := fnle rfl rfl c25
        refine g_aload_n C 3 dX11_countRunOff_84 rfl ?_
        refine g_aload_n C 3 dX11_countRunOff_85 rfl ?_
        refine g_get C (.ref (ad 294)) 50 in_X11_countRunOff_11 (List.mem_of_getElem? (i := 2) rfl) (by decide) (ce_model ad cs _ _) rfl (by decide) rfl rfl dX11_countRunOff_86 ?_
        refine g_iload_n C 0 dX11_countRunOff_89 rfl ?_
        refine g_iald C (by decide) (ce_m_gone ad cs _ _) (fin' (n := 10) rfl (by omega) (by omega)) dX11_countRunOff_90 ?_
        refine g_ni (fun v28 ev28 => ?_)
        have gv28 : v28 = M_69 294 x3_69.toNatClampNeg := ev28.trans (congrFun q294 _)
        have tv28 := congrArg Int32.toInt gv28
        refine g_callVv C (n := 1) (As := [.int v28]) (st := []) (s_X11_gives l D ad cs _ _ v28 hI (by omega)) gX11_countRunOff_X11_gives rfl rfl rfl (by decide +kernel) ⟨Nat.le_of_ble_eq_true rfl, Nat.le_of_ble_eq_true rfl⟩ rfl (Nat.le_of_ble_eq_true rfl) ⟨Nat.zero_le _, Nat.zero_le _⟩ (by decide) (ce_model ad cs _ _) rfl rfl dX11_countRunOff_91 (fun M30 L31 hr29 => ?_)
        obtain ⟨hr29, hI, hFr29, hGr29⟩ := hr29
        have hF : ∀ k i, ¬ (k = 258 ∧ i = 25) ∧ ¬ (k = 258 ∧ i = 29) ∧ ¬ (k = 258 ∧ i = 31) ∧ k ≠ 277 ∧ k ≠ 278 ∧ k ≠ 279 ∧ k ≠ 282 ∧ k ≠ 294 → M30 k i = M k i := fun k i hk => by (rw [hFr29 k i (by omega)]; try exact hF k i hk)
        have hG : ∀ k i, ¬ (k = 258 ∧ i = 23) ∧ ¬ (k = 258 ∧ i = 24) ∧ k ≠ 284 ∧ k ≠ 285 ∧ k ≠ 280 ∧ k ≠ 281 → L31 k i = L k i := fun k i hk => by (rw [hGr29 k i trivial]; try exact hG k i hk)
        have k25 : M30 258 25 = M_69 258 25 := (hFr29 258 25 (by omega)).trans k25
        have k31 : M30 258 31 = M_69 258 31 := (hFr29 258 31 (by omega)).trans k31
        have k29 : M30 258 29 = M30 258 29 := rfl
        have kt25 := congrArg Int32.toInt k25
        have kt29 := congrArg Int32.toInt k29
        have kt31 := congrArg Int32.toInt k31
        have l23 : L31 258 23 = L_69 258 23 := (hGr29 258 23 trivial).trans l23
        have l24 : L31 258 24 = L_69 258 24 := (hGr29 258 24 trivial).trans l24
        have p280 : L31 280 = L_69 280 := (funext (fun i => hGr29 280 i trivial)).trans p280
        have p281 : L31 281 = L_69 281 := (funext (fun i => hGr29 281 i trivial)).trans p281
        have p284 : L31 284 = L_69 284 := (funext (fun i => hGr29 284 i trivial)).trans p284
        have p285 : L31 285 = L_69 285 := (funext (fun i => hGr29 285 i trivial)).trans p285
        have q277 : M30 277 = M30 277 := rfl
        have q278 : M30 278 = M_69 278 := (funext (fun i => hFr29 278 i (by omega))).trans q278
        have q279 : M30 279 = M_69 279 := (funext (fun i => hFr29 279 i (by omega))).trans q279
        have q282 : M30 282 = M_69 282 := (funext (fun i => hFr29 282 i (by omega))).trans q282
        have q294 : M30 294 = M_69 294 := (funext (fun i => hFr29 294 i (by omega))).trans q294
        have ur29 := hr29
        obtain ⟨v32, ev32⟩ : ∃ y : Int32, y = x3_69 + (-1) := ⟨_, rfl⟩
        try have fv32 := fadd rfl (by decide : ((-1) : Int32).toInt = (-1)) ev32 (by omega) (by omega)
        refine g_iinc C 0 v32 [(3, .int v32), (2, .int r10), (1, .int x1_2), (0, .ref (ad 258))] dX11_countRunOff_94 rfl (by rw [ev32]; rfl) (by decide) rfl ?_
        refine g_goto C 69 dX11_countRunOff_97 (by decide) ?_
        have k29t := congrArg Int32.toInt k29
        exact ih_69 (v32, M30, L31) ⟨by show -1 ≤ v32.toInt; omega, by show v32.toInt ≤ 9; omega, by show 0 ≤ (M30 258 29).toInt; omega, hI, hF, hG⟩ (by show (v32.toInt + 1).toNat < (x3_69.toInt + 1).toNat; omega)
  ·
    have f33 := fnle rfl (by decide : (1 : Int32).toInt = 1) c5
    refine g_aload_n C 1 dX11_countRunOff_10 rfl ?_
    refine g_callVv C (n := 0) (As := []) (st := []) (s_X11_tallyFirsts l D ad cs _ _  hI (fun i hi => by rw [hG 286 i (by omega), hG 287 i (by omega)]; exact hW i hi)) gX11_countRunOff_X11_tallyFirsts rfl rfl rfl (by decide +kernel) ⟨Nat.le_of_ble_eq_true rfl, Nat.le_of_ble_eq_true rfl⟩ rfl (Nat.le_of_ble_eq_true rfl) ⟨Nat.zero_le _, Nat.zero_le _⟩ (by decide) (ce_model ad cs _ _) rfl rfl dX11_countRunOff_11 (fun M35 L36 hr34 => ?_)
    obtain ⟨hr34, hI, hFr34, hGr34⟩ := hr34
    have hF : ∀ k i, ¬ (k = 258 ∧ i = 25) ∧ ¬ (k = 258 ∧ i = 29) ∧ ¬ (k = 258 ∧ i = 31) ∧ k ≠ 277 ∧ k ≠ 278 ∧ k ≠ 279 ∧ k ≠ 282 ∧ k ≠ 294 → M35 k i = M k i := fun k i hk => by (rw [hFr34 k i (by omega)]; try exact hF k i hk)
    have hG : ∀ k i, ¬ (k = 258 ∧ i = 23) ∧ ¬ (k = 258 ∧ i = 24) ∧ k ≠ 284 ∧ k ≠ 285 ∧ k ≠ 280 ∧ k ≠ 281 → L36 k i = L k i := fun k i hk => by (rw [hGr34 k i (by omega)]; try exact hG k i hk)
    have k29 : M35 258 29 = M_2 258 29 := (hFr34 258 29 (by omega)).trans k29
    have k31 : M35 258 31 = M_2 258 31 := (hFr34 258 31 (by omega)).trans k31
    have k25 : M35 258 25 = M35 258 25 := rfl
    have kt25 := congrArg Int32.toInt k25
    have kt29 := congrArg Int32.toInt k29
    have kt31 := congrArg Int32.toInt k31
    have l23 : L36 258 23 = L36 258 23 := rfl
    have l24 : L36 258 24 = L36 258 24 := rfl
    have p280 : L36 280 = L_2 280 := (funext (fun i => hGr34 280 i (by omega))).trans p280
    have p281 : L36 281 = L_2 281 := (funext (fun i => hGr34 281 i (by omega))).trans p281
    have p284 : L36 284 = L36 284 := rfl
    have p285 : L36 285 = L36 285 := rfl
    have q277 : M35 277 = M_2 277 := (funext (fun i => hFr34 277 i (by omega))).trans q277
    have q278 : M35 278 = M_2 278 := (funext (fun i => hFr34 278 i (by omega))).trans q278
    have q279 : M35 279 = M_2 279 := (funext (fun i => hFr34 279 i (by omega))).trans q279
    have q282 : M35 282 = M_2 282 := (funext (fun i => hFr34 282 i (by omega))).trans q282
    have q294 : M35 294 = M_2 294 := (funext (fun i => hFr34 294 i (by omega))).trans q294
    refine g_aload_n C 1 dX11_countRunOff_14 rfl ?_
    refine g_callVi C (n := 0) (As := []) (st := []) (s_X11_least l D ad cs _ _  hI (DP_k hD (hF 258 2 (by omega)) (fun i => hF 260 i (by omega)))) gX11_countRunOff_X11_least rfl rfl rfl (by decide +kernel) ⟨Nat.le_of_ble_eq_true rfl, Nat.le_of_ble_eq_true rfl⟩ rfl (Nat.le_of_ble_eq_true rfl) ⟨Nat.zero_le _, Nat.zero_le _⟩ (by decide) (ce_model ad cs _ _) rfl rfl dX11_countRunOff_15 (fun r37 M38 L39 hr37 => ?_)
    obtain ⟨hq1, hq2, hr37⟩ := hr37
    obtain rfl := hq1.symm
    obtain rfl := hq2.symm
    obtain ⟨br37, ir37, xr37⟩ := hr37
    have w9 : (vR M35 0 0).toInt = (M 258 2).toInt := congrArg Int32.toInt (hF 258 2 (by omega))
    have hc282 : M35 282 = M_2 282 := q282
    have hpos : 0 < cI (M_2 282) (M 258 2).toNatClampNeg := by omega
    obtain ⟨c9, hc9, hi9⟩ := cI_ex _ hpos
    have hne9 := xr37 ⟨c9, by omega, by rw [hc282]; exact hi9⟩
    have nr9 := ixn (x := r37) (by omega)
    have hin9 := ir37 (by omega)
    rw [hc282] at hin9
    have hlt9 := hNI r37.toNatClampNeg (by omega) hin9
    refine g_istore_n C [(2, .int r37), (1, .int x1_2), (0, .ref (ad 258))] dX11_countRunOff_18 (by decide) rfl ?_
    refine g_aload_n C 2 dX11_countRunOff_19 rfl ?_
    refine g_iconst C 2 dX11_countRunOff_20 (by decide) ?_
    refine g_iload_n C 0 dX11_countRunOff_21 rfl ?_
    refine g_callVv C (n := 2) (As := [.int 2, .int r37]) (st := []) (s_X11_happens l D ad cs _ _ 2 r37 hI (by omega)) gX11_countRunOff_X11_happens rfl rfl rfl (by decide +kernel) ⟨Nat.le_of_ble_eq_true rfl, Nat.le_of_ble_eq_true rfl⟩ rfl (Nat.le_of_ble_eq_true rfl) ⟨Nat.zero_le _, Nat.zero_le _⟩ (by decide) (ce_model ad cs _ _) rfl rfl dX11_countRunOff_22 (fun M41 L42 hr40 => ?_)
    obtain ⟨hr40, hI, hFr40, hGr40⟩ := hr40
    have hF : ∀ k i, ¬ (k = 258 ∧ i = 25) ∧ ¬ (k = 258 ∧ i = 29) ∧ ¬ (k = 258 ∧ i = 31) ∧ k ≠ 277 ∧ k ≠ 278 ∧ k ≠ 279 ∧ k ≠ 282 ∧ k ≠ 294 → M41 k i = M k i := fun k i hk => by (rw [hFr40 k i (by omega)]; try exact hF k i hk)
    have hG : ∀ k i, ¬ (k = 258 ∧ i = 23) ∧ ¬ (k = 258 ∧ i = 24) ∧ k ≠ 284 ∧ k ≠ 285 ∧ k ≠ 280 ∧ k ≠ 281 → L42 k i = L k i := fun k i hk => by (rw [hGr40 k i (by omega)]; try exact hG k i hk)
    have k25 : M41 258 25 = M35 258 25 := (hFr40 258 25 (by omega)).trans k25
    have k29 : M41 258 29 = M_2 258 29 := (hFr40 258 29 (by omega)).trans k29
    have k31 : M41 258 31 = M41 258 31 := rfl
    have kt25 := congrArg Int32.toInt k25
    have kt29 := congrArg Int32.toInt k29
    have kt31 := congrArg Int32.toInt k31
    have l23 : L42 258 23 = L36 258 23 := (hGr40 258 23 (by omega)).trans l23
    have l24 : L42 258 24 = L36 258 24 := (hGr40 258 24 (by omega)).trans l24
    have p280 : L42 280 = L42 280 := rfl
    have p281 : L42 281 = L42 281 := rfl
    have p284 : L42 284 = L36 284 := (funext (fun i => hGr40 284 i (by omega))).trans p284
    have p285 : L42 285 = L36 285 := (funext (fun i => hGr40 285 i (by omega))).trans p285
    have q277 : M41 277 = M_2 277 := (funext (fun i => hFr40 277 i (by omega))).trans q277
    have q278 : M41 278 = M41 278 := rfl
    have q279 : M41 279 = M41 279 := rfl
    have q282 : M41 282 = M_2 282 := (funext (fun i => hFr40 282 i (by omega))).trans q282
    have q294 : M41 294 = M_2 294 := (funext (fun i => hFr40 294 i (by omega))).trans q294
    have ur40 := hr40
    refine g_aload_n C 2 dX11_countRunOff_25 rfl ?_
    refine g_get C (.ref (ad 282)) 36 in_X11_countRunOff_11 (List.mem_of_getElem? (i := 1) rfl) (by decide) (ce_model ad cs _ _) rfl (by decide) rfl rfl dX11_countRunOff_26 ?_
    refine g_iload_n C 0 dX11_countRunOff_29 rfl ?_
    refine g_iconst C 0 dX11_countRunOff_30 (by decide) ?_
    refine g_zast C (by decide) (ce_m_isIn ad cs _ _) (by rw [sI_k]; rfl) (fin' (n := 10) rfl (by omega) (by omega)) dX11_countRunOff_31 ?_
    refine g_nm (fun M43 hM43 => ?_)
    have zy44 : (0 : Int32).toInt = 0 := by decide
    have hI : IR M43 := by rw [hM43]; exact hI.st (show bR 282 _ _ from trivial)
    have hF : ∀ k i, ¬ (k = 258 ∧ i = 25) ∧ ¬ (k = 258 ∧ i = 29) ∧ ¬ (k = 258 ∧ i = 31) ∧ k ≠ 277 ∧ k ≠ 278 ∧ k ≠ 279 ∧ k ≠ 282 ∧ k ≠ 294 → M43 k i = M k i := fun k i hk => by (rw [hM43, sI_at, if_neg (by omega)]; try exact hF k i hk)
    have k25 : M43 258 25 = M35 258 25 := by rw [hM43, sI_n _ _ _ (by decide)]; try exact k25
    have k29 : M43 258 29 = M_2 258 29 := by rw [hM43, sI_n _ _ _ (by decide)]; try exact k29
    have k31 : M43 258 31 = M41 258 31 := by rw [hM43, sI_n _ _ _ (by decide)]; try exact k31
    have q277 : M43 277 = M_2 277 := by rw [hM43, sI_n _ _ _ (by decide)]; try exact q277
    have q278 : M43 278 = M41 278 := by rw [hM43, sI_n _ _ _ (by decide)]; try exact q278
    have q279 : M43 279 = M41 279 := by rw [hM43, sI_n _ _ _ (by decide)]; try exact q279
    have q294 : M43 294 = M_2 294 := by rw [hM43, sI_n _ _ _ (by decide)]; try exact q294
    have h282 : M43 282 = upd (M_2 282) r37.toNatClampNeg 0 := by rw [hM43, sI_k, q282]; rfl
    have hcu := cI_upd (T := M_2 282) (b := r37.toNatClampNeg) hin9 (M 258 2).toNatClampNeg
    rw [if_pos (by omega), ← h282] at hcu
    have hNI2 : NIn (M43 282) (M 258 2).toInt := by rw [h282]; exact NIn_upd hNI _
    have q282 : M43 282 = M43 282 := rfl
    refine g_aload_n C 2 dX11_countRunOff_32 rfl ?_
    refine g_get C (.ref (ad 294)) 50 in_X11_countRunOff_11 (List.mem_of_getElem? (i := 2) rfl) (by decide) (ce_model ad cs _ _) rfl (by decide) rfl rfl dX11_countRunOff_33 ?_
    refine g_iload_n C 1 dX11_countRunOff_36 rfl ?_
    refine g_iload_n C 0 dX11_countRunOff_37 rfl ?_
    refine g_iast C (by decide) (ce_m_gone ad cs _ _) (by rw [sI_k]; rfl) (fin' (n := 10) rfl (by omega) (by omega)) dX11_countRunOff_38 ?_
    refine g_nm (fun M45 hM45 => ?_)
    have hI : IR M45 := by rw [hM45]; exact hI.st (show bR 294 _ _ from trivial)
    have hF : ∀ k i, ¬ (k = 258 ∧ i = 25) ∧ ¬ (k = 258 ∧ i = 29) ∧ ¬ (k = 258 ∧ i = 31) ∧ k ≠ 277 ∧ k ≠ 278 ∧ k ≠ 279 ∧ k ≠ 282 ∧ k ≠ 294 → M45 k i = M k i := fun k i hk => by (rw [hM45, sI_at, if_neg (by omega)]; try exact hF k i hk)
    have k25 : M45 258 25 = M35 258 25 := by rw [hM45, sI_n _ _ _ (by decide)]; try exact k25
    have k29 : M45 258 29 = M_2 258 29 := by rw [hM45, sI_n _ _ _ (by decide)]; try exact k29
    have k31 : M45 258 31 = M41 258 31 := by rw [hM45, sI_n _ _ _ (by decide)]; try exact k31
    have q277 : M45 277 = M_2 277 := by rw [hM45, sI_n _ _ _ (by decide)]; try exact q277
    have q278 : M45 278 = M41 278 := by rw [hM45, sI_n _ _ _ (by decide)]; try exact q278
    have q279 : M45 279 = M41 279 := by rw [hM45, sI_n _ _ _ (by decide)]; try exact q279
    have q282 : M45 282 = M43 282 := by rw [hM45, sI_n _ _ _ (by decide)]; try exact q282
    obtain ⟨v46, ev46⟩ : ∃ y : Int32, y = x1_2 + 1 := ⟨_, rfl⟩
    try have fv46 := fadd rfl (by decide : (1 : Int32).toInt = 1) ev46 (by omega) (by omega)
    refine g_iinc C 1 v46 [(1, .int v46), (2, .int r37), (0, .ref (ad 258))] dX11_countRunOff_39 rfl (by rw [ev46]; rfl) (by decide) rfl ?_
    refine g_goto C 2 dX11_countRunOff_42 (by decide) ?_
    refine g_lv [0, 2] [(1, .int v46), (0, .ref (ad 258))] rfl ?_
    have k29t := congrArg Int32.toInt k29
    have k31t := congrArg Int32.toInt k31
    have e282 : M45 282 = M43 282 := q282
    exact ih_2 (v46, M45, L42) ⟨by show 0 ≤ v46.toInt; omega, by show v46.toInt + (cI (M45 282) (M 258 2).toNatClampNeg : Int) ≤ 10; rw [e282]; omega, by show 1 ≤ cI (M45 282) (M 258 2).toNatClampNeg; rw [e282]; omega, by show (M45 258 31).toInt = v46.toInt; omega, by show (M45 258 29).toInt = 0; omega, by show NIn (M45 282) (M 258 2).toInt; rw [e282]; exact hNI2, hI, hF, hG⟩ (by show cI (M45 282) (M 258 2).toNatClampNeg < cI (M_2 282) (M 258 2).toNatClampNeg; rw [e282]; omega)
