theorem dX11_noTallies_0 : decode cX11_noTallies 0 = .ok (.iconst 0, 1) := dw3 (n := 0) (i := 0) kc_cX11_noTallies_0 (by decide +kernel)
theorem dX11_noTallies_1 : decode cX11_noTallies 1 = .ok (.istore_n 1, 1) := dw60 (n := 0) (i := 1) kc_cX11_noTallies_0 (by decide +kernel)
theorem dX11_noTallies_2 : decode cX11_noTallies 2 = .ok (.iload_n 1, 1) := dw27 (n := 0) (i := 2) kc_cX11_noTallies_0 (by decide +kernel)
theorem dX11_noTallies_3 : decode cX11_noTallies 3 = .ok (.bipush 10, 2) := dw16 (n := 0) (i := 3) (a := 10) kc_cX11_noTallies_0 (by decide +kernel) (by decide)
theorem dX11_noTallies_5 : decode cX11_noTallies 5 = .ok (.if_icmp .ge 23, 3) := dw162 (n := 0) (i := 5) (a := 0) (b := 23) kc_cX11_noTallies_0 (by decide +kernel) (by decide)
theorem dX11_noTallies_28 : decode cX11_noTallies 28 = .ok (.return_, 1) := dw177 (n := 0) (i := 28) kc_cX11_noTallies_0 (by decide +kernel)
theorem dX11_noTallies_8 : decode cX11_noTallies 8 = .ok (.aload_n 0, 1) := dw42 (n := 0) (i := 8) kc_cX11_noTallies_0 (by decide +kernel)
theorem dX11_noTallies_9 : decode cX11_noTallies 9 = .ok (.getfield 87, 3) := dw180 (n := 0) (i := 9) (a := 0) (b := 87) kc_cX11_noTallies_0 (by decide +kernel) (by decide)
theorem in_X11_noTallies_11 : ∀ w ∈ u_ws RX11 TX11 53, w ∈ wsX11_noTallies := fun _ h => List.mem_cons_of_mem _ (List.mem_append_right _ h)
theorem dX11_noTallies_12 : decode cX11_noTallies 12 = .ok (.iload_n 1, 1) := dw27 (n := 0) (i := 12) kc_cX11_noTallies_0 (by decide +kernel)
theorem dX11_noTallies_13 : decode cX11_noTallies 13 = .ok (.lconst 0, 1) := dw9 (n := 0) (i := 13) kc_cX11_noTallies_0 (by decide +kernel)
theorem dX11_noTallies_14 : decode cX11_noTallies 14 = .ok (.lastore, 1) := dw80 (n := 0) (i := 14) kc_cX11_noTallies_0 (by decide +kernel)
theorem dX11_noTallies_15 : decode cX11_noTallies 15 = .ok (.aload_n 0, 1) := dw42 (n := 0) (i := 15) kc_cX11_noTallies_0 (by decide +kernel)
theorem dX11_noTallies_16 : decode cX11_noTallies 16 = .ok (.getfield 90, 3) := dw180 (n := 0) (i := 16) (a := 0) (b := 90) kc_cX11_noTallies_0 (by decide +kernel) (by decide)
theorem dX11_noTallies_19 : decode cX11_noTallies 19 = .ok (.iload_n 1, 1) := dw27 (n := 0) (i := 19) kc_cX11_noTallies_0 (by decide +kernel)
theorem dX11_noTallies_20 : decode cX11_noTallies 20 = .ok (.lconst 1, 1) := dw10 (n := 0) (i := 20) kc_cX11_noTallies_0 (by decide +kernel)
theorem dX11_noTallies_21 : decode cX11_noTallies 21 = .ok (.lastore, 1) := dw80 (n := 0) (i := 21) kc_cX11_noTallies_0 (by decide +kernel)
theorem dX11_noTallies_22 : decode cX11_noTallies 22 = .ok (.iinc 1 1, 3) := by decide +kernel
theorem dX11_noTallies_25 : decode cX11_noTallies 25 = .ok (.goto (-23), 3) := dw167 (n := 0) (i := 25) (a := 255) (b := 233) kc_cX11_noTallies_0 (by decide +kernel) (by decide)
set_option maxHeartbeats 4000000 in
set_option maxRecDepth 100000 in
theorem s_X11_noTallies (l : Launch) (D : va_G) (ad : Nat → Nat) (cs : Nat → ClassId) (M : MI) (L : ML)  (hI : IR M) : Cv l yX11_noTallies wsX11_noTallies ({ frames := 0, cells := 0, slots := 0, locals := 0 }) D ad cs [.ref (ad 258)] M L (fun M1 L1 => (∀ j : Nat, j < 10 → L1 284 j = 0 ∧ L1 285 j = 1) ∧ IR M1 ∧ (∀ k i, True → M1 k i = M k i) ∧ ∀ k i, k ≠ 284 ∧ k ≠ 285 → L1 k i = L k i) := by
  refine enter_v RX11 rfl [(0, .ref (ad 258))] rfl (Nat.le_of_ble_eq_true rfl) (by decide +kernel) rfl ?_
  intro p e s m below meth c C hr
  have hF : ∀ k i, True → M k i = M k i := fun _ _ _ => rfl
  have hG : ∀ k i, k ≠ 284 ∧ k ≠ 285 → L k i = L k i := fun _ _ _ => rfl
  have p284 : L 284 = L 284 := rfl
  have p285 : L 285 = L 285 := rfl
  refine g_iconst C 0 dX11_noTallies_0 (by decide) ?_
  refine g_istore_n C [(1, .int 0), (0, .ref (ad 258))] dX11_noTallies_1 (by decide) rfl ?_
  have zy1 : (0 : Int32).toInt = 0 := by decide
  refine g_loop (α := Int32 × MI × ML) (fun a => (11 - a.1.toInt).toNat) (fun a => (0 ≤ a.1.toInt) ∧ (a.1.toInt ≤ 10) ∧ (∀ j : Nat, j < a.1.toNatClampNeg → a.2.2 284 j = 0 ∧ a.2.2 285 j = 1) ∧ IR a.2.1 ∧ (∀ k i, True → a.2.1 k i = M k i) ∧ (∀ k i, k ≠ 284 ∧ k ≠ 285 → a.2.2 k i = L k i)) (fun a => a.2.1) (fun a => a.2.2) (fun a => [(1, .int a.1), (0, .ref (ad 258))]) ((0 : Int32), M, L) ⟨by show 0 ≤ (0 : Int32).toInt; omega, by show (0 : Int32).toInt ≤ 10; omega, by show ∀ j : Nat, j < (0 : Int32).toNatClampNeg → L 284 j = 0 ∧ L 285 j = 1; intro j hj; exact absurd hj (by show ¬ j < 0; omega), hI, hF, hG⟩ rfl rfl rfl ?_
  rintro ⟨x1_2, M_2, L_2⟩ ⟨j2_0, j2_1, j2_2, hI, hF, hG⟩ ih_2
  dsimp only at j2_0 j2_1 j2_2 hI hF hG ih_2 ⊢
  have p284 : L_2 284 = L_2 284 := rfl
  have p285 : L_2 285 = L_2 285 := rfl
  have n1 := ixn (x := x1_2) (by omega)
  refine g_iload_n C 0 dX11_noTallies_2 rfl ?_
  refine g_bipush C 10 dX11_noTallies_3 (by decide) ?_
  refine g_icmp_ge C 28 dX11_noTallies_5 (by decide) (fun c2 => ?_) (fun c2 => ?_)
  ·
    have f3 := fle (by decide : (10 : Int32).toInt = 10) rfl c2
    exact g_vret C hr ⟨(fun j hj => j2_2 j (by omega)), hI, hF, hG⟩ dX11_noTallies_28
  ·
    have f4 := fnle (by decide : (10 : Int32).toInt = 10) rfl c2
    refine g_aload_n C 1 dX11_noTallies_8 rfl ?_
    refine g_get C (.ref (ad 284)) 38 in_X11_noTallies_11 (List.mem_of_getElem? (i := 1) rfl) (by decide) (ce_model ad cs _ _) rfl (by decide) rfl rfl dX11_noTallies_9 ?_
    refine g_iload_n C 0 dX11_noTallies_12 rfl ?_
    refine g_lconst C 0 dX11_noTallies_13 (by decide) ?_
    refine g_last C (by decide) (ce_m_ups ad cs _ _) (by rw [sJ_k]; rfl) (fin' (n := 10) rfl (by omega) (by omega)) dX11_noTallies_14 ?_
    refine g_nmL (fun L5 hL5 => ?_)
    have hG : ∀ k i, k ≠ 284 ∧ k ≠ 285 → L5 k i = L k i := fun k i hk => by (rw [hL5, sJ_at, if_neg (by omega)]; try exact hG k i hk)
    have p285 : L5 285 = L_2 285 := by rw [hL5, sJ_n _ _ _ (by decide)]; try exact p285
    refine g_aload_n C 1 dX11_noTallies_15 rfl ?_
    refine g_get C (.ref (ad 285)) 39 in_X11_noTallies_11 (List.mem_of_getElem? (i := 2) rfl) (by decide) (ce_model ad cs _ _) rfl (by decide) rfl rfl dX11_noTallies_16 ?_
    refine g_iload_n C 0 dX11_noTallies_19 rfl ?_
    refine g_lconst C 1 dX11_noTallies_20 (by decide) ?_
    refine g_last C (by decide) (ce_m_downs ad cs _ _) (by rw [sJ_k]; rfl) (fin' (n := 10) rfl (by omega) (by omega)) dX11_noTallies_21 ?_
    refine g_nmL (fun L6 hL6 => ?_)
    have hG : ∀ k i, k ≠ 284 ∧ k ≠ 285 → L6 k i = L k i := fun k i hk => by (rw [hL6, sJ_at, if_neg (by omega)]; try exact hG k i hk)
    obtain ⟨v7, ev7⟩ : ∃ y : Int32, y = x1_2 + 1 := ⟨_, rfl⟩
    try have fv7 := fadd rfl (by decide : (1 : Int32).toInt = 1) ev7 (by omega) (by omega)
    refine g_iinc C 0 v7 [(1, .int v7), (0, .ref (ad 258))] dX11_noTallies_22 rfl (by rw [ev7]; rfl) (by decide) rfl ?_
    refine g_goto C 2 dX11_noTallies_25 (by decide) ?_
    have nv := ixn (x := v7) (by omega)
    have hall : ∀ j : Nat, j < v7.toNatClampNeg → L6 284 j = 0 ∧ L6 285 j = 1 := by
      intro j hj
      rw [hL6, sJ_n _ _ _ (by decide), sJ_at, hL5, sJ_at, sJ_n _ _ _ (by decide)]
      by_cases e9 : j = x1_2.toNatClampNeg
      · rw [if_pos ⟨rfl, e9⟩, if_pos ⟨rfl, e9⟩]; exact ⟨rfl, rfl⟩
      · rw [if_neg (fun h => e9 h.2), if_neg (fun h => e9 h.2)]; exact j2_2 j (by omega)
    exact ih_2 (v7, M_2, L6) ⟨by show 0 ≤ v7.toInt; omega, by show v7.toInt ≤ 10; omega, by show ∀ j : Nat, j < v7.toNatClampNeg → L6 284 j = 0 ∧ L6 285 j = 1; exact hall, hI, hF, hG⟩ (by show (11 - v7.toInt).toNat < (11 - x1_2.toInt).toNat; omega)
theorem dX11_ballotAt_0 : decode cX11_ballotAt 0 = .ok (.aload_n 0, 1) := dw42 (n := 0) (i := 0) kc_cX11_ballotAt_0 (by decide +kernel)
theorem dX11_ballotAt_1 : decode cX11_ballotAt 1 = .ok (.getfield 34, 3) := dw180 (n := 0) (i := 1) (a := 0) (b := 34) kc_cX11_ballotAt_0 (by decide +kernel) (by decide)
theorem in_X11_ballotAt_11 : ∀ w ∈ u_ws RX11 TX11 53, w ∈ wsX11_ballotAt := fun _ h => List.mem_cons_of_mem _ (List.mem_append_right _ h)
theorem dX11_ballotAt_4 : decode cX11_ballotAt 4 = .ok (.bipush 40, 2) := dw16 (n := 0) (i := 4) (a := 40) kc_cX11_ballotAt_0 (by decide +kernel) (by decide)
theorem dX11_ballotAt_6 : decode cX11_ballotAt 6 = .ok (.aload_n 0, 1) := dw42 (n := 0) (i := 6) kc_cX11_ballotAt_0 (by decide +kernel)
theorem dX11_ballotAt_7 : decode cX11_ballotAt 7 = .ok (.getfield 201, 3) := dw180 (n := 0) (i := 7) (a := 0) (b := 201) kc_cX11_ballotAt_0 (by decide +kernel) (by decide)
theorem dX11_ballotAt_10 : decode cX11_ballotAt 10 = .ok (.imul, 1) := dw104 (n := 0) (i := 10) kc_cX11_ballotAt_0 (by decide +kernel)
theorem dX11_ballotAt_11 : decode cX11_ballotAt 11 = .ok (.iload_n 1, 1) := dw27 (n := 0) (i := 11) kc_cX11_ballotAt_0 (by decide +kernel)
theorem dX11_ballotAt_12 : decode cX11_ballotAt 12 = .ok (.iadd, 1) := dw96 (n := 0) (i := 12) kc_cX11_ballotAt_0 (by decide +kernel)
theorem dX11_ballotAt_13 : decode cX11_ballotAt 13 = .ok (.iaload, 1) := dw46 (n := 0) (i := 13) kc_cX11_ballotAt_0 (by decide +kernel)
theorem dX11_ballotAt_14 : decode cX11_ballotAt 14 = .ok (.ireturn, 1) := dw172 (n := 0) (i := 14) kc_cX11_ballotAt_0 (by decide +kernel)
set_option maxHeartbeats 4000000 in
set_option maxRecDepth 100000 in
theorem s_X11_ballotAt (l : Launch) (D : va_G) (ad : Nat → Nat) (cs : Nat → ClassId) (M : MI) (L : ML) (x : Int32) (hI : IR M) (hx : 0 ≤ x.toInt ∧ x.toInt < 40) : Ci l yX11_ballotAt wsX11_ballotAt ({ frames := 0, cells := 0, slots := 0, locals := 0 }) D ad cs [.ref (ad 258), .int x] M L (fun r M1 L1 => M1 = M ∧ L1 = L ∧ (r.toInt = -9 ∨ (0 ≤ r.toInt ∧ r.toInt ≤ 59))) := by
  refine enter_i RX11 rfl [(0, .ref (ad 258)), (1, .int x)] rfl (Nat.le_of_ble_eq_true rfl) (by decide +kernel) rfl ?_
  intro p e s m below meth c C hr
  have hF : ∀ k i, True → M k i = M k i := fun _ _ _ => rfl
  have hG : ∀ k i, True → L k i = L k i := fun _ _ _ => rfl
  obtain ⟨hx1, hx2⟩ := hx
  refine g_aload_n C 0 dX11_ballotAt_0 rfl ?_
  refine g_get C (.ref (ad 267)) 12 in_X11_ballotAt_11 (List.mem_of_getElem? (i := 1) rfl) (by decide) (ce_model ad cs _ _) rfl (by decide) rfl rfl dX11_ballotAt_1 ?_
  refine g_bipush C 40 dX11_ballotAt_4 (by decide) ?_
  refine g_aload_n C 0 dX11_ballotAt_6 rfl ?_
  refine g_get C (.int (M 258 27)) 27 in_X11_ballotAt_11 (List.mem_of_getElem? (i := 2) rfl) (by decide) (ce_model ad cs _ _) rfl (by decide) rfl rfl dX11_ballotAt_7 ?_
  refine g_ni (fun v1 ev1 => ?_)
  have gv1 : v1 = M 258 27 := ev1
  have tv1 := congrArg Int32.toInt gv1
  obtain ⟨bv1, dv1⟩ := (show rg 0 7 v1 from (by rw [ev1]; exact hI 258 27))
  refine g_imul C dX11_ballotAt_10 ?_
  refine g_ni (fun v2 ev2 => ?_)
  try have fv2 := fmul (by decide : (40 : Int32).toInt = 40) rfl ev2 (by omega) (by omega)
  refine g_iload_n C 1 dX11_ballotAt_11 rfl ?_
  refine g_iadd C dX11_ballotAt_12 ?_
  refine g_ni (fun v3 ev3 => ?_)
  try have fv3 := fadd rfl rfl ev3 (by omega) (by omega)
  refine g_iald C (by decide) (ce_m_boxed ad cs _ _) (fin' (n := 320) rfl (by omega) (by omega)) dX11_ballotAt_13 ?_
  have nv1 := ixn (x := v1) (by omega)
  have nx := ixn (x := x) (by omega)
  have nv3 := ixn (x := v3) (by omega)
  have iv3 : v3.toNatClampNeg = 40 * v1.toNatClampNeg + x.toNatClampNeg := by omega
  refine g_ni (fun v4 ev4 => ?_)
  have gv4 : v4 = M 267 v3.toNatClampNeg := ev4
  have gv4 := cg1 (f := M 267) gv4 iv3
  have tv4 := congrArg Int32.toInt gv4
  have bv4 : bxd v4 := (by rw [ev4]; exact hI 267 v3.toNatClampNeg)
  unfold bxd at bv4
  exact g_iret C hr ⟨rfl, rfl, (by omega)⟩ dX11_ballotAt_14
theorem dX11_addTo_0 : decode cX11_addTo 0 = .ok (.aload_n 0, 1) := dw42 (n := 0) (i := 0) kc_cX11_addTo_0 (by decide +kernel)
theorem dX11_addTo_1 : decode cX11_addTo 1 = .ok (.aload_n 0, 1) := dw42 (n := 0) (i := 1) kc_cX11_addTo_0 (by decide +kernel)
theorem dX11_addTo_2 : decode cX11_addTo 2 = .ok (.getfield 87, 3) := dw180 (n := 0) (i := 2) (a := 0) (b := 87) kc_cX11_addTo_0 (by decide +kernel) (by decide)
theorem in_X11_addTo_11 : ∀ w ∈ u_ws RX11 TX11 53, w ∈ wsX11_addTo := fun _ h => List.mem_cons_of_mem _ (List.mem_append_right _ h)
theorem dX11_addTo_5 : decode cX11_addTo 5 = .ok (.iload_n 1, 1) := dw27 (n := 0) (i := 5) kc_cX11_addTo_0 (by decide +kernel)
theorem dX11_addTo_6 : decode cX11_addTo 6 = .ok (.laload, 1) := dw47 (n := 0) (i := 6) kc_cX11_addTo_0 (by decide +kernel)
theorem dX11_addTo_7 : decode cX11_addTo 7 = .ok (.lload 4, 2) := dw22 (n := 0) (i := 7) (a := 4) kc_cX11_addTo_0 (by decide +kernel) (by decide)
theorem dX11_addTo_9 : decode cX11_addTo 9 = .ok (.lmul, 1) := dw105 (n := 0) (i := 9) kc_cX11_addTo_0 (by decide +kernel)
theorem dX11_addTo_10 : decode cX11_addTo 10 = .ok (.lload_n 2, 1) := dw32 (n := 0) (i := 10) kc_cX11_addTo_0 (by decide +kernel)
theorem dX11_addTo_11 : decode cX11_addTo 11 = .ok (.aload_n 0, 1) := dw42 (n := 0) (i := 11) kc_cX11_addTo_0 (by decide +kernel)
theorem dX11_addTo_12 : decode cX11_addTo 12 = .ok (.getfield 90, 3) := dw180 (n := 0) (i := 12) (a := 0) (b := 90) kc_cX11_addTo_0 (by decide +kernel) (by decide)
theorem dX11_addTo_15 : decode cX11_addTo 15 = .ok (.iload_n 1, 1) := dw27 (n := 0) (i := 15) kc_cX11_addTo_0 (by decide +kernel)
theorem dX11_addTo_16 : decode cX11_addTo 16 = .ok (.laload, 1) := dw47 (n := 0) (i := 16) kc_cX11_addTo_0 (by decide +kernel)
theorem dX11_addTo_17 : decode cX11_addTo 17 = .ok (.lmul, 1) := dw105 (n := 0) (i := 17) kc_cX11_addTo_0 (by decide +kernel)
theorem dX11_addTo_18 : decode cX11_addTo 18 = .ok (.ladd, 1) := dw97 (n := 0) (i := 18) kc_cX11_addTo_0 (by decide +kernel)
theorem dX11_addTo_19 : decode cX11_addTo 19 = .ok (.aload_n 0, 1) := dw42 (n := 0) (i := 19) kc_cX11_addTo_0 (by decide +kernel)
theorem dX11_addTo_20 : decode cX11_addTo 20 = .ok (.getfield 90, 3) := dw180 (n := 0) (i := 20) (a := 0) (b := 90) kc_cX11_addTo_0 (by decide +kernel) (by decide)
theorem dX11_addTo_23 : decode cX11_addTo 23 = .ok (.iload_n 1, 1) := dw27 (n := 0) (i := 23) kc_cX11_addTo_0 (by decide +kernel)
theorem dX11_addTo_24 : decode cX11_addTo 24 = .ok (.laload, 1) := dw47 (n := 0) (i := 24) kc_cX11_addTo_0 (by decide +kernel)
theorem dX11_addTo_25 : decode cX11_addTo 25 = .ok (.lload 4, 2) := dw22 (n := 0) (i := 25) (a := 4) kc_cX11_addTo_0 (by decide +kernel) (by decide)
theorem dX11_addTo_27 : decode cX11_addTo 27 = .ok (.lmul, 1) := dw105 (n := 0) (i := 27) kc_cX11_addTo_0 (by decide +kernel)
theorem dX11_addTo_28 : decode cX11_addTo 28 = .ok (.invokevirtual 204, 3) := dw182 (n := 0) (i := 28) (a := 0) (b := 204) kc_cX11_addTo_0 (by decide +kernel) (by decide)
set_option maxRecDepth 20000 in
theorem ggX11_addTo_X11_fraction : GoodIn wsX11_addTo wsX11_fraction := (gk_code 9 rfl (gk_fieldLink 3 rfl (gk_fieldLink 4 rfl (gk_fieldLink 10 rfl (gk_constantLong 11 rfl (gk_methodLink 12 rfl (gk_static 13 rfl (gk_initialized 8 rfl (gk_code 14 rfl (gk_lays 15 rfl (gk_laysFinal 16 rfl (gk_lays 17 rfl (gk_laysFinal 18 rfl (gk_lays 19 rfl (gk_laysFinal 20 rfl (gk_laysFinal 21 rfl (gk_laysFinal 22 rfl (gk_laysFinal 23 rfl (gk_lays 24 rfl (gk_laysFinal 25 rfl (gk_laysFinal 26 rfl (gk_laysFinal 27 rfl (gk_laysFinal 28 rfl (gk_lays 29 rfl (gk_laysFinal 30 rfl (gk_laysFinal 31 rfl (gk_laysFinal 32 rfl (gk_laysFinal 33 rfl (gk_laysFinal 34 rfl (gk_laysFinal 35 rfl (gk_laysFinal 36 rfl (gk_laysFinal 37 rfl (gk_lays 38 rfl (gk_lays 39 rfl (gk_lays 40 rfl (gk_lays 41 rfl (gk_lays 42 rfl (gk_lays 43 rfl (gk_lays 44 rfl (gk_laysFinal 45 rfl (gk_lays 46 rfl (gk_laysFinal 47 rfl (gk_laysFinal 48 rfl (gk_laysFinal 49 rfl (gk_laysFinal 50 rfl (gk_laysFinal 51 rfl (gk_laysFinal 52 rfl (gk_laysFinal 53 rfl (gk_laysFinal 54 rfl (gk_laysFinal 55 rfl (gk_laysFinal 56 rfl (gk_lays 57 rfl (gk_laysFinal 58 rfl (gk_lays 59 rfl (gk_laysFinal 60 rfl (gk_laysFinal 61 rfl (gk_laysFinal 62 rfl (gk_laysFinal 63 rfl (gk_laysFinal 64 rfl (gk_laysFinal 65 rfl (gk_laysFinal 66 rfl (gk_laysFinal 67 rfl (gn)))))))))))))))))))))))))))))))))))))))))))))))))))))))))))))))
set_option maxRecDepth 20000 in
theorem gX11_addTo_X11_fraction : GoodIn wsX11_addTo (wsV RX11 204 RX11 yX11_fraction wsX11_fraction) := goodIn_app (gk_methodLink 5 rfl (gk_instanceMethod 6 rfl (gk_selects 7 rfl (gk_initialized 8 rfl (gn))))) ggX11_addTo_X11_fraction
theorem dX11_addTo_31 : decode cX11_addTo 31 = .ok (.aload_n 0, 1) := dw42 (n := 0) (i := 31) kc_cX11_addTo_0 (by decide +kernel)
theorem dX11_addTo_32 : decode cX11_addTo 32 = .ok (.getfield 87, 3) := dw180 (n := 32) (i := 0) (a := 0) (b := 87) kc_cX11_addTo_1 (by decide +kernel) (by decide)
theorem dX11_addTo_35 : decode cX11_addTo 35 = .ok (.iload_n 1, 1) := dw27 (n := 32) (i := 3) kc_cX11_addTo_1 (by decide +kernel)
theorem dX11_addTo_36 : decode cX11_addTo 36 = .ok (.aload_n 0, 1) := dw42 (n := 32) (i := 4) kc_cX11_addTo_1 (by decide +kernel)
theorem dX11_addTo_37 : decode cX11_addTo 37 = .ok (.getfield 188, 3) := dw180 (n := 32) (i := 5) (a := 0) (b := 188) kc_cX11_addTo_1 (by decide +kernel) (by decide)
theorem dX11_addTo_40 : decode cX11_addTo 40 = .ok (.lastore, 1) := dw80 (n := 32) (i := 8) kc_cX11_addTo_1 (by decide +kernel)
theorem dX11_addTo_41 : decode cX11_addTo 41 = .ok (.aload_n 0, 1) := dw42 (n := 32) (i := 9) kc_cX11_addTo_1 (by decide +kernel)
theorem dX11_addTo_42 : decode cX11_addTo 42 = .ok (.getfield 90, 3) := dw180 (n := 32) (i := 10) (a := 0) (b := 90) kc_cX11_addTo_1 (by decide +kernel) (by decide)
theorem dX11_addTo_45 : decode cX11_addTo 45 = .ok (.iload_n 1, 1) := dw27 (n := 32) (i := 13) kc_cX11_addTo_1 (by decide +kernel)
theorem dX11_addTo_46 : decode cX11_addTo 46 = .ok (.aload_n 0, 1) := dw42 (n := 32) (i := 14) kc_cX11_addTo_1 (by decide +kernel)
theorem dX11_addTo_47 : decode cX11_addTo 47 = .ok (.getfield 192, 3) := dw180 (n := 32) (i := 15) (a := 0) (b := 192) kc_cX11_addTo_1 (by decide +kernel) (by decide)
theorem dX11_addTo_50 : decode cX11_addTo 50 = .ok (.lastore, 1) := dw80 (n := 32) (i := 18) kc_cX11_addTo_1 (by decide +kernel)
theorem dX11_addTo_51 : decode cX11_addTo 51 = .ok (.return_, 1) := dw177 (n := 32) (i := 19) kc_cX11_addTo_1 (by decide +kernel)
set_option maxHeartbeats 4000000 in
set_option maxRecDepth 100000 in
theorem s_X11_addTo (l : Launch) (D : va_G) (ad : Nat → Nat) (cs : Nat → ClassId) (M : MI) (L : ML) (x : Int32) (y : Int64) (z : Int64) (hI : IR M) (hx : 0 ≤ x.toInt ∧ x.toInt < 10) (hz : 1 ≤ z.toInt ∧ z.toInt ≤ 1000000000) (hTo : TLo L) : Cv l yX11_addTo wsX11_addTo ({ frames := 2, cells := 0, slots := 0, locals := 55 }) D ad cs [.ref (ad 258), .int x, .long y, .long z] M L (fun M1 L1 => (TLo L1 ∧ (0 ≤ y.toInt ∧ y.toInt ≤ 1000000000 → TLk M L → TLk M1 L1) ∧ ((M1 258 25).toInt = 0 → (M 258 25).toInt = 0)) ∧ IR M1 ∧ (∀ k i, ¬ (k = 258 ∧ i = 25) → M1 k i = M k i) ∧ ∀ k i, ¬ (k = 258 ∧ i = 23) ∧ ¬ (k = 258 ∧ i = 24) ∧ k ≠ 284 ∧ k ≠ 285 → L1 k i = L k i) := by
  refine enter_v RX11 rfl [(0, .ref (ad 258)), (1, .int x), (2, .long y), (4, .long z)] rfl (Nat.le_of_ble_eq_true rfl) (by decide +kernel) rfl ?_
  intro p e s m below meth c C hr
  have hF : ∀ k i, ¬ (k = 258 ∧ i = 25) → M k i = M k i := fun _ _ _ => rfl
  have hG : ∀ k i, ¬ (k = 258 ∧ i = 23) ∧ ¬ (k = 258 ∧ i = 24) ∧ k ≠ 284 ∧ k ≠ 285 → L k i = L k i := fun _ _ _ => rfl
  obtain ⟨hx1, hx2⟩ := hx
  obtain ⟨hz1, hz2⟩ := hz
  have k25 : M 258 25 = M 258 25 := rfl
  have l23 : L 258 23 = L 258 23 := rfl
  have l24 : L 258 24 = L 258 24 := rfl
  have p284 : L 284 = L 284 := rfl
  have p285 : L 285 = L 285 := rfl
  refine g_aload_n C 0 dX11_addTo_0 rfl ?_
  refine g_aload_n C 0 dX11_addTo_1 rfl ?_
  refine g_get C (.ref (ad 284)) 38 in_X11_addTo_11 (List.mem_of_getElem? (i := 1) rfl) (by decide) (ce_model ad cs _ _) rfl (by decide) rfl rfl dX11_addTo_2 ?_
  refine g_iload_n C 1 dX11_addTo_5 rfl ?_
  refine g_lald C (by decide) (ce_m_ups ad cs _ _) (fin' (n := 10) rfl (by omega) (by omega)) dX11_addTo_6 ?_
  refine g_nl (fun v1 ev1 => ?_)
  have gv1 : v1 = L 284 x.toNatClampNeg := ev1.trans (congrFun p284 _)
  have tv1 := congrArg Int64.toInt gv1
  refine g_lload C 3 dX11_addTo_7 rfl ?_
  refine g_lmul C dX11_addTo_9 ?_
  refine g_nl (fun v2 ev2 => ?_)
  try have fv2 := prodI ev2
  refine g_lload_n C 2 dX11_addTo_10 rfl ?_
  refine g_aload_n C 0 dX11_addTo_11 rfl ?_
  refine g_get C (.ref (ad 285)) 39 in_X11_addTo_11 (List.mem_of_getElem? (i := 2) rfl) (by decide) (ce_model ad cs _ _) rfl (by decide) rfl rfl dX11_addTo_12 ?_
  refine g_iload_n C 1 dX11_addTo_15 rfl ?_
  refine g_lald C (by decide) (ce_m_downs ad cs _ _) (fin' (n := 10) rfl (by omega) (by omega)) dX11_addTo_16 ?_
  refine g_nl (fun v3 ev3 => ?_)
  have gv3 : v3 = L 285 x.toNatClampNeg := ev3.trans (congrFun p285 _)
  have tv3 := congrArg Int64.toInt gv3
  refine g_lmul C dX11_addTo_17 ?_
  refine g_nl (fun v4 ev4 => ?_)
  try have fv4 := prodI ev4
  refine g_ladd C dX11_addTo_18 ?_
  refine g_nl (fun v5 ev5 => ?_)
  try have fv5 := fladd rfl rfl ev5 (by omega) (by omega)
  refine g_aload_n C 0 dX11_addTo_19 rfl ?_
  refine g_get C (.ref (ad 285)) 39 in_X11_addTo_11 (List.mem_of_getElem? (i := 2) rfl) (by decide) (ce_model ad cs _ _) rfl (by decide) rfl rfl dX11_addTo_20 ?_
  refine g_iload_n C 1 dX11_addTo_23 rfl ?_
  refine g_lald C (by decide) (ce_m_downs ad cs _ _) (fin' (n := 10) rfl (by omega) (by omega)) dX11_addTo_24 ?_
  refine g_nl (fun v6 ev6 => ?_)
  have gv6 : v6 = L 285 x.toNatClampNeg := ev6.trans (congrFun p285 _)
  have tv6 := congrArg Int64.toInt gv6
  refine g_lload C 3 dX11_addTo_25 rfl ?_
  refine g_lmul C dX11_addTo_27 ?_
  refine g_nl (fun v7 ev7 => ?_)
  try have fv7 := prodI ev7
  have hsA := sumI ev2 ev4 ev5
  have ho := hTo x.toNatClampNeg (by have := ixn (x := x) hx1; omega)
  unfold oddF at ho
  have nxx := ixn (x := x) hx1
  have hdd : v3.toInt = v6.toInt := by omega
  rw [hdd] at hsA
  have hne9 : ¬ (v5.toInt = 0 ∧ v7.toInt = 0) := fun h9 => sum_ne (u := v1.toInt) (d := v6.toInt) (a := y.toInt) (w := z.toInt) (by omega) (by omega) (by omega) (bmod0 (by rw [← fv7]; exact h9.2)) (bmod0 (by rw [← hsA]; exact h9.1))
  refine g_callVv C (n := 2) (As := [.long v5, .long v7]) (st := []) (s_X11_fraction l D ad cs _ _ v5 v7 hI hne9) gX11_addTo_X11_fraction rfl rfl rfl (by decide +kernel) ⟨Nat.le_of_ble_eq_true rfl, Nat.le_of_ble_eq_true rfl⟩ rfl (Nat.le_of_ble_eq_true rfl) ⟨Nat.zero_le _, Nat.zero_le _⟩ (by decide) (ce_model ad cs _ _) rfl rfl dX11_addTo_28 (fun M9 L10 hr8 => ?_)
  obtain ⟨hr8, hI, hFr8, hGr8⟩ := hr8
  have hF : ∀ k i, ¬ (k = 258 ∧ i = 25) → M9 k i = M k i := fun k i hk => by (rw [hFr8 k i (by omega)]; try exact hF k i hk)
  have hG : ∀ k i, ¬ (k = 258 ∧ i = 23) ∧ ¬ (k = 258 ∧ i = 24) ∧ k ≠ 284 ∧ k ≠ 285 → L10 k i = L k i := fun k i hk => by (rw [hGr8 k i (by omega)]; try exact hG k i hk)
  have k25 : M9 258 25 = M9 258 25 := rfl
  have kt25 := congrArg Int32.toInt k25
  have l23 : L10 258 23 = L10 258 23 := rfl
  have l24 : L10 258 24 = L10 258 24 := rfl
  have p284 : L10 284 = L 284 := (funext (fun i => hGr8 284 i (by omega))).trans p284
  have p285 : L10 285 = L 285 := (funext (fun i => hGr8 285 i (by omega))).trans p285
  refine g_aload_n C 0 dX11_addTo_31 rfl ?_
  refine g_get C (.ref (ad 284)) 38 in_X11_addTo_11 (List.mem_of_getElem? (i := 1) rfl) (by decide) (ce_model ad cs _ _) rfl (by decide) rfl rfl dX11_addTo_32 ?_
  refine g_iload_n C 1 dX11_addTo_35 rfl ?_
  refine g_aload_n C 0 dX11_addTo_36 rfl ?_
  refine g_get C (.long (L10 258 23)) 23 in_X11_addTo_11 (List.mem_of_getElem? (i := 3) rfl) (by decide) (ce_model ad cs _ _) rfl (by decide) rfl rfl dX11_addTo_37 ?_
  refine g_nl (fun v11 ev11 => ?_)
  have gv11 : v11 = L10 258 23 := ev11.trans l23
  have tv11 := congrArg Int64.toInt gv11
  refine g_last C (by decide) (ce_m_ups ad cs _ _) (by rw [sJ_k]; rfl) (fin' (n := 10) rfl (by omega) (by omega)) dX11_addTo_40 ?_
  refine g_nmL (fun L12 hL12 => ?_)
  have hG : ∀ k i, ¬ (k = 258 ∧ i = 23) ∧ ¬ (k = 258 ∧ i = 24) ∧ k ≠ 284 ∧ k ≠ 285 → L12 k i = L k i := fun k i hk => by (rw [hL12, sJ_at, if_neg (by omega)]; try exact hG k i hk)
  have l23 : L12 258 23 = L10 258 23 := by rw [hL12, sJ_n _ _ _ (by decide)]; try exact l23
  have l24 : L12 258 24 = L10 258 24 := by rw [hL12, sJ_n _ _ _ (by decide)]; try exact l24
  have p285 : L12 285 = L 285 := by rw [hL12, sJ_n _ _ _ (by decide)]; try exact p285
  refine g_aload_n C 0 dX11_addTo_41 rfl ?_
  refine g_get C (.ref (ad 285)) 39 in_X11_addTo_11 (List.mem_of_getElem? (i := 2) rfl) (by decide) (ce_model ad cs _ _) rfl (by decide) rfl rfl dX11_addTo_42 ?_
  refine g_iload_n C 1 dX11_addTo_45 rfl ?_
  refine g_aload_n C 0 dX11_addTo_46 rfl ?_
  refine g_get C (.long (L12 258 24)) 24 in_X11_addTo_11 (List.mem_of_getElem? (i := 4) rfl) (by decide) (ce_model ad cs _ _) rfl (by decide) rfl rfl dX11_addTo_47 ?_
  refine g_nl (fun v13 ev13 => ?_)
  have gv13 : v13 = L10 258 24 := ev13.trans l24
  have tv13 := congrArg Int64.toInt gv13
  refine g_last C (by decide) (ce_m_downs ad cs _ _) (by rw [sJ_k]; rfl) (fin' (n := 10) rfl (by omega) (by omega)) dX11_addTo_50 ?_
  refine g_nmL (fun L14 hL14 => ?_)
  have hG : ∀ k i, ¬ (k = 258 ∧ i = 23) ∧ ¬ (k = 258 ∧ i = 24) ∧ k ≠ 284 ∧ k ≠ 285 → L14 k i = L k i := fun k i hk => by (rw [hL14, sJ_at, if_neg (by omega)]; try exact hG k i hk)
  have l23 : L14 258 23 = L10 258 23 := by rw [hL14, sJ_n _ _ _ (by decide)]; try exact l23
  have l24 : L14 258 24 = L10 258 24 := by rw [hL14, sJ_n _ _ _ (by decide)]; try exact l24
  have ha : ∀ c : Nat, L14 284 c = if c = x.toNatClampNeg then v11 else L 284 c := by
    intro c
    rw [hL14, sJ_n _ _ _ (by decide), hL12, sJ_at]
    by_cases e9 : c = x.toNatClampNeg
    · rw [if_pos ⟨rfl, e9⟩, if_pos e9]
    · rw [if_neg (fun h => e9 h.2), if_neg e9]; exact congrFun p284 c
  have hb : ∀ c : Nat, L14 285 c = if c = x.toNatClampNeg then v13 else L 285 c := by
    intro c
    rw [hL14, sJ_at]
    by_cases e9 : c = x.toNatClampNeg
    · rw [if_pos ⟨rfl, e9⟩, if_pos e9]
    · rw [if_neg (fun h => e9 h.2), if_neg e9]; exact congrFun p285 c
  obtain ⟨hP1, hP2, hP3⟩ := hr8
  exact g_vret C hr ⟨⟨fun c hc => (by
      rw [ha, hb]
      by_cases e9 : c = x.toNatClampNeg
      · rw [if_pos e9, if_pos e9]; unfold oddF; omega
      · rw [if_neg e9, if_neg e9]; exact hTo c hc), fun hy hk hs c hc => (by
      have h2 := hP2 hs
      rw [ha, hb]
      by_cases e9 : c = x.toNatClampNeg
      · rw [if_pos e9, if_pos e9]
        have hk2 := hk h2.1 x.toNatClampNeg (by omega)
        unfold okF at hk2
        have h3 := add_ok hsA fv7 (by omega) hy ⟨by omega, by omega⟩
        have h4 := hP3 h3.1 h3.2
        unfold okF
        omega
      · rw [if_neg e9, if_neg e9]; exact hk h2.1 c hc), fun hs => (hP2 hs).1⟩, hI, hF, hG⟩ dX11_addTo_51
theorem dX11_happens_0 : decode cX11_happens 0 = .ok (.aload_n 0, 1) := dw42 (n := 0) (i := 0) kc_cX11_happens_0 (by decide +kernel)
theorem dX11_happens_1 : decode cX11_happens 1 = .ok (.getfield 68, 3) := dw180 (n := 0) (i := 1) (a := 0) (b := 68) kc_cX11_happens_0 (by decide +kernel) (by decide)
theorem in_X11_happens_11 : ∀ w ∈ u_ws RX11 TX11 53, w ∈ wsX11_happens := fun _ h => List.mem_cons_of_mem _ (List.mem_append_right _ h)
theorem dX11_happens_4 : decode cX11_happens 4 = .ok (.aload_n 0, 1) := dw42 (n := 0) (i := 4) kc_cX11_happens_0 (by decide +kernel)
theorem dX11_happens_5 : decode cX11_happens 5 = .ok (.getfield 208, 3) := dw180 (n := 0) (i := 5) (a := 0) (b := 208) kc_cX11_happens_0 (by decide +kernel) (by decide)
theorem dX11_happens_8 : decode cX11_happens 8 = .ok (.iload_n 1, 1) := dw27 (n := 0) (i := 8) kc_cX11_happens_0 (by decide +kernel)
theorem dX11_happens_9 : decode cX11_happens 9 = .ok (.iastore, 1) := dw79 (n := 0) (i := 9) kc_cX11_happens_0 (by decide +kernel)
theorem dX11_happens_10 : decode cX11_happens 10 = .ok (.aload_n 0, 1) := dw42 (n := 0) (i := 10) kc_cX11_happens_0 (by decide +kernel)
theorem dX11_happens_11 : decode cX11_happens 11 = .ok (.getfield 71, 3) := dw180 (n := 0) (i := 11) (a := 0) (b := 71) kc_cX11_happens_0 (by decide +kernel) (by decide)
theorem dX11_happens_14 : decode cX11_happens 14 = .ok (.aload_n 0, 1) := dw42 (n := 0) (i := 14) kc_cX11_happens_0 (by decide +kernel)
theorem dX11_happens_15 : decode cX11_happens 15 = .ok (.getfield 208, 3) := dw180 (n := 0) (i := 15) (a := 0) (b := 208) kc_cX11_happens_0 (by decide +kernel) (by decide)
theorem dX11_happens_18 : decode cX11_happens 18 = .ok (.iload_n 2, 1) := dw28 (n := 0) (i := 18) kc_cX11_happens_0 (by decide +kernel)
theorem dX11_happens_19 : decode cX11_happens 19 = .ok (.iastore, 1) := dw79 (n := 0) (i := 19) kc_cX11_happens_0 (by decide +kernel)
theorem dX11_happens_20 : decode cX11_happens 20 = .ok (.iconst 0, 1) := dw3 (n := 0) (i := 20) kc_cX11_happens_0 (by decide +kernel)
theorem dX11_happens_21 : decode cX11_happens 21 = .ok (.istore_n 3, 1) := dw62 (n := 0) (i := 21) kc_cX11_happens_0 (by decide +kernel)
theorem dX11_happens_22 : decode cX11_happens 22 = .ok (.iload_n 3, 1) := dw29 (n := 0) (i := 22) kc_cX11_happens_0 (by decide +kernel)
theorem dX11_happens_23 : decode cX11_happens 23 = .ok (.bipush 10, 2) := dw16 (n := 0) (i := 23) (a := 10) kc_cX11_happens_0 (by decide +kernel) (by decide)
theorem dX11_happens_25 : decode cX11_happens 25 = .ok (.if_icmp .ge 49, 3) := dw162 (n := 0) (i := 25) (a := 0) (b := 49) kc_cX11_happens_0 (by decide +kernel) (by decide)
theorem dX11_happens_74 : decode cX11_happens 74 = .ok (.aload_n 0, 1) := dw42 (n := 64) (i := 10) kc_cX11_happens_2 (by decide +kernel)
theorem dX11_happens_75 : decode cX11_happens 75 = .ok (.dup, 1) := dw89 (n := 64) (i := 11) kc_cX11_happens_2 (by decide +kernel)
theorem dX11_happens_76 : decode cX11_happens 76 = .ok (.getfield 208, 3) := dw180 (n := 64) (i := 12) (a := 0) (b := 208) kc_cX11_happens_2 (by decide +kernel) (by decide)
theorem dX11_happens_79 : decode cX11_happens 79 = .ok (.iconst 1, 1) := dw4 (n := 64) (i := 15) kc_cX11_happens_2 (by decide +kernel)
theorem dX11_happens_80 : decode cX11_happens 80 = .ok (.iadd, 1) := dw96 (n := 64) (i := 16) kc_cX11_happens_2 (by decide +kernel)
theorem dX11_happens_81 : decode cX11_happens 81 = .ok (.putfield 208, 3) := dw181 (n := 64) (i := 17) (a := 0) (b := 208) kc_cX11_happens_2 (by decide +kernel) (by decide)
theorem dX11_happens_84 : decode cX11_happens 84 = .ok (.return_, 1) := dw177 (n := 64) (i := 20) kc_cX11_happens_2 (by decide +kernel)
theorem dX11_happens_28 : decode cX11_happens 28 = .ok (.aload_n 0, 1) := dw42 (n := 0) (i := 28) kc_cX11_happens_0 (by decide +kernel)
theorem dX11_happens_29 : decode cX11_happens 29 = .ok (.getfield 74, 3) := dw180 (n := 0) (i := 29) (a := 0) (b := 74) kc_cX11_happens_0 (by decide +kernel) (by decide)
theorem dX11_happens_32 : decode cX11_happens 32 = .ok (.bipush 10, 2) := dw16 (n := 32) (i := 0) (a := 10) kc_cX11_happens_1 (by decide +kernel) (by decide)
theorem dX11_happens_34 : decode cX11_happens 34 = .ok (.aload_n 0, 1) := dw42 (n := 32) (i := 2) kc_cX11_happens_1 (by decide +kernel)
theorem dX11_happens_35 : decode cX11_happens 35 = .ok (.getfield 208, 3) := dw180 (n := 32) (i := 3) (a := 0) (b := 208) kc_cX11_happens_1 (by decide +kernel) (by decide)
theorem dX11_happens_38 : decode cX11_happens 38 = .ok (.imul, 1) := dw104 (n := 32) (i := 6) kc_cX11_happens_1 (by decide +kernel)
theorem dX11_happens_39 : decode cX11_happens 39 = .ok (.iload_n 3, 1) := dw29 (n := 32) (i := 7) kc_cX11_happens_1 (by decide +kernel)
theorem dX11_happens_40 : decode cX11_happens 40 = .ok (.iadd, 1) := dw96 (n := 32) (i := 8) kc_cX11_happens_1 (by decide +kernel)
theorem dX11_happens_41 : decode cX11_happens 41 = .ok (.aload_n 0, 1) := dw42 (n := 32) (i := 9) kc_cX11_happens_1 (by decide +kernel)
theorem dX11_happens_42 : decode cX11_happens 42 = .ok (.getfield 87, 3) := dw180 (n := 32) (i := 10) (a := 0) (b := 87) kc_cX11_happens_1 (by decide +kernel) (by decide)
theorem dX11_happens_45 : decode cX11_happens 45 = .ok (.iload_n 3, 1) := dw29 (n := 32) (i := 13) kc_cX11_happens_1 (by decide +kernel)
theorem dX11_happens_46 : decode cX11_happens 46 = .ok (.laload, 1) := dw47 (n := 32) (i := 14) kc_cX11_happens_1 (by decide +kernel)
theorem dX11_happens_47 : decode cX11_happens 47 = .ok (.lastore, 1) := dw80 (n := 32) (i := 15) kc_cX11_happens_1 (by decide +kernel)
theorem dX11_happens_48 : decode cX11_happens 48 = .ok (.aload_n 0, 1) := dw42 (n := 32) (i := 16) kc_cX11_happens_1 (by decide +kernel)
theorem dX11_happens_49 : decode cX11_happens 49 = .ok (.getfield 78, 3) := dw180 (n := 32) (i := 17) (a := 0) (b := 78) kc_cX11_happens_1 (by decide +kernel) (by decide)
theorem dX11_happens_52 : decode cX11_happens 52 = .ok (.bipush 10, 2) := dw16 (n := 32) (i := 20) (a := 10) kc_cX11_happens_1 (by decide +kernel) (by decide)
theorem dX11_happens_54 : decode cX11_happens 54 = .ok (.aload_n 0, 1) := dw42 (n := 32) (i := 22) kc_cX11_happens_1 (by decide +kernel)
theorem dX11_happens_55 : decode cX11_happens 55 = .ok (.getfield 208, 3) := dw180 (n := 32) (i := 23) (a := 0) (b := 208) kc_cX11_happens_1 (by decide +kernel) (by decide)
theorem dX11_happens_58 : decode cX11_happens 58 = .ok (.imul, 1) := dw104 (n := 32) (i := 26) kc_cX11_happens_1 (by decide +kernel)
theorem dX11_happens_59 : decode cX11_happens 59 = .ok (.iload_n 3, 1) := dw29 (n := 32) (i := 27) kc_cX11_happens_1 (by decide +kernel)
theorem dX11_happens_60 : decode cX11_happens 60 = .ok (.iadd, 1) := dw96 (n := 32) (i := 28) kc_cX11_happens_1 (by decide +kernel)
theorem dX11_happens_61 : decode cX11_happens 61 = .ok (.aload_n 0, 1) := dw42 (n := 32) (i := 29) kc_cX11_happens_1 (by decide +kernel)
theorem dX11_happens_62 : decode cX11_happens 62 = .ok (.getfield 90, 3) := dw180 (n := 32) (i := 30) (a := 0) (b := 90) kc_cX11_happens_1 (by decide +kernel) (by decide)
theorem dX11_happens_65 : decode cX11_happens 65 = .ok (.iload_n 3, 1) := dw29 (n := 64) (i := 1) kc_cX11_happens_2 (by decide +kernel)
theorem dX11_happens_66 : decode cX11_happens 66 = .ok (.laload, 1) := dw47 (n := 64) (i := 2) kc_cX11_happens_2 (by decide +kernel)
theorem dX11_happens_67 : decode cX11_happens 67 = .ok (.lastore, 1) := dw80 (n := 64) (i := 3) kc_cX11_happens_2 (by decide +kernel)
theorem dX11_happens_68 : decode cX11_happens 68 = .ok (.iinc 3 1, 3) := by decide +kernel
theorem dX11_happens_71 : decode cX11_happens 71 = .ok (.goto (-49), 3) := dw167 (n := 64) (i := 7) (a := 255) (b := 207) kc_cX11_happens_2 (by decide +kernel) (by decide)
set_option maxHeartbeats 4000000 in
set_option maxRecDepth 100000 in
theorem s_X11_happens (l : Launch) (D : va_G) (ad : Nat → Nat) (cs : Nat → ClassId) (M : MI) (L : ML) (x : Int32) (y : Int32) (hI : IR M) (hr31 : (M 258 31).toInt < 40) : Cv l yX11_happens wsX11_happens ({ frames := 0, cells := 0, slots := 0, locals := 0 }) D ad cs [.ref (ad 258), .int x, .int y] M L (fun M1 L1 => ((M1 258 31).toInt = (M 258 31).toInt + 1) ∧ IR M1 ∧ (∀ k i, ¬ (k = 258 ∧ i = 31) ∧ k ≠ 278 ∧ k ≠ 279 → M1 k i = M k i) ∧ ∀ k i, k ≠ 280 ∧ k ≠ 281 → L1 k i = L k i) := by
  refine enter_v RX11 rfl [(0, .ref (ad 258)), (1, .int x), (2, .int y)] rfl (Nat.le_of_ble_eq_true rfl) (by decide +kernel) rfl ?_
  intro p e s m below meth c C hr
  have hF : ∀ k i, ¬ (k = 258 ∧ i = 31) ∧ k ≠ 278 ∧ k ≠ 279 → M k i = M k i := fun _ _ _ => rfl
  have hG : ∀ k i, k ≠ 280 ∧ k ≠ 281 → L k i = L k i := fun _ _ _ => rfl
  obtain ⟨ra, rb⟩ := (show rg 0 40 (M 258 31) from hI 258 31)
  have k31 : M 258 31 = M 258 31 := rfl
  have p280 : L 280 = L 280 := rfl
  have p281 : L 281 = L 281 := rfl
  have q278 : M 278 = M 278 := rfl
  have q279 : M 279 = M 279 := rfl
  refine g_aload_n C 0 dX11_happens_0 rfl ?_
  refine g_get C (.ref (ad 278)) 32 in_X11_happens_11 (List.mem_of_getElem? (i := 1) rfl) (by decide) (ce_model ad cs _ _) rfl (by decide) rfl rfl dX11_happens_1 ?_
  refine g_aload_n C 0 dX11_happens_4 rfl ?_
  refine g_get C (.int (M 258 31)) 31 in_X11_happens_11 (List.mem_of_getElem? (i := 2) rfl) (by decide) (ce_model ad cs _ _) rfl (by decide) rfl rfl dX11_happens_5 ?_
  refine g_ni (fun v1 ev1 => ?_)
  have gv1 : v1 = M 258 31 := ev1.trans k31
  have tv1 := congrArg Int32.toInt gv1
  obtain ⟨bv1, dv1⟩ := (show rg 0 40 v1 from (by rw [ev1]; exact hI 258 31))
  refine g_iload_n C 1 dX11_happens_8 rfl ?_
  refine g_iast C (by decide) (ce_m_roundWhat ad cs _ _) (by rw [sI_k]; rfl) (fin' (n := 40) rfl (by omega) (by omega)) dX11_happens_9 ?_
  refine g_nm (fun M2 hM2 => ?_)
  have hI : IR M2 := by rw [hM2]; exact hI.st (show bR 278 _ _ from trivial)
  have hF : ∀ k i, ¬ (k = 258 ∧ i = 31) ∧ k ≠ 278 ∧ k ≠ 279 → M2 k i = M k i := fun k i hk => by (rw [hM2, sI_at, if_neg (by omega)]; try exact hF k i hk)
  have k31 : M2 258 31 = M 258 31 := by rw [hM2, sI_n _ _ _ (by decide)]; try exact k31
  have q279 : M2 279 = M 279 := by rw [hM2, sI_n _ _ _ (by decide)]; try exact q279
  refine g_aload_n C 0 dX11_happens_10 rfl ?_
  refine g_get C (.ref (ad 279)) 33 in_X11_happens_11 (List.mem_of_getElem? (i := 3) rfl) (by decide) (ce_model ad cs _ _) rfl (by decide) rfl rfl dX11_happens_11 ?_
  refine g_aload_n C 0 dX11_happens_14 rfl ?_
  refine g_get C (.int (M2 258 31)) 31 in_X11_happens_11 (List.mem_of_getElem? (i := 2) rfl) (by decide) (ce_model ad cs _ _) rfl (by decide) rfl rfl dX11_happens_15 ?_
  refine g_ni (fun v3 ev3 => ?_)
  have gv3 : v3 = M 258 31 := ev3.trans k31
  have tv3 := congrArg Int32.toInt gv3
  obtain ⟨bv3, dv3⟩ := (show rg 0 40 v3 from (by rw [ev3]; exact hI 258 31))
  refine g_iload_n C 2 dX11_happens_18 rfl ?_
  refine g_iast C (by decide) (ce_m_roundWho ad cs _ _) (by rw [sI_k]; rfl) (fin' (n := 40) rfl (by omega) (by omega)) dX11_happens_19 ?_
  refine g_nm (fun M4 hM4 => ?_)
  have hI : IR M4 := by rw [hM4]; exact hI.st (show bR 279 _ _ from trivial)
  have hF : ∀ k i, ¬ (k = 258 ∧ i = 31) ∧ k ≠ 278 ∧ k ≠ 279 → M4 k i = M k i := fun k i hk => by (rw [hM4, sI_at, if_neg (by omega)]; try exact hF k i hk)
  have k31 : M4 258 31 = M 258 31 := by rw [hM4, sI_n _ _ _ (by decide)]; try exact k31
  refine g_iconst C 0 dX11_happens_20 (by decide) ?_
  refine g_istore_n C [(3, .int 0), (0, .ref (ad 258)), (1, .int x), (2, .int y)] dX11_happens_21 (by decide) rfl ?_
  have zy5 : (0 : Int32).toInt = 0 := by decide
  refine g_loop (α := Int32 × MI × ML) (fun a => (11 - a.1.toInt).toNat) (fun a => (0 ≤ a.1.toInt) ∧ (a.1.toInt ≤ 10) ∧ (a.2.1 258 31 = M 258 31) ∧ IR a.2.1 ∧ (∀ k i, ¬ (k = 258 ∧ i = 31) ∧ k ≠ 278 ∧ k ≠ 279 → a.2.1 k i = M k i) ∧ (∀ k i, k ≠ 280 ∧ k ≠ 281 → a.2.2 k i = L k i)) (fun a => a.2.1) (fun a => a.2.2) (fun a => [(3, .int a.1), (0, .ref (ad 258)), (1, .int x), (2, .int y)]) ((0 : Int32), M4, L) ⟨by show 0 ≤ (0 : Int32).toInt; omega, by show (0 : Int32).toInt ≤ 10; omega, by show M4 258 31 = M 258 31; exact k31, hI, hF, hG⟩ rfl rfl rfl ?_
  rintro ⟨x3_22, M_22, L_22⟩ ⟨j22_0, j22_1, j22_2, hI, hF, hG⟩ ih_22
  dsimp only at j22_0 j22_1 j22_2 hI hF hG ih_22 ⊢
  have k31 : M_22 258 31 = M_22 258 31 := rfl
  have p280 : L_22 280 = L_22 280 := rfl
  have p281 : L_22 281 = L_22 281 := rfl
  have q278 : M_22 278 = M_22 278 := rfl
  have q279 : M_22 279 = M_22 279 := rfl
  have k31t := congrArg Int32.toInt j22_2
  refine g_iload_n C 0 dX11_happens_22 rfl ?_
  refine g_bipush C 10 dX11_happens_23 (by decide) ?_
  refine g_icmp_ge C 74 dX11_happens_25 (by decide) (fun c6 => ?_) (fun c6 => ?_)
  ·
    have f7 := fle (by decide : (10 : Int32).toInt = 10) rfl c6
    refine g_aload_n C 1 dX11_happens_74 rfl ?_
    refine g_dup C dX11_happens_75 rfl ?_
    refine g_get C (.int (M_22 258 31)) 31 in_X11_happens_11 (List.mem_of_getElem? (i := 2) rfl) (by decide) (ce_model ad cs _ _) rfl (by decide) rfl rfl dX11_happens_76 ?_
    refine g_ni (fun v8 ev8 => ?_)
    have gv8 : v8 = M_22 258 31 := ev8.trans k31
    have tv8 := congrArg Int32.toInt gv8
    obtain ⟨bv8, dv8⟩ := (show rg 0 40 v8 from (by rw [ev8]; exact hI 258 31))
    refine g_iconst C 1 dX11_happens_79 (by decide) ?_
    refine g_iadd C dX11_happens_80 ?_
    refine g_ni (fun v9 ev9 => ?_)
    try have fv9 := fadd rfl (by decide : (1 : Int32).toInt = 1) ev9 (by omega) (by omega)
    refine g_putI C 31 in_X11_happens_11 (List.mem_of_getElem? (i := 2) rfl) (by decide) (ce_model ad cs _ _) rfl (by decide) rfl tyX11 tyX11_ok nmX11 rfl rfl rfl rfl (Nat.le_of_ble_eq_true rfl) (by rw [sI_k]; rfl) dX11_happens_81 ?_
    refine g_nm (fun M10 hM10 => ?_)
    have hI : IR M10 := by rw [hM10]; exact hI.st (show bR 258 31 _ from ⟨by first | omega | decide, by first | omega | decide⟩)
    have hF : ∀ k i, ¬ (k = 258 ∧ i = 31) ∧ k ≠ 278 ∧ k ≠ 279 → M10 k i = M k i := fun k i hk => by (rw [hM10, sI_at, if_neg (by omega)]; try exact hF k i hk)
    have k31 : M10 258 31 = v9 := by rw [hM10, sI_at, if_pos (by decide)]
    have q278 : M10 278 = M_22 278 := by rw [hM10, sI_n _ _ _ (by decide)]; try exact q278
    have q279 : M10 279 = M_22 279 := by rw [hM10, sI_n _ _ _ (by decide)]; try exact q279
    exact g_vret C hr ⟨(by rw [k31]; omega), hI, hF, hG⟩ dX11_happens_84
  ·
    have f11 := fnle (by decide : (10 : Int32).toInt = 10) rfl c6
    refine g_aload_n C 1 dX11_happens_28 rfl ?_
    refine g_get C (.ref (ad 280)) 34 in_X11_happens_11 (List.mem_of_getElem? (i := 4) rfl) (by decide) (ce_model ad cs _ _) rfl (by decide) rfl rfl dX11_happens_29 ?_
    refine g_bipush C 10 dX11_happens_32 (by decide) ?_
    refine g_aload_n C 1 dX11_happens_34 rfl ?_
    refine g_get C (.int (M_22 258 31)) 31 in_X11_happens_11 (List.mem_of_getElem? (i := 2) rfl) (by decide) (ce_model ad cs _ _) rfl (by decide) rfl rfl dX11_happens_35 ?_
    refine g_ni (fun v12 ev12 => ?_)
    have gv12 : v12 = M_22 258 31 := ev12.trans k31
    have tv12 := congrArg Int32.toInt gv12
    obtain ⟨bv12, dv12⟩ := (show rg 0 40 v12 from (by rw [ev12]; exact hI 258 31))
    refine g_imul C dX11_happens_38 ?_
    refine g_ni (fun v13 ev13 => ?_)
    try have fv13 := fmul (by decide : (10 : Int32).toInt = 10) rfl ev13 (by omega) (by omega)
    refine g_iload_n C 0 dX11_happens_39 rfl ?_
    refine g_iadd C dX11_happens_40 ?_
    refine g_ni (fun v14 ev14 => ?_)
    try have fv14 := fadd rfl rfl ev14 (by omega) (by omega)
    refine g_aload_n C 1 dX11_happens_41 rfl ?_
    refine g_get C (.ref (ad 284)) 38 in_X11_happens_11 (List.mem_of_getElem? (i := 5) rfl) (by decide) (ce_model ad cs _ _) rfl (by decide) rfl rfl dX11_happens_42 ?_
    refine g_iload_n C 0 dX11_happens_45 rfl ?_
    refine g_lald C (by decide) (ce_m_ups ad cs _ _) (fin' (n := 10) rfl (by omega) (by omega)) dX11_happens_46 ?_
    refine g_nl (fun v15 ev15 => ?_)
    have gv15 : v15 = L 284 x3_22.toNatClampNeg := ev15.trans (hG 284 _ (by omega))
    have tv15 := congrArg Int64.toInt gv15
    have nv12 := ixn (x := v12) (by omega)
    have nx3_22 := ixn (x := x3_22) (by omega)
    have nv14 := ixn (x := v14) (by omega)
    have iv14 : v14.toNatClampNeg = 10 * v12.toNatClampNeg + x3_22.toNatClampNeg := by omega
    refine g_last C (by decide) (ce_m_tallyUp ad cs _ _) (by rw [sJ_k]; rfl) (fin' (n := 400) rfl (by omega) (by omega)) dX11_happens_47 ?_
    refine g_nmL (fun L16 hL16 => ?_)
    have hG : ∀ k i, k ≠ 280 ∧ k ≠ 281 → L16 k i = L k i := fun k i hk => by (rw [hL16, sJ_at, if_neg (by omega)]; try exact hG k i hk)
    have p281 : L16 281 = L_22 281 := by rw [hL16, sJ_n _ _ _ (by decide)]; try exact p281
    refine g_aload_n C 1 dX11_happens_48 rfl ?_
    refine g_get C (.ref (ad 281)) 35 in_X11_happens_11 (List.mem_of_getElem? (i := 6) rfl) (by decide) (ce_model ad cs _ _) rfl (by decide) rfl rfl dX11_happens_49 ?_
    refine g_bipush C 10 dX11_happens_52 (by decide) ?_
    refine g_aload_n C 1 dX11_happens_54 rfl ?_
    refine g_get C (.int (M_22 258 31)) 31 in_X11_happens_11 (List.mem_of_getElem? (i := 2) rfl) (by decide) (ce_model ad cs _ _) rfl (by decide) rfl rfl dX11_happens_55 ?_
    refine g_ni (fun v17 ev17 => ?_)
    have gv17 : v17 = M_22 258 31 := ev17.trans k31
    have tv17 := congrArg Int32.toInt gv17
    obtain ⟨bv17, dv17⟩ := (show rg 0 40 v17 from (by rw [ev17]; exact hI 258 31))
    refine g_imul C dX11_happens_58 ?_
    refine g_ni (fun v18 ev18 => ?_)
    try have fv18 := fmul (by decide : (10 : Int32).toInt = 10) rfl ev18 (by omega) (by omega)
    refine g_iload_n C 0 dX11_happens_59 rfl ?_
    refine g_iadd C dX11_happens_60 ?_
    refine g_ni (fun v19 ev19 => ?_)
    try have fv19 := fadd rfl rfl ev19 (by omega) (by omega)
    refine g_aload_n C 1 dX11_happens_61 rfl ?_
    refine g_get C (.ref (ad 285)) 39 in_X11_happens_11 (List.mem_of_getElem? (i := 7) rfl) (by decide) (ce_model ad cs _ _) rfl (by decide) rfl rfl dX11_happens_62 ?_
    refine g_iload_n C 0 dX11_happens_65 rfl ?_
    refine g_lald C (by decide) (ce_m_downs ad cs _ _) (fin' (n := 10) rfl (by omega) (by omega)) dX11_happens_66 ?_
    refine g_nl (fun v20 ev20 => ?_)
    have gv20 : v20 = L 285 x3_22.toNatClampNeg := ev20.trans (hG 285 _ (by omega))
    have tv20 := congrArg Int64.toInt gv20
    have nv17 := ixn (x := v17) (by omega)
    have nx3_22 := ixn (x := x3_22) (by omega)
    have nv19 := ixn (x := v19) (by omega)
    have iv19 : v19.toNatClampNeg = 10 * v17.toNatClampNeg + x3_22.toNatClampNeg := by omega
    refine g_last C (by decide) (ce_m_tallyDown ad cs _ _) (by rw [sJ_k]; rfl) (fin' (n := 400) rfl (by omega) (by omega)) dX11_happens_67 ?_
    refine g_nmL (fun L21 hL21 => ?_)
    have hG : ∀ k i, k ≠ 280 ∧ k ≠ 281 → L21 k i = L k i := fun k i hk => by (rw [hL21, sJ_at, if_neg (by omega)]; try exact hG k i hk)
    obtain ⟨v22, ev22⟩ : ∃ y : Int32, y = x3_22 + 1 := ⟨_, rfl⟩
    try have fv22 := fadd rfl (by decide : (1 : Int32).toInt = 1) ev22 (by omega) (by omega)
    refine g_iinc C 0 v22 [(3, .int v22), (0, .ref (ad 258)), (1, .int x), (2, .int y)] dX11_happens_68 rfl (by rw [ev22]; rfl) (by decide) rfl ?_
    refine g_goto C 22 dX11_happens_71 (by decide) ?_
    exact ih_22 (v22, M_22, L21) ⟨by show 0 ≤ v22.toInt; omega, by show v22.toInt ≤ 10; omega, by show M_22 258 31 = M 258 31; exact k31.trans j22_2, hI, hF, hG⟩ (by show (11 - v22.toInt).toNat < (11 - x3_22.toInt).toNat; omega)
theorem dX11_gives_0 : decode cX11_gives 0 = .ok (.aload_n 0, 1) := dw42 (n := 0) (i := 0) kc_cX11_gives_0 (by decide +kernel)
theorem dX11_gives_1 : decode cX11_gives 1 = .ok (.getfield 65, 3) := dw180 (n := 0) (i := 1) (a := 0) (b := 65) kc_cX11_gives_0 (by decide +kernel) (by decide)
theorem in_X11_gives_11 : ∀ w ∈ u_ws RX11 TX11 53, w ∈ wsX11_gives := fun _ h => List.mem_cons_of_mem _ (List.mem_append_right _ h)
theorem dX11_gives_4 : decode cX11_gives 4 = .ok (.aload_n 0, 1) := dw42 (n := 0) (i := 4) kc_cX11_gives_0 (by decide +kernel)
theorem dX11_gives_5 : decode cX11_gives 5 = .ok (.getfield 211, 3) := dw180 (n := 0) (i := 5) (a := 0) (b := 211) kc_cX11_gives_0 (by decide +kernel) (by decide)
theorem dX11_gives_8 : decode cX11_gives 8 = .ok (.iload_n 1, 1) := dw27 (n := 0) (i := 8) kc_cX11_gives_0 (by decide +kernel)
theorem dX11_gives_9 : decode cX11_gives 9 = .ok (.iastore, 1) := dw79 (n := 0) (i := 9) kc_cX11_gives_0 (by decide +kernel)
theorem dX11_gives_10 : decode cX11_gives 10 = .ok (.aload_n 0, 1) := dw42 (n := 0) (i := 10) kc_cX11_gives_0 (by decide +kernel)
theorem dX11_gives_11 : decode cX11_gives 11 = .ok (.dup, 1) := dw89 (n := 0) (i := 11) kc_cX11_gives_0 (by decide +kernel)
theorem dX11_gives_12 : decode cX11_gives 12 = .ok (.getfield 211, 3) := dw180 (n := 0) (i := 12) (a := 0) (b := 211) kc_cX11_gives_0 (by decide +kernel) (by decide)
theorem dX11_gives_15 : decode cX11_gives 15 = .ok (.iconst 1, 1) := dw4 (n := 0) (i := 15) kc_cX11_gives_0 (by decide +kernel)
theorem dX11_gives_16 : decode cX11_gives 16 = .ok (.iadd, 1) := dw96 (n := 0) (i := 16) kc_cX11_gives_0 (by decide +kernel)
theorem dX11_gives_17 : decode cX11_gives 17 = .ok (.putfield 211, 3) := dw181 (n := 0) (i := 17) (a := 0) (b := 211) kc_cX11_gives_0 (by decide +kernel) (by decide)
theorem dX11_gives_20 : decode cX11_gives 20 = .ok (.return_, 1) := dw177 (n := 0) (i := 20) kc_cX11_gives_0 (by decide +kernel)
set_option maxHeartbeats 4000000 in
set_option maxRecDepth 100000 in
theorem s_X11_gives (l : Launch) (D : va_G) (ad : Nat → Nat) (cs : Nat → ClassId) (M : MI) (L : ML) (x : Int32) (hI : IR M) (hg29 : (M 258 29).toInt < 30) : Cv l yX11_gives wsX11_gives ({ frames := 0, cells := 0, slots := 0, locals := 0 }) D ad cs [.ref (ad 258), .int x] M L (fun M1 L1 => ((M1 258 29).toInt = (M 258 29).toInt + 1) ∧ IR M1 ∧ (∀ k i, ¬ (k = 258 ∧ i = 29) ∧ k ≠ 277 → M1 k i = M k i) ∧ ∀ k i, True → L1 k i = L k i) := by
  refine enter_v RX11 rfl [(0, .ref (ad 258)), (1, .int x)] rfl (Nat.le_of_ble_eq_true rfl) (by decide +kernel) rfl ?_
  intro p e s m below meth c C hr
  have hF : ∀ k i, ¬ (k = 258 ∧ i = 29) ∧ k ≠ 277 → M k i = M k i := fun _ _ _ => rfl
  have hG : ∀ k i, True → L k i = L k i := fun _ _ _ => rfl
  obtain ⟨ra, rb⟩ := (show rg 0 30 (M 258 29) from hI 258 29)
  have k29 : M 258 29 = M 258 29 := rfl
  have q277 : M 277 = M 277 := rfl
  refine g_aload_n C 0 dX11_gives_0 rfl ?_
  refine g_get C (.ref (ad 277)) 30 in_X11_gives_11 (List.mem_of_getElem? (i := 1) rfl) (by decide) (ce_model ad cs _ _) rfl (by decide) rfl rfl dX11_gives_1 ?_
  refine g_aload_n C 0 dX11_gives_4 rfl ?_
  refine g_get C (.int (M 258 29)) 29 in_X11_gives_11 (List.mem_of_getElem? (i := 2) rfl) (by decide) (ce_model ad cs _ _) rfl (by decide) rfl rfl dX11_gives_5 ?_
  refine g_ni (fun v1 ev1 => ?_)
  have gv1 : v1 = M 258 29 := ev1.trans k29
  have tv1 := congrArg Int32.toInt gv1
  obtain ⟨bv1, dv1⟩ := (show rg 0 30 v1 from (by rw [ev1]; exact hI 258 29))
  refine g_iload_n C 1 dX11_gives_8 rfl ?_
  refine g_iast C (by decide) (ce_m_seat ad cs _ _) (by rw [sI_k]; rfl) (fin' (n := 30) rfl (by omega) (by omega)) dX11_gives_9 ?_
  refine g_nm (fun M2 hM2 => ?_)
  have hI : IR M2 := by rw [hM2]; exact hI.st (show bR 277 _ _ from trivial)
  have hF : ∀ k i, ¬ (k = 258 ∧ i = 29) ∧ k ≠ 277 → M2 k i = M k i := fun k i hk => by (rw [hM2, sI_at, if_neg (by omega)]; try exact hF k i hk)
  have k29 : M2 258 29 = M 258 29 := by rw [hM2, sI_n _ _ _ (by decide)]; try exact k29
  refine g_aload_n C 0 dX11_gives_10 rfl ?_
  refine g_dup C dX11_gives_11 rfl ?_
  refine g_get C (.int (M2 258 29)) 29 in_X11_gives_11 (List.mem_of_getElem? (i := 2) rfl) (by decide) (ce_model ad cs _ _) rfl (by decide) rfl rfl dX11_gives_12 ?_
  refine g_ni (fun v3 ev3 => ?_)
  have gv3 : v3 = M 258 29 := ev3.trans k29
  have tv3 := congrArg Int32.toInt gv3
  obtain ⟨bv3, dv3⟩ := (show rg 0 30 v3 from (by rw [ev3]; exact hI 258 29))
  refine g_iconst C 1 dX11_gives_15 (by decide) ?_
  refine g_iadd C dX11_gives_16 ?_
  refine g_ni (fun v4 ev4 => ?_)
  try have fv4 := fadd rfl (by decide : (1 : Int32).toInt = 1) ev4 (by omega) (by omega)
  refine g_putI C 29 in_X11_gives_11 (List.mem_of_getElem? (i := 2) rfl) (by decide) (ce_model ad cs _ _) rfl (by decide) rfl tyX11 tyX11_ok nmX11 rfl rfl rfl rfl (Nat.le_of_ble_eq_true rfl) (by rw [sI_k]; rfl) dX11_gives_17 ?_
  refine g_nm (fun M5 hM5 => ?_)
  have hI : IR M5 := by rw [hM5]; exact hI.st (show bR 258 29 _ from ⟨by first | omega | decide, by first | omega | decide⟩)
  have hF : ∀ k i, ¬ (k = 258 ∧ i = 29) ∧ k ≠ 277 → M5 k i = M k i := fun k i hk => by (rw [hM5, sI_at, if_neg (by omega)]; try exact hF k i hk)
  have k29 : M5 258 29 = v4 := by rw [hM5, sI_at, if_pos (by decide)]
  exact g_vret C hr ⟨(by rw [k29]; omega), hI, hF, hG⟩ dX11_gives_20
theorem dX11_firstOn_0 : decode cX11_firstOn 0 = .ok (.iconst 0, 1) := dw3 (n := 0) (i := 0) kc_cX11_firstOn_0 (by decide +kernel)
theorem dX11_firstOn_1 : decode cX11_firstOn 1 = .ok (.istore_n 2, 1) := dw61 (n := 0) (i := 1) kc_cX11_firstOn_0 (by decide +kernel)
theorem dX11_firstOn_2 : decode cX11_firstOn 2 = .ok (.iload_n 2, 1) := dw28 (n := 0) (i := 2) kc_cX11_firstOn_0 (by decide +kernel)
theorem dX11_firstOn_3 : decode cX11_firstOn 3 = .ok (.aload_n 0, 1) := dw42 (n := 0) (i := 3) kc_cX11_firstOn_0 (by decide +kernel)
theorem dX11_firstOn_4 : decode cX11_firstOn 4 = .ok (.getfield 22, 3) := dw180 (n := 0) (i := 4) (a := 0) (b := 22) kc_cX11_firstOn_0 (by decide +kernel) (by decide)
theorem in_X11_firstOn_11 : ∀ w ∈ u_ws RX11 TX11 53, w ∈ wsX11_firstOn := fun _ h => List.mem_cons_of_mem _ (List.mem_append_right _ h)
theorem dX11_firstOn_7 : decode cX11_firstOn 7 = .ok (.iload_n 1, 1) := dw27 (n := 0) (i := 7) kc_cX11_firstOn_0 (by decide +kernel)
theorem dX11_firstOn_8 : decode cX11_firstOn 8 = .ok (.iaload, 1) := dw46 (n := 0) (i := 8) kc_cX11_firstOn_0 (by decide +kernel)
theorem dX11_firstOn_9 : decode cX11_firstOn 9 = .ok (.if_icmp .ge 40, 3) := dw162 (n := 0) (i := 9) (a := 0) (b := 40) kc_cX11_firstOn_0 (by decide +kernel) (by decide)
theorem dX11_firstOn_49 : decode cX11_firstOn 49 = .ok (.bipush (-9), 2) := dw16 (n := 32) (i := 17) (a := 247) kc_cX11_firstOn_1 (by decide +kernel) (by decide)
theorem dX11_firstOn_51 : decode cX11_firstOn 51 = .ok (.ireturn, 1) := dw172 (n := 32) (i := 19) kc_cX11_firstOn_1 (by decide +kernel)
theorem dX11_firstOn_12 : decode cX11_firstOn 12 = .ok (.aload_n 0, 1) := dw42 (n := 0) (i := 12) kc_cX11_firstOn_0 (by decide +kernel)
theorem dX11_firstOn_13 : decode cX11_firstOn 13 = .ok (.getfield 81, 3) := dw180 (n := 0) (i := 13) (a := 0) (b := 81) kc_cX11_firstOn_0 (by decide +kernel) (by decide)
theorem dX11_firstOn_16 : decode cX11_firstOn 16 = .ok (.aload_n 0, 1) := dw42 (n := 0) (i := 16) kc_cX11_firstOn_0 (by decide +kernel)
theorem dX11_firstOn_17 : decode cX11_firstOn 17 = .ok (.getfield 25, 3) := dw180 (n := 0) (i := 17) (a := 0) (b := 25) kc_cX11_firstOn_0 (by decide +kernel) (by decide)
theorem dX11_firstOn_20 : decode cX11_firstOn 20 = .ok (.bipush 10, 2) := dw16 (n := 0) (i := 20) (a := 10) kc_cX11_firstOn_0 (by decide +kernel) (by decide)
theorem dX11_firstOn_22 : decode cX11_firstOn 22 = .ok (.iload_n 1, 1) := dw27 (n := 0) (i := 22) kc_cX11_firstOn_0 (by decide +kernel)
theorem dX11_firstOn_23 : decode cX11_firstOn 23 = .ok (.imul, 1) := dw104 (n := 0) (i := 23) kc_cX11_firstOn_0 (by decide +kernel)
theorem dX11_firstOn_24 : decode cX11_firstOn 24 = .ok (.iload_n 2, 1) := dw28 (n := 0) (i := 24) kc_cX11_firstOn_0 (by decide +kernel)
theorem dX11_firstOn_25 : decode cX11_firstOn 25 = .ok (.iadd, 1) := dw96 (n := 0) (i := 25) kc_cX11_firstOn_0 (by decide +kernel)
theorem dX11_firstOn_26 : decode cX11_firstOn 26 = .ok (.iaload, 1) := dw46 (n := 0) (i := 26) kc_cX11_firstOn_0 (by decide +kernel)
theorem dX11_firstOn_27 : decode cX11_firstOn 27 = .ok (.baload, 1) := dw51 (n := 0) (i := 27) kc_cX11_firstOn_0 (by decide +kernel)
theorem dX11_firstOn_28 : decode cX11_firstOn 28 = .ok (.ifCond .eq 15, 3) := dw153 (n := 0) (i := 28) (a := 0) (b := 15) kc_cX11_firstOn_0 (by decide +kernel) (by decide)
theorem dX11_firstOn_43 : decode cX11_firstOn 43 = .ok (.iinc 2 1, 3) := by decide +kernel
theorem dX11_firstOn_46 : decode cX11_firstOn 46 = .ok (.goto (-44), 3) := dw167 (n := 32) (i := 14) (a := 255) (b := 212) kc_cX11_firstOn_1 (by decide +kernel) (by decide)
theorem dX11_firstOn_31 : decode cX11_firstOn 31 = .ok (.aload_n 0, 1) := dw42 (n := 0) (i := 31) kc_cX11_firstOn_0 (by decide +kernel)
theorem dX11_firstOn_32 : decode cX11_firstOn 32 = .ok (.getfield 25, 3) := dw180 (n := 32) (i := 0) (a := 0) (b := 25) kc_cX11_firstOn_1 (by decide +kernel) (by decide)
theorem dX11_firstOn_35 : decode cX11_firstOn 35 = .ok (.bipush 10, 2) := dw16 (n := 32) (i := 3) (a := 10) kc_cX11_firstOn_1 (by decide +kernel) (by decide)
theorem dX11_firstOn_37 : decode cX11_firstOn 37 = .ok (.iload_n 1, 1) := dw27 (n := 32) (i := 5) kc_cX11_firstOn_1 (by decide +kernel)
theorem dX11_firstOn_38 : decode cX11_firstOn 38 = .ok (.imul, 1) := dw104 (n := 32) (i := 6) kc_cX11_firstOn_1 (by decide +kernel)
theorem dX11_firstOn_39 : decode cX11_firstOn 39 = .ok (.iload_n 2, 1) := dw28 (n := 32) (i := 7) kc_cX11_firstOn_1 (by decide +kernel)
theorem dX11_firstOn_40 : decode cX11_firstOn 40 = .ok (.iadd, 1) := dw96 (n := 32) (i := 8) kc_cX11_firstOn_1 (by decide +kernel)
theorem dX11_firstOn_41 : decode cX11_firstOn 41 = .ok (.iaload, 1) := dw46 (n := 32) (i := 9) kc_cX11_firstOn_1 (by decide +kernel)
theorem dX11_firstOn_42 : decode cX11_firstOn 42 = .ok (.ireturn, 1) := dw172 (n := 32) (i := 10) kc_cX11_firstOn_1 (by decide +kernel)
set_option maxHeartbeats 4000000 in
set_option maxRecDepth 100000 in
theorem s_X11_firstOn (l : Launch) (D : va_G) (ad : Nat → Nat) (cs : Nat → ClassId) (M : MI) (L : ML) (x : Int32) (hI : IR M) (hx : 0 ≤ x.toInt ∧ x.toInt < 60) : Ci l yX11_firstOn wsX11_firstOn ({ frames := 0, cells := 0, slots := 0, locals := 0 }) D ad cs [.ref (ad 258), .int x] M L (fun r M1 L1 => M1 = M ∧ L1 = L ∧ (r.toInt = -9 ∨ (0 ≤ r.toInt ∧ r.toInt < 10))) := by
  refine enter_i RX11 rfl [(0, .ref (ad 258)), (1, .int x)] rfl (Nat.le_of_ble_eq_true rfl) (by decide +kernel) rfl ?_
  intro p e s m below meth c C hr
  have hF : ∀ k i, True → M k i = M k i := fun _ _ _ => rfl
  have hG : ∀ k i, True → L k i = L k i := fun _ _ _ => rfl
  obtain ⟨hx1, hx2⟩ := hx
  refine g_iconst C 0 dX11_firstOn_0 (by decide) ?_
  refine g_istore_n C [(2, .int 0), (0, .ref (ad 258)), (1, .int x)] dX11_firstOn_1 (by decide) rfl ?_
  have zy1 : (0 : Int32).toInt = 0 := by decide
  refine g_loop (α := Int32 × MI × ML) (fun a => (11 - a.1.toInt).toNat) (fun a => (0 ≤ a.1.toInt) ∧ (a.1.toInt ≤ 10) ∧ IR a.2.1 ∧ (∀ k i, True → a.2.1 k i = M k i) ∧ (∀ k i, True → a.2.2 k i = L k i)) (fun a => a.2.1) (fun a => a.2.2) (fun a => [(2, .int a.1), (0, .ref (ad 258)), (1, .int x)]) ((0 : Int32), M, L) ⟨by show 0 ≤ (0 : Int32).toInt; omega, by show (0 : Int32).toInt ≤ 10; omega, hI, hF, hG⟩ rfl rfl rfl ?_
  rintro ⟨x2_2, M_2, L_2⟩ ⟨j2_0, j2_1, hI, hF, hG⟩ ih_2
  dsimp only at j2_0 j2_1 hI hF hG ih_2 ⊢
  refine g_iload_n C 0 dX11_firstOn_2 rfl ?_
  refine g_aload_n C 1 dX11_firstOn_3 rfl ?_
  refine g_get C (.ref (ad 263)) 7 in_X11_firstOn_11 (List.mem_of_getElem? (i := 1) rfl) (by decide) (ce_model ad cs _ _) rfl (by decide) rfl rfl dX11_firstOn_4 ?_
  refine g_iload_n C 2 dX11_firstOn_7 rfl ?_
  refine g_iald C (by decide) (ce_m_onIt ad cs _ _) (fin' (n := 60) rfl (by omega) (by omega)) dX11_firstOn_8 ?_
  refine g_ni (fun v2 ev2 => ?_)
  have gv2 : v2 = M 263 x.toNatClampNeg := ev2.trans (hF 263 x.toNatClampNeg trivial)
  have tv2 := congrArg Int32.toInt gv2
  obtain ⟨bv2, dv2⟩ := (show rg 0 10 v2 from (by rw [ev2]; exact hI 263 x.toNatClampNeg))
  refine g_icmp_ge C 49 dX11_firstOn_9 (by decide) (fun c3 => ?_) (fun c3 => ?_)
  ·
    have f4 := fle rfl rfl c3
    refine g_bipush C (-9) dX11_firstOn_49 (by decide) ?_
    have zr9 : ((-9) : Int32).toInt = (-9) := by decide
    exact g_iret C hr ⟨funext (fun k => funext (fun i => hF k i trivial)), funext (fun k => funext (fun i => hG k i trivial)), (by omega)⟩ dX11_firstOn_51
  ·
    have f5 := fnle rfl rfl c3
    refine g_aload_n C 1 dX11_firstOn_12 rfl ?_
    refine g_get C (.ref (ad 282)) 36 in_X11_firstOn_11 (List.mem_of_getElem? (i := 2) rfl) (by decide) (ce_model ad cs _ _) rfl (by decide) rfl rfl dX11_firstOn_13 ?_
    refine g_aload_n C 1 dX11_firstOn_16 rfl ?_
    refine g_get C (.ref (ad 264)) 8 in_X11_firstOn_11 (List.mem_of_getElem? (i := 3) rfl) (by decide) (ce_model ad cs _ _) rfl (by decide) rfl rfl dX11_firstOn_17 ?_
    refine g_bipush C 10 dX11_firstOn_20 (by decide) ?_
    refine g_iload_n C 2 dX11_firstOn_22 rfl ?_
    refine g_imul C dX11_firstOn_23 ?_
    refine g_ni (fun v6 ev6 => ?_)
    try have fv6 := fmul (by decide : (10 : Int32).toInt = 10) rfl ev6 (by omega) (by omega)
    refine g_iload_n C 0 dX11_firstOn_24 rfl ?_
    refine g_iadd C dX11_firstOn_25 ?_
    refine g_ni (fun v7 ev7 => ?_)
    try have fv7 := fadd rfl rfl ev7 (by omega) (by omega)
    refine g_iald C (by decide) (ce_m_marks ad cs _ _) (fin' (n := 600) rfl (by omega) (by omega)) dX11_firstOn_26 ?_
    have nx := ixn (x := x) (by omega)
    have nx2_2 := ixn (x := x2_2) (by omega)
    have nv7 := ixn (x := v7) (by omega)
    have iv7 : v7.toNatClampNeg = 10 * x.toNatClampNeg + x2_2.toNatClampNeg := by omega
    refine g_ni (fun v8 ev8 => ?_)
    have gv8 : v8 = M 264 v7.toNatClampNeg := ev8.trans (hF 264 v7.toNatClampNeg trivial)
    have gv8 := cg1 (f := M 264) gv8 iv7
    have tv8 := congrArg Int32.toInt gv8
    obtain ⟨bv8, dv8⟩ := (show rg 0 9 v8 from (by rw [ev8]; exact hI 264 v7.toNatClampNeg))
    refine g_zald C (by decide) (ce_m_isIn ad cs _ _) (fin' (n := 10) rfl (by omega) (by omega)) dX11_firstOn_27 ?_
    refine g_ni (fun v9 ev9 => ?_)
    have gv9 : v9 = M 282 v8.toNatClampNeg := ev9.trans (hF 282 v8.toNatClampNeg trivial)
    have tv9 := congrArg Int32.toInt gv9
    refine g_if_eq C 43 dX11_firstOn_28 (by decide) (fun c10 => ?_) (fun c10 => ?_)
    ·
      have f11 := feq rfl (by decide : (0 : Int32).toInt = 0) c10
      obtain ⟨v12, ev12⟩ : ∃ y : Int32, y = x2_2 + 1 := ⟨_, rfl⟩
      try have fv12 := fadd rfl (by decide : (1 : Int32).toInt = 1) ev12 (by omega) (by omega)
      refine g_iinc C 0 v12 [(2, .int v12), (0, .ref (ad 258)), (1, .int x)] dX11_firstOn_43 rfl (by rw [ev12]; rfl) (by decide) rfl ?_
      refine g_goto C 2 dX11_firstOn_46 (by decide) ?_
      exact ih_2 (v12, M_2, L_2) ⟨by show 0 ≤ v12.toInt; omega, by show v12.toInt ≤ 10; omega, hI, hF, hG⟩ (by show (11 - v12.toInt).toNat < (11 - x2_2.toInt).toNat; omega)
    ·
      have f13 := fne rfl (by decide : (0 : Int32).toInt = 0) c10
      refine g_aload_n C 1 dX11_firstOn_31 rfl ?_
      refine g_get C (.ref (ad 264)) 8 in_X11_firstOn_11 (List.mem_of_getElem? (i := 3) rfl) (by decide) (ce_model ad cs _ _) rfl (by decide) rfl rfl dX11_firstOn_32 ?_
      refine g_bipush C 10 dX11_firstOn_35 (by decide) ?_
      refine g_iload_n C 2 dX11_firstOn_37 rfl ?_
      refine g_imul C dX11_firstOn_38 ?_
      refine g_ni (fun v14 ev14 => ?_)
      try have fv14 := fmul (by decide : (10 : Int32).toInt = 10) rfl ev14 (by omega) (by omega)
      refine g_iload_n C 0 dX11_firstOn_39 rfl ?_
      refine g_iadd C dX11_firstOn_40 ?_
      refine g_ni (fun v15 ev15 => ?_)
      try have fv15 := fadd rfl rfl ev15 (by omega) (by omega)
      refine g_iald C (by decide) (ce_m_marks ad cs _ _) (fin' (n := 600) rfl (by omega) (by omega)) dX11_firstOn_41 ?_
      have nx := ixn (x := x) (by omega)
      have nx2_2 := ixn (x := x2_2) (by omega)
      have nv15 := ixn (x := v15) (by omega)
      have iv15 : v15.toNatClampNeg = 10 * x.toNatClampNeg + x2_2.toNatClampNeg := by omega
      refine g_ni (fun v16 ev16 => ?_)
      have gv16 : v16 = M 264 v15.toNatClampNeg := ev16.trans (hF 264 v15.toNatClampNeg trivial)
      have gv16 := cg1 (f := M 264) gv16 iv15
      have tv16 := congrArg Int32.toInt gv16
      obtain ⟨bv16, dv16⟩ := (show rg 0 9 v16 from (by rw [ev16]; exact hI 264 v15.toNatClampNeg))
      exact g_iret C hr ⟨funext (fun k => funext (fun i => hF k i trivial)), funext (fun k => funext (fun i => hG k i trivial)), (by omega)⟩ dX11_firstOn_42
theorem dX11_isMore_0 : decode cX11_isMore 0 = .ok (.lload_n 0, 1) := dw30 (n := 0) (i := 0) kc_cX11_isMore_0 (by decide +kernel)
theorem dX11_isMore_1 : decode cX11_isMore 1 = .ok (.lload 6, 2) := dw22 (n := 0) (i := 1) (a := 6) kc_cX11_isMore_0 (by decide +kernel) (by decide)
theorem dX11_isMore_3 : decode cX11_isMore 3 = .ok (.lmul, 1) := dw105 (n := 0) (i := 3) kc_cX11_isMore_0 (by decide +kernel)
theorem dX11_isMore_4 : decode cX11_isMore 4 = .ok (.lload 4, 2) := dw22 (n := 0) (i := 4) (a := 4) kc_cX11_isMore_0 (by decide +kernel) (by decide)
theorem dX11_isMore_6 : decode cX11_isMore 6 = .ok (.lload_n 2, 1) := dw32 (n := 0) (i := 6) kc_cX11_isMore_0 (by decide +kernel)
theorem dX11_isMore_7 : decode cX11_isMore 7 = .ok (.lmul, 1) := dw105 (n := 0) (i := 7) kc_cX11_isMore_0 (by decide +kernel)
theorem dX11_isMore_8 : decode cX11_isMore 8 = .ok (.lcmp, 1) := dw148 (n := 0) (i := 8) kc_cX11_isMore_0 (by decide +kernel)
theorem dX11_isMore_9 : decode cX11_isMore 9 = .ok (.ifCond .le 7, 3) := dw158 (n := 0) (i := 9) (a := 0) (b := 7) kc_cX11_isMore_0 (by decide +kernel) (by decide)
theorem dX11_isMore_16 : decode cX11_isMore 16 = .ok (.iconst 0, 1) := dw3 (n := 0) (i := 16) kc_cX11_isMore_0 (by decide +kernel)
theorem dX11_isMore_17 : decode cX11_isMore 17 = .ok (.ireturn, 1) := dw172 (n := 0) (i := 17) kc_cX11_isMore_0 (by decide +kernel)
theorem dX11_isMore_12 : decode cX11_isMore 12 = .ok (.iconst 1, 1) := dw4 (n := 0) (i := 12) kc_cX11_isMore_0 (by decide +kernel)
theorem dX11_isMore_13 : decode cX11_isMore 13 = .ok (.goto 4, 3) := dw167 (n := 0) (i := 13) (a := 0) (b := 4) kc_cX11_isMore_0 (by decide +kernel) (by decide)
set_option maxHeartbeats 4000000 in
set_option maxRecDepth 100000 in
theorem s_X11_isMore (l : Launch) (D : va_G) (ad : Nat → Nat) (cs : Nat → ClassId) (M : MI) (L : ML) (x : Int64) (y : Int64) (z : Int64) (u : Int64) (hI : IR M) : Ci l yX11_isMore wsX11_isMore ({ frames := 0, cells := 0, slots := 0, locals := 0 }) D ad cs [.long x, .long y, .long z, .long u] M L (fun r M1 L1 => M1 = M ∧ L1 = L ∧ (0 ≤ r.toInt ∧ r.toInt ≤ 1)) := by
  refine enter_i RX11 rfl [(0, .long x), (2, .long y), (4, .long z), (6, .long u)] rfl (Nat.le_of_ble_eq_true rfl) (by decide +kernel) rfl ?_
  intro p e s m below meth c C hr
  have hF : ∀ k i, True → M k i = M k i := fun _ _ _ => rfl
  have hG : ∀ k i, True → L k i = L k i := fun _ _ _ => rfl
  refine g_lload_n C 0 dX11_isMore_0 rfl ?_
  refine g_lload C 3 dX11_isMore_1 rfl ?_
  refine g_lmul C dX11_isMore_3 ?_
  refine g_nl (fun v1 ev1 => ?_)
  try have fv1 := prodI ev1
  refine g_lload C 2 dX11_isMore_4 rfl ?_
  refine g_lload_n C 1 dX11_isMore_6 rfl ?_
  refine g_lmul C dX11_isMore_7 ?_
  refine g_nl (fun v2 ev2 => ?_)
  try have fv2 := prodI ev2
  refine g_lcmp C dX11_isMore_8 ?_
  refine g_ni (fun v3 ev3 => ?_)
  refine g_if_le C 16 dX11_isMore_9 (by decide) (fun c4 => ?_) (fun c4 => ?_)
  ·
    have f5 := cle rfl rfl ev3 c4
    refine g_iconst C 0 dX11_isMore_16 (by decide) ?_
    have zr9 : (0 : Int32).toInt = 0 := by decide
    exact g_zret C hr rfl ⟨rfl, rfl, ⟨by omega, by omega⟩⟩ dX11_isMore_17
  ·
    have f6 := cnle rfl rfl ev3 c4
    refine g_iconst C 1 dX11_isMore_12 (by decide) ?_
    refine g_goto C 17 dX11_isMore_13 (by decide) ?_
    have zr9 : (1 : Int32).toInt = 1 := by decide
    exact g_zret C hr rfl ⟨rfl, rfl, ⟨by omega, by omega⟩⟩ dX11_isMore_17
