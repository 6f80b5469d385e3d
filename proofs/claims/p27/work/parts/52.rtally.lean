theorem dX11_noTallies_0 : decode cX11_noTallies 0 = .ok (.iconst 0, 1) := dw3 (n := 0) (i := 0) kc_cX11_noTallies_0 (by decide +kernel)
theorem dX11_noTallies_1 : decode cX11_noTallies 1 = .ok (.istore_n 1, 1) := dw60 (n := 0) (i := 1) kc_cX11_noTallies_0 (by decide +kernel)
theorem dX11_noTallies_2 : decode cX11_noTallies 2 = .ok (.iload_n 1, 1) := dw27 (n := 0) (i := 2) kc_cX11_noTallies_0 (by decide +kernel)
theorem dX11_noTallies_3 : decode cX11_noTallies 3 = .ok (.bipush 10, 2) := dw16 (n := 0) (i := 3) (a := 10) kc_cX11_noTallies_0 (by decide +kernel) (by decide)
theorem dX11_noTallies_5 : decode cX11_noTallies 5 = .ok (.if_icmp .ge 23, 3) := dw162 (n := 0) (i := 5) (a := 0) (b := 23) kc_cX11_noTallies_0 (by decide +kernel) (by decide)
theorem dX11_noTallies_28 : decode cX11_noTallies 28 = .ok (.return_, 1) := dw177 (n := 0) (i := 28) kc_cX11_noTallies_0 (by decide +kernel)
theorem dX11_noTallies_8 : decode cX11_noTallies 8 = .ok (.aload_n 0, 1) := dw42 (n := 0) (i := 8) kc_cX11_noTallies_0 (by decide +kernel)
theorem dX11_noTallies_9 : decode cX11_noTallies 9 = .ok (.getfield 87, 3) := dw180 (n := 0) (i := 9) (a := 0) (b := 87) kc_cX11_noTallies_0 (by decide +kernel) (by decide)
theorem in_X11_noTallies_11 : ∀ w ∈ u_ws RX11 TX11 53, w ∈ wsX11_noTallies := fun _ h => List.mem_cons_of_mem _ (List.mem_append_right _ h)
theorem dX11_noTallies_12 : decode cX11_noTallies 12 = .ok (.iload_n 1, 1) := dw27 (n := 0) (i := 12) kc_cX11_noTallies_0 (by decide +kernel)
theorem dX11_noTallies_13 : decode cX11_noTallies 13 = .ok (.lconst 0, 1) := dw9 (n := 0) (i := 13) kc_cX11_noTallies_0 (by decide +kernel)
theorem dX11_noTallies_14 : decode cX11_noTallies 14 = .ok (.lastore, 1) := dw80 (n := 0) (i := 14) kc_cX11_noTallies_0 (by decide +kernel)
theorem dX11_noTallies_15 : decode cX11_noTallies 15 = .ok (.aload_n 0, 1) := dw42 (n := 0) (i := 15) kc_cX11_noTallies_0 (by decide +kernel)
theorem dX11_noTallies_16 : decode cX11_noTallies 16 = .ok (.getfield 90, 3) := dw180 (n := 0) (i := 16) (a := 0) (b := 90) kc_cX11_noTallies_0 (by decide +kernel) (by decide)
theorem dX11_noTallies_19 : decode cX11_noTallies 19 = .ok (.iload_n 1, 1) := dw27 (n := 0) (i := 19) kc_cX11_noTallies_0 (by decide +kernel)
theorem dX11_noTallies_20 : decode cX11_noTallies 20 = .ok (.lconst 1, 1) := dw10 (n := 0) (i := 20) kc_cX11_noTallies_0 (by decide +kernel)
theorem dX11_noTallies_21 : decode cX11_noTallies 21 = .ok (.lastore, 1) := dw80 (n := 0) (i := 21) kc_cX11_noTallies_0 (by decide +kernel)
theorem dX11_noTallies_22 : decode cX11_noTallies 22 = .ok (.iinc 1 1, 3) := by decide +kernel
theorem dX11_noTallies_25 : decode cX11_noTallies 25 = .ok (.goto (-23), 3) := dw167 (n := 0) (i := 25) (a := 255) (b := 233) kc_cX11_noTallies_0 (by decide +kernel) (by decide)
set_option maxHeartbeats 4000000 in
set_option maxRecDepth 100000 in
theorem s_X11_noTallies (l : Launch) (D : va_G) (ad : Nat → Nat) (cs : Nat → ClassId) (M : MI) (L : ML)  (hI : IR M) : Cv l yX11_noTallies wsX11_noTallies ({ frames := 0, cells := 0, slots := 0, locals := 0 }) D ad cs [.ref (ad 258)] M L (fun M1 L1 => (∀ j : Nat, j < 10 → L1 284 j = 0 ∧ L1 285 j = 1) ∧ IR M1 ∧ (∀ k i, True → M1 k i = M k i) ∧ ∀ k i, k ≠ 284 ∧ k ≠ 285 → L1 k i = L k i) := by
  refine enter_v RX11 rfl [(0, .ref (ad 258))] rfl (Nat.le_of_ble_eq_true rfl) (by decide +kernel) rfl ?_
  intro p e s m below meth c C hr
  have hF : ∀ k i, True → M k i = M k i := fun _ _ _ => rfl
  have hG : ∀ k i, k ≠ 284 ∧ k ≠ 285 → L k i = L k i := fun _ _ _ => rfl
  have p284 : L 284 = L 284 := rfl
  have p285 : L 285 = L 285 := rfl
  refine g_iconst C 0 dX11_noTallies_0 (by decide) ?_
  refine g_istore_n C [(1, .int 0), (0, .ref (ad 258))] dX11_noTallies_1 (by decide) rfl ?_
  have zy1 : (0 : Int32).toInt = 0 := by decide
  refine g_loop (α := Int32 × MI × ML) (fun a => (11 - a.1.toInt).toNat) (fun a => (0 ≤ a.1.toInt) ∧ (a.1.toInt ≤ 10) ∧ (∀ j : Nat, j < a.1.toNatClampNeg → a.2.2 284 j = 0 ∧ a.2.2 285 j = 1) ∧ IR a.2.1 ∧ (∀ k i, True → a.2.1 k i = M k i) ∧ (∀ k i, k ≠ 284 ∧ k ≠ 285 → a.2.2 k i = L k i)) (fun a => a.2.1) (fun a => a.2.2) (fun a => [(1, .int a.1), (0, .ref (ad 258))]) ((0 : Int32), M, L) ⟨by show 0 ≤ (0 : Int32).toInt; omega, by show (0 : Int32).toInt ≤ 10; omega, by show ∀ j : Nat, j < (0 : Int32).toNatClampNeg → L 284 j = 0 ∧ L 285 j = 1; intro j hj; exact absurd hj (by show ¬ j < 0; omega), hI, hF, hG⟩ rfl rfl rfl ?_
  rintro ⟨x1_2, M_2, L_2⟩ ⟨j2_0, j2_1, j2_2, hI, hF, hG⟩ ih_2
  dsimp only at j2_0 j2_1 j2_2 hI hF hG ih_2 ⊢
  have p284 : L_2 284 = L_2 284 := rfl
  have p285 : L_2 285 = L_2 285 := rfl
  have n1 := ixn (x := x1_2) (by omega)
  refine g_iload_n C 0 dX11_noTallies_2 rfl ?_
  refine g_bipush C 10 dX11_noTallies_3 (by decide) ?_
  refine g_icmp_ge C 28 dX11_noTallies_5 (by decide) (fun c2 => ?_) (fun c2 => ?_)
  ·
    have f3 := fle (by decide : (10 : Int32).toInt = 10) rfl c2
    exact g_vret C hr ⟨(fun j hj => j2_2 j (by omega)), hI, hF, hG⟩ dX11_noTallies_28
  ·
    have f4 := fnle (by decide : (10 : Int32).toInt = 10) rfl c2
    refine g_aload_n C 1 dX11_noTallies_8 rfl ?_
    refine g_get C (.ref (ad 284)) 38 in_X11_noTallies_11 (List.mem_of_getElem? (i := 1) rfl) (by decide) (ce_model ad cs _ _) rfl (by decide) rfl rfl dX11_noTallies_9 ?_
    refine g_iload_n C 0 dX11_noTallies_12 rfl ?_
    refine g_lconst C 0 dX11_noTallies_13 (by decide) ?_
    refine g_last C (by decide) (ce_m_ups ad cs _ _) (by rw [sJ_k]; rfl) (fin' (n := 10) rfl (by omega) (by omega)) dX11_noTallies_14 ?_
    refine g_nmL (fun L5 hL5 => ?_)
    have hG : ∀ k i, k ≠ 284 ∧ k ≠ 285 → L5 k i = L k i := fun k i hk => by (rw [hL5, sJ_at, if_neg (by omega)]; try exact hG k i hk)
    have p285 : L5 285 = L_2 285 := by rw [hL5, sJ_n _ _ _ (by decide)]; try exact p285
    refine g_aload_n C 1 dX11_noTallies_15 rfl ?_
    refine g_get C (.ref (ad 285)) 39 in_X11_noTallies_11 (List.mem_of_getElem? (i := 2) rfl) (by decide) (ce_model ad cs _ _) rfl (by decide) rfl rfl dX11_noTallies_16 ?_
    refine g_iload_n C 0 dX11_noTallies_19 rfl ?_
    refine g_lconst C 1 dX11_noTallies_20 (by decide) ?_
    refine g_last C (by decide) (ce_m_downs ad cs _ _) (by rw [sJ_k]; rfl) (fin' (n := 10) rfl (by omega) (by omega)) dX11_noTallies_21 ?_
    refine g_nmL (fun L6 hL6 => ?_)
    have hG : ∀ k i, k ≠ 284 ∧ k ≠ 285 → L6 k i = L k i := fun k i hk => by (rw [hL6, sJ_at, if_neg (by omega)]; try exact hG k i hk)
    obtain ⟨v7, ev7⟩ : ∃ y : Int32, y = x1_2 + 1 := ⟨_, rfl⟩
    try have fv7 := fadd rfl (by decide : (1 : Int32).toInt = 1) ev7 (by omega) (by omega)
    refine g_iinc C 0 v7 [(1, .int v7), (0, .ref (ad 258))] dX11_noTallies_22 rfl (by rw [ev7]; rfl) (by decide) rfl ?_
    refine g_goto C 2 dX11_noTallies_25 (by decide) ?_
    have nv := ixn (x := v7) (by omega)
    have hall : ∀ j : Nat, j < v7.toNatClampNeg → L6 284 j = 0 ∧ L6 285 j = 1 := by
      intro j hj
      rw [hL6, sJ_n _ _ _ (by decide), sJ_at, hL5, sJ_at, sJ_n _ _ _ (by decide)]
      by_cases e9 : j = x1_2.toNatClampNeg
      · rw [if_pos ⟨rfl, e9⟩, if_pos ⟨rfl, e9⟩]; exact ⟨rfl, rfl⟩
      · rw [if_neg (fun h => e9 h.2), if_neg (fun h => e9 h.2)]; exact j2_2 j (by omega)
    exact ih_2 (v7, M_2, L6) ⟨by show 0 ≤ v7.toInt; omega, by show v7.toInt ≤ 10; omega, by show ∀ j : Nat, j < v7.toNatClampNeg → L6 284 j = 0 ∧ L6 285 j = 1; exact hall, hI, hF, hG⟩ (by show (11 - v7.toInt).toNat < (11 - x1_2.toInt).toNat; omega)
theorem dX11_ballotAt_0 : decode cX11_ballotAt 0 = .ok (.aload_n 0, 1) := dw42 (n := 0) (i := 0) kc_cX11_ballotAt_0 (by decide +kernel)
theorem dX11_ballotAt_1 : decode cX11_ballotAt 1 = .ok (.getfield 34, 3) := dw180 (n := 0) (i := 1) (a := 0) (b := 34) kc_cX11_ballotAt_0 (by decide +kernel) (by decide)
theorem in_X11_ballotAt_11 : ∀ w ∈ u_ws RX11 TX11 53, w ∈ wsX11_ballotAt := fun _ h => List.mem_cons_of_mem _ (List.mem_append_right _ h)
theorem dX11_ballotAt_4 : decode cX11_ballotAt 4 = .ok (.bipush 40, 2) := dw16 (n := 0) (i := 4) (a := 40) kc_cX11_ballotAt_0 (by decide +kernel) (by decide)
theorem dX11_ballotAt_6 : decode cX11_ballotAt 6 = .ok (.aload_n 0, 1) := dw42 (n := 0) (i := 6) kc_cX11_ballotAt_0 (by decide +kernel)
theorem dX11_ballotAt_7 : decode cX11_ballotAt 7 = .ok (.getfield 201, 3) := dw180 (n := 0) (i := 7) (a := 0) (b := 201) kc_cX11_ballotAt_0 (by decide +kernel) (by decide)
theorem dX11_ballotAt_10 : decode cX11_ballotAt 10 = .ok (.imul, 1) := dw104 (n := 0) (i := 10) kc_cX11_ballotAt_0 (by decide +kernel)
theorem dX11_ballotAt_11 : decode cX11_ballotAt 11 = .ok (.iload_n 1, 1) := dw27 (n := 0) (i := 11) kc_cX11_ballotAt_0 (by decide +kernel)
theorem dX11_ballotAt_12 : decode cX11_ballotAt 12 = .ok (.iadd, 1) := dw96 (n := 0) (i := 12) kc_cX11_ballotAt_0 (by decide +kernel)
theorem dX11_ballotAt_13 : decode cX11_ballotAt 13 = .ok (.iaload, 1) := dw46 (n := 0) (i := 13) kc_cX11_ballotAt_0 (by decide +kernel)
theorem dX11_ballotAt_14 : decode cX11_ballotAt 14 = .ok (.ireturn, 1) := dw172 (n := 0) (i := 14) kc_cX11_ballotAt_0 (by decide +kernel)
theorem dX11_addTo_0 : decode cX11_addTo 0 = .ok (.aload_n 0, 1) := dw42 (n := 0) (i := 0) kc_cX11_addTo_0 (by decide +kernel)
theorem dX11_addTo_1 : decode cX11_addTo 1 = .ok (.aload_n 0, 1) := dw42 (n := 0) (i := 1) kc_cX11_addTo_0 (by decide +kernel)
theorem dX11_addTo_2 : decode cX11_addTo 2 = .ok (.getfield 87, 3) := dw180 (n := 0) (i := 2) (a := 0) (b := 87) kc_cX11_addTo_0 (by decide +kernel) (by decide)
theorem in_X11_addTo_11 : ∀ w ∈ u_ws RX11 TX11 53, w ∈ wsX11_addTo := fun _ h => List.mem_cons_of_mem _ (List.mem_append_right _ h)
theorem dX11_addTo_5 : decode cX11_addTo 5 = .ok (.iload_n 1, 1) := dw27 (n := 0) (i := 5) kc_cX11_addTo_0 (by decide +kernel)
theorem dX11_addTo_6 : decode cX11_addTo 6 = .ok (.laload, 1) := dw47 (n := 0) (i := 6) kc_cX11_addTo_0 (by decide +kernel)
theorem dX11_addTo_7 : decode cX11_addTo 7 = .ok (.lload 4, 2) := dw22 (n := 0) (i := 7) (a := 4) kc_cX11_addTo_0 (by decide +kernel) (by decide)
theorem dX11_addTo_9 : decode cX11_addTo 9 = .ok (.lmul, 1) := dw105 (n := 0) (i := 9) kc_cX11_addTo_0 (by decide +kernel)
theorem dX11_addTo_10 : decode cX11_addTo 10 = .ok (.lload_n 2, 1) := dw32 (n := 0) (i := 10) kc_cX11_addTo_0 (by decide +kernel)
theorem dX11_addTo_11 : decode cX11_addTo 11 = .ok (.aload_n 0, 1) := dw42 (n := 0) (i := 11) kc_cX11_addTo_0 (by decide +kernel)
theorem dX11_addTo_12 : decode cX11_addTo 12 = .ok (.getfield 90, 3) := dw180 (n := 0) (i := 12) (a := 0) (b := 90) kc_cX11_addTo_0 (by decide +kernel) (by decide)
theorem dX11_addTo_15 : decode cX11_addTo 15 = .ok (.iload_n 1, 1) := dw27 (n := 0) (i := 15) kc_cX11_addTo_0 (by decide +kernel)
theorem dX11_addTo_16 : decode cX11_addTo 16 = .ok (.laload, 1) := dw47 (n := 0) (i := 16) kc_cX11_addTo_0 (by decide +kernel)
theorem dX11_addTo_17 : decode cX11_addTo 17 = .ok (.lmul, 1) := dw105 (n := 0) (i := 17) kc_cX11_addTo_0 (by decide +kernel)
theorem dX11_addTo_18 : decode cX11_addTo 18 = .ok (.ladd, 1) := dw97 (n := 0) (i := 18) kc_cX11_addTo_0 (by decide +kernel)
theorem dX11_addTo_19 : decode cX11_addTo 19 = .ok (.aload_n 0, 1) := dw42 (n := 0) (i := 19) kc_cX11_addTo_0 (by decide +kernel)
theorem dX11_addTo_20 : decode cX11_addTo 20 = .ok (.getfield 90, 3) := dw180 (n := 0) (i := 20) (a := 0) (b := 90) kc_cX11_addTo_0 (by decide +kernel) (by decide)
theorem dX11_addTo_23 : decode cX11_addTo 23 = .ok (.iload_n 1, 1) := dw27 (n := 0) (i := 23) kc_cX11_addTo_0 (by decide +kernel)
theorem dX11_addTo_24 : decode cX11_addTo 24 = .ok (.laload, 1) := dw47 (n := 0) (i := 24) kc_cX11_addTo_0 (by decide +kernel)
theorem dX11_addTo_25 : decode cX11_addTo 25 = .ok (.lload 4, 2) := dw22 (n := 0) (i := 25) (a := 4) kc_cX11_addTo_0 (by decide +kernel) (by decide)
theorem dX11_addTo_27 : decode cX11_addTo 27 = .ok (.lmul, 1) := dw105 (n := 0) (i := 27) kc_cX11_addTo_0 (by decide +kernel)
theorem dX11_addTo_28 : decode cX11_addTo 28 = .ok (.invokevirtual 204, 3) := dw182 (n := 0) (i := 28) (a := 0) (b := 204) kc_cX11_addTo_0 (by decide +kernel) (by decide)
set_option maxRecDepth 20000 in
theorem ggX11_addTo_X11_fraction : GoodIn wsX11_addTo wsX11_fraction := (gk_code 9 rfl (gk_fieldLink 3 rfl (gk_fieldLink 4 rfl (gk_fieldLink 10 rfl (gk_constantLong 11 rfl (gk_methodLink 12 rfl (gk_static 13 rfl (gk_initialized 8 rfl (gk_code 14 rfl (gk_lays 15 rfl (gk_laysFinal 16 rfl (gk_lays 17 rfl (gk_laysFinal 18 rfl (gk_lays 19 rfl (gk_laysFinal 20 rfl (gk_laysFinal 21 rfl (gk_laysFinal 22 rfl (gk_laysFinal 23 rfl (gk_lays 24 rfl (gk_laysFinal 25 rfl (gk_laysFinal 26 rfl (gk_laysFinal 27 rfl (gk_laysFinal 28 rfl (gk_lays 29 rfl (gk_laysFinal 30 rfl (gk_laysFinal 31 rfl (gk_laysFinal 32 rfl (gk_laysFinal 33 rfl (gk_laysFinal 34 rfl (gk_laysFinal 35 rfl (gk_laysFinal 36 rfl (gk_laysFinal 37 rfl (gk_lays 38 rfl (gk_lays 39 rfl (gk_lays 40 rfl (gk_lays 41 rfl (gk_lays 42 rfl (gk_lays 43 rfl (gk_lays 44 rfl (gk_laysFinal 45 rfl (gk_lays 46 rfl (gk_laysFinal 47 rfl (gk_laysFinal 48 rfl (gk_laysFinal 49 rfl (gk_laysFinal 50 rfl (gk_laysFinal 51 rfl (gk_laysFinal 52 rfl (gk_laysFinal 53 rfl (gk_laysFinal 54 rfl (gk_laysFinal 55 rfl (gk_laysFinal 56 rfl (gk_lays 57 rfl (gk_laysFinal 58 rfl (gk_lays 59 rfl (gk_laysFinal 60 rfl (gk_laysFinal 61 rfl (gk_laysFinal 62 rfl (gk_laysFinal 63 rfl (gk_laysFinal 64 rfl (gk_laysFinal 65 rfl (gk_laysFinal 66 rfl (gk_laysFinal 67 rfl (gn)))))))))))))))))))))))))))))))))))))))))))))))))))))))))))))))
set_option maxRecDepth 20000 in
theorem gX11_addTo_X11_fraction : GoodIn wsX11_addTo (wsV RX11 204 RX11 yX11_fraction wsX11_fraction) := goodIn_app (gk_methodLink 5 rfl (gk_instanceMethod 6 rfl (gk_selects 7 rfl (gk_initialized 8 rfl (gn))))) ggX11_addTo_X11_fraction
theorem dX11_addTo_31 : decode cX11_addTo 31 = .ok (.aload_n 0, 1) := dw42 (n := 0) (i := 31) kc_cX11_addTo_0 (by decide +kernel)
theorem dX11_addTo_32 : decode cX11_addTo 32 = .ok (.getfield 87, 3) := dw180 (n := 32) (i := 0) (a := 0) (b := 87) kc_cX11_addTo_1 (by decide +kernel) (by decide)
theorem dX11_addTo_35 : decode cX11_addTo 35 = .ok (.iload_n 1, 1) := dw27 (n := 32) (i := 3) kc_cX11_addTo_1 (by decide +kernel)
theorem dX11_addTo_36 : decode cX11_addTo 36 = .ok (.aload_n 0, 1) := dw42 (n := 32) (i := 4) kc_cX11_addTo_1 (by decide +kernel)
theorem dX11_addTo_37 : decode cX11_addTo 37 = .ok (.getfield 188, 3) := dw180 (n := 32) (i := 5) (a := 0) (b := 188) kc_cX11_addTo_1 (by decide +kernel) (by decide)
theorem dX11_addTo_40 : decode cX11_addTo 40 = .ok (.lastore, 1) := dw80 (n := 32) (i := 8) kc_cX11_addTo_1 (by decide +kernel)
theorem dX11_addTo_41 : decode cX11_addTo 41 = .ok (.aload_n 0, 1) := dw42 (n := 32) (i := 9) kc_cX11_addTo_1 (by decide +kernel)
theorem dX11_addTo_42 : decode cX11_addTo 42 = .ok (.getfield 90, 3) := dw180 (n := 32) (i := 10) (a := 0) (b := 90) kc_cX11_addTo_1 (by decide +kernel) (by decide)
theorem dX11_addTo_45 : decode cX11_addTo 45 = .ok (.iload_n 1, 1) := dw27 (n := 32) (i := 13) kc_cX11_addTo_1 (by decide +kernel)
theorem dX11_addTo_46 : decode cX11_addTo 46 = .ok (.aload_n 0, 1) := dw42 (n := 32) (i := 14) kc_cX11_addTo_1 (by decide +kernel)
theorem dX11_addTo_47 : decode cX11_addTo 47 = .ok (.getfield 192, 3) := dw180 (n := 32) (i := 15) (a := 0) (b := 192) kc_cX11_addTo_1 (by decide +kernel) (by decide)
theorem dX11_addTo_50 : decode cX11_addTo 50 = .ok (.lastore, 1) := dw80 (n := 32) (i := 18) kc_cX11_addTo_1 (by decide +kernel)
theorem dX11_addTo_51 : decode cX11_addTo 51 = .ok (.return_, 1) := dw177 (n := 32) (i := 19) kc_cX11_addTo_1 (by decide +kernel)
theorem dX11_happens_0 : decode cX11_happens 0 = .ok (.aload_n 0, 1) := dw42 (n := 0) (i := 0) kc_cX11_happens_0 (by decide +kernel)
theorem dX11_happens_1 : decode cX11_happens 1 = .ok (.getfield 68, 3) := dw180 (n := 0) (i := 1) (a := 0) (b := 68) kc_cX11_happens_0 (by decide +kernel) (by decide)
theorem in_X11_happens_11 : ∀ w ∈ u_ws RX11 TX11 53, w ∈ wsX11_happens := fun _ h => List.mem_cons_of_mem _ (List.mem_append_right _ h)
theorem dX11_happens_4 : decode cX11_happens 4 = .ok (.aload_n 0, 1) := dw42 (n := 0) (i := 4) kc_cX11_happens_0 (by decide +kernel)
theorem dX11_happens_5 : decode cX11_happens 5 = .ok (.getfield 208, 3) := dw180 (n := 0) (i := 5) (a := 0) (b := 208) kc_cX11_happens_0 (by decide +kernel) (by decide)
theorem dX11_happens_8 : decode cX11_happens 8 = .ok (.iload_n 1, 1) := dw27 (n := 0) (i := 8) kc_cX11_happens_0 (by decide +kernel)
theorem dX11_happens_9 : decode cX11_happens 9 = .ok (.iastore, 1) := dw79 (n := 0) (i := 9) kc_cX11_happens_0 (by decide +kernel)
theorem dX11_happens_10 : decode cX11_happens 10 = .ok (.aload_n 0, 1) := dw42 (n := 0) (i := 10) kc_cX11_happens_0 (by decide +kernel)
theorem dX11_happens_11 : decode cX11_happens 11 = .ok (.getfield 71, 3) := dw180 (n := 0) (i := 11) (a := 0) (b := 71) kc_cX11_happens_0 (by decide +kernel) (by decide)
theorem dX11_happens_14 : decode cX11_happens 14 = .ok (.aload_n 0, 1) := dw42 (n := 0) (i := 14) kc_cX11_happens_0 (by decide +kernel)
theorem dX11_happens_15 : decode cX11_happens 15 = .ok (.getfield 208, 3) := dw180 (n := 0) (i := 15) (a := 0) (b := 208) kc_cX11_happens_0 (by decide +kernel) (by decide)
theorem dX11_happens_18 : decode cX11_happens 18 = .ok (.iload_n 2, 1) := dw28 (n := 0) (i := 18) kc_cX11_happens_0 (by decide +kernel)
theorem dX11_happens_19 : decode cX11_happens 19 = .ok (.iastore, 1) := dw79 (n := 0) (i := 19) kc_cX11_happens_0 (by decide +kernel)
theorem dX11_happens_20 : decode cX11_happens 20 = .ok (.iconst 0, 1) := dw3 (n := 0) (i := 20) kc_cX11_happens_0 (by decide +kernel)
theorem dX11_happens_21 : decode cX11_happens 21 = .ok (.istore_n 3, 1) := dw62 (n := 0) (i := 21) kc_cX11_happens_0 (by decide +kernel)
theorem dX11_happens_22 : decode cX11_happens 22 = .ok (.iload_n 3, 1) := dw29 (n := 0) (i := 22) kc_cX11_happens_0 (by decide +kernel)
theorem dX11_happens_23 : decode cX11_happens 23 = .ok (.bipush 10, 2) := dw16 (n := 0) (i := 23) (a := 10) kc_cX11_happens_0 (by decide +kernel) (by decide)
theorem dX11_happens_25 : decode cX11_happens 25 = .ok (.if_icmp .ge 49, 3) := dw162 (n := 0) (i := 25) (a := 0) (b := 49) kc_cX11_happens_0 (by decide +kernel) (by decide)
theorem dX11_happens_74 : decode cX11_happens 74 = .ok (.aload_n 0, 1) := dw42 (n := 64) (i := 10) kc_cX11_happens_2 (by decide +kernel)
theorem dX11_happens_75 : decode cX11_happens 75 = .ok (.dup, 1) := dw89 (n := 64) (i := 11) kc_cX11_happens_2 (by decide +kernel)
theorem dX11_happens_76 : decode cX11_happens 76 = .ok (.getfield 208, 3) := dw180 (n := 64) (i := 12) (a := 0) (b := 208) kc_cX11_happens_2 (by decide +kernel) (by decide)
theorem dX11_happens_79 : decode cX11_happens 79 = .ok (.iconst 1, 1) := dw4 (n := 64) (i := 15) kc_cX11_happens_2 (by decide +kernel)
theorem dX11_happens_80 : decode cX11_happens 80 = .ok (.iadd, 1) := dw96 (n := 64) (i := 16) kc_cX11_happens_2 (by decide +kernel)
theorem dX11_happens_81 : decode cX11_happens 81 = .ok (.putfield 208, 3) := dw181 (n := 64) (i := 17) (a := 0) (b := 208) kc_cX11_happens_2 (by decide +kernel) (by decide)
theorem dX11_happens_84 : decode cX11_happens 84 = .ok (.return_, 1) := dw177 (n := 64) (i := 20) kc_cX11_happens_2 (by decide +kernel)
theorem dX11_happens_28 : decode cX11_happens 28 = .ok (.aload_n 0, 1) := dw42 (n := 0) (i := 28) kc_cX11_happens_0 (by decide +kernel)
theorem dX11_happens_29 : decode cX11_happens 29 = .ok (.getfield 74, 3) := dw180 (n := 0) (i := 29) (a := 0) (b := 74) kc_cX11_happens_0 (by decide +kernel) (by decide)
theorem dX11_happens_32 : decode cX11_happens 32 = .ok (.bipush 10, 2) := dw16 (n := 32) (i := 0) (a := 10) kc_cX11_happens_1 (by decide +kernel) (by decide)
theorem dX11_happens_34 : decode cX11_happens 34 = .ok (.aload_n 0, 1) := dw42 (n := 32) (i := 2) kc_cX11_happens_1 (by decide +kernel)
theorem dX11_happens_35 : decode cX11_happens 35 = .ok (.getfield 208, 3) := dw180 (n := 32) (i := 3) (a := 0) (b := 208) kc_cX11_happens_1 (by decide +kernel) (by decide)
theorem dX11_happens_38 : decode cX11_happens 38 = .ok (.imul, 1) := dw104 (n := 32) (i := 6) kc_cX11_happens_1 (by decide +kernel)
theorem dX11_happens_39 : decode cX11_happens 39 = .ok (.iload_n 3, 1) := dw29 (n := 32) (i := 7) kc_cX11_happens_1 (by decide +kernel)
theorem dX11_happens_40 : decode cX11_happens 40 = .ok (.iadd, 1) := dw96 (n := 32) (i := 8) kc_cX11_happens_1 (by decide +kernel)
theorem dX11_happens_41 : decode cX11_happens 41 = .ok (.aload_n 0, 1) := dw42 (n := 32) (i := 9) kc_cX11_happens_1 (by decide +kernel)
theorem dX11_happens_42 : decode cX11_happens 42 = .ok (.getfield 87, 3) := dw180 (n := 32) (i := 10) (a := 0) (b := 87) kc_cX11_happens_1 (by decide +kernel) (by decide)
theorem dX11_happens_45 : decode cX11_happens 45 = .ok (.iload_n 3, 1) := dw29 (n := 32) (i := 13) kc_cX11_happens_1 (by decide +kernel)
theorem dX11_happens_46 : decode cX11_happens 46 = .ok (.laload, 1) := dw47 (n := 32) (i := 14) kc_cX11_happens_1 (by decide +kernel)
theorem dX11_happens_47 : decode cX11_happens 47 = .ok (.lastore, 1) := dw80 (n := 32) (i := 15) kc_cX11_happens_1 (by decide +kernel)
theorem dX11_happens_48 : decode cX11_happens 48 = .ok (.aload_n 0, 1) := dw42 (n := 32) (i := 16) kc_cX11_happens_1 (by decide +kernel)
theorem dX11_happens_49 : decode cX11_happens 49 = .ok (.getfield 78, 3) := dw180 (n := 32) (i := 17) (a := 0) (b := 78) kc_cX11_happens_1 (by decide +kernel) (by decide)
theorem dX11_happens_52 : decode cX11_happens 52 = .ok (.bipush 10, 2) := dw16 (n := 32) (i := 20) (a := 10) kc_cX11_happens_1 (by decide +kernel) (by decide)
theorem dX11_happens_54 : decode cX11_happens 54 = .ok (.aload_n 0, 1) := dw42 (n := 32) (i := 22) kc_cX11_happens_1 (by decide +kernel)
theorem dX11_happens_55 : decode cX11_happens 55 = .ok (.getfield 208, 3) := dw180 (n := 32) (i := 23) (a := 0) (b := 208) kc_cX11_happens_1 (by decide +kernel) (by decide)
theorem dX11_happens_58 : decode cX11_happens 58 = .ok (.imul, 1) := dw104 (n := 32) (i := 26) kc_cX11_happens_1 (by decide +kernel)
theorem dX11_happens_59 : decode cX11_happens 59 = .ok (.iload_n 3, 1) := dw29 (n := 32) (i := 27) kc_cX11_happens_1 (by decide +kernel)
theorem dX11_happens_60 : decode cX11_happens 60 = .ok (.iadd, 1) := dw96 (n := 32) (i := 28) kc_cX11_happens_1 (by decide +kernel)
theorem dX11_happens_61 : decode cX11_happens 61 = .ok (.aload_n 0, 1) := dw42 (n := 32) (i := 29) kc_cX11_happens_1 (by decide +kernel)
theorem dX11_happens_62 : decode cX11_happens 62 = .ok (.getfield 90, 3) := dw180 (n := 32) (i := 30) (a := 0) (b := 90) kc_cX11_happens_1 (by decide +kernel) (by decide)
theorem dX11_happens_65 : decode cX11_happens 65 = .ok (.iload_n 3, 1) := dw29 (n := 64) (i := 1) kc_cX11_happens_2 (by decide +kernel)
theorem dX11_happens_66 : decode cX11_happens 66 = .ok (.laload, 1) := dw47 (n := 64) (i := 2) kc_cX11_happens_2 (by decide +kernel)
theorem dX11_happens_67 : decode cX11_happens 67 = .ok (.lastore, 1) := dw80 (n := 64) (i := 3) kc_cX11_happens_2 (by decide +kernel)
theorem dX11_happens_68 : decode cX11_happens 68 = .ok (.iinc 3 1, 3) := by decide +kernel
theorem dX11_happens_71 : decode cX11_happens 71 = .ok (.goto (-49), 3) := dw167 (n := 64) (i := 7) (a := 255) (b := 207) kc_cX11_happens_2 (by decide +kernel) (by decide)
theorem dX11_gives_0 : decode cX11_gives 0 = .ok (.aload_n 0, 1) := dw42 (n := 0) (i := 0) kc_cX11_gives_0 (by decide +kernel)
theorem dX11_gives_1 : decode cX11_gives 1 = .ok (.getfield 65, 3) := dw180 (n := 0) (i := 1) (a := 0) (b := 65) kc_cX11_gives_0 (by decide +kernel) (by decide)
theorem in_X11_gives_11 : ∀ w ∈ u_ws RX11 TX11 53, w ∈ wsX11_gives := fun _ h => List.mem_cons_of_mem _ (List.mem_append_right _ h)
theorem dX11_gives_4 : decode cX11_gives 4 = .ok (.aload_n 0, 1) := dw42 (n := 0) (i := 4) kc_cX11_gives_0 (by decide +kernel)
theorem dX11_gives_5 : decode cX11_gives 5 = .ok (.getfield 211, 3) := dw180 (n := 0) (i := 5) (a := 0) (b := 211) kc_cX11_gives_0 (by decide +kernel) (by decide)
theorem dX11_gives_8 : decode cX11_gives 8 = .ok (.iload_n 1, 1) := dw27 (n := 0) (i := 8) kc_cX11_gives_0 (by decide +kernel)
theorem dX11_gives_9 : decode cX11_gives 9 = .ok (.iastore, 1) := dw79 (n := 0) (i := 9) kc_cX11_gives_0 (by decide +kernel)
theorem dX11_gives_10 : decode cX11_gives 10 = .ok (.aload_n 0, 1) := dw42 (n := 0) (i := 10) kc_cX11_gives_0 (by decide +kernel)
theorem dX11_gives_11 : decode cX11_gives 11 = .ok (.dup, 1) := dw89 (n := 0) (i := 11) kc_cX11_gives_0 (by decide +kernel)
theorem dX11_gives_12 : decode cX11_gives 12 = .ok (.getfield 211, 3) := dw180 (n := 0) (i := 12) (a := 0) (b := 211) kc_cX11_gives_0 (by decide +kernel) (by decide)
theorem dX11_gives_15 : decode cX11_gives 15 = .ok (.iconst 1, 1) := dw4 (n := 0) (i := 15) kc_cX11_gives_0 (by decide +kernel)
theorem dX11_gives_16 : decode cX11_gives 16 = .ok (.iadd, 1) := dw96 (n := 0) (i := 16) kc_cX11_gives_0 (by decide +kernel)
theorem dX11_gives_17 : decode cX11_gives 17 = .ok (.putfield 211, 3) := dw181 (n := 0) (i := 17) (a := 0) (b := 211) kc_cX11_gives_0 (by decide +kernel) (by decide)
theorem dX11_gives_20 : decode cX11_gives 20 = .ok (.return_, 1) := dw177 (n := 0) (i := 20) kc_cX11_gives_0 (by decide +kernel)
theorem dX11_firstOn_0 : decode cX11_firstOn 0 = .ok (.iconst 0, 1) := dw3 (n := 0) (i := 0) kc_cX11_firstOn_0 (by decide +kernel)
theorem dX11_firstOn_1 : decode cX11_firstOn 1 = .ok (.istore_n 2, 1) := dw61 (n := 0) (i := 1) kc_cX11_firstOn_0 (by decide +kernel)
theorem dX11_firstOn_2 : decode cX11_firstOn 2 = .ok (.iload_n 2, 1) := dw28 (n := 0) (i := 2) kc_cX11_firstOn_0 (by decide +kernel)
theorem dX11_firstOn_3 : decode cX11_firstOn 3 = .ok (.aload_n 0, 1) := dw42 (n := 0) (i := 3) kc_cX11_firstOn_0 (by decide +kernel)
theorem dX11_firstOn_4 : decode cX11_firstOn 4 = .ok (.getfield 22, 3) := dw180 (n := 0) (i := 4) (a := 0) (b := 22) kc_cX11_firstOn_0 (by decide +kernel) (by decide)
theorem in_X11_firstOn_11 : ∀ w ∈ u_ws RX11 TX11 53, w ∈ wsX11_firstOn := fun _ h => List.mem_cons_of_mem _ (List.mem_append_right _ h)
theorem dX11_firstOn_7 : decode cX11_firstOn 7 = .ok (.iload_n 1, 1) := dw27 (n := 0) (i := 7) kc_cX11_firstOn_0 (by decide +kernel)
theorem dX11_firstOn_8 : decode cX11_firstOn 8 = .ok (.iaload, 1) := dw46 (n := 0) (i := 8) kc_cX11_firstOn_0 (by decide +kernel)
theorem dX11_firstOn_9 : decode cX11_firstOn 9 = .ok (.if_icmp .ge 40, 3) := dw162 (n := 0) (i := 9) (a := 0) (b := 40) kc_cX11_firstOn_0 (by decide +kernel) (by decide)
theorem dX11_firstOn_49 : decode cX11_firstOn 49 = .ok (.bipush (-9), 2) := dw16 (n := 32) (i := 17) (a := 247) kc_cX11_firstOn_1 (by decide +kernel) (by decide)
theorem dX11_firstOn_51 : decode cX11_firstOn 51 = .ok (.ireturn, 1) := dw172 (n := 32) (i := 19) kc_cX11_firstOn_1 (by decide +kernel)
theorem dX11_firstOn_12 : decode cX11_firstOn 12 = .ok (.aload_n 0, 1) := dw42 (n := 0) (i := 12) kc_cX11_firstOn_0 (by decide +kernel)
theorem dX11_firstOn_13 : decode cX11_firstOn 13 = .ok (.getfield 81, 3) := dw180 (n := 0) (i := 13) (a := 0) (b := 81) kc_cX11_firstOn_0 (by decide +kernel) (by decide)
theorem dX11_firstOn_16 : decode cX11_firstOn 16 = .ok (.aload_n 0, 1) := dw42 (n := 0) (i := 16) kc_cX11_firstOn_0 (by decide +kernel)
theorem dX11_firstOn_17 : decode cX11_firstOn 17 = .ok (.getfield 25, 3) := dw180 (n := 0) (i := 17) (a := 0) (b := 25) kc_cX11_firstOn_0 (by decide +kernel) (by decide)
theorem dX11_firstOn_20 : decode cX11_firstOn 20 = .ok (.bipush 10, 2) := dw16 (n := 0) (i := 20) (a := 10) kc_cX11_firstOn_0 (by decide +kernel) (by decide)
theorem dX11_firstOn_22 : decode cX11_firstOn 22 = .ok (.iload_n 1, 1) := dw27 (n := 0) (i := 22) kc_cX11_firstOn_0 (by decide +kernel)
theorem dX11_firstOn_23 : decode cX11_firstOn 23 = .ok (.imul, 1) := dw104 (n := 0) (i := 23) kc_cX11_firstOn_0 (by decide +kernel)
theorem dX11_firstOn_24 : decode cX11_firstOn 24 = .ok (.iload_n 2, 1) := dw28 (n := 0) (i := 24) kc_cX11_firstOn_0 (by decide +kernel)
theorem dX11_firstOn_25 : decode cX11_firstOn 25 = .ok (.iadd, 1) := dw96 (n := 0) (i := 25) kc_cX11_firstOn_0 (by decide +kernel)
theorem dX11_firstOn_26 : decode cX11_firstOn 26 = .ok (.iaload, 1) := dw46 (n := 0) (i := 26) kc_cX11_firstOn_0 (by decide +kernel)
theorem dX11_firstOn_27 : decode cX11_firstOn 27 = .ok (.baload, 1) := dw51 (n := 0) (i := 27) kc_cX11_firstOn_0 (by decide +kernel)
theorem dX11_firstOn_28 : decode cX11_firstOn 28 = .ok (.ifCond .eq 15, 3) := dw153 (n := 0) (i := 28) (a := 0) (b := 15) kc_cX11_firstOn_0 (by decide +kernel) (by decide)
theorem dX11_firstOn_43 : decode cX11_firstOn 43 = .ok (.iinc 2 1, 3) := by decide +kernel
theorem dX11_firstOn_46 : decode cX11_firstOn 46 = .ok (.goto (-44), 3) := dw167 (n := 32) (i := 14) (a := 255) (b := 212) kc_cX11_firstOn_1 (by decide +kernel) (by decide)
theorem dX11_firstOn_31 : decode cX11_firstOn 31 = .ok (.aload_n 0, 1) := dw42 (n := 0) (i := 31) kc_cX11_firstOn_0 (by decide +kernel)
theorem dX11_firstOn_32 : decode cX11_firstOn 32 = .ok (.getfield 25, 3) := dw180 (n := 32) (i := 0) (a := 0) (b := 25) kc_cX11_firstOn_1 (by decide +kernel) (by decide)
theorem dX11_firstOn_35 : decode cX11_firstOn 35 = .ok (.bipush 10, 2) := dw16 (n := 32) (i := 3) (a := 10) kc_cX11_firstOn_1 (by decide +kernel) (by decide)
theorem dX11_firstOn_37 : decode cX11_firstOn 37 = .ok (.iload_n 1, 1) := dw27 (n := 32) (i := 5) kc_cX11_firstOn_1 (by decide +kernel)
theorem dX11_firstOn_38 : decode cX11_firstOn 38 = .ok (.imul, 1) := dw104 (n := 32) (i := 6) kc_cX11_firstOn_1 (by decide +kernel)
theorem dX11_firstOn_39 : decode cX11_firstOn 39 = .ok (.iload_n 2, 1) := dw28 (n := 32) (i := 7) kc_cX11_firstOn_1 (by decide +kernel)
theorem dX11_firstOn_40 : decode cX11_firstOn 40 = .ok (.iadd, 1) := dw96 (n := 32) (i := 8) kc_cX11_firstOn_1 (by decide +kernel)
theorem dX11_firstOn_41 : decode cX11_firstOn 41 = .ok (.iaload, 1) := dw46 (n := 32) (i := 9) kc_cX11_firstOn_1 (by decide +kernel)
theorem dX11_firstOn_42 : decode cX11_firstOn 42 = .ok (.ireturn, 1) := dw172 (n := 32) (i := 10) kc_cX11_firstOn_1 (by decide +kernel)
theorem dX11_isMore_0 : decode cX11_isMore 0 = .ok (.lload_n 0, 1) := dw30 (n := 0) (i := 0) kc_cX11_isMore_0 (by decide +kernel)
theorem dX11_isMore_1 : decode cX11_isMore 1 = .ok (.lload 6, 2) := dw22 (n := 0) (i := 1) (a := 6) kc_cX11_isMore_0 (by decide +kernel) (by decide)
theorem dX11_isMore_3 : decode cX11_isMore 3 = .ok (.lmul, 1) := dw105 (n := 0) (i := 3) kc_cX11_isMore_0 (by decide +kernel)
theorem dX11_isMore_4 : decode cX11_isMore 4 = .ok (.lload 4, 2) := dw22 (n := 0) (i := 4) (a := 4) kc_cX11_isMore_0 (by decide +kernel) (by decide)
theorem dX11_isMore_6 : decode cX11_isMore 6 = .ok (.lload_n 2, 1) := dw32 (n := 0) (i := 6) kc_cX11_isMore_0 (by decide +kernel)
theorem dX11_isMore_7 : decode cX11_isMore 7 = .ok (.lmul, 1) := dw105 (n := 0) (i := 7) kc_cX11_isMore_0 (by decide +kernel)
theorem dX11_isMore_8 : decode cX11_isMore 8 = .ok (.lcmp, 1) := dw148 (n := 0) (i := 8) kc_cX11_isMore_0 (by decide +kernel)
theorem dX11_isMore_9 : decode cX11_isMore 9 = .ok (.ifCond .le 7, 3) := dw158 (n := 0) (i := 9) (a := 0) (b := 7) kc_cX11_isMore_0 (by decide +kernel) (by decide)
theorem dX11_isMore_16 : decode cX11_isMore 16 = .ok (.iconst 0, 1) := dw3 (n := 0) (i := 16) kc_cX11_isMore_0 (by decide +kernel)
theorem dX11_isMore_17 : decode cX11_isMore 17 = .ok (.ireturn, 1) := dw172 (n := 0) (i := 17) kc_cX11_isMore_0 (by decide +kernel)
theorem dX11_isMore_12 : decode cX11_isMore 12 = .ok (.iconst 1, 1) := dw4 (n := 0) (i := 12) kc_cX11_isMore_0 (by decide +kernel)
theorem dX11_isMore_13 : decode cX11_isMore 13 = .ok (.goto 4, 3) := dw167 (n := 0) (i := 13) (a := 0) (b := 4) kc_cX11_isMore_0 (by decide +kernel) (by decide)
