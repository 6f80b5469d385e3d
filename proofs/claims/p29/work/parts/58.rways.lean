theorem dX11_isAheadOn_0 : decode cX11_isAheadOn 0 = .ok (.aload_n 0, 1) := dw42 (n := 0) (i := 0) kc_cX11_isAheadOn_0 (by decide +kernel)
theorem dX11_isAheadOn_1 : decode cX11_isAheadOn 1 = .ok (.iload_n 1, 1) := dw27 (n := 0) (i := 1) kc_cX11_isAheadOn_0 (by decide +kernel)
theorem dX11_isAheadOn_2 : decode cX11_isAheadOn 2 = .ok (.iload_n 2, 1) := dw28 (n := 0) (i := 2) kc_cX11_isAheadOn_0 (by decide +kernel)
theorem dX11_isAheadOn_3 : decode cX11_isAheadOn 3 = .ok (.invokevirtual 159, 3) := dw182 (n := 0) (i := 3) (a := 0) (b := 159) kc_cX11_isAheadOn_0 (by decide +kernel) (by decide)
set_option maxRecDepth 20000 in
theorem ggX11_isAheadOn_X11_placeOn : GoodIn wsX11_isAheadOn wsX11_placeOn := (gk_code 5 rfl (gk_fieldLink 6 rfl (gk_fieldLink 7 rfl (gk_lays 8 rfl (gk_laysFinal 9 rfl (gk_lays 10 rfl (gk_laysFinal 11 rfl (gk_lays 12 rfl (gk_laysFinal 13 rfl (gk_laysFinal 14 rfl (gk_laysFinal 15 rfl (gk_laysFinal 16 rfl (gk_lays 17 rfl (gk_laysFinal 18 rfl (gk_laysFinal 19 rfl (gk_laysFinal 20 rfl (gk_laysFinal 21 rfl (gk_lays 22 rfl (gk_laysFinal 23 rfl (gk_laysFinal 24 rfl (gk_laysFinal 25 rfl (gk_laysFinal 26 rfl (gk_laysFinal 27 rfl (gk_laysFinal 28 rfl (gk_laysFinal 29 rfl (gk_laysFinal 30 rfl (gk_lays 31 rfl (gk_lays 32 rfl (gk_lays 33 rfl (gk_lays 34 rfl (gk_lays 35 rfl (gk_lays 36 rfl (gk_lays 37 rfl (gk_laysFinal 38 rfl (gk_lays 39 rfl (gk_laysFinal 40 rfl (gk_laysFinal 41 rfl (gk_laysFinal 42 rfl (gk_laysFinal 43 rfl (gk_laysFinal 44 rfl (gk_laysFinal 45 rfl (gk_laysFinal 46 rfl (gk_laysFinal 47 rfl (gk_laysFinal 48 rfl (gk_laysFinal 49 rfl (gk_lays 50 rfl (gk_laysFinal 51 rfl (gk_lays 52 rfl (gk_laysFinal 53 rfl (gk_laysFinal 54 rfl (gk_laysFinal 55 rfl (gk_laysFinal 56 rfl (gk_laysFinal 57 rfl (gk_laysFinal 58 rfl (gk_laysFinal 59 rfl (gk_laysFinal 60 rfl (gn)))))))))))))))))))))))))))))))))))))))))))))))))))))))))
set_option maxRecDepth 20000 in
theorem gX11_isAheadOn_X11_placeOn : GoodIn wsX11_isAheadOn (wsV RX11 159 RX11 yX11_placeOn wsX11_placeOn) := goodIn_app (gk_methodLink 1 rfl (gk_instanceMethod 2 rfl (gk_selects 3 rfl (gk_initialized 4 rfl (gn))))) ggX11_isAheadOn_X11_placeOn
theorem dX11_isAheadOn_6 : decode cX11_isAheadOn 6 = .ok (.istore 4, 2) := dw54 (n := 0) (i := 6) (a := 4) kc_cX11_isAheadOn_0 (by decide +kernel) (by decide)
theorem dX11_isAheadOn_8 : decode cX11_isAheadOn 8 = .ok (.aload_n 0, 1) := dw42 (n := 0) (i := 8) kc_cX11_isAheadOn_0 (by decide +kernel)
theorem dX11_isAheadOn_9 : decode cX11_isAheadOn 9 = .ok (.iload_n 1, 1) := dw27 (n := 0) (i := 9) kc_cX11_isAheadOn_0 (by decide +kernel)
theorem dX11_isAheadOn_10 : decode cX11_isAheadOn 10 = .ok (.iload_n 3, 1) := dw29 (n := 0) (i := 10) kc_cX11_isAheadOn_0 (by decide +kernel)
theorem dX11_isAheadOn_11 : decode cX11_isAheadOn 11 = .ok (.invokevirtual 159, 3) := dw182 (n := 0) (i := 11) (a := 0) (b := 159) kc_cX11_isAheadOn_0 (by decide +kernel) (by decide)
theorem dX11_isAheadOn_14 : decode cX11_isAheadOn 14 = .ok (.istore 5, 2) := dw54 (n := 0) (i := 14) (a := 5) kc_cX11_isAheadOn_0 (by decide +kernel) (by decide)
theorem dX11_isAheadOn_16 : decode cX11_isAheadOn 16 = .ok (.iload 4, 2) := dw21 (n := 0) (i := 16) (a := 4) kc_cX11_isAheadOn_0 (by decide +kernel) (by decide)
theorem dX11_isAheadOn_18 : decode cX11_isAheadOn 18 = .ok (.bipush (-9), 2) := dw16 (n := 0) (i := 18) (a := 247) kc_cX11_isAheadOn_0 (by decide +kernel) (by decide)
theorem dX11_isAheadOn_20 : decode cX11_isAheadOn 20 = .ok (.if_icmp .eq 21, 3) := dw159 (n := 0) (i := 20) (a := 0) (b := 21) kc_cX11_isAheadOn_0 (by decide +kernel) (by decide)
theorem dX11_isAheadOn_41 : decode cX11_isAheadOn 41 = .ok (.iconst 0, 1) := dw3 (n := 32) (i := 9) kc_cX11_isAheadOn_1 (by decide +kernel)
theorem dX11_isAheadOn_42 : decode cX11_isAheadOn 42 = .ok (.ireturn, 1) := dw172 (n := 32) (i := 10) kc_cX11_isAheadOn_1 (by decide +kernel)
theorem dX11_isAheadOn_23 : decode cX11_isAheadOn 23 = .ok (.iload 5, 2) := dw21 (n := 0) (i := 23) (a := 5) kc_cX11_isAheadOn_0 (by decide +kernel) (by decide)
theorem dX11_isAheadOn_25 : decode cX11_isAheadOn 25 = .ok (.bipush (-9), 2) := dw16 (n := 0) (i := 25) (a := 247) kc_cX11_isAheadOn_0 (by decide +kernel) (by decide)
theorem dX11_isAheadOn_27 : decode cX11_isAheadOn 27 = .ok (.if_icmp .eq 10, 3) := dw159 (n := 0) (i := 27) (a := 0) (b := 10) kc_cX11_isAheadOn_0 (by decide +kernel) (by decide)
theorem dX11_isAheadOn_37 : decode cX11_isAheadOn 37 = .ok (.iconst 1, 1) := dw4 (n := 32) (i := 5) kc_cX11_isAheadOn_1 (by decide +kernel)
theorem dX11_isAheadOn_38 : decode cX11_isAheadOn 38 = .ok (.goto 4, 3) := dw167 (n := 32) (i := 6) (a := 0) (b := 4) kc_cX11_isAheadOn_1 (by decide +kernel) (by decide)
theorem dX11_isAheadOn_30 : decode cX11_isAheadOn 30 = .ok (.iload 4, 2) := dw21 (n := 0) (i := 30) (a := 4) kc_cX11_isAheadOn_0 (by decide +kernel) (by decide)
theorem dX11_isAheadOn_32 : decode cX11_isAheadOn 32 = .ok (.iload 5, 2) := dw21 (n := 32) (i := 0) (a := 5) kc_cX11_isAheadOn_1 (by decide +kernel) (by decide)
theorem dX11_isAheadOn_34 : decode cX11_isAheadOn 34 = .ok (.if_icmp .ge 7, 3) := dw162 (n := 32) (i := 2) (a := 0) (b := 7) kc_cX11_isAheadOn_1 (by decide +kernel) (by decide)
set_option maxHeartbeats 4000000 in
set_option maxRecDepth 100000 in
theorem s_X11_isAheadOn (l : Launch) (D : va_G) (ad : Nat → Nat) (cs : Nat → ClassId) (M : MI) (L : ML) (b : Int32) (x : Int32) (y : Int32) (hI : IR M) (hb : 0 ≤ b.toInt ∧ b.toInt < 60) : Ci l yX11_isAheadOn wsX11_isAheadOn ({ frames := 1, cells := 0, slots := 0, locals := 23 }) D ad cs [.ref (ad 258), .int b, .int x, .int y] M L (fun r M1 L1 => M1 = M ∧ L1 = L ∧ (0 ≤ r.toInt ∧ r.toInt ≤ 1)) := by
  refine enter_i RX11 rfl [(0, .ref (ad 258)), (1, .int b), (2, .int x), (3, .int y)] rfl (Nat.le_of_ble_eq_true rfl) (by decide +kernel) rfl ?_
  intro p e s m below meth c C hr
  have hF : ∀ k i, True → M k i = M k i := fun _ _ _ => rfl
  have hG : ∀ k i, True → L k i = L k i := fun _ _ _ => rfl
  obtain ⟨hb1, hb2⟩ := hb
  refine g_aload_n C 0 dX11_isAheadOn_0 rfl ?_
  refine g_iload_n C 1 dX11_isAheadOn_1 rfl ?_
  refine g_iload_n C 2 dX11_isAheadOn_2 rfl ?_
  refine g_callVi C (n := 2) (As := [.int b, .int x]) (st := []) (s_X11_placeOn l D ad cs _ _ b x hI ⟨by as_aux_lemma => omega, by as_aux_lemma => omega⟩) gX11_isAheadOn_X11_placeOn rfl rfl rfl (by decide +kernel) ⟨Nat.le_of_ble_eq_true rfl, Nat.le_of_ble_eq_true rfl⟩ rfl (Nat.le_of_ble_eq_true rfl) ⟨Nat.zero_le _, Nat.zero_le _⟩ (by decide) (ce_model ad cs _ _) rfl rfl dX11_isAheadOn_3 (fun r1 M2 L3 hr1 => ?_)
  obtain ⟨hq1, hq2, hr1⟩ := hr1
  obtain rfl := hq1.symm
  obtain rfl := hq2.symm
  refine g_istore C [(4, .int r1), (0, .ref (ad 258)), (1, .int b), (2, .int x), (3, .int y)] dX11_isAheadOn_6 (by decide) rfl ?_
  refine g_aload_n C 1 dX11_isAheadOn_8 rfl ?_
  refine g_iload_n C 2 dX11_isAheadOn_9 rfl ?_
  refine g_iload_n C 4 dX11_isAheadOn_10 rfl ?_
  refine g_callVi C (n := 2) (As := [.int b, .int y]) (st := []) (s_X11_placeOn l D ad cs _ _ b y hI ⟨by as_aux_lemma => omega, by as_aux_lemma => omega⟩) gX11_isAheadOn_X11_placeOn rfl rfl rfl (by decide +kernel) ⟨Nat.le_of_ble_eq_true rfl, Nat.le_of_ble_eq_true rfl⟩ rfl (Nat.le_of_ble_eq_true rfl) ⟨Nat.zero_le _, Nat.zero_le _⟩ (by decide) (ce_model ad cs _ _) rfl rfl dX11_isAheadOn_11 (fun r4 M5 L6 hr4 => ?_)
  obtain ⟨hq1, hq2, hr4⟩ := hr4
  obtain rfl := hq1.symm
  obtain rfl := hq2.symm
  refine g_istore C [(5, .int r4), (4, .int r1), (0, .ref (ad 258)), (1, .int b), (2, .int x), (3, .int y)] dX11_isAheadOn_14 (by decide) rfl ?_
  refine g_iload C 1 dX11_isAheadOn_16 rfl ?_
  refine g_bipush C (-9) dX11_isAheadOn_18 (by decide) ?_
  refine g_icmp_eq C 41 dX11_isAheadOn_20 (by decide) (fun c7 => ?_) (fun c7 => ?_)
  ·
    have f8 := feq rfl (by decide : ((-9) : Int32).toInt = (-9)) c7
    refine g_iconst C 0 dX11_isAheadOn_41 (by decide) ?_
    have zr9 : (0 : Int32).toInt = 0 := by decide
    exact g_zret C hr rfl ⟨rfl, rfl, ⟨by as_aux_lemma => omega, by as_aux_lemma => omega⟩⟩ dX11_isAheadOn_42
  ·
    have f9 := fne rfl (by decide : ((-9) : Int32).toInt = (-9)) c7
    refine g_iload C 0 dX11_isAheadOn_23 rfl ?_
    refine g_bipush C (-9) dX11_isAheadOn_25 (by decide) ?_
    refine g_icmp_eq C 37 dX11_isAheadOn_27 (by decide) (fun c10 => ?_) (fun c10 => ?_)
    ·
      have f11 := feq rfl (by decide : ((-9) : Int32).toInt = (-9)) c10
      refine g_iconst C 1 dX11_isAheadOn_37 (by decide) ?_
      refine g_goto C 42 dX11_isAheadOn_38 (by decide) ?_
      have zr9 : (1 : Int32).toInt = 1 := by decide
      exact g_zret C hr rfl ⟨rfl, rfl, ⟨by as_aux_lemma => omega, by as_aux_lemma => omega⟩⟩ dX11_isAheadOn_42
    ·
      have f12 := fne rfl (by decide : ((-9) : Int32).toInt = (-9)) c10
      refine g_iload C 1 dX11_isAheadOn_30 rfl ?_
      refine g_iload C 0 dX11_isAheadOn_32 rfl ?_
      refine g_icmp_ge C 41 dX11_isAheadOn_34 (by decide) (fun c13 => ?_) (fun c13 => ?_)
      ·
        have f14 := fle rfl rfl c13
        refine g_iconst C 0 dX11_isAheadOn_41 (by decide) ?_
        have zr9 : (0 : Int32).toInt = 0 := by decide
        exact g_zret C hr rfl ⟨rfl, rfl, ⟨by as_aux_lemma => omega, by as_aux_lemma => omega⟩⟩ dX11_isAheadOn_42
      ·
        have f15 := fnle rfl rfl c13
        refine g_iconst C 1 dX11_isAheadOn_37 (by decide) ?_
        refine g_goto C 42 dX11_isAheadOn_38 (by decide) ?_
        have zr9 : (1 : Int32).toInt = 1 := by decide
        exact g_zret C hr rfl ⟨rfl, rfl, ⟨by as_aux_lemma => omega, by as_aux_lemma => omega⟩⟩ dX11_isAheadOn_42
theorem dX11_layWays_0 : decode cX11_layWays 0 = .ok (.iconst 0, 1) := dw3 (n := 0) (i := 0) kc_cX11_layWays_0 (by decide +kernel)
theorem dX11_layWays_1 : decode cX11_layWays 1 = .ok (.istore_n 1, 1) := dw60 (n := 0) (i := 1) kc_cX11_layWays_0 (by decide +kernel)
theorem dX11_layWays_2 : decode cX11_layWays 2 = .ok (.iload_n 1, 1) := dw27 (n := 0) (i := 2) kc_cX11_layWays_0 (by decide +kernel)
theorem dX11_layWays_3 : decode cX11_layWays 3 = .ok (.aload_n 0, 1) := dw42 (n := 0) (i := 3) kc_cX11_layWays_0 (by decide +kernel)
theorem dX11_layWays_4 : decode cX11_layWays 4 = .ok (.getfield 137, 3) := dw180 (n := 0) (i := 4) (a := 0) (b := 137) kc_cX11_layWays_0 (by decide +kernel) (by decide)
theorem in_X11_layWays_11 : ∀ w ∈ u_ws RX11 TX11 53, w ∈ wsX11_layWays := fun _ h => List.mem_cons_of_mem _ (List.mem_append_right _ h)
theorem dX11_layWays_7 : decode cX11_layWays 7 = .ok (.if_icmp .ge 109, 3) := dw162 (n := 0) (i := 7) (a := 0) (b := 109) kc_cX11_layWays_0 (by decide +kernel) (by decide)
theorem dX11_layWays_10 : decode cX11_layWays 10 = .ok (.iconst 0, 1) := dw3 (n := 0) (i := 10) kc_cX11_layWays_0 (by decide +kernel)
theorem dX11_layWays_11 : decode cX11_layWays 11 = .ok (.istore_n 2, 1) := dw61 (n := 0) (i := 11) kc_cX11_layWays_0 (by decide +kernel)
theorem dX11_layWays_12 : decode cX11_layWays 12 = .ok (.iload_n 2, 1) := dw28 (n := 0) (i := 12) kc_cX11_layWays_0 (by decide +kernel)
theorem dX11_layWays_13 : decode cX11_layWays 13 = .ok (.aload_n 0, 1) := dw42 (n := 0) (i := 13) kc_cX11_layWays_0 (by decide +kernel)
theorem dX11_layWays_14 : decode cX11_layWays 14 = .ok (.getfield 137, 3) := dw180 (n := 0) (i := 14) (a := 0) (b := 137) kc_cX11_layWays_0 (by decide +kernel) (by decide)
theorem dX11_layWays_17 : decode cX11_layWays 17 = .ok (.if_icmp .ge 93, 3) := dw162 (n := 0) (i := 17) (a := 0) (b := 93) kc_cX11_layWays_0 (by decide +kernel) (by decide)
theorem dX11_layWays_110 : decode cX11_layWays 110 = .ok (.iinc 1 1, 3) := by decide +kernel
theorem dX11_layWays_113 : decode cX11_layWays 113 = .ok (.goto (-111), 3) := dw167 (n := 96) (i := 17) (a := 255) (b := 145) kc_cX11_layWays_3 (by decide +kernel) (by decide)
theorem dX11_layWays_20 : decode cX11_layWays 20 = .ok (.aload_n 0, 1) := dw42 (n := 0) (i := 20) kc_cX11_layWays_0 (by decide +kernel)
theorem dX11_layWays_21 : decode cX11_layWays 21 = .ok (.getfield 120, 3) := dw180 (n := 0) (i := 21) (a := 0) (b := 120) kc_cX11_layWays_0 (by decide +kernel) (by decide)
theorem dX11_layWays_24 : decode cX11_layWays 24 = .ok (.bipush 10, 2) := dw16 (n := 0) (i := 24) (a := 10) kc_cX11_layWays_0 (by decide +kernel) (by decide)
theorem dX11_layWays_26 : decode cX11_layWays 26 = .ok (.iload_n 1, 1) := dw27 (n := 0) (i := 26) kc_cX11_layWays_0 (by decide +kernel)
theorem dX11_layWays_27 : decode cX11_layWays 27 = .ok (.imul, 1) := dw104 (n := 0) (i := 27) kc_cX11_layWays_0 (by decide +kernel)
theorem dX11_layWays_28 : decode cX11_layWays 28 = .ok (.iload_n 2, 1) := dw28 (n := 0) (i := 28) kc_cX11_layWays_0 (by decide +kernel)
theorem dX11_layWays_29 : decode cX11_layWays 29 = .ok (.iadd, 1) := dw96 (n := 0) (i := 29) kc_cX11_layWays_0 (by decide +kernel)
theorem dX11_layWays_30 : decode cX11_layWays 30 = .ok (.lconst 0, 1) := dw9 (n := 0) (i := 30) kc_cX11_layWays_0 (by decide +kernel)
theorem dX11_layWays_31 : decode cX11_layWays 31 = .ok (.lastore, 1) := dw80 (n := 0) (i := 31) kc_cX11_layWays_0 (by decide +kernel)
theorem dX11_layWays_32 : decode cX11_layWays 32 = .ok (.iconst 0, 1) := dw3 (n := 32) (i := 0) kc_cX11_layWays_1 (by decide +kernel)
theorem dX11_layWays_33 : decode cX11_layWays 33 = .ok (.istore_n 3, 1) := dw62 (n := 32) (i := 1) kc_cX11_layWays_1 (by decide +kernel)
theorem dX11_layWays_34 : decode cX11_layWays 34 = .ok (.iload_n 3, 1) := dw29 (n := 32) (i := 2) kc_cX11_layWays_1 (by decide +kernel)
theorem dX11_layWays_35 : decode cX11_layWays 35 = .ok (.aload_n 0, 1) := dw42 (n := 32) (i := 3) kc_cX11_layWays_1 (by decide +kernel)
theorem dX11_layWays_36 : decode cX11_layWays 36 = .ok (.getfield 31, 3) := dw180 (n := 32) (i := 4) (a := 0) (b := 31) kc_cX11_layWays_1 (by decide +kernel) (by decide)
theorem dX11_layWays_39 : decode cX11_layWays 39 = .ok (.aload_n 0, 1) := dw42 (n := 32) (i := 7) kc_cX11_layWays_1 (by decide +kernel)
theorem dX11_layWays_40 : decode cX11_layWays 40 = .ok (.getfield 201, 3) := dw180 (n := 32) (i := 8) (a := 0) (b := 201) kc_cX11_layWays_1 (by decide +kernel) (by decide)
theorem dX11_layWays_43 : decode cX11_layWays 43 = .ok (.iaload, 1) := dw46 (n := 32) (i := 11) kc_cX11_layWays_1 (by decide +kernel)
theorem dX11_layWays_44 : decode cX11_layWays 44 = .ok (.if_icmp .ge 60, 3) := dw162 (n := 32) (i := 12) (a := 0) (b := 60) kc_cX11_layWays_1 (by decide +kernel) (by decide)
theorem dX11_layWays_104 : decode cX11_layWays 104 = .ok (.iinc 2 1, 3) := by decide +kernel
theorem dX11_layWays_107 : decode cX11_layWays 107 = .ok (.goto (-95), 3) := dw167 (n := 96) (i := 11) (a := 255) (b := 161) kc_cX11_layWays_3 (by decide +kernel) (by decide)
theorem dX11_layWays_47 : decode cX11_layWays 47 = .ok (.aload_n 0, 1) := dw42 (n := 32) (i := 15) kc_cX11_layWays_1 (by decide +kernel)
theorem dX11_layWays_48 : decode cX11_layWays 48 = .ok (.iload_n 3, 1) := dw29 (n := 32) (i := 16) kc_cX11_layWays_1 (by decide +kernel)
theorem dX11_layWays_49 : decode cX11_layWays 49 = .ok (.invokevirtual 217, 3) := dw182 (n := 32) (i := 17) (a := 0) (b := 217) kc_cX11_layWays_1 (by decide +kernel) (by decide)
set_option maxRecDepth 20000 in
theorem ggX11_layWays_X11_ballotAt : GoodIn wsX11_layWays wsX11_ballotAt := (gk_code 11 rfl (gk_fieldLink 12 rfl (gk_fieldLink 4 rfl (gk_lays 23 rfl (gk_laysFinal 24 rfl (gk_lays 25 rfl (gk_laysFinal 26 rfl (gk_lays 27 rfl (gk_laysFinal 28 rfl (gk_laysFinal 29 rfl (gk_laysFinal 30 rfl (gk_laysFinal 31 rfl (gk_lays 32 rfl (gk_laysFinal 33 rfl (gk_laysFinal 34 rfl (gk_laysFinal 35 rfl (gk_laysFinal 36 rfl (gk_lays 37 rfl (gk_laysFinal 38 rfl (gk_laysFinal 39 rfl (gk_laysFinal 40 rfl (gk_laysFinal 41 rfl (gk_laysFinal 42 rfl (gk_laysFinal 43 rfl (gk_laysFinal 44 rfl (gk_laysFinal 45 rfl (gk_lays 46 rfl (gk_lays 47 rfl (gk_lays 48 rfl (gk_lays 49 rfl (gk_lays 50 rfl (gk_lays 51 rfl (gk_lays 52 rfl (gk_laysFinal 53 rfl (gk_lays 54 rfl (gk_laysFinal 55 rfl (gk_laysFinal 56 rfl (gk_laysFinal 57 rfl (gk_laysFinal 58 rfl (gk_laysFinal 59 rfl (gk_laysFinal 60 rfl (gk_laysFinal 61 rfl (gk_laysFinal 62 rfl (gk_laysFinal 63 rfl (gk_laysFinal 64 rfl (gk_lays 65 rfl (gk_laysFinal 66 rfl (gk_lays 67 rfl (gk_laysFinal 68 rfl (gk_laysFinal 69 rfl (gk_laysFinal 70 rfl (gk_laysFinal 71 rfl (gk_laysFinal 72 rfl (gk_laysFinal 73 rfl (gk_laysFinal 74 rfl (gk_laysFinal 75 rfl (gn)))))))))))))))))))))))))))))))))))))))))))))))))))))))))
set_option maxRecDepth 20000 in
theorem gX11_layWays_X11_ballotAt : GoodIn wsX11_layWays (wsV RX11 217 RX11 yX11_ballotAt wsX11_ballotAt) := goodIn_app (gk_methodLink 7 rfl (gk_instanceMethod 8 rfl (gk_selects 9 rfl (gk_initialized 10 rfl (gn))))) ggX11_layWays_X11_ballotAt
theorem dX11_layWays_52 : decode cX11_layWays 52 = .ok (.istore 4, 2) := dw54 (n := 32) (i := 20) (a := 4) kc_cX11_layWays_1 (by decide +kernel) (by decide)
theorem dX11_layWays_54 : decode cX11_layWays 54 = .ok (.aload_n 0, 1) := dw42 (n := 32) (i := 22) kc_cX11_layWays_1 (by decide +kernel)
theorem dX11_layWays_55 : decode cX11_layWays 55 = .ok (.getfield 120, 3) := dw180 (n := 32) (i := 23) (a := 0) (b := 120) kc_cX11_layWays_1 (by decide +kernel) (by decide)
theorem dX11_layWays_58 : decode cX11_layWays 58 = .ok (.bipush 10, 2) := dw16 (n := 32) (i := 26) (a := 10) kc_cX11_layWays_1 (by decide +kernel) (by decide)
theorem dX11_layWays_60 : decode cX11_layWays 60 = .ok (.iload_n 1, 1) := dw27 (n := 32) (i := 28) kc_cX11_layWays_1 (by decide +kernel)
theorem dX11_layWays_61 : decode cX11_layWays 61 = .ok (.imul, 1) := dw104 (n := 32) (i := 29) kc_cX11_layWays_1 (by decide +kernel)
theorem dX11_layWays_62 : decode cX11_layWays 62 = .ok (.iload_n 2, 1) := dw28 (n := 32) (i := 30) kc_cX11_layWays_1 (by decide +kernel)
theorem dX11_layWays_63 : decode cX11_layWays 63 = .ok (.iadd, 1) := dw96 (n := 32) (i := 31) kc_cX11_layWays_1 (by decide +kernel)
theorem dX11_layWays_64 : decode cX11_layWays 64 = .ok (.dup2, 1) := dw92 (n := 64) (i := 0) kc_cX11_layWays_2 (by decide +kernel)
theorem dX11_layWays_65 : decode cX11_layWays 65 = .ok (.laload, 1) := dw47 (n := 64) (i := 1) kc_cX11_layWays_2 (by decide +kernel)
theorem dX11_layWays_66 : decode cX11_layWays 66 = .ok (.iload 4, 2) := dw21 (n := 64) (i := 2) (a := 4) kc_cX11_layWays_2 (by decide +kernel) (by decide)
theorem dX11_layWays_68 : decode cX11_layWays 68 = .ok (.bipush (-9), 2) := dw16 (n := 64) (i := 4) (a := 247) kc_cX11_layWays_2 (by decide +kernel) (by decide)
theorem dX11_layWays_70 : decode cX11_layWays 70 = .ok (.if_icmp .eq 25, 3) := dw159 (n := 64) (i := 6) (a := 0) (b := 25) kc_cX11_layWays_2 (by decide +kernel) (by decide)
theorem dX11_layWays_95 : decode cX11_layWays 95 = .ok (.lconst 0, 1) := dw9 (n := 64) (i := 31) kc_cX11_layWays_2 (by decide +kernel)
theorem dX11_layWays_96 : decode cX11_layWays 96 = .ok (.ladd, 1) := dw97 (n := 96) (i := 0) kc_cX11_layWays_3 (by decide +kernel)
theorem dX11_layWays_97 : decode cX11_layWays 97 = .ok (.lastore, 1) := dw80 (n := 96) (i := 1) kc_cX11_layWays_3 (by decide +kernel)
theorem dX11_layWays_98 : decode cX11_layWays 98 = .ok (.iinc 3 1, 3) := by decide +kernel
theorem dX11_layWays_101 : decode cX11_layWays 101 = .ok (.goto (-67), 3) := dw167 (n := 96) (i := 5) (a := 255) (b := 189) kc_cX11_layWays_3 (by decide +kernel) (by decide)
theorem dX11_layWays_73 : decode cX11_layWays 73 = .ok (.aload_n 0, 1) := dw42 (n := 64) (i := 9) kc_cX11_layWays_2 (by decide +kernel)
theorem dX11_layWays_74 : decode cX11_layWays 74 = .ok (.iload 4, 2) := dw21 (n := 64) (i := 10) (a := 4) kc_cX11_layWays_2 (by decide +kernel) (by decide)
theorem dX11_layWays_76 : decode cX11_layWays 76 = .ok (.iload_n 1, 1) := dw27 (n := 64) (i := 12) kc_cX11_layWays_2 (by decide +kernel)
theorem dX11_layWays_77 : decode cX11_layWays 77 = .ok (.iload_n 2, 1) := dw28 (n := 64) (i := 13) kc_cX11_layWays_2 (by decide +kernel)
theorem dX11_layWays_78 : decode cX11_layWays 78 = .ok (.invokevirtual 255, 3) := dw182 (n := 64) (i := 14) (a := 0) (b := 255) kc_cX11_layWays_2 (by decide +kernel) (by decide)
set_option maxRecDepth 20000 in
theorem ggX11_layWays_X11_isAheadOn : GoodIn wsX11_layWays wsX11_isAheadOn := (gk_code 16 rfl (gk_methodLink 17 rfl (gk_instanceMethod 18 rfl (gk_selects 19 rfl (gk_initialized 10 rfl (gk_code 20 rfl (gk_fieldLink 21 rfl (gk_fieldLink 22 rfl (gk_lays 23 rfl (gk_laysFinal 24 rfl (gk_lays 25 rfl (gk_laysFinal 26 rfl (gk_lays 27 rfl (gk_laysFinal 28 rfl (gk_laysFinal 29 rfl (gk_laysFinal 30 rfl (gk_laysFinal 31 rfl (gk_lays 32 rfl (gk_laysFinal 33 rfl (gk_laysFinal 34 rfl (gk_laysFinal 35 rfl (gk_laysFinal 36 rfl (gk_lays 37 rfl (gk_laysFinal 38 rfl (gk_laysFinal 39 rfl (gk_laysFinal 40 rfl (gk_laysFinal 41 rfl (gk_laysFinal 42 rfl (gk_laysFinal 43 rfl (gk_laysFinal 44 rfl (gk_laysFinal 45 rfl (gk_lays 46 rfl (gk_lays 47 rfl (gk_lays 48 rfl (gk_lays 49 rfl (gk_lays 50 rfl (gk_lays 51 rfl (gk_lays 52 rfl (gk_laysFinal 53 rfl (gk_lays 54 rfl (gk_laysFinal 55 rfl (gk_laysFinal 56 rfl (gk_laysFinal 57 rfl (gk_laysFinal 58 rfl (gk_laysFinal 59 rfl (gk_laysFinal 60 rfl (gk_laysFinal 61 rfl (gk_laysFinal 62 rfl (gk_laysFinal 63 rfl (gk_laysFinal 64 rfl (gk_lays 65 rfl (gk_laysFinal 66 rfl (gk_lays 67 rfl (gk_laysFinal 68 rfl (gk_laysFinal 69 rfl (gk_laysFinal 70 rfl (gk_laysFinal 71 rfl (gk_laysFinal 72 rfl (gk_laysFinal 73 rfl (gk_laysFinal 74 rfl (gk_laysFinal 75 rfl (gn))))))))))))))))))))))))))))))))))))))))))))))))))))))))))))))
set_option maxRecDepth 20000 in
theorem gX11_layWays_X11_isAheadOn : GoodIn wsX11_layWays (wsV RX11 255 RX11 yX11_isAheadOn wsX11_isAheadOn) := goodIn_app (gk_methodLink 13 rfl (gk_instanceMethod 14 rfl (gk_selects 15 rfl (gk_initialized 10 rfl (gn))))) ggX11_layWays_X11_isAheadOn
theorem dX11_layWays_81 : decode cX11_layWays 81 = .ok (.ifCond .eq 14, 3) := dw153 (n := 64) (i := 17) (a := 0) (b := 14) kc_cX11_layWays_2 (by decide +kernel) (by decide)
theorem dX11_layWays_84 : decode cX11_layWays 84 = .ok (.aload_n 0, 1) := dw42 (n := 64) (i := 20) kc_cX11_layWays_2 (by decide +kernel)
theorem dX11_layWays_85 : decode cX11_layWays 85 = .ok (.getfield 19, 3) := dw180 (n := 64) (i := 21) (a := 0) (b := 19) kc_cX11_layWays_2 (by decide +kernel) (by decide)
theorem dX11_layWays_88 : decode cX11_layWays 88 = .ok (.iload 4, 2) := dw21 (n := 64) (i := 24) (a := 4) kc_cX11_layWays_2 (by decide +kernel) (by decide)
theorem dX11_layWays_90 : decode cX11_layWays 90 = .ok (.iaload, 1) := dw46 (n := 64) (i := 26) kc_cX11_layWays_2 (by decide +kernel)
theorem dX11_layWays_91 : decode cX11_layWays 91 = .ok (.i2l, 1) := dw133 (n := 64) (i := 27) kc_cX11_layWays_2 (by decide +kernel)
theorem dX11_layWays_92 : decode cX11_layWays 92 = .ok (.goto 4, 3) := dw167 (n := 64) (i := 28) (a := 0) (b := 4) kc_cX11_layWays_2 (by decide +kernel) (by decide)
theorem dX11_layWays_116 : decode cX11_layWays 116 = .ok (.iconst 0, 1) := dw3 (n := 96) (i := 20) kc_cX11_layWays_3 (by decide +kernel)
theorem dX11_layWays_117 : decode cX11_layWays 117 = .ok (.istore_n 1, 1) := dw60 (n := 96) (i := 21) kc_cX11_layWays_3 (by decide +kernel)
theorem dX11_layWays_118 : decode cX11_layWays 118 = .ok (.iload_n 1, 1) := dw27 (n := 96) (i := 22) kc_cX11_layWays_3 (by decide +kernel)
theorem dX11_layWays_119 : decode cX11_layWays 119 = .ok (.aload_n 0, 1) := dw42 (n := 96) (i := 23) kc_cX11_layWays_3 (by decide +kernel)
theorem dX11_layWays_120 : decode cX11_layWays 120 = .ok (.getfield 137, 3) := dw180 (n := 96) (i := 24) (a := 0) (b := 137) kc_cX11_layWays_3 (by decide +kernel) (by decide)
theorem dX11_layWays_123 : decode cX11_layWays 123 = .ok (.if_icmp .ge 77, 3) := dw162 (n := 96) (i := 27) (a := 0) (b := 77) kc_cX11_layWays_3 (by decide +kernel) (by decide)
theorem dX11_layWays_126 : decode cX11_layWays 126 = .ok (.iconst 0, 1) := dw3 (n := 96) (i := 30) kc_cX11_layWays_3 (by decide +kernel)
theorem dX11_layWays_127 : decode cX11_layWays 127 = .ok (.istore_n 2, 1) := dw61 (n := 96) (i := 31) kc_cX11_layWays_3 (by decide +kernel)
theorem dX11_layWays_128 : decode cX11_layWays 128 = .ok (.iload_n 2, 1) := dw28 (n := 128) (i := 0) kc_cX11_layWays_4 (by decide +kernel)
theorem dX11_layWays_129 : decode cX11_layWays 129 = .ok (.aload_n 0, 1) := dw42 (n := 128) (i := 1) kc_cX11_layWays_4 (by decide +kernel)
theorem dX11_layWays_130 : decode cX11_layWays 130 = .ok (.getfield 137, 3) := dw180 (n := 128) (i := 2) (a := 0) (b := 137) kc_cX11_layWays_4 (by decide +kernel) (by decide)
theorem dX11_layWays_133 : decode cX11_layWays 133 = .ok (.if_icmp .ge 61, 3) := dw162 (n := 128) (i := 5) (a := 0) (b := 61) kc_cX11_layWays_4 (by decide +kernel) (by decide)
theorem dX11_layWays_194 : decode cX11_layWays 194 = .ok (.iinc 1 1, 3) := by decide +kernel
theorem dX11_layWays_197 : decode cX11_layWays 197 = .ok (.goto (-79), 3) := dw167 (n := 192) (i := 5) (a := 255) (b := 177) kc_cX11_layWays_6 (by decide +kernel) (by decide)
theorem dX11_layWays_136 : decode cX11_layWays 136 = .ok (.aload_n 0, 1) := dw42 (n := 128) (i := 8) kc_cX11_layWays_4 (by decide +kernel)
theorem dX11_layWays_137 : decode cX11_layWays 137 = .ok (.getfield 123, 3) := dw180 (n := 128) (i := 9) (a := 0) (b := 123) kc_cX11_layWays_4 (by decide +kernel) (by decide)
theorem dX11_layWays_140 : decode cX11_layWays 140 = .ok (.bipush 10, 2) := dw16 (n := 128) (i := 12) (a := 10) kc_cX11_layWays_4 (by decide +kernel) (by decide)
theorem dX11_layWays_142 : decode cX11_layWays 142 = .ok (.iload_n 1, 1) := dw27 (n := 128) (i := 14) kc_cX11_layWays_4 (by decide +kernel)
theorem dX11_layWays_143 : decode cX11_layWays 143 = .ok (.imul, 1) := dw104 (n := 128) (i := 15) kc_cX11_layWays_4 (by decide +kernel)
theorem dX11_layWays_144 : decode cX11_layWays 144 = .ok (.iload_n 2, 1) := dw28 (n := 128) (i := 16) kc_cX11_layWays_4 (by decide +kernel)
theorem dX11_layWays_145 : decode cX11_layWays 145 = .ok (.iadd, 1) := dw96 (n := 128) (i := 17) kc_cX11_layWays_4 (by decide +kernel)
theorem dX11_layWays_146 : decode cX11_layWays 146 = .ok (.aload_n 0, 1) := dw42 (n := 128) (i := 18) kc_cX11_layWays_4 (by decide +kernel)
theorem dX11_layWays_147 : decode cX11_layWays 147 = .ok (.getfield 120, 3) := dw180 (n := 128) (i := 19) (a := 0) (b := 120) kc_cX11_layWays_4 (by decide +kernel) (by decide)
theorem dX11_layWays_150 : decode cX11_layWays 150 = .ok (.bipush 10, 2) := dw16 (n := 128) (i := 22) (a := 10) kc_cX11_layWays_4 (by decide +kernel) (by decide)
theorem dX11_layWays_152 : decode cX11_layWays 152 = .ok (.iload_n 1, 1) := dw27 (n := 128) (i := 24) kc_cX11_layWays_4 (by decide +kernel)
theorem dX11_layWays_153 : decode cX11_layWays 153 = .ok (.imul, 1) := dw104 (n := 128) (i := 25) kc_cX11_layWays_4 (by decide +kernel)
theorem dX11_layWays_154 : decode cX11_layWays 154 = .ok (.iload_n 2, 1) := dw28 (n := 128) (i := 26) kc_cX11_layWays_4 (by decide +kernel)
theorem dX11_layWays_155 : decode cX11_layWays 155 = .ok (.iadd, 1) := dw96 (n := 128) (i := 27) kc_cX11_layWays_4 (by decide +kernel)
theorem dX11_layWays_156 : decode cX11_layWays 156 = .ok (.laload, 1) := dw47 (n := 128) (i := 28) kc_cX11_layWays_4 (by decide +kernel)
theorem dX11_layWays_157 : decode cX11_layWays 157 = .ok (.aload_n 0, 1) := dw42 (n := 128) (i := 29) kc_cX11_layWays_4 (by decide +kernel)
theorem dX11_layWays_158 : decode cX11_layWays 158 = .ok (.getfield 120, 3) := dw180 (n := 128) (i := 30) (a := 0) (b := 120) kc_cX11_layWays_4 (by decide +kernel) (by decide)
theorem dX11_layWays_161 : decode cX11_layWays 161 = .ok (.bipush 10, 2) := dw16 (n := 160) (i := 1) (a := 10) kc_cX11_layWays_5 (by decide +kernel) (by decide)
theorem dX11_layWays_163 : decode cX11_layWays 163 = .ok (.iload_n 2, 1) := dw28 (n := 160) (i := 3) kc_cX11_layWays_5 (by decide +kernel)
theorem dX11_layWays_164 : decode cX11_layWays 164 = .ok (.imul, 1) := dw104 (n := 160) (i := 4) kc_cX11_layWays_5 (by decide +kernel)
theorem dX11_layWays_165 : decode cX11_layWays 165 = .ok (.iload_n 1, 1) := dw27 (n := 160) (i := 5) kc_cX11_layWays_5 (by decide +kernel)
theorem dX11_layWays_166 : decode cX11_layWays 166 = .ok (.iadd, 1) := dw96 (n := 160) (i := 6) kc_cX11_layWays_5 (by decide +kernel)
theorem dX11_layWays_167 : decode cX11_layWays 167 = .ok (.laload, 1) := dw47 (n := 160) (i := 7) kc_cX11_layWays_5 (by decide +kernel)
theorem dX11_layWays_168 : decode cX11_layWays 168 = .ok (.lcmp, 1) := dw148 (n := 160) (i := 8) kc_cX11_layWays_5 (by decide +kernel)
theorem dX11_layWays_169 : decode cX11_layWays 169 = .ok (.ifCond .le 17, 3) := dw158 (n := 160) (i := 9) (a := 0) (b := 17) kc_cX11_layWays_5 (by decide +kernel) (by decide)
theorem dX11_layWays_186 : decode cX11_layWays 186 = .ok (.lconst 0, 1) := dw9 (n := 160) (i := 26) kc_cX11_layWays_5 (by decide +kernel)
theorem dX11_layWays_187 : decode cX11_layWays 187 = .ok (.lastore, 1) := dw80 (n := 160) (i := 27) kc_cX11_layWays_5 (by decide +kernel)
theorem dX11_layWays_188 : decode cX11_layWays 188 = .ok (.iinc 2 1, 3) := by decide +kernel
theorem dX11_layWays_191 : decode cX11_layWays 191 = .ok (.goto (-63), 3) := dw167 (n := 160) (i := 31) (a := 255) (b := 193) kc_cX11_layWays_5 (by decide +kernel) (by decide)
theorem dX11_layWays_172 : decode cX11_layWays 172 = .ok (.aload_n 0, 1) := dw42 (n := 160) (i := 12) kc_cX11_layWays_5 (by decide +kernel)
theorem dX11_layWays_173 : decode cX11_layWays 173 = .ok (.getfield 120, 3) := dw180 (n := 160) (i := 13) (a := 0) (b := 120) kc_cX11_layWays_5 (by decide +kernel) (by decide)
theorem dX11_layWays_176 : decode cX11_layWays 176 = .ok (.bipush 10, 2) := dw16 (n := 160) (i := 16) (a := 10) kc_cX11_layWays_5 (by decide +kernel) (by decide)
theorem dX11_layWays_178 : decode cX11_layWays 178 = .ok (.iload_n 1, 1) := dw27 (n := 160) (i := 18) kc_cX11_layWays_5 (by decide +kernel)
theorem dX11_layWays_179 : decode cX11_layWays 179 = .ok (.imul, 1) := dw104 (n := 160) (i := 19) kc_cX11_layWays_5 (by decide +kernel)
theorem dX11_layWays_180 : decode cX11_layWays 180 = .ok (.iload_n 2, 1) := dw28 (n := 160) (i := 20) kc_cX11_layWays_5 (by decide +kernel)
theorem dX11_layWays_181 : decode cX11_layWays 181 = .ok (.iadd, 1) := dw96 (n := 160) (i := 21) kc_cX11_layWays_5 (by decide +kernel)
theorem dX11_layWays_182 : decode cX11_layWays 182 = .ok (.laload, 1) := dw47 (n := 160) (i := 22) kc_cX11_layWays_5 (by decide +kernel)
theorem dX11_layWays_183 : decode cX11_layWays 183 = .ok (.goto 4, 3) := dw167 (n := 160) (i := 23) (a := 0) (b := 4) kc_cX11_layWays_5 (by decide +kernel) (by decide)
theorem dX11_layWays_200 : decode cX11_layWays 200 = .ok (.iconst 0, 1) := dw3 (n := 192) (i := 8) kc_cX11_layWays_6 (by decide +kernel)
theorem dX11_layWays_201 : decode cX11_layWays 201 = .ok (.istore_n 1, 1) := dw60 (n := 192) (i := 9) kc_cX11_layWays_6 (by decide +kernel)
theorem dX11_layWays_202 : decode cX11_layWays 202 = .ok (.iload_n 1, 1) := dw27 (n := 192) (i := 10) kc_cX11_layWays_6 (by decide +kernel)
theorem dX11_layWays_203 : decode cX11_layWays 203 = .ok (.aload_n 0, 1) := dw42 (n := 192) (i := 11) kc_cX11_layWays_6 (by decide +kernel)
theorem dX11_layWays_204 : decode cX11_layWays 204 = .ok (.getfield 137, 3) := dw180 (n := 192) (i := 12) (a := 0) (b := 137) kc_cX11_layWays_6 (by decide +kernel) (by decide)
theorem dX11_layWays_207 : decode cX11_layWays 207 = .ok (.if_icmp .ge 143, 3) := dw162 (n := 192) (i := 15) (a := 0) (b := 143) kc_cX11_layWays_6 (by decide +kernel) (by decide)
theorem dX11_layWays_350 : decode cX11_layWays 350 = .ok (.return_, 1) := dw177 (n := 320) (i := 30) kc_cX11_layWays_10 (by decide +kernel)
theorem dX11_layWays_210 : decode cX11_layWays 210 = .ok (.iconst 0, 1) := dw3 (n := 192) (i := 18) kc_cX11_layWays_6 (by decide +kernel)
theorem dX11_layWays_211 : decode cX11_layWays 211 = .ok (.istore_n 2, 1) := dw61 (n := 192) (i := 19) kc_cX11_layWays_6 (by decide +kernel)
theorem dX11_layWays_212 : decode cX11_layWays 212 = .ok (.iload_n 2, 1) := dw28 (n := 192) (i := 20) kc_cX11_layWays_6 (by decide +kernel)
theorem dX11_layWays_213 : decode cX11_layWays 213 = .ok (.aload_n 0, 1) := dw42 (n := 192) (i := 21) kc_cX11_layWays_6 (by decide +kernel)
theorem dX11_layWays_214 : decode cX11_layWays 214 = .ok (.getfield 137, 3) := dw180 (n := 192) (i := 22) (a := 0) (b := 137) kc_cX11_layWays_6 (by decide +kernel) (by decide)
theorem dX11_layWays_217 : decode cX11_layWays 217 = .ok (.if_icmp .ge 127, 3) := dw162 (n := 192) (i := 25) (a := 0) (b := 127) kc_cX11_layWays_6 (by decide +kernel) (by decide)
theorem dX11_layWays_344 : decode cX11_layWays 344 = .ok (.iinc 1 1, 3) := by decide +kernel
theorem dX11_layWays_347 : decode cX11_layWays 347 = .ok (.goto (-145), 3) := dw167 (n := 320) (i := 27) (a := 255) (b := 111) kc_cX11_layWays_10 (by decide +kernel) (by decide)
theorem dX11_layWays_220 : decode cX11_layWays 220 = .ok (.iconst 0, 1) := dw3 (n := 192) (i := 28) kc_cX11_layWays_6 (by decide +kernel)
theorem dX11_layWays_221 : decode cX11_layWays 221 = .ok (.istore_n 3, 1) := dw62 (n := 192) (i := 29) kc_cX11_layWays_6 (by decide +kernel)
theorem dX11_layWays_222 : decode cX11_layWays 222 = .ok (.iload_n 3, 1) := dw29 (n := 192) (i := 30) kc_cX11_layWays_6 (by decide +kernel)
theorem dX11_layWays_223 : decode cX11_layWays 223 = .ok (.aload_n 0, 1) := dw42 (n := 192) (i := 31) kc_cX11_layWays_6 (by decide +kernel)
theorem dX11_layWays_224 : decode cX11_layWays 224 = .ok (.getfield 137, 3) := dw180 (n := 224) (i := 0) (a := 0) (b := 137) kc_cX11_layWays_7 (by decide +kernel) (by decide)
theorem dX11_layWays_227 : decode cX11_layWays 227 = .ok (.if_icmp .ge 111, 3) := dw162 (n := 224) (i := 3) (a := 0) (b := 111) kc_cX11_layWays_7 (by decide +kernel) (by decide)
theorem dX11_layWays_338 : decode cX11_layWays 338 = .ok (.iinc 2 1, 3) := by decide +kernel
theorem dX11_layWays_341 : decode cX11_layWays 341 = .ok (.goto (-129), 3) := dw167 (n := 320) (i := 21) (a := 255) (b := 127) kc_cX11_layWays_10 (by decide +kernel) (by decide)
theorem dX11_layWays_230 : decode cX11_layWays 230 = .ok (.aload_n 0, 1) := dw42 (n := 224) (i := 6) kc_cX11_layWays_7 (by decide +kernel)
theorem dX11_layWays_231 : decode cX11_layWays 231 = .ok (.getfield 123, 3) := dw180 (n := 224) (i := 7) (a := 0) (b := 123) kc_cX11_layWays_7 (by decide +kernel) (by decide)
theorem dX11_layWays_234 : decode cX11_layWays 234 = .ok (.bipush 10, 2) := dw16 (n := 224) (i := 10) (a := 10) kc_cX11_layWays_7 (by decide +kernel) (by decide)
theorem dX11_layWays_236 : decode cX11_layWays 236 = .ok (.iload_n 2, 1) := dw28 (n := 224) (i := 12) kc_cX11_layWays_7 (by decide +kernel)
theorem dX11_layWays_237 : decode cX11_layWays 237 = .ok (.imul, 1) := dw104 (n := 224) (i := 13) kc_cX11_layWays_7 (by decide +kernel)
theorem dX11_layWays_238 : decode cX11_layWays 238 = .ok (.iload_n 1, 1) := dw27 (n := 224) (i := 14) kc_cX11_layWays_7 (by decide +kernel)
theorem dX11_layWays_239 : decode cX11_layWays 239 = .ok (.iadd, 1) := dw96 (n := 224) (i := 15) kc_cX11_layWays_7 (by decide +kernel)
theorem dX11_layWays_240 : decode cX11_layWays 240 = .ok (.laload, 1) := dw47 (n := 224) (i := 16) kc_cX11_layWays_7 (by decide +kernel)
theorem dX11_layWays_241 : decode cX11_layWays 241 = .ok (.aload_n 0, 1) := dw42 (n := 224) (i := 17) kc_cX11_layWays_7 (by decide +kernel)
theorem dX11_layWays_242 : decode cX11_layWays 242 = .ok (.getfield 123, 3) := dw180 (n := 224) (i := 18) (a := 0) (b := 123) kc_cX11_layWays_7 (by decide +kernel) (by decide)
theorem dX11_layWays_245 : decode cX11_layWays 245 = .ok (.bipush 10, 2) := dw16 (n := 224) (i := 21) (a := 10) kc_cX11_layWays_7 (by decide +kernel) (by decide)
theorem dX11_layWays_247 : decode cX11_layWays 247 = .ok (.iload_n 1, 1) := dw27 (n := 224) (i := 23) kc_cX11_layWays_7 (by decide +kernel)
theorem dX11_layWays_248 : decode cX11_layWays 248 = .ok (.imul, 1) := dw104 (n := 224) (i := 24) kc_cX11_layWays_7 (by decide +kernel)
theorem dX11_layWays_249 : decode cX11_layWays 249 = .ok (.iload_n 3, 1) := dw29 (n := 224) (i := 25) kc_cX11_layWays_7 (by decide +kernel)
theorem dX11_layWays_250 : decode cX11_layWays 250 = .ok (.iadd, 1) := dw96 (n := 224) (i := 26) kc_cX11_layWays_7 (by decide +kernel)
theorem dX11_layWays_251 : decode cX11_layWays 251 = .ok (.laload, 1) := dw47 (n := 224) (i := 27) kc_cX11_layWays_7 (by decide +kernel)
theorem dX11_layWays_252 : decode cX11_layWays 252 = .ok (.lcmp, 1) := dw148 (n := 224) (i := 28) kc_cX11_layWays_7 (by decide +kernel)
theorem dX11_layWays_253 : decode cX11_layWays 253 = .ok (.ifCond .ge 17, 3) := dw156 (n := 224) (i := 29) (a := 0) (b := 17) kc_cX11_layWays_7 (by decide +kernel) (by decide)
theorem dX11_layWays_270 : decode cX11_layWays 270 = .ok (.aload_n 0, 1) := dw42 (n := 256) (i := 14) kc_cX11_layWays_8 (by decide +kernel)
theorem dX11_layWays_271 : decode cX11_layWays 271 = .ok (.getfield 123, 3) := dw180 (n := 256) (i := 15) (a := 0) (b := 123) kc_cX11_layWays_8 (by decide +kernel) (by decide)
theorem dX11_layWays_274 : decode cX11_layWays 274 = .ok (.bipush 10, 2) := dw16 (n := 256) (i := 18) (a := 10) kc_cX11_layWays_8 (by decide +kernel) (by decide)
theorem dX11_layWays_276 : decode cX11_layWays 276 = .ok (.iload_n 1, 1) := dw27 (n := 256) (i := 20) kc_cX11_layWays_8 (by decide +kernel)
theorem dX11_layWays_277 : decode cX11_layWays 277 = .ok (.imul, 1) := dw104 (n := 256) (i := 21) kc_cX11_layWays_8 (by decide +kernel)
theorem dX11_layWays_278 : decode cX11_layWays 278 = .ok (.iload_n 3, 1) := dw29 (n := 256) (i := 22) kc_cX11_layWays_8 (by decide +kernel)
theorem dX11_layWays_279 : decode cX11_layWays 279 = .ok (.iadd, 1) := dw96 (n := 256) (i := 23) kc_cX11_layWays_8 (by decide +kernel)
theorem dX11_layWays_280 : decode cX11_layWays 280 = .ok (.laload, 1) := dw47 (n := 256) (i := 24) kc_cX11_layWays_8 (by decide +kernel)
theorem dX11_layWays_281 : decode cX11_layWays 281 = .ok (.lstore 4, 2) := dw55 (n := 256) (i := 25) (a := 4) kc_cX11_layWays_8 (by decide +kernel) (by decide)
theorem dX11_layWays_283 : decode cX11_layWays 283 = .ok (.aload_n 0, 1) := dw42 (n := 256) (i := 27) kc_cX11_layWays_8 (by decide +kernel)
theorem dX11_layWays_284 : decode cX11_layWays 284 = .ok (.getfield 123, 3) := dw180 (n := 256) (i := 28) (a := 0) (b := 123) kc_cX11_layWays_8 (by decide +kernel) (by decide)
theorem dX11_layWays_287 : decode cX11_layWays 287 = .ok (.bipush 10, 2) := dw16 (n := 256) (i := 31) (a := 10) kc_cX11_layWays_8 (by decide +kernel) (by decide)
theorem dX11_layWays_289 : decode cX11_layWays 289 = .ok (.iload_n 2, 1) := dw28 (n := 288) (i := 1) kc_cX11_layWays_9 (by decide +kernel)
theorem dX11_layWays_290 : decode cX11_layWays 290 = .ok (.imul, 1) := dw104 (n := 288) (i := 2) kc_cX11_layWays_9 (by decide +kernel)
theorem dX11_layWays_291 : decode cX11_layWays 291 = .ok (.iload_n 3, 1) := dw29 (n := 288) (i := 3) kc_cX11_layWays_9 (by decide +kernel)
theorem dX11_layWays_292 : decode cX11_layWays 292 = .ok (.iadd, 1) := dw96 (n := 288) (i := 4) kc_cX11_layWays_9 (by decide +kernel)
theorem dX11_layWays_293 : decode cX11_layWays 293 = .ok (.iload_n 2, 1) := dw28 (n := 288) (i := 5) kc_cX11_layWays_9 (by decide +kernel)
theorem dX11_layWays_294 : decode cX11_layWays 294 = .ok (.iload_n 3, 1) := dw29 (n := 288) (i := 6) kc_cX11_layWays_9 (by decide +kernel)
theorem dX11_layWays_295 : decode cX11_layWays 295 = .ok (.if_icmp .eq 25, 3) := dw159 (n := 288) (i := 7) (a := 0) (b := 25) kc_cX11_layWays_9 (by decide +kernel) (by decide)
theorem dX11_layWays_320 : decode cX11_layWays 320 = .ok (.aload_n 0, 1) := dw42 (n := 320) (i := 0) kc_cX11_layWays_10 (by decide +kernel)
theorem dX11_layWays_321 : decode cX11_layWays 321 = .ok (.getfield 123, 3) := dw180 (n := 320) (i := 1) (a := 0) (b := 123) kc_cX11_layWays_10 (by decide +kernel) (by decide)
theorem dX11_layWays_324 : decode cX11_layWays 324 = .ok (.bipush 10, 2) := dw16 (n := 320) (i := 4) (a := 10) kc_cX11_layWays_10 (by decide +kernel) (by decide)
theorem dX11_layWays_326 : decode cX11_layWays 326 = .ok (.iload_n 2, 1) := dw28 (n := 320) (i := 6) kc_cX11_layWays_10 (by decide +kernel)
theorem dX11_layWays_327 : decode cX11_layWays 327 = .ok (.imul, 1) := dw104 (n := 320) (i := 7) kc_cX11_layWays_10 (by decide +kernel)
theorem dX11_layWays_328 : decode cX11_layWays 328 = .ok (.iload_n 3, 1) := dw29 (n := 320) (i := 8) kc_cX11_layWays_10 (by decide +kernel)
theorem dX11_layWays_329 : decode cX11_layWays 329 = .ok (.iadd, 1) := dw96 (n := 320) (i := 9) kc_cX11_layWays_10 (by decide +kernel)
theorem dX11_layWays_330 : decode cX11_layWays 330 = .ok (.laload, 1) := dw47 (n := 320) (i := 10) kc_cX11_layWays_10 (by decide +kernel)
theorem dX11_layWays_331 : decode cX11_layWays 331 = .ok (.lastore, 1) := dw80 (n := 320) (i := 11) kc_cX11_layWays_10 (by decide +kernel)
theorem dX11_layWays_332 : decode cX11_layWays 332 = .ok (.iinc 3 1, 3) := by decide +kernel
theorem dX11_layWays_335 : decode cX11_layWays 335 = .ok (.goto (-113), 3) := dw167 (n := 320) (i := 15) (a := 255) (b := 143) kc_cX11_layWays_10 (by decide +kernel) (by decide)
theorem dX11_layWays_298 : decode cX11_layWays 298 = .ok (.lload 4, 2) := dw22 (n := 288) (i := 10) (a := 4) kc_cX11_layWays_9 (by decide +kernel) (by decide)
theorem dX11_layWays_300 : decode cX11_layWays 300 = .ok (.aload_n 0, 1) := dw42 (n := 288) (i := 12) kc_cX11_layWays_9 (by decide +kernel)
theorem dX11_layWays_301 : decode cX11_layWays 301 = .ok (.getfield 123, 3) := dw180 (n := 288) (i := 13) (a := 0) (b := 123) kc_cX11_layWays_9 (by decide +kernel) (by decide)
theorem dX11_layWays_304 : decode cX11_layWays 304 = .ok (.bipush 10, 2) := dw16 (n := 288) (i := 16) (a := 10) kc_cX11_layWays_9 (by decide +kernel) (by decide)
theorem dX11_layWays_306 : decode cX11_layWays 306 = .ok (.iload_n 2, 1) := dw28 (n := 288) (i := 18) kc_cX11_layWays_9 (by decide +kernel)
theorem dX11_layWays_307 : decode cX11_layWays 307 = .ok (.imul, 1) := dw104 (n := 288) (i := 19) kc_cX11_layWays_9 (by decide +kernel)
theorem dX11_layWays_308 : decode cX11_layWays 308 = .ok (.iload_n 3, 1) := dw29 (n := 288) (i := 20) kc_cX11_layWays_9 (by decide +kernel)
theorem dX11_layWays_309 : decode cX11_layWays 309 = .ok (.iadd, 1) := dw96 (n := 288) (i := 21) kc_cX11_layWays_9 (by decide +kernel)
theorem dX11_layWays_310 : decode cX11_layWays 310 = .ok (.laload, 1) := dw47 (n := 288) (i := 22) kc_cX11_layWays_9 (by decide +kernel)
theorem dX11_layWays_311 : decode cX11_layWays 311 = .ok (.lcmp, 1) := dw148 (n := 288) (i := 23) kc_cX11_layWays_9 (by decide +kernel)
theorem dX11_layWays_312 : decode cX11_layWays 312 = .ok (.ifCond .le 8, 3) := dw158 (n := 288) (i := 24) (a := 0) (b := 8) kc_cX11_layWays_9 (by decide +kernel) (by decide)
theorem dX11_layWays_315 : decode cX11_layWays 315 = .ok (.lload 4, 2) := dw22 (n := 288) (i := 27) (a := 4) kc_cX11_layWays_9 (by decide +kernel) (by decide)
theorem dX11_layWays_317 : decode cX11_layWays 317 = .ok (.goto 14, 3) := dw167 (n := 288) (i := 29) (a := 0) (b := 14) kc_cX11_layWays_9 (by decide +kernel) (by decide)
theorem dX11_layWays_256 : decode cX11_layWays 256 = .ok (.aload_n 0, 1) := dw42 (n := 256) (i := 0) kc_cX11_layWays_8 (by decide +kernel)
theorem dX11_layWays_257 : decode cX11_layWays 257 = .ok (.getfield 123, 3) := dw180 (n := 256) (i := 1) (a := 0) (b := 123) kc_cX11_layWays_8 (by decide +kernel) (by decide)
theorem dX11_layWays_260 : decode cX11_layWays 260 = .ok (.bipush 10, 2) := dw16 (n := 256) (i := 4) (a := 10) kc_cX11_layWays_8 (by decide +kernel) (by decide)
theorem dX11_layWays_262 : decode cX11_layWays 262 = .ok (.iload_n 2, 1) := dw28 (n := 256) (i := 6) kc_cX11_layWays_8 (by decide +kernel)
theorem dX11_layWays_263 : decode cX11_layWays 263 = .ok (.imul, 1) := dw104 (n := 256) (i := 7) kc_cX11_layWays_8 (by decide +kernel)
theorem dX11_layWays_264 : decode cX11_layWays 264 = .ok (.iload_n 1, 1) := dw27 (n := 256) (i := 8) kc_cX11_layWays_8 (by decide +kernel)
theorem dX11_layWays_265 : decode cX11_layWays 265 = .ok (.iadd, 1) := dw96 (n := 256) (i := 9) kc_cX11_layWays_8 (by decide +kernel)
theorem dX11_layWays_266 : decode cX11_layWays 266 = .ok (.laload, 1) := dw47 (n := 256) (i := 10) kc_cX11_layWays_8 (by decide +kernel)
theorem dX11_layWays_267 : decode cX11_layWays 267 = .ok (.goto 14, 3) := dw167 (n := 256) (i := 11) (a := 0) (b := 14) kc_cX11_layWays_8 (by decide +kernel) (by decide)
set_option maxHeartbeats 4000000 in
set_option maxRecDepth 100000 in
theorem s_X11_layWays_200 (l : Launch) (D : va_G) (ad : Nat → Nat) (cs : Nat → ClassId) (M : MI) (L : ML)  (hI0 : IR M)  {p : Program} {e : Env} {s : State} {m : MethodId} {below : List Frame} {meth : Method} {c : Code} (C : Cx p s m #[.ref (ad 258)] meth c cX11_layWays 6 wsX11_layWays RX11 D ad cs) (hr : meth.sig.returnType = none) (Mc : MI) (Lc : ML) (hI : IR Mc) (hF : ∀ k i, True → Mc k i = M k i) (hG : ∀ k i, k ≠ 295 ∧ k ≠ 296 → Lc k i = L k i) : G p l e ({ frames := 2, cells := 0, slots := 0, locals := 48 }) s m #[.ref (ad 258)] below meth c 0 0 (MQ below (Qv D ad cs (fun M1 L1 => (CL (M 258 2).toNatClampNeg (M 258 2).toNatClampNeg (wv (L1 296))) ∧ IR M1 ∧ (∀ k i, True → M1 k i = M k i) ∧ ∀ k i, k ≠ 295 ∧ k ≠ 296 → L1 k i = L k i)) #[.ref (ad 258)] s 0 0 (Ar ad)) D ad cs 6 Mc Lc 200 [(0, .ref (ad 258))] [] := by
  have hI0 := hI0
  obtain ⟨ca, cb⟩ := (show rg 0 10 (M 258 2) from hI0 258 2)
  have n02 := ixn ca
  obtain ⟨sa, sb⟩ := (show rg 0 30 (M 258 28) from hI0 258 28)
  have p295 : Lc 295 = Lc 295 := rfl
  have p296 : Lc 296 = Lc 296 := rfl
  refine g_iconst C 0 dX11_layWays_200 (by decide) ?_
  refine g_istore_n C [(1, .int 0), (0, .ref (ad 258))] dX11_layWays_201 (by decide) rfl ?_
  have zy2078 : (0 : Int32).toInt = 0 := by decide
  refine g_loop (α := Int32 × MI × ML) (fun a => (11 - a.1.toInt).toNat) (fun a => (0 ≤ a.1.toInt) ∧ (a.1.toInt ≤ (M 258 2).toInt) ∧ (CL (M 258 2).toNatClampNeg a.1.toNatClampNeg (wv (a.2.2 296))) ∧ IR a.2.1 ∧ (∀ k i, True → a.2.1 k i = M k i) ∧ (∀ k i, k ≠ 295 ∧ k ≠ 296 → a.2.2 k i = L k i)) (fun a => a.2.1) (fun a => a.2.2) (fun a => [(1, .int a.1), (0, .ref (ad 258))]) ((0 : Int32), Mc, Lc) ⟨by show 0 ≤ (0 : Int32).toInt; omega, by show (0 : Int32).toInt ≤ (M 258 2).toInt; omega, by show CL (M 258 2).toNatClampNeg (0 : Int32).toNatClampNeg (wv (Lc 296)); exact fun j hj => absurd hj (by show ¬ j < 0; omega), hI, hF, hG⟩ rfl rfl rfl ?_
  rintro ⟨x1_202, M_202, L_202⟩ ⟨j202_0, j202_1, j202_2, hI, hF, hG⟩ ih_202
  dsimp only at j202_0 j202_1 j202_2 hI hF hG ih_202 ⊢
  have p295 : L_202 295 = L_202 295 := rfl
  have p296 : L_202 296 = L_202 296 := rfl
  have n1 := ixn (x := x1_202) (by as_aux_lemma => omega)
  refine g_iload_n C 0 dX11_layWays_202 rfl ?_
  refine g_aload_n C 1 dX11_layWays_203 rfl ?_
  refine g_get C (.int (M_202 258 2)) 2 in_X11_layWays_11 (List.mem_of_getElem? (i := 1) rfl) (by decide) (ce_model ad cs _ _) rfl (by decide) rfl rfl dX11_layWays_204 ?_
  refine g_ni (fun v2079 ev2079 => ?_)
  have gv2079 : v2079 = M 258 2 := ev2079.trans (hF 258 2 trivial)
  have tv2079 := congrArg Int32.toInt gv2079
  obtain ⟨bv2079, dv2079⟩ := (show rg 0 10 v2079 from (by rw [ev2079]; exact hI 258 2))
  refine g_icmp_ge C 350 dX11_layWays_207 (by decide) (fun c2080 => ?_) (fun c2080 => ?_)
  ·
    have f2081 := fle rfl rfl c2080
    exact g_vret C hr ⟨(by have e9 : x1_202.toNatClampNeg = (M 258 2).toNatClampNeg := (by as_aux_lemma => omega); rw [e9] at j202_2; exact j202_2), hI, hF, hG⟩ dX11_layWays_350
  ·
    have f2082 := fnle rfl rfl c2080
    refine g_iconst C 0 dX11_layWays_210 (by decide) ?_
    refine g_istore_n C [(2, .int 0), (1, .int x1_202), (0, .ref (ad 258))] dX11_layWays_211 (by decide) rfl ?_
    have zy2083 : (0 : Int32).toInt = 0 := by decide
    refine g_loop (α := Int32 × MI × ML) (fun a => (11 - a.1.toInt).toNat) (fun a => (0 ≤ a.1.toInt) ∧ (a.1.toInt ≤ (M 258 2).toInt) ∧ (FW (wv (L_202 296)) (wv (a.2.2 296)) (M 258 2).toNatClampNeg x1_202.toNatClampNeg (fun u9 v9 => u9 < a.1.toNatClampNeg)) ∧ IR a.2.1 ∧ (∀ k i, True → a.2.1 k i = M k i) ∧ (∀ k i, k ≠ 295 ∧ k ≠ 296 → a.2.2 k i = L k i)) (fun a => a.2.1) (fun a => a.2.2) (fun a => [(2, .int a.1), (1, .int x1_202), (0, .ref (ad 258))]) ((0 : Int32), M_202, L_202) ⟨by show 0 ≤ (0 : Int32).toInt; omega, by show (0 : Int32).toInt ≤ (M 258 2).toInt; omega, by show FW (wv (L_202 296)) (wv (L_202 296)) (M 258 2).toNatClampNeg x1_202.toNatClampNeg (fun u9 v9 => u9 < (0 : Int32).toNatClampNeg); exact FW_0 (fun a b ha hb => by show ¬ a < 0; omega), hI, hF, hG⟩ rfl rfl rfl ?_
    rintro ⟨x2_212, M_212, L_212⟩ ⟨j212_0, j212_1, j212_2, hI, hF, hG⟩ ih_212
    dsimp only at j212_0 j212_1 j212_2 hI hF hG ih_212 ⊢
    have p295 : L_212 295 = L_212 295 := rfl
    have p296 : L_212 296 = L_212 296 := rfl
    have n2 := ixn (x := x2_212) (by as_aux_lemma => omega)
    refine g_iload_n C 0 dX11_layWays_212 rfl ?_
    refine g_aload_n C 2 dX11_layWays_213 rfl ?_
    refine g_get C (.int (M_212 258 2)) 2 in_X11_layWays_11 (List.mem_of_getElem? (i := 1) rfl) (by decide) (ce_model ad cs _ _) rfl (by decide) rfl rfl dX11_layWays_214 ?_
    refine g_ni (fun v2084 ev2084 => ?_)
    have gv2084 : v2084 = M 258 2 := ev2084.trans (hF 258 2 trivial)
    have tv2084 := congrArg Int32.toInt gv2084
    obtain ⟨bv2084, dv2084⟩ := (show rg 0 10 v2084 from (by rw [ev2084]; exact hI 258 2))
    refine g_icmp_ge C 344 dX11_layWays_217 (by decide) (fun c2085 => ?_) (fun c2085 => ?_)
    ·
      have f2086 := fle rfl rfl c2085
      obtain ⟨v2087, ev2087⟩ : ∃ y : Int32, y = x1_202 + 1 := ⟨_, rfl⟩
      try have fv2087 := fadd rfl (by decide : (1 : Int32).toInt = 1) ev2087 (by as_aux_lemma => omega) (by as_aux_lemma => omega)
      refine g_iinc C 1 v2087 [(1, .int v2087), (2, .int x2_212), (0, .ref (ad 258))] dX11_layWays_344 rfl (by rw [ev2087]; rfl) (by decide) rfl ?_
      refine g_goto C 202 dX11_layWays_347 (by decide) ?_
      refine g_lv [0, 2] [(1, .int v2087), (0, .ref (ad 258))] rfl ?_
      exact ih_202 (v2087, M_212, L_212) ⟨by show 0 ≤ v2087.toInt; omega, by show v2087.toInt ≤ (M 258 2).toInt; omega, by show CL (M 258 2).toNatClampNeg v2087.toNatClampNeg (wv (L_212 296)); rw [show v2087.toNatClampNeg = x1_202.toNatClampNeg + 1 by (have := ixn (x := v2087) (by as_aux_lemma => omega); omega)]; exact CL_step j202_2 (by as_aux_lemma => omega) (FW_congr j212_2 (fun a b ha hb => ⟨fun _ => (by show a < x2_212.toNatClampNeg; omega), fun _ => trivial⟩)), hI, hF, hG⟩ (by show (11 - v2087.toInt).toNat < (11 - x1_202.toInt).toNat; omega)
    ·
      have f2088 := fnle rfl rfl c2085
      refine g_iconst C 0 dX11_layWays_220 (by decide) ?_
      refine g_istore_n C [(3, .int 0), (2, .int x2_212), (1, .int x1_202), (0, .ref (ad 258))] dX11_layWays_221 (by decide) rfl ?_
      have zy2089 : (0 : Int32).toInt = 0 := by decide
      refine g_loop (α := Int32 × MI × ML) (fun a => (11 - a.1.toInt).toNat) (fun a => (0 ≤ a.1.toInt) ∧ (a.1.toInt ≤ (M 258 2).toInt) ∧ (FW (wv (L_202 296)) (wv (a.2.2 296)) (M 258 2).toNatClampNeg x1_202.toNatClampNeg (fun u9 v9 => u9 < x2_212.toNatClampNeg ∨ (u9 = x2_212.toNatClampNeg ∧ v9 < a.1.toNatClampNeg))) ∧ IR a.2.1 ∧ (∀ k i, True → a.2.1 k i = M k i) ∧ (∀ k i, k ≠ 295 ∧ k ≠ 296 → a.2.2 k i = L k i)) (fun a => a.2.1) (fun a => a.2.2) (fun a => [(3, .int a.1), (2, .int x2_212), (1, .int x1_202), (0, .ref (ad 258))]) ((0 : Int32), M_212, L_212) ⟨by show 0 ≤ (0 : Int32).toInt; omega, by show (0 : Int32).toInt ≤ (M 258 2).toInt; omega, by show FW (wv (L_202 296)) (wv (L_212 296)) (M 258 2).toNatClampNeg x1_202.toNatClampNeg (fun u9 v9 => u9 < x2_212.toNatClampNeg ∨ (u9 = x2_212.toNatClampNeg ∧ v9 < (0 : Int32).toNatClampNeg)); exact FW_congr j212_2 (fun a b ha hb => by show (a < x2_212.toNatClampNeg ∨ (a = x2_212.toNatClampNeg ∧ b < 0)) ↔ a < x2_212.toNatClampNeg; omega), hI, hF, hG⟩ rfl rfl rfl ?_
      rintro ⟨x3_222, M_222, L_222⟩ ⟨j222_0, j222_1, j222_2, hI, hF, hG⟩ ih_222
      dsimp only at j222_0 j222_1 j222_2 hI hF hG ih_222 ⊢
      have p295 : L_222 295 = L_222 295 := rfl
      have p296 : L_222 296 = L_222 296 := rfl
      have n3 := ixn (x := x3_222) (by as_aux_lemma => omega)
      refine g_iload_n C 0 dX11_layWays_222 rfl ?_
      refine g_aload_n C 3 dX11_layWays_223 rfl ?_
      refine g_get C (.int (M_222 258 2)) 2 in_X11_layWays_11 (List.mem_of_getElem? (i := 1) rfl) (by decide) (ce_model ad cs _ _) rfl (by decide) rfl rfl dX11_layWays_224 ?_
      refine g_ni (fun v2090 ev2090 => ?_)
      have gv2090 : v2090 = M 258 2 := ev2090.trans (hF 258 2 trivial)
      have tv2090 := congrArg Int32.toInt gv2090
      obtain ⟨bv2090, dv2090⟩ := (show rg 0 10 v2090 from (by rw [ev2090]; exact hI 258 2))
      refine g_icmp_ge C 338 dX11_layWays_227 (by decide) (fun c2091 => ?_) (fun c2091 => ?_)
      ·
        have f2092 := fle rfl rfl c2091
        obtain ⟨v2093, ev2093⟩ : ∃ y : Int32, y = x2_212 + 1 := ⟨_, rfl⟩
        try have fv2093 := fadd rfl (by decide : (1 : Int32).toInt = 1) ev2093 (by as_aux_lemma => omega) (by as_aux_lemma => omega)
        refine g_iinc C 1 v2093 [(2, .int v2093), (3, .int x3_222), (1, .int x1_202), (0, .ref (ad 258))] dX11_layWays_338 rfl (by rw [ev2093]; rfl) (by decide) rfl ?_
        refine g_goto C 212 dX11_layWays_341 (by decide) ?_
        refine g_lv [0, 2, 3] [(2, .int v2093), (1, .int x1_202), (0, .ref (ad 258))] rfl ?_
        exact ih_212 (v2093, M_222, L_222) ⟨by show 0 ≤ v2093.toInt; omega, by show v2093.toInt ≤ (M 258 2).toInt; omega, by show FW (wv (L_202 296)) (wv (L_222 296)) (M 258 2).toNatClampNeg x1_202.toNatClampNeg (fun u9 v9 => u9 < v2093.toNatClampNeg); exact FW_congr j222_2 (fun a b ha hb => by show a < v2093.toNatClampNeg ↔ (a < x2_212.toNatClampNeg ∨ (a = x2_212.toNatClampNeg ∧ b < x3_222.toNatClampNeg)); have := ixn (x := v2093) (by as_aux_lemma => omega); omega), hI, hF, hG⟩ (by show (11 - v2093.toInt).toNat < (11 - x2_212.toInt).toNat; omega)
      ·
        have f2094 := fnle rfl rfl c2091
        refine g_aload_n C 3 dX11_layWays_230 rfl ?_
        refine g_get C (.ref (ad 296)) 52 in_X11_layWays_11 (List.mem_of_getElem? (i := 6) rfl) (by decide) (ce_model ad cs _ _) rfl (by decide) rfl rfl dX11_layWays_231 ?_
        refine g_bipush C 10 dX11_layWays_234 (by decide) ?_
        refine g_iload_n C 1 dX11_layWays_236 rfl ?_
        refine g_imul C dX11_layWays_237 ?_
        refine g_ni (fun v2095 ev2095 => ?_)
        try have fv2095 := fmul (by decide : (10 : Int32).toInt = 10) rfl ev2095 (by as_aux_lemma => omega) (by as_aux_lemma => omega)
        refine g_iload_n C 2 dX11_layWays_238 rfl ?_
        refine g_iadd C dX11_layWays_239 ?_
        refine g_ni (fun v2096 ev2096 => ?_)
        try have fv2096 := fadd rfl rfl ev2096 (by as_aux_lemma => omega) (by as_aux_lemma => omega)
        have nx2_212 := ixn (x := x2_212) (by as_aux_lemma => omega)
        have nx1_202 := ixn (x := x1_202) (by as_aux_lemma => omega)
        have nv2096 := ixn (x := v2096) (by as_aux_lemma => omega)
        have iv2096 : v2096.toNatClampNeg = 10 * x2_212.toNatClampNeg + x1_202.toNatClampNeg := by as_aux_lemma => omega
        refine g_lald C (by decide) (ce_m_way ad cs _ _) (fin' (n := 100) rfl (by as_aux_lemma => omega) (by as_aux_lemma => omega)) dX11_layWays_240 ?_
        refine g_nl (fun v2097 ev2097 => ?_)
        have gv2097 : v2097 = L_222 296 v2096.toNatClampNeg := ev2097.trans (congrFun p296 _)
        have gv2097 := cg1L (f := L_222 296) gv2097 iv2096
        have tv2097 := congrArg Int64.toInt gv2097
        refine g_aload_n C 3 dX11_layWays_241 rfl ?_
        refine g_get C (.ref (ad 296)) 52 in_X11_layWays_11 (List.mem_of_getElem? (i := 6) rfl) (by decide) (ce_model ad cs _ _) rfl (by decide) rfl rfl dX11_layWays_242 ?_
        refine g_bipush C 10 dX11_layWays_245 (by decide) ?_
        refine g_iload_n C 2 dX11_layWays_247 rfl ?_
        refine g_imul C dX11_layWays_248 ?_
        refine g_ni (fun v2098 ev2098 => ?_)
        try have fv2098 := fmul (by decide : (10 : Int32).toInt = 10) rfl ev2098 (by as_aux_lemma => omega) (by as_aux_lemma => omega)
        refine g_iload_n C 0 dX11_layWays_249 rfl ?_
        refine g_iadd C dX11_layWays_250 ?_
        refine g_ni (fun v2099 ev2099 => ?_)
        try have fv2099 := fadd rfl rfl ev2099 (by as_aux_lemma => omega) (by as_aux_lemma => omega)
        have nx1_202 := ixn (x := x1_202) (by as_aux_lemma => omega)
        have nx3_222 := ixn (x := x3_222) (by as_aux_lemma => omega)
        have nv2099 := ixn (x := v2099) (by as_aux_lemma => omega)
        have iv2099 : v2099.toNatClampNeg = 10 * x1_202.toNatClampNeg + x3_222.toNatClampNeg := by as_aux_lemma => omega
        refine g_lald C (by decide) (ce_m_way ad cs _ _) (fin' (n := 100) rfl (by as_aux_lemma => omega) (by as_aux_lemma => omega)) dX11_layWays_251 ?_
        refine g_nl (fun v2100 ev2100 => ?_)
        have gv2100 : v2100 = L_222 296 v2099.toNatClampNeg := ev2100.trans (congrFun p296 _)
        have gv2100 := cg1L (f := L_222 296) gv2100 iv2099
        have tv2100 := congrArg Int64.toInt gv2100
        refine g_lcmp C dX11_layWays_252 ?_
        refine g_ni (fun v2101 ev2101 => ?_)
        refine g_if_ge C 270 dX11_layWays_253 (by decide) (fun c2102 => ?_) (fun c2102 => ?_)
        ·
          have f2103 := cge rfl rfl ev2101 c2102
          refine g_aload_n C 3 dX11_layWays_270 rfl ?_
          refine g_get C (.ref (ad 296)) 52 in_X11_layWays_11 (List.mem_of_getElem? (i := 6) rfl) (by decide) (ce_model ad cs _ _) rfl (by decide) rfl rfl dX11_layWays_271 ?_
          refine g_bipush C 10 dX11_layWays_274 (by decide) ?_
          refine g_iload_n C 2 dX11_layWays_276 rfl ?_
          refine g_imul C dX11_layWays_277 ?_
          refine g_ni (fun v2104 ev2104 => ?_)
          try have fv2104 := fmul (by decide : (10 : Int32).toInt = 10) rfl ev2104 (by as_aux_lemma => omega) (by as_aux_lemma => omega)
          refine g_iload_n C 0 dX11_layWays_278 rfl ?_
          refine g_iadd C dX11_layWays_279 ?_
          refine g_ni (fun v2105 ev2105 => ?_)
          try have fv2105 := fadd rfl rfl ev2105 (by as_aux_lemma => omega) (by as_aux_lemma => omega)
          have nx1_202 := ixn (x := x1_202) (by as_aux_lemma => omega)
          have nx3_222 := ixn (x := x3_222) (by as_aux_lemma => omega)
          have nv2105 := ixn (x := v2105) (by as_aux_lemma => omega)
          have iv2105 : v2105.toNatClampNeg = 10 * x1_202.toNatClampNeg + x3_222.toNatClampNeg := by as_aux_lemma => omega
          refine g_lald C (by decide) (ce_m_way ad cs _ _) (fin' (n := 100) rfl (by as_aux_lemma => omega) (by as_aux_lemma => omega)) dX11_layWays_280 ?_
          refine g_nl (fun v2106 ev2106 => ?_)
          have gv2106 : v2106 = L_222 296 v2105.toNatClampNeg := ev2106.trans (congrFun p296 _)
          have gv2106 := cg1L (f := L_222 296) gv2106 iv2105
          have tv2106 := congrArg Int64.toInt gv2106
          refine g_lstore C [(4, .long v2106), (3, .int x3_222), (2, .int x2_212), (1, .int x1_202), (0, .ref (ad 258))] dX11_layWays_281 (by decide) rfl ?_
          refine g_aload_n C 4 dX11_layWays_283 rfl ?_
          refine g_get C (.ref (ad 296)) 52 in_X11_layWays_11 (List.mem_of_getElem? (i := 6) rfl) (by decide) (ce_model ad cs _ _) rfl (by decide) rfl rfl dX11_layWays_284 ?_
          refine g_bipush C 10 dX11_layWays_287 (by decide) ?_
          refine g_iload_n C 2 dX11_layWays_289 rfl ?_
          refine g_imul C dX11_layWays_290 ?_
          refine g_ni (fun v2107 ev2107 => ?_)
          try have fv2107 := fmul (by decide : (10 : Int32).toInt = 10) rfl ev2107 (by as_aux_lemma => omega) (by as_aux_lemma => omega)
          refine g_iload_n C 1 dX11_layWays_291 rfl ?_
          refine g_iadd C dX11_layWays_292 ?_
          refine g_ni (fun v2108 ev2108 => ?_)
          try have fv2108 := fadd rfl rfl ev2108 (by as_aux_lemma => omega) (by as_aux_lemma => omega)
          refine g_iload_n C 2 dX11_layWays_293 rfl ?_
          refine g_iload_n C 1 dX11_layWays_294 rfl ?_
          refine g_icmp_eq C 320 dX11_layWays_295 (by decide) (fun c2109 => ?_) (fun c2109 => ?_)
          ·
            have f2110 := feq rfl rfl c2109
            refine g_aload_n C 4 dX11_layWays_320 rfl ?_
            refine g_get C (.ref (ad 296)) 52 in_X11_layWays_11 (List.mem_of_getElem? (i := 6) rfl) (by decide) (ce_model ad cs _ _) rfl (by decide) rfl rfl dX11_layWays_321 ?_
            refine g_bipush C 10 dX11_layWays_324 (by decide) ?_
            refine g_iload_n C 2 dX11_layWays_326 rfl ?_
            refine g_imul C dX11_layWays_327 ?_
            refine g_ni (fun v2111 ev2111 => ?_)
            try have fv2111 := fmul (by decide : (10 : Int32).toInt = 10) rfl ev2111 (by as_aux_lemma => omega) (by as_aux_lemma => omega)
            refine g_iload_n C 1 dX11_layWays_328 rfl ?_
            refine g_iadd C dX11_layWays_329 ?_
            refine g_ni (fun v2112 ev2112 => ?_)
            try have fv2112 := fadd rfl rfl ev2112 (by as_aux_lemma => omega) (by as_aux_lemma => omega)
            have nx2_212 := ixn (x := x2_212) (by as_aux_lemma => omega)
            have nx3_222 := ixn (x := x3_222) (by as_aux_lemma => omega)
            have nv2112 := ixn (x := v2112) (by as_aux_lemma => omega)
            have iv2112 : v2112.toNatClampNeg = 10 * x2_212.toNatClampNeg + x3_222.toNatClampNeg := by as_aux_lemma => omega
            refine g_lald C (by decide) (ce_m_way ad cs _ _) (fin' (n := 100) rfl (by as_aux_lemma => omega) (by as_aux_lemma => omega)) dX11_layWays_330 ?_
            refine g_nl (fun v2113 ev2113 => ?_)
            have gv2113 : v2113 = L_222 296 v2112.toNatClampNeg := ev2113.trans (congrFun p296 _)
            have gv2113 := cg1L (f := L_222 296) gv2113 iv2112
            have tv2113 := congrArg Int64.toInt gv2113
            have nx2_212 := ixn (x := x2_212) (by as_aux_lemma => omega)
            have nx3_222 := ixn (x := x3_222) (by as_aux_lemma => omega)
            have nv2108 := ixn (x := v2108) (by as_aux_lemma => omega)
            have iv2108 : v2108.toNatClampNeg = 10 * x2_212.toNatClampNeg + x3_222.toNatClampNeg := by as_aux_lemma => omega
            refine g_last C (by decide) (ce_m_way ad cs _ _) (by rw [sJ_k]; rfl) (fin' (n := 100) rfl (by as_aux_lemma => omega) (by as_aux_lemma => omega)) dX11_layWays_331 ?_
            refine g_nmL (fun L2114 hL2114 => ?_)
            have hG : ∀ k i, k ≠ 295 ∧ k ≠ 296 → L2114 k i = L k i := fun k i hk => by (rw [hL2114, sJ_at, if_neg (by as_aux_lemma => omega)]; try exact hG k i hk)
            have p295 : L2114 295 = L_222 295 := by rw [hL2114, sJ_n _ _ _ (by decide)]; try exact p295
            obtain ⟨v2115, ev2115⟩ : ∃ y : Int32, y = x3_222 + 1 := ⟨_, rfl⟩
            try have fv2115 := fadd rfl (by decide : (1 : Int32).toInt = 1) ev2115 (by as_aux_lemma => omega) (by as_aux_lemma => omega)
            refine g_iinc C 1 v2115 [(3, .int v2115), (4, .long v2106), (2, .int x2_212), (1, .int x1_202), (0, .ref (ad 258))] dX11_layWays_332 rfl (by rw [ev2115]; rfl) (by decide) rfl ?_
            refine g_goto C 222 dX11_layWays_335 (by decide) ?_
            refine g_lv [0, 2, 3, 4] [(3, .int v2115), (2, .int x2_212), (1, .int x1_202), (0, .ref (ad 258))] rfl ?_
            have nv := ixn (x := v2115) (by as_aux_lemma => omega)
            have iv : v2115.toNatClampNeg = x3_222.toNatClampNeg + 1 := by as_aux_lemma => omega
            have hL9 : L2114 296 = fun c => if c = 10 * x2_212.toNatClampNeg + x3_222.toNatClampNeg then v2113 else L_222 296 c := by
              funext c
              rw [hL2114, sJ_at, iv2108]
              by_cases e9 : c = 10 * x2_212.toNatClampNeg + x3_222.toNatClampNeg
              · rw [if_pos ⟨rfl, e9⟩, if_pos e9]
              · rw [if_neg (fun h => e9 h.2), if_neg e9]
            have hstep : FW (wv (L_202 296)) (wv (L2114 296)) (M 258 2).toNatClampNeg x1_202.toNatClampNeg (fun a b => a < x2_212.toNatClampNeg ∨ (a = x2_212.toNatClampNeg ∧ b < v2115.toNatClampNeg)) := by
              refine FW_step (x := x2_212.toNatClampNeg) (y := x3_222.toNatClampNeg) j222_2 (by as_aux_lemma => omega) (by as_aux_lemma => omega) (by as_aux_lemma => omega) (fun a b ha hb => by show (a < x2_212.toNatClampNeg ∨ (a = x2_212.toNatClampNeg ∧ b < v2115.toNatClampNeg)) ↔ ((a < x2_212.toNatClampNeg ∨ (a = x2_212.toNatClampNeg ∧ b < x3_222.toNatClampNeg)) ∨ (a = x2_212.toNatClampNeg ∧ b = x3_222.toNatClampNeg)); omega) (fun a b ha hb hab => ?_) (fun t => ?_)
              · show (L2114 296 (10 * a + b)).toInt = (L_222 296 (10 * a + b)).toInt
                rw [hL9]
                show (if 10 * a + b = 10 * x2_212.toNatClampNeg + x3_222.toNatClampNeg then v2113 else L_222 296 (10 * a + b)).toInt = _
                rw [if_neg (idx_ne (by as_aux_lemma => omega) (by as_aux_lemma => omega) hab)]
              · have e9 : wv (L2114 296) x2_212.toNatClampNeg x3_222.toNatClampNeg = v2113.toInt := by show (L2114 296 (10 * x2_212.toNatClampNeg + x3_222.toNatClampNeg)).toInt = _; rw [hL9]; show (if _ then v2113 else _).toInt = _; rw [if_pos rfl]
                rw [e9]
                unfold wv
                first | exact fv1 (by as_aux_lemma => omega) (by as_aux_lemma => omega) t | exact fv2 (b := v2106.toInt) (by as_aux_lemma => omega) (by as_aux_lemma => omega) (by as_aux_lemma => omega) (by as_aux_lemma => omega) t | exact fv3 (b := v2106.toInt) (by as_aux_lemma => omega) (by as_aux_lemma => omega) (by as_aux_lemma => omega) t
            exact ih_222 (v2115, M_222, L2114) ⟨by show 0 ≤ v2115.toInt; omega, by show v2115.toInt ≤ (M 258 2).toInt; omega, by show FW (wv (L_202 296)) (wv (L2114 296)) (M 258 2).toNatClampNeg x1_202.toNatClampNeg (fun u9 v9 => u9 < x2_212.toNatClampNeg ∨ (u9 = x2_212.toNatClampNeg ∧ v9 < v2115.toNatClampNeg)); exact hstep, hI, hF, hG⟩ (by show (11 - v2115.toInt).toNat < (11 - x3_222.toInt).toNat; omega)
          ·
            have f2116 := fne rfl rfl c2109
            refine g_lload C 0 dX11_layWays_298 rfl ?_
            refine g_aload_n C 4 dX11_layWays_300 rfl ?_
            refine g_get C (.ref (ad 296)) 52 in_X11_layWays_11 (List.mem_of_getElem? (i := 6) rfl) (by decide) (ce_model ad cs _ _) rfl (by decide) rfl rfl dX11_layWays_301 ?_
            refine g_bipush C 10 dX11_layWays_304 (by decide) ?_
            refine g_iload_n C 2 dX11_layWays_306 rfl ?_
            refine g_imul C dX11_layWays_307 ?_
            refine g_ni (fun v2117 ev2117 => ?_)
            try have fv2117 := fmul (by decide : (10 : Int32).toInt = 10) rfl ev2117 (by as_aux_lemma => omega) (by as_aux_lemma => omega)
            refine g_iload_n C 1 dX11_layWays_308 rfl ?_
            refine g_iadd C dX11_layWays_309 ?_
            refine g_ni (fun v2118 ev2118 => ?_)
            try have fv2118 := fadd rfl rfl ev2118 (by as_aux_lemma => omega) (by as_aux_lemma => omega)
            have nx2_212 := ixn (x := x2_212) (by as_aux_lemma => omega)
            have nx3_222 := ixn (x := x3_222) (by as_aux_lemma => omega)
            have nv2118 := ixn (x := v2118) (by as_aux_lemma => omega)
            have iv2118 : v2118.toNatClampNeg = 10 * x2_212.toNatClampNeg + x3_222.toNatClampNeg := by as_aux_lemma => omega
            refine g_lald C (by decide) (ce_m_way ad cs _ _) (fin' (n := 100) rfl (by as_aux_lemma => omega) (by as_aux_lemma => omega)) dX11_layWays_310 ?_
            refine g_nl (fun v2119 ev2119 => ?_)
            have gv2119 : v2119 = L_222 296 v2118.toNatClampNeg := ev2119.trans (congrFun p296 _)
            have gv2119 := cg1L (f := L_222 296) gv2119 iv2118
            have tv2119 := congrArg Int64.toInt gv2119
            refine g_lcmp C dX11_layWays_311 ?_
            refine g_ni (fun v2120 ev2120 => ?_)
            refine g_if_le C 320 dX11_layWays_312 (by decide) (fun c2121 => ?_) (fun c2121 => ?_)
            ·
              have f2122 := cle rfl rfl ev2120 c2121
              refine g_aload_n C 4 dX11_layWays_320 rfl ?_
              refine g_get C (.ref (ad 296)) 52 in_X11_layWays_11 (List.mem_of_getElem? (i := 6) rfl) (by decide) (ce_model ad cs _ _) rfl (by decide) rfl rfl dX11_layWays_321 ?_
              refine g_bipush C 10 dX11_layWays_324 (by decide) ?_
              refine g_iload_n C 2 dX11_layWays_326 rfl ?_
              refine g_imul C dX11_layWays_327 ?_
              refine g_ni (fun v2123 ev2123 => ?_)
              try have fv2123 := fmul (by decide : (10 : Int32).toInt = 10) rfl ev2123 (by as_aux_lemma => omega) (by as_aux_lemma => omega)
              refine g_iload_n C 1 dX11_layWays_328 rfl ?_
              refine g_iadd C dX11_layWays_329 ?_
              refine g_ni (fun v2124 ev2124 => ?_)
              try have fv2124 := fadd rfl rfl ev2124 (by as_aux_lemma => omega) (by as_aux_lemma => omega)
              have nx2_212 := ixn (x := x2_212) (by as_aux_lemma => omega)
              have nx3_222 := ixn (x := x3_222) (by as_aux_lemma => omega)
              have nv2124 := ixn (x := v2124) (by as_aux_lemma => omega)
              have iv2124 : v2124.toNatClampNeg = 10 * x2_212.toNatClampNeg + x3_222.toNatClampNeg := by as_aux_lemma => omega
              refine g_lald C (by decide) (ce_m_way ad cs _ _) (fin' (n := 100) rfl (by as_aux_lemma => omega) (by as_aux_lemma => omega)) dX11_layWays_330 ?_
              refine g_nl (fun v2125 ev2125 => ?_)
              have gv2125 : v2125 = L_222 296 v2124.toNatClampNeg := ev2125.trans (congrFun p296 _)
              have gv2125 := cg1L (f := L_222 296) gv2125 iv2124
              have tv2125 := congrArg Int64.toInt gv2125
              have nx2_212 := ixn (x := x2_212) (by as_aux_lemma => omega)
              have nx3_222 := ixn (x := x3_222) (by as_aux_lemma => omega)
              have nv2108 := ixn (x := v2108) (by as_aux_lemma => omega)
              have iv2108 : v2108.toNatClampNeg = 10 * x2_212.toNatClampNeg + x3_222.toNatClampNeg := by as_aux_lemma => omega
              refine g_last C (by decide) (ce_m_way ad cs _ _) (by rw [sJ_k]; rfl) (fin' (n := 100) rfl (by as_aux_lemma => omega) (by as_aux_lemma => omega)) dX11_layWays_331 ?_
              refine g_nmL (fun L2126 hL2126 => ?_)
              have hG : ∀ k i, k ≠ 295 ∧ k ≠ 296 → L2126 k i = L k i := fun k i hk => by (rw [hL2126, sJ_at, if_neg (by as_aux_lemma => omega)]; try exact hG k i hk)
              have p295 : L2126 295 = L_222 295 := by rw [hL2126, sJ_n _ _ _ (by decide)]; try exact p295
              obtain ⟨v2127, ev2127⟩ : ∃ y : Int32, y = x3_222 + 1 := ⟨_, rfl⟩
              try have fv2127 := fadd rfl (by decide : (1 : Int32).toInt = 1) ev2127 (by as_aux_lemma => omega) (by as_aux_lemma => omega)
              refine g_iinc C 1 v2127 [(3, .int v2127), (4, .long v2106), (2, .int x2_212), (1, .int x1_202), (0, .ref (ad 258))] dX11_layWays_332 rfl (by rw [ev2127]; rfl) (by decide) rfl ?_
              refine g_goto C 222 dX11_layWays_335 (by decide) ?_
              refine g_lv [0, 2, 3, 4] [(3, .int v2127), (2, .int x2_212), (1, .int x1_202), (0, .ref (ad 258))] rfl ?_
              have nv := ixn (x := v2127) (by as_aux_lemma => omega)
              have iv : v2127.toNatClampNeg = x3_222.toNatClampNeg + 1 := by as_aux_lemma => omega
              have hL9 : L2126 296 = fun c => if c = 10 * x2_212.toNatClampNeg + x3_222.toNatClampNeg then v2125 else L_222 296 c := by
                funext c
                rw [hL2126, sJ_at, iv2108]
                by_cases e9 : c = 10 * x2_212.toNatClampNeg + x3_222.toNatClampNeg
                · rw [if_pos ⟨rfl, e9⟩, if_pos e9]
                · rw [if_neg (fun h => e9 h.2), if_neg e9]
              have hstep : FW (wv (L_202 296)) (wv (L2126 296)) (M 258 2).toNatClampNeg x1_202.toNatClampNeg (fun a b => a < x2_212.toNatClampNeg ∨ (a = x2_212.toNatClampNeg ∧ b < v2127.toNatClampNeg)) := by
                refine FW_step (x := x2_212.toNatClampNeg) (y := x3_222.toNatClampNeg) j222_2 (by as_aux_lemma => omega) (by as_aux_lemma => omega) (by as_aux_lemma => omega) (fun a b ha hb => by show (a < x2_212.toNatClampNeg ∨ (a = x2_212.toNatClampNeg ∧ b < v2127.toNatClampNeg)) ↔ ((a < x2_212.toNatClampNeg ∨ (a = x2_212.toNatClampNeg ∧ b < x3_222.toNatClampNeg)) ∨ (a = x2_212.toNatClampNeg ∧ b = x3_222.toNatClampNeg)); omega) (fun a b ha hb hab => ?_) (fun t => ?_)
                · show (L2126 296 (10 * a + b)).toInt = (L_222 296 (10 * a + b)).toInt
                  rw [hL9]
                  show (if 10 * a + b = 10 * x2_212.toNatClampNeg + x3_222.toNatClampNeg then v2125 else L_222 296 (10 * a + b)).toInt = _
                  rw [if_neg (idx_ne (by as_aux_lemma => omega) (by as_aux_lemma => omega) hab)]
                · have e9 : wv (L2126 296) x2_212.toNatClampNeg x3_222.toNatClampNeg = v2125.toInt := by show (L2126 296 (10 * x2_212.toNatClampNeg + x3_222.toNatClampNeg)).toInt = _; rw [hL9]; show (if _ then v2125 else _).toInt = _; rw [if_pos rfl]
                  rw [e9]
                  unfold wv
                  first | exact fv1 (by as_aux_lemma => omega) (by as_aux_lemma => omega) t | exact fv2 (b := v2106.toInt) (by as_aux_lemma => omega) (by as_aux_lemma => omega) (by as_aux_lemma => omega) (by as_aux_lemma => omega) t | exact fv3 (b := v2106.toInt) (by as_aux_lemma => omega) (by as_aux_lemma => omega) (by as_aux_lemma => omega) t
              exact ih_222 (v2127, M_222, L2126) ⟨by show 0 ≤ v2127.toInt; omega, by show v2127.toInt ≤ (M 258 2).toInt; omega, by show FW (wv (L_202 296)) (wv (L2126 296)) (M 258 2).toNatClampNeg x1_202.toNatClampNeg (fun u9 v9 => u9 < x2_212.toNatClampNeg ∨ (u9 = x2_212.toNatClampNeg ∧ v9 < v2127.toNatClampNeg)); exact hstep, hI, hF, hG⟩ (by show (11 - v2127.toInt).toNat < (11 - x3_222.toInt).toNat; omega)
            ·
              have f2128 := cnle rfl rfl ev2120 c2121
              refine g_lload C 0 dX11_layWays_315 rfl ?_
              refine g_goto C 331 dX11_layWays_317 (by decide) ?_
              have nx2_212 := ixn (x := x2_212) (by as_aux_lemma => omega)
              have nx3_222 := ixn (x := x3_222) (by as_aux_lemma => omega)
              have nv2108 := ixn (x := v2108) (by as_aux_lemma => omega)
              have iv2108 : v2108.toNatClampNeg = 10 * x2_212.toNatClampNeg + x3_222.toNatClampNeg := by as_aux_lemma => omega
              refine g_last C (by decide) (ce_m_way ad cs _ _) (by rw [sJ_k]; rfl) (fin' (n := 100) rfl (by as_aux_lemma => omega) (by as_aux_lemma => omega)) dX11_layWays_331 ?_
              refine g_nmL (fun L2129 hL2129 => ?_)
              have hG : ∀ k i, k ≠ 295 ∧ k ≠ 296 → L2129 k i = L k i := fun k i hk => by (rw [hL2129, sJ_at, if_neg (by as_aux_lemma => omega)]; try exact hG k i hk)
              have p295 : L2129 295 = L_222 295 := by rw [hL2129, sJ_n _ _ _ (by decide)]; try exact p295
              obtain ⟨v2130, ev2130⟩ : ∃ y : Int32, y = x3_222 + 1 := ⟨_, rfl⟩
              try have fv2130 := fadd rfl (by decide : (1 : Int32).toInt = 1) ev2130 (by as_aux_lemma => omega) (by as_aux_lemma => omega)
              refine g_iinc C 1 v2130 [(3, .int v2130), (4, .long v2106), (2, .int x2_212), (1, .int x1_202), (0, .ref (ad 258))] dX11_layWays_332 rfl (by rw [ev2130]; rfl) (by decide) rfl ?_
              refine g_goto C 222 dX11_layWays_335 (by decide) ?_
              refine g_lv [0, 2, 3, 4] [(3, .int v2130), (2, .int x2_212), (1, .int x1_202), (0, .ref (ad 258))] rfl ?_
              have nv := ixn (x := v2130) (by as_aux_lemma => omega)
              have iv : v2130.toNatClampNeg = x3_222.toNatClampNeg + 1 := by as_aux_lemma => omega
              have hL9 : L2129 296 = fun c => if c = 10 * x2_212.toNatClampNeg + x3_222.toNatClampNeg then v2106 else L_222 296 c := by
                funext c
                rw [hL2129, sJ_at, iv2108]
                by_cases e9 : c = 10 * x2_212.toNatClampNeg + x3_222.toNatClampNeg
                · rw [if_pos ⟨rfl, e9⟩, if_pos e9]
                · rw [if_neg (fun h => e9 h.2), if_neg e9]
              have hstep : FW (wv (L_202 296)) (wv (L2129 296)) (M 258 2).toNatClampNeg x1_202.toNatClampNeg (fun a b => a < x2_212.toNatClampNeg ∨ (a = x2_212.toNatClampNeg ∧ b < v2130.toNatClampNeg)) := by
                refine FW_step (x := x2_212.toNatClampNeg) (y := x3_222.toNatClampNeg) j222_2 (by as_aux_lemma => omega) (by as_aux_lemma => omega) (by as_aux_lemma => omega) (fun a b ha hb => by show (a < x2_212.toNatClampNeg ∨ (a = x2_212.toNatClampNeg ∧ b < v2130.toNatClampNeg)) ↔ ((a < x2_212.toNatClampNeg ∨ (a = x2_212.toNatClampNeg ∧ b < x3_222.toNatClampNeg)) ∨ (a = x2_212.toNatClampNeg ∧ b = x3_222.toNatClampNeg)); omega) (fun a b ha hb hab => ?_) (fun t => ?_)
                · show (L2129 296 (10 * a + b)).toInt = (L_222 296 (10 * a + b)).toInt
                  rw [hL9]
                  show (if 10 * a + b = 10 * x2_212.toNatClampNeg + x3_222.toNatClampNeg then v2106 else L_222 296 (10 * a + b)).toInt = _
                  rw [if_neg (idx_ne (by as_aux_lemma => omega) (by as_aux_lemma => omega) hab)]
                · have e9 : wv (L2129 296) x2_212.toNatClampNeg x3_222.toNatClampNeg = v2106.toInt := by show (L2129 296 (10 * x2_212.toNatClampNeg + x3_222.toNatClampNeg)).toInt = _; rw [hL9]; show (if _ then v2106 else _).toInt = _; rw [if_pos rfl]
                  rw [e9]
                  unfold wv
                  first | exact fv1 (by as_aux_lemma => omega) (by as_aux_lemma => omega) t | exact fv2 (b := v2106.toInt) (by as_aux_lemma => omega) (by as_aux_lemma => omega) (by as_aux_lemma => omega) (by as_aux_lemma => omega) t | exact fv3 (b := v2106.toInt) (by as_aux_lemma => omega) (by as_aux_lemma => omega) (by as_aux_lemma => omega) t
              exact ih_222 (v2130, M_222, L2129) ⟨by show 0 ≤ v2130.toInt; omega, by show v2130.toInt ≤ (M 258 2).toInt; omega, by show FW (wv (L_202 296)) (wv (L2129 296)) (M 258 2).toNatClampNeg x1_202.toNatClampNeg (fun u9 v9 => u9 < x2_212.toNatClampNeg ∨ (u9 = x2_212.toNatClampNeg ∧ v9 < v2130.toNatClampNeg)); exact hstep, hI, hF, hG⟩ (by show (11 - v2130.toInt).toNat < (11 - x3_222.toInt).toNat; omega)
        ·
          have f2131 := cnge rfl rfl ev2101 c2102
          refine g_aload_n C 3 dX11_layWays_256 rfl ?_
          refine g_get C (.ref (ad 296)) 52 in_X11_layWays_11 (List.mem_of_getElem? (i := 6) rfl) (by decide) (ce_model ad cs _ _) rfl (by decide) rfl rfl dX11_layWays_257 ?_
          refine g_bipush C 10 dX11_layWays_260 (by decide) ?_
          refine g_iload_n C 1 dX11_layWays_262 rfl ?_
          refine g_imul C dX11_layWays_263 ?_
          refine g_ni (fun v2132 ev2132 => ?_)
          try have fv2132 := fmul (by decide : (10 : Int32).toInt = 10) rfl ev2132 (by as_aux_lemma => omega) (by as_aux_lemma => omega)
          refine g_iload_n C 2 dX11_layWays_264 rfl ?_
          refine g_iadd C dX11_layWays_265 ?_
          refine g_ni (fun v2133 ev2133 => ?_)
          try have fv2133 := fadd rfl rfl ev2133 (by as_aux_lemma => omega) (by as_aux_lemma => omega)
          have nx2_212 := ixn (x := x2_212) (by as_aux_lemma => omega)
          have nx1_202 := ixn (x := x1_202) (by as_aux_lemma => omega)
          have nv2133 := ixn (x := v2133) (by as_aux_lemma => omega)
          have iv2133 : v2133.toNatClampNeg = 10 * x2_212.toNatClampNeg + x1_202.toNatClampNeg := by as_aux_lemma => omega
          refine g_lald C (by decide) (ce_m_way ad cs _ _) (fin' (n := 100) rfl (by as_aux_lemma => omega) (by as_aux_lemma => omega)) dX11_layWays_266 ?_
          refine g_nl (fun v2134 ev2134 => ?_)
          have gv2134 : v2134 = L_222 296 v2133.toNatClampNeg := ev2134.trans (congrFun p296 _)
          have gv2134 := cg1L (f := L_222 296) gv2134 iv2133
          have tv2134 := congrArg Int64.toInt gv2134
          refine g_goto C 281 dX11_layWays_267 (by decide) ?_
          refine g_lstore C [(4, .long v2134), (3, .int x3_222), (2, .int x2_212), (1, .int x1_202), (0, .ref (ad 258))] dX11_layWays_281 (by decide) rfl ?_
          refine g_aload_n C 4 dX11_layWays_283 rfl ?_
          refine g_get C (.ref (ad 296)) 52 in_X11_layWays_11 (List.mem_of_getElem? (i := 6) rfl) (by decide) (ce_model ad cs _ _) rfl (by decide) rfl rfl dX11_layWays_284 ?_
          refine g_bipush C 10 dX11_layWays_287 (by decide) ?_
          refine g_iload_n C 2 dX11_layWays_289 rfl ?_
          refine g_imul C dX11_layWays_290 ?_
          refine g_ni (fun v2135 ev2135 => ?_)
          try have fv2135 := fmul (by decide : (10 : Int32).toInt = 10) rfl ev2135 (by as_aux_lemma => omega) (by as_aux_lemma => omega)
          refine g_iload_n C 1 dX11_layWays_291 rfl ?_
          refine g_iadd C dX11_layWays_292 ?_
          refine g_ni (fun v2136 ev2136 => ?_)
          try have fv2136 := fadd rfl rfl ev2136 (by as_aux_lemma => omega) (by as_aux_lemma => omega)
          refine g_iload_n C 2 dX11_layWays_293 rfl ?_
          refine g_iload_n C 1 dX11_layWays_294 rfl ?_
          refine g_icmp_eq C 320 dX11_layWays_295 (by decide) (fun c2137 => ?_) (fun c2137 => ?_)
          ·
            have f2138 := feq rfl rfl c2137
            refine g_aload_n C 4 dX11_layWays_320 rfl ?_
            refine g_get C (.ref (ad 296)) 52 in_X11_layWays_11 (List.mem_of_getElem? (i := 6) rfl) (by decide) (ce_model ad cs _ _) rfl (by decide) rfl rfl dX11_layWays_321 ?_
            refine g_bipush C 10 dX11_layWays_324 (by decide) ?_
            refine g_iload_n C 2 dX11_layWays_326 rfl ?_
            refine g_imul C dX11_layWays_327 ?_
            refine g_ni (fun v2139 ev2139 => ?_)
            try have fv2139 := fmul (by decide : (10 : Int32).toInt = 10) rfl ev2139 (by as_aux_lemma => omega) (by as_aux_lemma => omega)
            refine g_iload_n C 1 dX11_layWays_328 rfl ?_
            refine g_iadd C dX11_layWays_329 ?_
            refine g_ni (fun v2140 ev2140 => ?_)
            try have fv2140 := fadd rfl rfl ev2140 (by as_aux_lemma => omega) (by as_aux_lemma => omega)
            have nx2_212 := ixn (x := x2_212) (by as_aux_lemma => omega)
            have nx3_222 := ixn (x := x3_222) (by as_aux_lemma => omega)
            have nv2140 := ixn (x := v2140) (by as_aux_lemma => omega)
            have iv2140 : v2140.toNatClampNeg = 10 * x2_212.toNatClampNeg + x3_222.toNatClampNeg := by as_aux_lemma => omega
            refine g_lald C (by decide) (ce_m_way ad cs _ _) (fin' (n := 100) rfl (by as_aux_lemma => omega) (by as_aux_lemma => omega)) dX11_layWays_330 ?_
            refine g_nl (fun v2141 ev2141 => ?_)
            have gv2141 : v2141 = L_222 296 v2140.toNatClampNeg := ev2141.trans (congrFun p296 _)
            have gv2141 := cg1L (f := L_222 296) gv2141 iv2140
            have tv2141 := congrArg Int64.toInt gv2141
            have nx2_212 := ixn (x := x2_212) (by as_aux_lemma => omega)
            have nx3_222 := ixn (x := x3_222) (by as_aux_lemma => omega)
            have nv2136 := ixn (x := v2136) (by as_aux_lemma => omega)
            have iv2136 : v2136.toNatClampNeg = 10 * x2_212.toNatClampNeg + x3_222.toNatClampNeg := by as_aux_lemma => omega
            refine g_last C (by decide) (ce_m_way ad cs _ _) (by rw [sJ_k]; rfl) (fin' (n := 100) rfl (by as_aux_lemma => omega) (by as_aux_lemma => omega)) dX11_layWays_331 ?_
            refine g_nmL (fun L2142 hL2142 => ?_)
            have hG : ∀ k i, k ≠ 295 ∧ k ≠ 296 → L2142 k i = L k i := fun k i hk => by (rw [hL2142, sJ_at, if_neg (by as_aux_lemma => omega)]; try exact hG k i hk)
            have p295 : L2142 295 = L_222 295 := by rw [hL2142, sJ_n _ _ _ (by decide)]; try exact p295
            obtain ⟨v2143, ev2143⟩ : ∃ y : Int32, y = x3_222 + 1 := ⟨_, rfl⟩
            try have fv2143 := fadd rfl (by decide : (1 : Int32).toInt = 1) ev2143 (by as_aux_lemma => omega) (by as_aux_lemma => omega)
            refine g_iinc C 1 v2143 [(3, .int v2143), (4, .long v2134), (2, .int x2_212), (1, .int x1_202), (0, .ref (ad 258))] dX11_layWays_332 rfl (by rw [ev2143]; rfl) (by decide) rfl ?_
            refine g_goto C 222 dX11_layWays_335 (by decide) ?_
            refine g_lv [0, 2, 3, 4] [(3, .int v2143), (2, .int x2_212), (1, .int x1_202), (0, .ref (ad 258))] rfl ?_
            have nv := ixn (x := v2143) (by as_aux_lemma => omega)
            have iv : v2143.toNatClampNeg = x3_222.toNatClampNeg + 1 := by as_aux_lemma => omega
            have hL9 : L2142 296 = fun c => if c = 10 * x2_212.toNatClampNeg + x3_222.toNatClampNeg then v2141 else L_222 296 c := by
              funext c
              rw [hL2142, sJ_at, iv2136]
              by_cases e9 : c = 10 * x2_212.toNatClampNeg + x3_222.toNatClampNeg
              · rw [if_pos ⟨rfl, e9⟩, if_pos e9]
              · rw [if_neg (fun h => e9 h.2), if_neg e9]
            have hstep : FW (wv (L_202 296)) (wv (L2142 296)) (M 258 2).toNatClampNeg x1_202.toNatClampNeg (fun a b => a < x2_212.toNatClampNeg ∨ (a = x2_212.toNatClampNeg ∧ b < v2143.toNatClampNeg)) := by
              refine FW_step (x := x2_212.toNatClampNeg) (y := x3_222.toNatClampNeg) j222_2 (by as_aux_lemma => omega) (by as_aux_lemma => omega) (by as_aux_lemma => omega) (fun a b ha hb => by show (a < x2_212.toNatClampNeg ∨ (a = x2_212.toNatClampNeg ∧ b < v2143.toNatClampNeg)) ↔ ((a < x2_212.toNatClampNeg ∨ (a = x2_212.toNatClampNeg ∧ b < x3_222.toNatClampNeg)) ∨ (a = x2_212.toNatClampNeg ∧ b = x3_222.toNatClampNeg)); omega) (fun a b ha hb hab => ?_) (fun t => ?_)
              · show (L2142 296 (10 * a + b)).toInt = (L_222 296 (10 * a + b)).toInt
                rw [hL9]
                show (if 10 * a + b = 10 * x2_212.toNatClampNeg + x3_222.toNatClampNeg then v2141 else L_222 296 (10 * a + b)).toInt = _
                rw [if_neg (idx_ne (by as_aux_lemma => omega) (by as_aux_lemma => omega) hab)]
              · have e9 : wv (L2142 296) x2_212.toNatClampNeg x3_222.toNatClampNeg = v2141.toInt := by show (L2142 296 (10 * x2_212.toNatClampNeg + x3_222.toNatClampNeg)).toInt = _; rw [hL9]; show (if _ then v2141 else _).toInt = _; rw [if_pos rfl]
                rw [e9]
                unfold wv
                first | exact fv1 (by as_aux_lemma => omega) (by as_aux_lemma => omega) t | exact fv2 (b := v2134.toInt) (by as_aux_lemma => omega) (by as_aux_lemma => omega) (by as_aux_lemma => omega) (by as_aux_lemma => omega) t | exact fv3 (b := v2134.toInt) (by as_aux_lemma => omega) (by as_aux_lemma => omega) (by as_aux_lemma => omega) t
            exact ih_222 (v2143, M_222, L2142) ⟨by show 0 ≤ v2143.toInt; omega, by show v2143.toInt ≤ (M 258 2).toInt; omega, by show FW (wv (L_202 296)) (wv (L2142 296)) (M 258 2).toNatClampNeg x1_202.toNatClampNeg (fun u9 v9 => u9 < x2_212.toNatClampNeg ∨ (u9 = x2_212.toNatClampNeg ∧ v9 < v2143.toNatClampNeg)); exact hstep, hI, hF, hG⟩ (by show (11 - v2143.toInt).toNat < (11 - x3_222.toInt).toNat; omega)
          ·
            have f2144 := fne rfl rfl c2137
            refine g_lload C 0 dX11_layWays_298 rfl ?_
            refine g_aload_n C 4 dX11_layWays_300 rfl ?_
            refine g_get C (.ref (ad 296)) 52 in_X11_layWays_11 (List.mem_of_getElem? (i := 6) rfl) (by decide) (ce_model ad cs _ _) rfl (by decide) rfl rfl dX11_layWays_301 ?_
            refine g_bipush C 10 dX11_layWays_304 (by decide) ?_
            refine g_iload_n C 2 dX11_layWays_306 rfl ?_
            refine g_imul C dX11_layWays_307 ?_
            refine g_ni (fun v2145 ev2145 => ?_)
            try have fv2145 := fmul (by decide : (10 : Int32).toInt = 10) rfl ev2145 (by as_aux_lemma => omega) (by as_aux_lemma => omega)
            refine g_iload_n C 1 dX11_layWays_308 rfl ?_
            refine g_iadd C dX11_layWays_309 ?_
            refine g_ni (fun v2146 ev2146 => ?_)
            try have fv2146 := fadd rfl rfl ev2146 (by as_aux_lemma => omega) (by as_aux_lemma => omega)
            have nx2_212 := ixn (x := x2_212) (by as_aux_lemma => omega)
            have nx3_222 := ixn (x := x3_222) (by as_aux_lemma => omega)
            have nv2146 := ixn (x := v2146) (by as_aux_lemma => omega)
            have iv2146 : v2146.toNatClampNeg = 10 * x2_212.toNatClampNeg + x3_222.toNatClampNeg := by as_aux_lemma => omega
            refine g_lald C (by decide) (ce_m_way ad cs _ _) (fin' (n := 100) rfl (by as_aux_lemma => omega) (by as_aux_lemma => omega)) dX11_layWays_310 ?_
            refine g_nl (fun v2147 ev2147 => ?_)
            have gv2147 : v2147 = L_222 296 v2146.toNatClampNeg := ev2147.trans (congrFun p296 _)
            have gv2147 := cg1L (f := L_222 296) gv2147 iv2146
            have tv2147 := congrArg Int64.toInt gv2147
            refine g_lcmp C dX11_layWays_311 ?_
            refine g_ni (fun v2148 ev2148 => ?_)
            refine g_if_le C 320 dX11_layWays_312 (by decide) (fun c2149 => ?_) (fun c2149 => ?_)
            ·
              have f2150 := cle rfl rfl ev2148 c2149
              refine g_aload_n C 4 dX11_layWays_320 rfl ?_
              refine g_get C (.ref (ad 296)) 52 in_X11_layWays_11 (List.mem_of_getElem? (i := 6) rfl) (by decide) (ce_model ad cs _ _) rfl (by decide) rfl rfl dX11_layWays_321 ?_
              refine g_bipush C 10 dX11_layWays_324 (by decide) ?_
              refine g_iload_n C 2 dX11_layWays_326 rfl ?_
              refine g_imul C dX11_layWays_327 ?_
              refine g_ni (fun v2151 ev2151 => ?_)
              try have fv2151 := fmul (by decide : (10 : Int32).toInt = 10) rfl ev2151 (by as_aux_lemma => omega) (by as_aux_lemma => omega)
              refine g_iload_n C 1 dX11_layWays_328 rfl ?_
              refine g_iadd C dX11_layWays_329 ?_
              refine g_ni (fun v2152 ev2152 => ?_)
              try have fv2152 := fadd rfl rfl ev2152 (by as_aux_lemma => omega) (by as_aux_lemma => omega)
              have nx2_212 := ixn (x := x2_212) (by as_aux_lemma => omega)
              have nx3_222 := ixn (x := x3_222) (by as_aux_lemma => omega)
              have nv2152 := ixn (x := v2152) (by as_aux_lemma => omega)
              have iv2152 : v2152.toNatClampNeg = 10 * x2_212.toNatClampNeg + x3_222.toNatClampNeg := by as_aux_lemma => omega
              refine g_lald C (by decide) (ce_m_way ad cs _ _) (fin' (n := 100) rfl (by as_aux_lemma => omega) (by as_aux_lemma => omega)) dX11_layWays_330 ?_
              refine g_nl (fun v2153 ev2153 => ?_)
              have gv2153 : v2153 = L_222 296 v2152.toNatClampNeg := ev2153.trans (congrFun p296 _)
              have gv2153 := cg1L (f := L_222 296) gv2153 iv2152
              have tv2153 := congrArg Int64.toInt gv2153
              have nx2_212 := ixn (x := x2_212) (by as_aux_lemma => omega)
              have nx3_222 := ixn (x := x3_222) (by as_aux_lemma => omega)
              have nv2136 := ixn (x := v2136) (by as_aux_lemma => omega)
              have iv2136 : v2136.toNatClampNeg = 10 * x2_212.toNatClampNeg + x3_222.toNatClampNeg := by as_aux_lemma => omega
              refine g_last C (by decide) (ce_m_way ad cs _ _) (by rw [sJ_k]; rfl) (fin' (n := 100) rfl (by as_aux_lemma => omega) (by as_aux_lemma => omega)) dX11_layWays_331 ?_
              refine g_nmL (fun L2154 hL2154 => ?_)
              have hG : ∀ k i, k ≠ 295 ∧ k ≠ 296 → L2154 k i = L k i := fun k i hk => by (rw [hL2154, sJ_at, if_neg (by as_aux_lemma => omega)]; try exact hG k i hk)
              have p295 : L2154 295 = L_222 295 := by rw [hL2154, sJ_n _ _ _ (by decide)]; try exact p295
              obtain ⟨v2155, ev2155⟩ : ∃ y : Int32, y = x3_222 + 1 := ⟨_, rfl⟩
              try have fv2155 := fadd rfl (by decide : (1 : Int32).toInt = 1) ev2155 (by as_aux_lemma => omega) (by as_aux_lemma => omega)
              refine g_iinc C 1 v2155 [(3, .int v2155), (4, .long v2134), (2, .int x2_212), (1, .int x1_202), (0, .ref (ad 258))] dX11_layWays_332 rfl (by rw [ev2155]; rfl) (by decide) rfl ?_
              refine g_goto C 222 dX11_layWays_335 (by decide) ?_
              refine g_lv [0, 2, 3, 4] [(3, .int v2155), (2, .int x2_212), (1, .int x1_202), (0, .ref (ad 258))] rfl ?_
              have nv := ixn (x := v2155) (by as_aux_lemma => omega)
              have iv : v2155.toNatClampNeg = x3_222.toNatClampNeg + 1 := by as_aux_lemma => omega
              have hL9 : L2154 296 = fun c => if c = 10 * x2_212.toNatClampNeg + x3_222.toNatClampNeg then v2153 else L_222 296 c := by
                funext c
                rw [hL2154, sJ_at, iv2136]
                by_cases e9 : c = 10 * x2_212.toNatClampNeg + x3_222.toNatClampNeg
                · rw [if_pos ⟨rfl, e9⟩, if_pos e9]
                · rw [if_neg (fun h => e9 h.2), if_neg e9]
              have hstep : FW (wv (L_202 296)) (wv (L2154 296)) (M 258 2).toNatClampNeg x1_202.toNatClampNeg (fun a b => a < x2_212.toNatClampNeg ∨ (a = x2_212.toNatClampNeg ∧ b < v2155.toNatClampNeg)) := by
                refine FW_step (x := x2_212.toNatClampNeg) (y := x3_222.toNatClampNeg) j222_2 (by as_aux_lemma => omega) (by as_aux_lemma => omega) (by as_aux_lemma => omega) (fun a b ha hb => by show (a < x2_212.toNatClampNeg ∨ (a = x2_212.toNatClampNeg ∧ b < v2155.toNatClampNeg)) ↔ ((a < x2_212.toNatClampNeg ∨ (a = x2_212.toNatClampNeg ∧ b < x3_222.toNatClampNeg)) ∨ (a = x2_212.toNatClampNeg ∧ b = x3_222.toNatClampNeg)); omega) (fun a b ha hb hab => ?_) (fun t => ?_)
                · show (L2154 296 (10 * a + b)).toInt = (L_222 296 (10 * a + b)).toInt
                  rw [hL9]
                  show (if 10 * a + b = 10 * x2_212.toNatClampNeg + x3_222.toNatClampNeg then v2153 else L_222 296 (10 * a + b)).toInt = _
                  rw [if_neg (idx_ne (by as_aux_lemma => omega) (by as_aux_lemma => omega) hab)]
                · have e9 : wv (L2154 296) x2_212.toNatClampNeg x3_222.toNatClampNeg = v2153.toInt := by show (L2154 296 (10 * x2_212.toNatClampNeg + x3_222.toNatClampNeg)).toInt = _; rw [hL9]; show (if _ then v2153 else _).toInt = _; rw [if_pos rfl]
                  rw [e9]
                  unfold wv
                  first | exact fv1 (by as_aux_lemma => omega) (by as_aux_lemma => omega) t | exact fv2 (b := v2134.toInt) (by as_aux_lemma => omega) (by as_aux_lemma => omega) (by as_aux_lemma => omega) (by as_aux_lemma => omega) t | exact fv3 (b := v2134.toInt) (by as_aux_lemma => omega) (by as_aux_lemma => omega) (by as_aux_lemma => omega) t
              exact ih_222 (v2155, M_222, L2154) ⟨by show 0 ≤ v2155.toInt; omega, by show v2155.toInt ≤ (M 258 2).toInt; omega, by show FW (wv (L_202 296)) (wv (L2154 296)) (M 258 2).toNatClampNeg x1_202.toNatClampNeg (fun u9 v9 => u9 < x2_212.toNatClampNeg ∨ (u9 = x2_212.toNatClampNeg ∧ v9 < v2155.toNatClampNeg)); exact hstep, hI, hF, hG⟩ (by show (11 - v2155.toInt).toNat < (11 - x3_222.toInt).toNat; omega)
            ·
              have f2156 := cnle rfl rfl ev2148 c2149
              refine g_lload C 0 dX11_layWays_315 rfl ?_
              refine g_goto C 331 dX11_layWays_317 (by decide) ?_
              have nx2_212 := ixn (x := x2_212) (by as_aux_lemma => omega)
              have nx3_222 := ixn (x := x3_222) (by as_aux_lemma => omega)
              have nv2136 := ixn (x := v2136) (by as_aux_lemma => omega)
              have iv2136 : v2136.toNatClampNeg = 10 * x2_212.toNatClampNeg + x3_222.toNatClampNeg := by as_aux_lemma => omega
              refine g_last C (by decide) (ce_m_way ad cs _ _) (by rw [sJ_k]; rfl) (fin' (n := 100) rfl (by as_aux_lemma => omega) (by as_aux_lemma => omega)) dX11_layWays_331 ?_
              refine g_nmL (fun L2157 hL2157 => ?_)
              have hG : ∀ k i, k ≠ 295 ∧ k ≠ 296 → L2157 k i = L k i := fun k i hk => by (rw [hL2157, sJ_at, if_neg (by as_aux_lemma => omega)]; try exact hG k i hk)
              have p295 : L2157 295 = L_222 295 := by rw [hL2157, sJ_n _ _ _ (by decide)]; try exact p295
              obtain ⟨v2158, ev2158⟩ : ∃ y : Int32, y = x3_222 + 1 := ⟨_, rfl⟩
              try have fv2158 := fadd rfl (by decide : (1 : Int32).toInt = 1) ev2158 (by as_aux_lemma => omega) (by as_aux_lemma => omega)
              refine g_iinc C 1 v2158 [(3, .int v2158), (4, .long v2134), (2, .int x2_212), (1, .int x1_202), (0, .ref (ad 258))] dX11_layWays_332 rfl (by rw [ev2158]; rfl) (by decide) rfl ?_
              refine g_goto C 222 dX11_layWays_335 (by decide) ?_
              refine g_lv [0, 2, 3, 4] [(3, .int v2158), (2, .int x2_212), (1, .int x1_202), (0, .ref (ad 258))] rfl ?_
              have nv := ixn (x := v2158) (by as_aux_lemma => omega)
              have iv : v2158.toNatClampNeg = x3_222.toNatClampNeg + 1 := by as_aux_lemma => omega
              have hL9 : L2157 296 = fun c => if c = 10 * x2_212.toNatClampNeg + x3_222.toNatClampNeg then v2134 else L_222 296 c := by
                funext c
                rw [hL2157, sJ_at, iv2136]
                by_cases e9 : c = 10 * x2_212.toNatClampNeg + x3_222.toNatClampNeg
                · rw [if_pos ⟨rfl, e9⟩, if_pos e9]
                · rw [if_neg (fun h => e9 h.2), if_neg e9]
              have hstep : FW (wv (L_202 296)) (wv (L2157 296)) (M 258 2).toNatClampNeg x1_202.toNatClampNeg (fun a b => a < x2_212.toNatClampNeg ∨ (a = x2_212.toNatClampNeg ∧ b < v2158.toNatClampNeg)) := by
                refine FW_step (x := x2_212.toNatClampNeg) (y := x3_222.toNatClampNeg) j222_2 (by as_aux_lemma => omega) (by as_aux_lemma => omega) (by as_aux_lemma => omega) (fun a b ha hb => by show (a < x2_212.toNatClampNeg ∨ (a = x2_212.toNatClampNeg ∧ b < v2158.toNatClampNeg)) ↔ ((a < x2_212.toNatClampNeg ∨ (a = x2_212.toNatClampNeg ∧ b < x3_222.toNatClampNeg)) ∨ (a = x2_212.toNatClampNeg ∧ b = x3_222.toNatClampNeg)); omega) (fun a b ha hb hab => ?_) (fun t => ?_)
                · show (L2157 296 (10 * a + b)).toInt = (L_222 296 (10 * a + b)).toInt
                  rw [hL9]
                  show (if 10 * a + b = 10 * x2_212.toNatClampNeg + x3_222.toNatClampNeg then v2134 else L_222 296 (10 * a + b)).toInt = _
                  rw [if_neg (idx_ne (by as_aux_lemma => omega) (by as_aux_lemma => omega) hab)]
                · have e9 : wv (L2157 296) x2_212.toNatClampNeg x3_222.toNatClampNeg = v2134.toInt := by show (L2157 296 (10 * x2_212.toNatClampNeg + x3_222.toNatClampNeg)).toInt = _; rw [hL9]; show (if _ then v2134 else _).toInt = _; rw [if_pos rfl]
                  rw [e9]
                  unfold wv
                  first | exact fv1 (by as_aux_lemma => omega) (by as_aux_lemma => omega) t | exact fv2 (b := v2134.toInt) (by as_aux_lemma => omega) (by as_aux_lemma => omega) (by as_aux_lemma => omega) (by as_aux_lemma => omega) t | exact fv3 (b := v2134.toInt) (by as_aux_lemma => omega) (by as_aux_lemma => omega) (by as_aux_lemma => omega) t
              exact ih_222 (v2158, M_222, L2157) ⟨by show 0 ≤ v2158.toInt; omega, by show v2158.toInt ≤ (M 258 2).toInt; omega, by show FW (wv (L_202 296)) (wv (L2157 296)) (M 258 2).toNatClampNeg x1_202.toNatClampNeg (fun u9 v9 => u9 < x2_212.toNatClampNeg ∨ (u9 = x2_212.toNatClampNeg ∧ v9 < v2158.toNatClampNeg)); exact hstep, hI, hF, hG⟩ (by show (11 - v2158.toInt).toNat < (11 - x3_222.toInt).toNat; omega)
set_option maxHeartbeats 4000000 in
set_option maxRecDepth 100000 in
theorem s_X11_layWays_116 (l : Launch) (D : va_G) (ad : Nat → Nat) (cs : Nat → ClassId) (M : MI) (L : ML)  (hI0 : IR M)  {p : Program} {e : Env} {s : State} {m : MethodId} {below : List Frame} {meth : Method} {c : Code} (C : Cx p s m #[.ref (ad 258)] meth c cX11_layWays 6 wsX11_layWays RX11 D ad cs) (hr : meth.sig.returnType = none) (Mc : MI) (Lc : ML) (hI : IR Mc) (hF : ∀ k i, True → Mc k i = M k i) (hG : ∀ k i, k ≠ 295 ∧ k ≠ 296 → Lc k i = L k i) : G p l e ({ frames := 2, cells := 0, slots := 0, locals := 48 }) s m #[.ref (ad 258)] below meth c 0 0 (MQ below (Qv D ad cs (fun M1 L1 => (CL (M 258 2).toNatClampNeg (M 258 2).toNatClampNeg (wv (L1 296))) ∧ IR M1 ∧ (∀ k i, True → M1 k i = M k i) ∧ ∀ k i, k ≠ 295 ∧ k ≠ 296 → L1 k i = L k i)) #[.ref (ad 258)] s 0 0 (Ar ad)) D ad cs 6 Mc Lc 116 [(0, .ref (ad 258))] [] := by
  have hI0 := hI0
  obtain ⟨ca, cb⟩ := (show rg 0 10 (M 258 2) from hI0 258 2)
  have n02 := ixn ca
  obtain ⟨sa, sb⟩ := (show rg 0 30 (M 258 28) from hI0 258 28)
  have p295 : Lc 295 = Lc 295 := rfl
  have p296 : Lc 296 = Lc 296 := rfl
  refine g_iconst C 0 dX11_layWays_116 (by decide) ?_
  refine g_istore_n C [(1, .int 0), (0, .ref (ad 258))] dX11_layWays_117 (by decide) rfl ?_
  have zy1048 : (0 : Int32).toInt = 0 := by decide
  refine g_loop (α := Int32 × MI × ML) (fun a => (11 - a.1.toInt).toNat) (fun a => (0 ≤ a.1.toInt) ∧ (a.1.toInt ≤ 10) ∧ IR a.2.1 ∧ (∀ k i, True → a.2.1 k i = M k i) ∧ (∀ k i, k ≠ 295 ∧ k ≠ 296 → a.2.2 k i = L k i)) (fun a => a.2.1) (fun a => a.2.2) (fun a => [(1, .int a.1), (0, .ref (ad 258))]) ((0 : Int32), Mc, Lc) ⟨by show 0 ≤ (0 : Int32).toInt; omega, by show (0 : Int32).toInt ≤ 10; omega, hI, hF, hG⟩ rfl rfl rfl ?_
  rintro ⟨x1_118, M_118, L_118⟩ ⟨j118_0, j118_1, hI, hF, hG⟩ ih_118
  dsimp only at j118_0 j118_1 hI hF hG ih_118 ⊢
  have p295 : L_118 295 = L_118 295 := rfl
  have p296 : L_118 296 = L_118 296 := rfl
  refine g_iload_n C 0 dX11_layWays_118 rfl ?_
  refine g_aload_n C 1 dX11_layWays_119 rfl ?_
  refine g_get C (.int (M_118 258 2)) 2 in_X11_layWays_11 (List.mem_of_getElem? (i := 1) rfl) (by decide) (ce_model ad cs _ _) rfl (by decide) rfl rfl dX11_layWays_120 ?_
  refine g_ni (fun v1049 ev1049 => ?_)
  have gv1049 : v1049 = M 258 2 := ev1049.trans (hF 258 2 trivial)
  have tv1049 := congrArg Int32.toInt gv1049
  obtain ⟨bv1049, dv1049⟩ := (show rg 0 10 v1049 from (by rw [ev1049]; exact hI 258 2))
  refine g_icmp_ge C 200 dX11_layWays_123 (by decide) (fun c1050 => ?_) (fun c1050 => ?_)
  ·
    have f1051 := fle rfl rfl c1050
    refine g_lv [1] [(0, .ref (ad 258))] rfl ?_
    exact s_X11_layWays_200 l D ad cs M L  hI0   C hr _ _ hI hF hG 
  ·
    have f1052 := fnle rfl rfl c1050
    refine g_iconst C 0 dX11_layWays_126 (by decide) ?_
    refine g_istore_n C [(2, .int 0), (1, .int x1_118), (0, .ref (ad 258))] dX11_layWays_127 (by decide) rfl ?_
    have zy1053 : (0 : Int32).toInt = 0 := by decide
    refine g_loop (α := Int32 × MI × ML) (fun a => (11 - a.1.toInt).toNat) (fun a => (0 ≤ a.1.toInt) ∧ (a.1.toInt ≤ 10) ∧ IR a.2.1 ∧ (∀ k i, True → a.2.1 k i = M k i) ∧ (∀ k i, k ≠ 295 ∧ k ≠ 296 → a.2.2 k i = L k i)) (fun a => a.2.1) (fun a => a.2.2) (fun a => [(2, .int a.1), (1, .int x1_118), (0, .ref (ad 258))]) ((0 : Int32), M_118, L_118) ⟨by show 0 ≤ (0 : Int32).toInt; omega, by show (0 : Int32).toInt ≤ 10; omega, hI, hF, hG⟩ rfl rfl rfl ?_
    rintro ⟨x2_128, M_128, L_128⟩ ⟨j128_0, j128_1, hI, hF, hG⟩ ih_128
    dsimp only at j128_0 j128_1 hI hF hG ih_128 ⊢
    have p295 : L_128 295 = L_128 295 := rfl
    have p296 : L_128 296 = L_128 296 := rfl
    refine g_iload_n C 0 dX11_layWays_128 rfl ?_
    refine g_aload_n C 2 dX11_layWays_129 rfl ?_
    refine g_get C (.int (M_128 258 2)) 2 in_X11_layWays_11 (List.mem_of_getElem? (i := 1) rfl) (by decide) (ce_model ad cs _ _) rfl (by decide) rfl rfl dX11_layWays_130 ?_
    refine g_ni (fun v1054 ev1054 => ?_)
    have gv1054 : v1054 = M 258 2 := ev1054.trans (hF 258 2 trivial)
    have tv1054 := congrArg Int32.toInt gv1054
    obtain ⟨bv1054, dv1054⟩ := (show rg 0 10 v1054 from (by rw [ev1054]; exact hI 258 2))
    refine g_icmp_ge C 194 dX11_layWays_133 (by decide) (fun c1055 => ?_) (fun c1055 => ?_)
    ·
      have f1056 := fle rfl rfl c1055
      obtain ⟨v1057, ev1057⟩ : ∃ y : Int32, y = x1_118 + 1 := ⟨_, rfl⟩
      try have fv1057 := fadd rfl (by decide : (1 : Int32).toInt = 1) ev1057 (by as_aux_lemma => omega) (by as_aux_lemma => omega)
      refine g_iinc C 1 v1057 [(1, .int v1057), (2, .int x2_128), (0, .ref (ad 258))] dX11_layWays_194 rfl (by rw [ev1057]; rfl) (by decide) rfl ?_
      refine g_goto C 118 dX11_layWays_197 (by decide) ?_
      refine g_lv [0, 2] [(1, .int v1057), (0, .ref (ad 258))] rfl ?_
      exact ih_118 (v1057, M_128, L_128) ⟨by show 0 ≤ v1057.toInt; omega, by show v1057.toInt ≤ 10; omega, hI, hF, hG⟩ (by show (11 - v1057.toInt).toNat < (11 - x1_118.toInt).toNat; omega)
    ·
      have f1058 := fnle rfl rfl c1055
      refine g_aload_n C 2 dX11_layWays_136 rfl ?_
      refine g_get C (.ref (ad 296)) 52 in_X11_layWays_11 (List.mem_of_getElem? (i := 6) rfl) (by decide) (ce_model ad cs _ _) rfl (by decide) rfl rfl dX11_layWays_137 ?_
      refine g_bipush C 10 dX11_layWays_140 (by decide) ?_
      refine g_iload_n C 1 dX11_layWays_142 rfl ?_
      refine g_imul C dX11_layWays_143 ?_
      refine g_ni (fun v1059 ev1059 => ?_)
      try have fv1059 := fmul (by decide : (10 : Int32).toInt = 10) rfl ev1059 (by as_aux_lemma => omega) (by as_aux_lemma => omega)
      refine g_iload_n C 0 dX11_layWays_144 rfl ?_
      refine g_iadd C dX11_layWays_145 ?_
      refine g_ni (fun v1060 ev1060 => ?_)
      try have fv1060 := fadd rfl rfl ev1060 (by as_aux_lemma => omega) (by as_aux_lemma => omega)
      refine g_aload_n C 2 dX11_layWays_146 rfl ?_
      refine g_get C (.ref (ad 295)) 51 in_X11_layWays_11 (List.mem_of_getElem? (i := 2) rfl) (by decide) (ce_model ad cs _ _) rfl (by decide) rfl rfl dX11_layWays_147 ?_
      refine g_bipush C 10 dX11_layWays_150 (by decide) ?_
      refine g_iload_n C 1 dX11_layWays_152 rfl ?_
      refine g_imul C dX11_layWays_153 ?_
      refine g_ni (fun v1061 ev1061 => ?_)
      try have fv1061 := fmul (by decide : (10 : Int32).toInt = 10) rfl ev1061 (by as_aux_lemma => omega) (by as_aux_lemma => omega)
      refine g_iload_n C 0 dX11_layWays_154 rfl ?_
      refine g_iadd C dX11_layWays_155 ?_
      refine g_ni (fun v1062 ev1062 => ?_)
      try have fv1062 := fadd rfl rfl ev1062 (by as_aux_lemma => omega) (by as_aux_lemma => omega)
      have nx1_118 := ixn (x := x1_118) (by as_aux_lemma => omega)
      have nx2_128 := ixn (x := x2_128) (by as_aux_lemma => omega)
      have nv1062 := ixn (x := v1062) (by as_aux_lemma => omega)
      have iv1062 : v1062.toNatClampNeg = 10 * x1_118.toNatClampNeg + x2_128.toNatClampNeg := by as_aux_lemma => omega
      refine g_lald C (by decide) (ce_m_beats ad cs _ _) (fin' (n := 100) rfl (by as_aux_lemma => omega) (by as_aux_lemma => omega)) dX11_layWays_156 ?_
      refine g_nl (fun v1063 ev1063 => ?_)
      have gv1063 : v1063 = L_128 295 v1062.toNatClampNeg := ev1063.trans (congrFun p295 _)
      have gv1063 := cg1L (f := L_128 295) gv1063 iv1062
      have tv1063 := congrArg Int64.toInt gv1063
      refine g_aload_n C 2 dX11_layWays_157 rfl ?_
      refine g_get C (.ref (ad 295)) 51 in_X11_layWays_11 (List.mem_of_getElem? (i := 2) rfl) (by decide) (ce_model ad cs _ _) rfl (by decide) rfl rfl dX11_layWays_158 ?_
      refine g_bipush C 10 dX11_layWays_161 (by decide) ?_
      refine g_iload_n C 0 dX11_layWays_163 rfl ?_
      refine g_imul C dX11_layWays_164 ?_
      refine g_ni (fun v1064 ev1064 => ?_)
      try have fv1064 := fmul (by decide : (10 : Int32).toInt = 10) rfl ev1064 (by as_aux_lemma => omega) (by as_aux_lemma => omega)
      refine g_iload_n C 1 dX11_layWays_165 rfl ?_
      refine g_iadd C dX11_layWays_166 ?_
      refine g_ni (fun v1065 ev1065 => ?_)
      try have fv1065 := fadd rfl rfl ev1065 (by as_aux_lemma => omega) (by as_aux_lemma => omega)
      have nx2_128 := ixn (x := x2_128) (by as_aux_lemma => omega)
      have nx1_118 := ixn (x := x1_118) (by as_aux_lemma => omega)
      have nv1065 := ixn (x := v1065) (by as_aux_lemma => omega)
      have iv1065 : v1065.toNatClampNeg = 10 * x2_128.toNatClampNeg + x1_118.toNatClampNeg := by as_aux_lemma => omega
      refine g_lald C (by decide) (ce_m_beats ad cs _ _) (fin' (n := 100) rfl (by as_aux_lemma => omega) (by as_aux_lemma => omega)) dX11_layWays_167 ?_
      refine g_nl (fun v1066 ev1066 => ?_)
      have gv1066 : v1066 = L_128 295 v1065.toNatClampNeg := ev1066.trans (congrFun p295 _)
      have gv1066 := cg1L (f := L_128 295) gv1066 iv1065
      have tv1066 := congrArg Int64.toInt gv1066
      refine g_lcmp C dX11_layWays_168 ?_
      refine g_ni (fun v1067 ev1067 => ?_)
      refine g_if_le C 186 dX11_layWays_169 (by decide) (fun c1068 => ?_) (fun c1068 => ?_)
      ·
        have f1069 := cle rfl rfl ev1067 c1068
        refine g_lconst C 0 dX11_layWays_186 (by decide) ?_
        have nx1_118 := ixn (x := x1_118) (by as_aux_lemma => omega)
        have nx2_128 := ixn (x := x2_128) (by as_aux_lemma => omega)
        have nv1060 := ixn (x := v1060) (by as_aux_lemma => omega)
        have iv1060 : v1060.toNatClampNeg = 10 * x1_118.toNatClampNeg + x2_128.toNatClampNeg := by as_aux_lemma => omega
        refine g_last C (by decide) (ce_m_way ad cs _ _) (by rw [sJ_k]; rfl) (fin' (n := 100) rfl (by as_aux_lemma => omega) (by as_aux_lemma => omega)) dX11_layWays_187 ?_
        refine g_nmL (fun L1070 hL1070 => ?_)
        have hG : ∀ k i, k ≠ 295 ∧ k ≠ 296 → L1070 k i = L k i := fun k i hk => by (rw [hL1070, sJ_at, if_neg (by as_aux_lemma => omega)]; try exact hG k i hk)
        have p295 : L1070 295 = L_128 295 := by rw [hL1070, sJ_n _ _ _ (by decide)]; try exact p295
        obtain ⟨v1071, ev1071⟩ : ∃ y : Int32, y = x2_128 + 1 := ⟨_, rfl⟩
        try have fv1071 := fadd rfl (by decide : (1 : Int32).toInt = 1) ev1071 (by as_aux_lemma => omega) (by as_aux_lemma => omega)
        refine g_iinc C 0 v1071 [(2, .int v1071), (1, .int x1_118), (0, .ref (ad 258))] dX11_layWays_188 rfl (by rw [ev1071]; rfl) (by decide) rfl ?_
        refine g_goto C 128 dX11_layWays_191 (by decide) ?_
        exact ih_128 (v1071, M_128, L1070) ⟨by show 0 ≤ v1071.toInt; omega, by show v1071.toInt ≤ 10; omega, hI, hF, hG⟩ (by show (11 - v1071.toInt).toNat < (11 - x2_128.toInt).toNat; omega)
      ·
        have f1072 := cnle rfl rfl ev1067 c1068
        refine g_aload_n C 2 dX11_layWays_172 rfl ?_
        refine g_get C (.ref (ad 295)) 51 in_X11_layWays_11 (List.mem_of_getElem? (i := 2) rfl) (by decide) (ce_model ad cs _ _) rfl (by decide) rfl rfl dX11_layWays_173 ?_
        refine g_bipush C 10 dX11_layWays_176 (by decide) ?_
        refine g_iload_n C 1 dX11_layWays_178 rfl ?_
        refine g_imul C dX11_layWays_179 ?_
        refine g_ni (fun v1073 ev1073 => ?_)
        try have fv1073 := fmul (by decide : (10 : Int32).toInt = 10) rfl ev1073 (by as_aux_lemma => omega) (by as_aux_lemma => omega)
        refine g_iload_n C 0 dX11_layWays_180 rfl ?_
        refine g_iadd C dX11_layWays_181 ?_
        refine g_ni (fun v1074 ev1074 => ?_)
        try have fv1074 := fadd rfl rfl ev1074 (by as_aux_lemma => omega) (by as_aux_lemma => omega)
        have nx1_118 := ixn (x := x1_118) (by as_aux_lemma => omega)
        have nx2_128 := ixn (x := x2_128) (by as_aux_lemma => omega)
        have nv1074 := ixn (x := v1074) (by as_aux_lemma => omega)
        have iv1074 : v1074.toNatClampNeg = 10 * x1_118.toNatClampNeg + x2_128.toNatClampNeg := by as_aux_lemma => omega
        refine g_lald C (by decide) (ce_m_beats ad cs _ _) (fin' (n := 100) rfl (by as_aux_lemma => omega) (by as_aux_lemma => omega)) dX11_layWays_182 ?_
        refine g_nl (fun v1075 ev1075 => ?_)
        have gv1075 : v1075 = L_128 295 v1074.toNatClampNeg := ev1075.trans (congrFun p295 _)
        have gv1075 := cg1L (f := L_128 295) gv1075 iv1074
        have tv1075 := congrArg Int64.toInt gv1075
        refine g_goto C 187 dX11_layWays_183 (by decide) ?_
        have nx1_118 := ixn (x := x1_118) (by as_aux_lemma => omega)
        have nx2_128 := ixn (x := x2_128) (by as_aux_lemma => omega)
        have nv1060 := ixn (x := v1060) (by as_aux_lemma => omega)
        have iv1060 : v1060.toNatClampNeg = 10 * x1_118.toNatClampNeg + x2_128.toNatClampNeg := by as_aux_lemma => omega
        refine g_last C (by decide) (ce_m_way ad cs _ _) (by rw [sJ_k]; rfl) (fin' (n := 100) rfl (by as_aux_lemma => omega) (by as_aux_lemma => omega)) dX11_layWays_187 ?_
        refine g_nmL (fun L1076 hL1076 => ?_)
        have hG : ∀ k i, k ≠ 295 ∧ k ≠ 296 → L1076 k i = L k i := fun k i hk => by (rw [hL1076, sJ_at, if_neg (by as_aux_lemma => omega)]; try exact hG k i hk)
        have p295 : L1076 295 = L_128 295 := by rw [hL1076, sJ_n _ _ _ (by decide)]; try exact p295
        obtain ⟨v1077, ev1077⟩ : ∃ y : Int32, y = x2_128 + 1 := ⟨_, rfl⟩
        try have fv1077 := fadd rfl (by decide : (1 : Int32).toInt = 1) ev1077 (by as_aux_lemma => omega) (by as_aux_lemma => omega)
        refine g_iinc C 0 v1077 [(2, .int v1077), (1, .int x1_118), (0, .ref (ad 258))] dX11_layWays_188 rfl (by rw [ev1077]; rfl) (by decide) rfl ?_
        refine g_goto C 128 dX11_layWays_191 (by decide) ?_
        exact ih_128 (v1077, M_128, L1076) ⟨by show 0 ≤ v1077.toInt; omega, by show v1077.toInt ≤ 10; omega, hI, hF, hG⟩ (by show (11 - v1077.toInt).toNat < (11 - x2_128.toInt).toNat; omega)
set_option maxHeartbeats 4000000 in
set_option maxRecDepth 100000 in
theorem s_X11_layWays (l : Launch) (D : va_G) (ad : Nat → Nat) (cs : Nat → ClassId) (M : MI) (L : ML)  (hI : IR M) : Cv l yX11_layWays wsX11_layWays ({ frames := 2, cells := 0, slots := 0, locals := 48 }) D ad cs [.ref (ad 258)] M L (fun M1 L1 => (CL (M 258 2).toNatClampNeg (M 258 2).toNatClampNeg (wv (L1 296))) ∧ IR M1 ∧ (∀ k i, True → M1 k i = M k i) ∧ ∀ k i, k ≠ 295 ∧ k ≠ 296 → L1 k i = L k i) := by
  refine enter_v RX11 rfl [(0, .ref (ad 258))] rfl (Nat.le_of_ble_eq_true rfl) (by decide +kernel) rfl ?_
  intro p e s m below meth c C hr
  have hF : ∀ k i, True → M k i = M k i := fun _ _ _ => rfl
  have hG : ∀ k i, k ≠ 295 ∧ k ≠ 296 → L k i = L k i := fun _ _ _ => rfl
  obtain ⟨ca, cb⟩ := (show rg 0 10 (M 258 2) from hI 258 2)
  have n02 := ixn ca
  obtain ⟨sa, sb⟩ := (show rg 0 30 (M 258 28) from hI 258 28)
  have p295 : L 295 = L 295 := rfl
  have p296 : L 296 = L 296 := rfl
  have hI0 := hI
  refine g_iconst C 0 dX11_layWays_0 (by decide) ?_
  refine g_istore_n C [(1, .int 0), (0, .ref (ad 258))] dX11_layWays_1 (by decide) rfl ?_
  have zy1 : (0 : Int32).toInt = 0 := by decide
  refine g_loop (α := Int32 × MI × ML) (fun a => (11 - a.1.toInt).toNat) (fun a => (0 ≤ a.1.toInt) ∧ (a.1.toInt ≤ 10) ∧ IR a.2.1 ∧ (∀ k i, True → a.2.1 k i = M k i) ∧ (∀ k i, k ≠ 295 ∧ k ≠ 296 → a.2.2 k i = L k i)) (fun a => a.2.1) (fun a => a.2.2) (fun a => [(1, .int a.1), (0, .ref (ad 258))]) ((0 : Int32), M, L) ⟨by show 0 ≤ (0 : Int32).toInt; omega, by show (0 : Int32).toInt ≤ 10; omega, hI, hF, hG⟩ rfl rfl rfl ?_
  rintro ⟨x1_2, M_2, L_2⟩ ⟨j2_0, j2_1, hI, hF, hG⟩ ih_2
  dsimp only at j2_0 j2_1 hI hF hG ih_2 ⊢
  have p295 : L_2 295 = L_2 295 := rfl
  have p296 : L_2 296 = L_2 296 := rfl
  refine g_iload_n C 0 dX11_layWays_2 rfl ?_
  refine g_aload_n C 1 dX11_layWays_3 rfl ?_
  refine g_get C (.int (M_2 258 2)) 2 in_X11_layWays_11 (List.mem_of_getElem? (i := 1) rfl) (by decide) (ce_model ad cs _ _) rfl (by decide) rfl rfl dX11_layWays_4 ?_
  refine g_ni (fun v2 ev2 => ?_)
  have gv2 : v2 = M 258 2 := ev2.trans (hF 258 2 trivial)
  have tv2 := congrArg Int32.toInt gv2
  obtain ⟨bv2, dv2⟩ := (show rg 0 10 v2 from (by rw [ev2]; exact hI 258 2))
  refine g_icmp_ge C 116 dX11_layWays_7 (by decide) (fun c3 => ?_) (fun c3 => ?_)
  ·
    have f4 := fle rfl rfl c3
    refine g_lv [1] [(0, .ref (ad 258))] rfl ?_
    exact s_X11_layWays_116 l D ad cs M L  hI0   C hr _ _ hI hF hG 
  ·
    have f5 := fnle rfl rfl c3
    refine g_iconst C 0 dX11_layWays_10 (by decide) ?_
    refine g_istore_n C [(2, .int 0), (1, .int x1_2), (0, .ref (ad 258))] dX11_layWays_11 (by decide) rfl ?_
    have zy6 : (0 : Int32).toInt = 0 := by decide
    refine g_loop (α := Int32 × MI × ML) (fun a => (11 - a.1.toInt).toNat) (fun a => (0 ≤ a.1.toInt) ∧ (a.1.toInt ≤ 10) ∧ IR a.2.1 ∧ (∀ k i, True → a.2.1 k i = M k i) ∧ (∀ k i, k ≠ 295 ∧ k ≠ 296 → a.2.2 k i = L k i)) (fun a => a.2.1) (fun a => a.2.2) (fun a => [(2, .int a.1), (1, .int x1_2), (0, .ref (ad 258))]) ((0 : Int32), M_2, L_2) ⟨by show 0 ≤ (0 : Int32).toInt; omega, by show (0 : Int32).toInt ≤ 10; omega, hI, hF, hG⟩ rfl rfl rfl ?_
    rintro ⟨x2_12, M_12, L_12⟩ ⟨j12_0, j12_1, hI, hF, hG⟩ ih_12
    dsimp only at j12_0 j12_1 hI hF hG ih_12 ⊢
    have p295 : L_12 295 = L_12 295 := rfl
    have p296 : L_12 296 = L_12 296 := rfl
    refine g_iload_n C 0 dX11_layWays_12 rfl ?_
    refine g_aload_n C 2 dX11_layWays_13 rfl ?_
    refine g_get C (.int (M_12 258 2)) 2 in_X11_layWays_11 (List.mem_of_getElem? (i := 1) rfl) (by decide) (ce_model ad cs _ _) rfl (by decide) rfl rfl dX11_layWays_14 ?_
    refine g_ni (fun v7 ev7 => ?_)
    have gv7 : v7 = M 258 2 := ev7.trans (hF 258 2 trivial)
    have tv7 := congrArg Int32.toInt gv7
    obtain ⟨bv7, dv7⟩ := (show rg 0 10 v7 from (by rw [ev7]; exact hI 258 2))
    refine g_icmp_ge C 110 dX11_layWays_17 (by decide) (fun c8 => ?_) (fun c8 => ?_)
    ·
      have f9 := fle rfl rfl c8
      obtain ⟨v10, ev10⟩ : ∃ y : Int32, y = x1_2 + 1 := ⟨_, rfl⟩
      try have fv10 := fadd rfl (by decide : (1 : Int32).toInt = 1) ev10 (by as_aux_lemma => omega) (by as_aux_lemma => omega)
      refine g_iinc C 1 v10 [(1, .int v10), (2, .int x2_12), (0, .ref (ad 258))] dX11_layWays_110 rfl (by rw [ev10]; rfl) (by decide) rfl ?_
      refine g_goto C 2 dX11_layWays_113 (by decide) ?_
      refine g_lv [0, 2] [(1, .int v10), (0, .ref (ad 258))] rfl ?_
      exact ih_2 (v10, M_12, L_12) ⟨by show 0 ≤ v10.toInt; omega, by show v10.toInt ≤ 10; omega, hI, hF, hG⟩ (by show (11 - v10.toInt).toNat < (11 - x1_2.toInt).toNat; omega)
    ·
      have f11 := fnle rfl rfl c8
      refine g_aload_n C 2 dX11_layWays_20 rfl ?_
      refine g_get C (.ref (ad 295)) 51 in_X11_layWays_11 (List.mem_of_getElem? (i := 2) rfl) (by decide) (ce_model ad cs _ _) rfl (by decide) rfl rfl dX11_layWays_21 ?_
      refine g_bipush C 10 dX11_layWays_24 (by decide) ?_
      refine g_iload_n C 1 dX11_layWays_26 rfl ?_
      refine g_imul C dX11_layWays_27 ?_
      refine g_ni (fun v12 ev12 => ?_)
      try have fv12 := fmul (by decide : (10 : Int32).toInt = 10) rfl ev12 (by as_aux_lemma => omega) (by as_aux_lemma => omega)
      refine g_iload_n C 0 dX11_layWays_28 rfl ?_
      refine g_iadd C dX11_layWays_29 ?_
      refine g_ni (fun v13 ev13 => ?_)
      try have fv13 := fadd rfl rfl ev13 (by as_aux_lemma => omega) (by as_aux_lemma => omega)
      refine g_lconst C 0 dX11_layWays_30 (by decide) ?_
      have nx1_2 := ixn (x := x1_2) (by as_aux_lemma => omega)
      have nx2_12 := ixn (x := x2_12) (by as_aux_lemma => omega)
      have nv13 := ixn (x := v13) (by as_aux_lemma => omega)
      have iv13 : v13.toNatClampNeg = 10 * x1_2.toNatClampNeg + x2_12.toNatClampNeg := by as_aux_lemma => omega
      refine g_last C (by decide) (ce_m_beats ad cs _ _) (by rw [sJ_k]; rfl) (fin' (n := 100) rfl (by as_aux_lemma => omega) (by as_aux_lemma => omega)) dX11_layWays_31 ?_
      refine g_nmL (fun L14 hL14 => ?_)
      have hG : ∀ k i, k ≠ 295 ∧ k ≠ 296 → L14 k i = L k i := fun k i hk => by (rw [hL14, sJ_at, if_neg (by as_aux_lemma => omega)]; try exact hG k i hk)
      have p296 : L14 296 = L_12 296 := by rw [hL14, sJ_n _ _ _ (by decide)]; try exact p296
      refine g_iconst C 0 dX11_layWays_32 (by decide) ?_
      refine g_istore_n C [(3, .int 0), (2, .int x2_12), (1, .int x1_2), (0, .ref (ad 258))] dX11_layWays_33 (by decide) rfl ?_
      have zy15 : (0 : Int32).toInt = 0 := by decide
      refine g_loop (α := Int32 × MI × ML) (fun a => (41 - a.1.toInt).toNat) (fun a => (0 ≤ a.1.toInt) ∧ (a.1.toInt ≤ 40) ∧ IR a.2.1 ∧ (∀ k i, True → a.2.1 k i = M k i) ∧ (∀ k i, k ≠ 295 ∧ k ≠ 296 → a.2.2 k i = L k i)) (fun a => a.2.1) (fun a => a.2.2) (fun a => [(3, .int a.1), (2, .int x2_12), (1, .int x1_2), (0, .ref (ad 258))]) ((0 : Int32), M_12, L14) ⟨by show 0 ≤ (0 : Int32).toInt; omega, by show (0 : Int32).toInt ≤ 40; omega, hI, hF, hG⟩ rfl rfl rfl ?_
      rintro ⟨x3_34, M_34, L_34⟩ ⟨j34_0, j34_1, hI, hF, hG⟩ ih_34
      dsimp only at j34_0 j34_1 hI hF hG ih_34 ⊢
      have p295 : L_34 295 = L_34 295 := rfl
      have p296 : L_34 296 = L_34 296 := rfl
      refine g_iload_n C 0 dX11_layWays_34 rfl ?_
      refine g_aload_n C 3 dX11_layWays_35 rfl ?_
      refine g_get C (.ref (ad 266)) 11 in_X11_layWays_11 (List.mem_of_getElem? (i := 3) rfl) (by decide) (ce_model ad cs _ _) rfl (by decide) rfl rfl dX11_layWays_36 ?_
      refine g_aload_n C 3 dX11_layWays_39 rfl ?_
      refine g_get C (.int (M_34 258 27)) 27 in_X11_layWays_11 (List.mem_of_getElem? (i := 4) rfl) (by decide) (ce_model ad cs _ _) rfl (by decide) rfl rfl dX11_layWays_40 ?_
      refine g_ni (fun v16 ev16 => ?_)
      have gv16 : v16 = M 258 27 := ev16.trans (hF 258 27 trivial)
      have tv16 := congrArg Int32.toInt gv16
      obtain ⟨bv16, dv16⟩ := (show rg 0 7 v16 from (by rw [ev16]; exact hI 258 27))
      refine g_iald C (by decide) (ce_m_boxSize ad cs _ _) (fin' (n := 8) rfl (by as_aux_lemma => omega) (by as_aux_lemma => omega)) dX11_layWays_43 ?_
      refine g_ni (fun v17 ev17 => ?_)
      have gv17 : v17 = M 266 v16.toNatClampNeg := ev17.trans (hF 266 v16.toNatClampNeg trivial)
      have tv17 := congrArg Int32.toInt gv17
      obtain ⟨bv17, dv17⟩ := (show rg 0 40 v17 from (by rw [ev17]; exact hI 266 v16.toNatClampNeg))
      refine g_icmp_ge C 104 dX11_layWays_44 (by decide) (fun c18 => ?_) (fun c18 => ?_)
      ·
        have f19 := fle rfl rfl c18
        obtain ⟨v20, ev20⟩ : ∃ y : Int32, y = x2_12 + 1 := ⟨_, rfl⟩
        try have fv20 := fadd rfl (by decide : (1 : Int32).toInt = 1) ev20 (by as_aux_lemma => omega) (by as_aux_lemma => omega)
        refine g_iinc C 1 v20 [(2, .int v20), (3, .int x3_34), (1, .int x1_2), (0, .ref (ad 258))] dX11_layWays_104 rfl (by rw [ev20]; rfl) (by decide) rfl ?_
        refine g_goto C 12 dX11_layWays_107 (by decide) ?_
        refine g_lv [0, 2, 3] [(2, .int v20), (1, .int x1_2), (0, .ref (ad 258))] rfl ?_
        exact ih_12 (v20, M_34, L_34) ⟨by show 0 ≤ v20.toInt; omega, by show v20.toInt ≤ 10; omega, hI, hF, hG⟩ (by show (11 - v20.toInt).toNat < (11 - x2_12.toInt).toNat; omega)
      ·
        have f21 := fnle rfl rfl c18
        refine g_aload_n C 3 dX11_layWays_47 rfl ?_
        refine g_iload_n C 0 dX11_layWays_48 rfl ?_
        refine g_callVi C (n := 1) (As := [.int x3_34]) (st := []) (s_X11_ballotAt l D ad cs _ _ x3_34 hI ⟨by as_aux_lemma => omega, by as_aux_lemma => omega⟩) gX11_layWays_X11_ballotAt rfl rfl rfl (by decide +kernel) ⟨Nat.le_of_ble_eq_true rfl, Nat.le_of_ble_eq_true rfl⟩ rfl (Nat.le_of_ble_eq_true rfl) ⟨Nat.zero_le _, Nat.zero_le _⟩ (by decide) (ce_model ad cs _ _) rfl rfl dX11_layWays_49 (fun r22 M23 L24 hr22 => ?_)
        obtain ⟨hq1, hq2, hr22⟩ := hr22
        obtain rfl := hq1.symm
        obtain rfl := hq2.symm
        refine g_istore C [(4, .int r22), (3, .int x3_34), (2, .int x2_12), (1, .int x1_2), (0, .ref (ad 258))] dX11_layWays_52 (by decide) rfl ?_
        refine g_aload_n C 4 dX11_layWays_54 rfl ?_
        refine g_get C (.ref (ad 295)) 51 in_X11_layWays_11 (List.mem_of_getElem? (i := 2) rfl) (by decide) (ce_model ad cs _ _) rfl (by decide) rfl rfl dX11_layWays_55 ?_
        refine g_bipush C 10 dX11_layWays_58 (by decide) ?_
        refine g_iload_n C 3 dX11_layWays_60 rfl ?_
        refine g_imul C dX11_layWays_61 ?_
        refine g_ni (fun v25 ev25 => ?_)
        try have fv25 := fmul (by decide : (10 : Int32).toInt = 10) rfl ev25 (by as_aux_lemma => omega) (by as_aux_lemma => omega)
        refine g_iload_n C 2 dX11_layWays_62 rfl ?_
        refine g_iadd C dX11_layWays_63 ?_
        refine g_ni (fun v26 ev26 => ?_)
        try have fv26 := fadd rfl rfl ev26 (by as_aux_lemma => omega) (by as_aux_lemma => omega)
        refine g_dup2 C dX11_layWays_64 rfl rfl ?_
        have nx1_2 := ixn (x := x1_2) (by as_aux_lemma => omega)
        have nx2_12 := ixn (x := x2_12) (by as_aux_lemma => omega)
        have nv26 := ixn (x := v26) (by as_aux_lemma => omega)
        have iv26 : v26.toNatClampNeg = 10 * x1_2.toNatClampNeg + x2_12.toNatClampNeg := by as_aux_lemma => omega
        refine g_lald C (by decide) (ce_m_beats ad cs _ _) (fin' (n := 100) rfl (by as_aux_lemma => omega) (by as_aux_lemma => omega)) dX11_layWays_65 ?_
        refine g_nl (fun v27 ev27 => ?_)
        have gv27 : v27 = L_34 295 v26.toNatClampNeg := ev27.trans (congrFun p295 _)
        have gv27 := cg1L (f := L_34 295) gv27 iv26
        have tv27 := congrArg Int64.toInt gv27
        refine g_iload C 0 dX11_layWays_66 rfl ?_
        refine g_bipush C (-9) dX11_layWays_68 (by decide) ?_
        refine g_icmp_eq C 95 dX11_layWays_70 (by decide) (fun c28 => ?_) (fun c28 => ?_)
        ·
          have f29 := feq rfl (by decide : ((-9) : Int32).toInt = (-9)) c28
          refine g_lconst C 0 dX11_layWays_95 (by decide) ?_
          refine g_ladd C dX11_layWays_96 ?_
          refine g_nl (fun v30 ev30 => ?_)
          try have fv30 := fladd rfl (by decide : (0 : Int64).toInt = 0) ev30 (by as_aux_lemma => omega) (by as_aux_lemma => omega)
          have nx1_2 := ixn (x := x1_2) (by as_aux_lemma => omega)
          have nx2_12 := ixn (x := x2_12) (by as_aux_lemma => omega)
          have nv26 := ixn (x := v26) (by as_aux_lemma => omega)
          have iv26 : v26.toNatClampNeg = 10 * x1_2.toNatClampNeg + x2_12.toNatClampNeg := by as_aux_lemma => omega
          refine g_last C (by decide) (ce_m_beats ad cs _ _) (by rw [sJ_k]; rfl) (fin' (n := 100) rfl (by as_aux_lemma => omega) (by as_aux_lemma => omega)) dX11_layWays_97 ?_
          refine g_nmL (fun L31 hL31 => ?_)
          have hG : ∀ k i, k ≠ 295 ∧ k ≠ 296 → L31 k i = L k i := fun k i hk => by (rw [hL31, sJ_at, if_neg (by as_aux_lemma => omega)]; try exact hG k i hk)
          have p296 : L31 296 = L_34 296 := by rw [hL31, sJ_n _ _ _ (by decide)]; try exact p296
          obtain ⟨v32, ev32⟩ : ∃ y : Int32, y = x3_34 + 1 := ⟨_, rfl⟩
          try have fv32 := fadd rfl (by decide : (1 : Int32).toInt = 1) ev32 (by as_aux_lemma => omega) (by as_aux_lemma => omega)
          refine g_iinc C 1 v32 [(3, .int v32), (4, .int r22), (2, .int x2_12), (1, .int x1_2), (0, .ref (ad 258))] dX11_layWays_98 rfl (by rw [ev32]; rfl) (by decide) rfl ?_
          refine g_goto C 34 dX11_layWays_101 (by decide) ?_
          refine g_lv [0, 2, 3, 4] [(3, .int v32), (2, .int x2_12), (1, .int x1_2), (0, .ref (ad 258))] rfl ?_
          exact ih_34 (v32, M_34, L31) ⟨by show 0 ≤ v32.toInt; omega, by show v32.toInt ≤ 40; omega, hI, hF, hG⟩ (by show (41 - v32.toInt).toNat < (41 - x3_34.toInt).toNat; omega)
        ·
          have f33 := fne rfl (by decide : ((-9) : Int32).toInt = (-9)) c28
          refine g_aload_n C 4 dX11_layWays_73 rfl ?_
          refine g_iload C 0 dX11_layWays_74 rfl ?_
          refine g_iload_n C 3 dX11_layWays_76 rfl ?_
          refine g_iload_n C 2 dX11_layWays_77 rfl ?_
          refine g_callVi C (n := 3) (As := [.int r22, .int x1_2, .int x2_12]) (st := [.long v27, .int v26, .ref (ad 295)]) (s_X11_isAheadOn l D ad cs _ _ r22 x1_2 x2_12 hI ⟨by as_aux_lemma => omega, by as_aux_lemma => omega⟩) gX11_layWays_X11_isAheadOn rfl rfl rfl (by decide +kernel) ⟨Nat.le_of_ble_eq_true rfl, Nat.le_of_ble_eq_true rfl⟩ rfl (Nat.le_of_ble_eq_true rfl) ⟨Nat.zero_le _, Nat.zero_le _⟩ (by decide) (ce_model ad cs _ _) rfl rfl dX11_layWays_78 (fun r34 M35 L36 hr34 => ?_)
          obtain ⟨hq1, hq2, hr34⟩ := hr34
          obtain rfl := hq1.symm
          obtain rfl := hq2.symm
          obtain ⟨bar34, bbr34⟩ := hr34
          refine g_if_eq C 95 dX11_layWays_81 (by decide) (fun c37 => ?_) (fun c37 => ?_)
          ·
            have f38 := feq rfl (by decide : (0 : Int32).toInt = 0) c37
            refine g_lconst C 0 dX11_layWays_95 (by decide) ?_
            refine g_ladd C dX11_layWays_96 ?_
            refine g_nl (fun v39 ev39 => ?_)
            try have fv39 := fladd rfl (by decide : (0 : Int64).toInt = 0) ev39 (by as_aux_lemma => omega) (by as_aux_lemma => omega)
            have nx1_2 := ixn (x := x1_2) (by as_aux_lemma => omega)
            have nx2_12 := ixn (x := x2_12) (by as_aux_lemma => omega)
            have nv26 := ixn (x := v26) (by as_aux_lemma => omega)
            have iv26 : v26.toNatClampNeg = 10 * x1_2.toNatClampNeg + x2_12.toNatClampNeg := by as_aux_lemma => omega
            refine g_last C (by decide) (ce_m_beats ad cs _ _) (by rw [sJ_k]; rfl) (fin' (n := 100) rfl (by as_aux_lemma => omega) (by as_aux_lemma => omega)) dX11_layWays_97 ?_
            refine g_nmL (fun L40 hL40 => ?_)
            have hG : ∀ k i, k ≠ 295 ∧ k ≠ 296 → L40 k i = L k i := fun k i hk => by (rw [hL40, sJ_at, if_neg (by as_aux_lemma => omega)]; try exact hG k i hk)
            have p296 : L40 296 = L_34 296 := by rw [hL40, sJ_n _ _ _ (by decide)]; try exact p296
            obtain ⟨v41, ev41⟩ : ∃ y : Int32, y = x3_34 + 1 := ⟨_, rfl⟩
            try have fv41 := fadd rfl (by decide : (1 : Int32).toInt = 1) ev41 (by as_aux_lemma => omega) (by as_aux_lemma => omega)
            refine g_iinc C 1 v41 [(3, .int v41), (4, .int r22), (2, .int x2_12), (1, .int x1_2), (0, .ref (ad 258))] dX11_layWays_98 rfl (by rw [ev41]; rfl) (by decide) rfl ?_
            refine g_goto C 34 dX11_layWays_101 (by decide) ?_
            refine g_lv [0, 2, 3, 4] [(3, .int v41), (2, .int x2_12), (1, .int x1_2), (0, .ref (ad 258))] rfl ?_
            exact ih_34 (v41, M_34, L40) ⟨by show 0 ≤ v41.toInt; omega, by show v41.toInt ≤ 40; omega, hI, hF, hG⟩ (by show (41 - v41.toInt).toNat < (41 - x3_34.toInt).toNat; omega)
          ·
            have f42 := fne rfl (by decide : (0 : Int32).toInt = 0) c37
            refine g_aload_n C 4 dX11_layWays_84 rfl ?_
            refine g_get C (.ref (ad 262)) 6 in_X11_layWays_11 (List.mem_of_getElem? (i := 5) rfl) (by decide) (ce_model ad cs _ _) rfl (by decide) rfl rfl dX11_layWays_85 ?_
            refine g_iload C 0 dX11_layWays_88 rfl ?_
            refine g_iald C (by decide) (ce_m_papersOf ad cs _ _) (fin' (n := 60) rfl (by as_aux_lemma => omega) (by as_aux_lemma => omega)) dX11_layWays_90 ?_
            refine g_ni (fun v43 ev43 => ?_)
            have gv43 : v43 = M 262 r22.toNatClampNeg := ev43.trans (hF 262 r22.toNatClampNeg trivial)
            have tv43 := congrArg Int32.toInt gv43
            obtain ⟨bv43, dv43⟩ := (show rg 0 100000 v43 from (by rw [ev43]; exact hI 262 r22.toNatClampNeg))
            refine g_i2l C dX11_layWays_91 ?_
            refine g_nl (fun v44 ev44 => ?_)
            have fv44 := fi2l rfl ev44
            refine g_goto C 96 dX11_layWays_92 (by decide) ?_
            refine g_ladd C dX11_layWays_96 ?_
            refine g_nl (fun v45 ev45 => ?_)
            try have fv45 := fladd rfl rfl ev45 (by as_aux_lemma => omega) (by as_aux_lemma => omega)
            have nx1_2 := ixn (x := x1_2) (by as_aux_lemma => omega)
            have nx2_12 := ixn (x := x2_12) (by as_aux_lemma => omega)
            have nv26 := ixn (x := v26) (by as_aux_lemma => omega)
            have iv26 : v26.toNatClampNeg = 10 * x1_2.toNatClampNeg + x2_12.toNatClampNeg := by as_aux_lemma => omega
            refine g_last C (by decide) (ce_m_beats ad cs _ _) (by rw [sJ_k]; rfl) (fin' (n := 100) rfl (by as_aux_lemma => omega) (by as_aux_lemma => omega)) dX11_layWays_97 ?_
            refine g_nmL (fun L46 hL46 => ?_)
            have hG : ∀ k i, k ≠ 295 ∧ k ≠ 296 → L46 k i = L k i := fun k i hk => by (rw [hL46, sJ_at, if_neg (by as_aux_lemma => omega)]; try exact hG k i hk)
            have p296 : L46 296 = L_34 296 := by rw [hL46, sJ_n _ _ _ (by decide)]; try exact p296
            obtain ⟨v47, ev47⟩ : ∃ y : Int32, y = x3_34 + 1 := ⟨_, rfl⟩
            try have fv47 := fadd rfl (by decide : (1 : Int32).toInt = 1) ev47 (by as_aux_lemma => omega) (by as_aux_lemma => omega)
            refine g_iinc C 1 v47 [(3, .int v47), (4, .int r22), (2, .int x2_12), (1, .int x1_2), (0, .ref (ad 258))] dX11_layWays_98 rfl (by rw [ev47]; rfl) (by decide) rfl ?_
            refine g_goto C 34 dX11_layWays_101 (by decide) ?_
            refine g_lv [0, 2, 3, 4] [(3, .int v47), (2, .int x2_12), (1, .int x1_2), (0, .ref (ad 258))] rfl ?_
            exact ih_34 (v47, M_34, L46) ⟨by show 0 ≤ v47.toInt; omega, by show v47.toInt ≤ 40; omega, hI, hF, hG⟩ (by show (41 - v47.toInt).toNat < (41 - x3_34.toInt).toNat; omega)
theorem dX11_tallyWays_0 : decode cX11_tallyWays 0 = .ok (.aload_n 0, 1) := dw42 (n := 0) (i := 0) kc_cX11_tallyWays_0 (by decide +kernel)
theorem dX11_tallyWays_1 : decode cX11_tallyWays 1 = .ok (.invokevirtual 214, 3) := dw182 (n := 0) (i := 1) (a := 0) (b := 214) kc_cX11_tallyWays_0 (by decide +kernel) (by decide)
set_option maxRecDepth 20000 in
theorem ggX11_tallyWays_X11_noTallies : GoodIn wsX11_tallyWays wsX11_noTallies := (gk_code 9 rfl (gk_fieldLink 4 rfl (gk_fieldLink 10 rfl (gk_lays 11 rfl (gk_laysFinal 12 rfl (gk_lays 13 rfl (gk_laysFinal 14 rfl (gk_lays 15 rfl (gk_laysFinal 16 rfl (gk_laysFinal 17 rfl (gk_laysFinal 18 rfl (gk_laysFinal 19 rfl (gk_lays 20 rfl (gk_laysFinal 21 rfl (gk_laysFinal 22 rfl (gk_laysFinal 23 rfl (gk_laysFinal 24 rfl (gk_lays 25 rfl (gk_laysFinal 26 rfl (gk_laysFinal 27 rfl (gk_laysFinal 28 rfl (gk_laysFinal 29 rfl (gk_laysFinal 30 rfl (gk_laysFinal 31 rfl (gk_laysFinal 32 rfl (gk_laysFinal 33 rfl (gk_lays 34 rfl (gk_lays 35 rfl (gk_lays 36 rfl (gk_lays 37 rfl (gk_lays 38 rfl (gk_lays 39 rfl (gk_lays 40 rfl (gk_laysFinal 41 rfl (gk_lays 42 rfl (gk_laysFinal 43 rfl (gk_laysFinal 44 rfl (gk_laysFinal 45 rfl (gk_laysFinal 46 rfl (gk_laysFinal 47 rfl (gk_laysFinal 48 rfl (gk_laysFinal 49 rfl (gk_laysFinal 50 rfl (gk_laysFinal 51 rfl (gk_laysFinal 52 rfl (gk_lays 53 rfl (gk_laysFinal 54 rfl (gk_lays 55 rfl (gk_laysFinal 56 rfl (gk_laysFinal 57 rfl (gk_laysFinal 58 rfl (gk_laysFinal 59 rfl (gk_laysFinal 60 rfl (gk_laysFinal 61 rfl (gk_laysFinal 62 rfl (gk_laysFinal 63 rfl (gn)))))))))))))))))))))))))))))))))))))))))))))))))))))))))
set_option maxRecDepth 20000 in
theorem gX11_tallyWays_X11_noTallies : GoodIn wsX11_tallyWays (wsV RX11 214 RX11 yX11_noTallies wsX11_noTallies) := goodIn_app (gk_methodLink 5 rfl (gk_instanceMethod 6 rfl (gk_selects 7 rfl (gk_initialized 8 rfl (gn))))) ggX11_tallyWays_X11_noTallies
theorem dX11_tallyWays_4 : decode cX11_tallyWays 4 = .ok (.iconst 0, 1) := dw3 (n := 0) (i := 4) kc_cX11_tallyWays_0 (by decide +kernel)
theorem dX11_tallyWays_5 : decode cX11_tallyWays 5 = .ok (.istore_n 1, 1) := dw60 (n := 0) (i := 5) kc_cX11_tallyWays_0 (by decide +kernel)
theorem dX11_tallyWays_6 : decode cX11_tallyWays 6 = .ok (.iload_n 1, 1) := dw27 (n := 0) (i := 6) kc_cX11_tallyWays_0 (by decide +kernel)
theorem dX11_tallyWays_7 : decode cX11_tallyWays 7 = .ok (.aload_n 0, 1) := dw42 (n := 0) (i := 7) kc_cX11_tallyWays_0 (by decide +kernel)
theorem dX11_tallyWays_8 : decode cX11_tallyWays 8 = .ok (.getfield 137, 3) := dw180 (n := 0) (i := 8) (a := 0) (b := 137) kc_cX11_tallyWays_0 (by decide +kernel) (by decide)
theorem in_X11_tallyWays_11 : ∀ w ∈ u_ws RX11 TX11 53, w ∈ wsX11_tallyWays := fun _ h => List.mem_cons_of_mem _ (List.mem_append_right _ h)
theorem dX11_tallyWays_11 : decode cX11_tallyWays 11 = .ok (.if_icmp .ge 94, 3) := dw162 (n := 0) (i := 11) (a := 0) (b := 94) kc_cX11_tallyWays_0 (by decide +kernel) (by decide)
theorem dX11_tallyWays_105 : decode cX11_tallyWays 105 = .ok (.return_, 1) := dw177 (n := 96) (i := 9) kc_cX11_tallyWays_3 (by decide +kernel)
theorem dX11_tallyWays_14 : decode cX11_tallyWays 14 = .ok (.iconst 0, 1) := dw3 (n := 0) (i := 14) kc_cX11_tallyWays_0 (by decide +kernel)
theorem dX11_tallyWays_15 : decode cX11_tallyWays 15 = .ok (.istore_n 2, 1) := dw61 (n := 0) (i := 15) kc_cX11_tallyWays_0 (by decide +kernel)
theorem dX11_tallyWays_16 : decode cX11_tallyWays 16 = .ok (.iconst 0, 1) := dw3 (n := 0) (i := 16) kc_cX11_tallyWays_0 (by decide +kernel)
theorem dX11_tallyWays_17 : decode cX11_tallyWays 17 = .ok (.istore_n 3, 1) := dw62 (n := 0) (i := 17) kc_cX11_tallyWays_0 (by decide +kernel)
theorem dX11_tallyWays_18 : decode cX11_tallyWays 18 = .ok (.iload_n 3, 1) := dw29 (n := 0) (i := 18) kc_cX11_tallyWays_0 (by decide +kernel)
theorem dX11_tallyWays_19 : decode cX11_tallyWays 19 = .ok (.aload_n 0, 1) := dw42 (n := 0) (i := 19) kc_cX11_tallyWays_0 (by decide +kernel)
theorem dX11_tallyWays_20 : decode cX11_tallyWays 20 = .ok (.getfield 137, 3) := dw180 (n := 0) (i := 20) (a := 0) (b := 137) kc_cX11_tallyWays_0 (by decide +kernel) (by decide)
theorem dX11_tallyWays_23 : decode cX11_tallyWays 23 = .ok (.if_icmp .ge 76, 3) := dw162 (n := 0) (i := 23) (a := 0) (b := 76) kc_cX11_tallyWays_0 (by decide +kernel) (by decide)
theorem dX11_tallyWays_99 : decode cX11_tallyWays 99 = .ok (.iinc 1 1, 3) := by decide +kernel
theorem dX11_tallyWays_102 : decode cX11_tallyWays 102 = .ok (.goto (-96), 3) := dw167 (n := 96) (i := 6) (a := 255) (b := 160) kc_cX11_tallyWays_3 (by decide +kernel) (by decide)
theorem dX11_tallyWays_26 : decode cX11_tallyWays 26 = .ok (.aload_n 0, 1) := dw42 (n := 0) (i := 26) kc_cX11_tallyWays_0 (by decide +kernel)
theorem dX11_tallyWays_27 : decode cX11_tallyWays 27 = .ok (.getfield 81, 3) := dw180 (n := 0) (i := 27) (a := 0) (b := 81) kc_cX11_tallyWays_0 (by decide +kernel) (by decide)
theorem dX11_tallyWays_30 : decode cX11_tallyWays 30 = .ok (.iload_n 1, 1) := dw27 (n := 0) (i := 30) kc_cX11_tallyWays_0 (by decide +kernel)
theorem dX11_tallyWays_31 : decode cX11_tallyWays 31 = .ok (.baload, 1) := dw51 (n := 0) (i := 31) kc_cX11_tallyWays_0 (by decide +kernel)
theorem dX11_tallyWays_32 : decode cX11_tallyWays 32 = .ok (.ifCond .eq 67, 3) := dw153 (n := 32) (i := 0) (a := 0) (b := 67) kc_cX11_tallyWays_1 (by decide +kernel) (by decide)
theorem dX11_tallyWays_35 : decode cX11_tallyWays 35 = .ok (.iload_n 3, 1) := dw29 (n := 32) (i := 3) kc_cX11_tallyWays_1 (by decide +kernel)
theorem dX11_tallyWays_36 : decode cX11_tallyWays 36 = .ok (.iload_n 1, 1) := dw27 (n := 32) (i := 4) kc_cX11_tallyWays_1 (by decide +kernel)
theorem dX11_tallyWays_37 : decode cX11_tallyWays 37 = .ok (.if_icmp .eq 56, 3) := dw159 (n := 32) (i := 5) (a := 0) (b := 56) kc_cX11_tallyWays_1 (by decide +kernel) (by decide)
theorem dX11_tallyWays_93 : decode cX11_tallyWays 93 = .ok (.iinc 3 1, 3) := by decide +kernel
theorem dX11_tallyWays_96 : decode cX11_tallyWays 96 = .ok (.goto (-78), 3) := dw167 (n := 96) (i := 0) (a := 255) (b := 178) kc_cX11_tallyWays_3 (by decide +kernel) (by decide)
theorem dX11_tallyWays_40 : decode cX11_tallyWays 40 = .ok (.aload_n 0, 1) := dw42 (n := 32) (i := 8) kc_cX11_tallyWays_1 (by decide +kernel)
theorem dX11_tallyWays_41 : decode cX11_tallyWays 41 = .ok (.getfield 81, 3) := dw180 (n := 32) (i := 9) (a := 0) (b := 81) kc_cX11_tallyWays_1 (by decide +kernel) (by decide)
theorem dX11_tallyWays_44 : decode cX11_tallyWays 44 = .ok (.iload_n 3, 1) := dw29 (n := 32) (i := 12) kc_cX11_tallyWays_1 (by decide +kernel)
theorem dX11_tallyWays_45 : decode cX11_tallyWays 45 = .ok (.baload, 1) := dw51 (n := 32) (i := 13) kc_cX11_tallyWays_1 (by decide +kernel)
theorem dX11_tallyWays_46 : decode cX11_tallyWays 46 = .ok (.ifCond .eq 47, 3) := dw153 (n := 32) (i := 14) (a := 0) (b := 47) kc_cX11_tallyWays_1 (by decide +kernel) (by decide)
theorem dX11_tallyWays_49 : decode cX11_tallyWays 49 = .ok (.iload_n 2, 1) := dw28 (n := 32) (i := 17) kc_cX11_tallyWays_1 (by decide +kernel)
theorem dX11_tallyWays_50 : decode cX11_tallyWays 50 = .ok (.ifCond .eq 24, 3) := dw153 (n := 32) (i := 18) (a := 0) (b := 24) kc_cX11_tallyWays_1 (by decide +kernel) (by decide)
theorem dX11_tallyWays_74 : decode cX11_tallyWays 74 = .ok (.aload_n 0, 1) := dw42 (n := 64) (i := 10) kc_cX11_tallyWays_2 (by decide +kernel)
theorem dX11_tallyWays_75 : decode cX11_tallyWays 75 = .ok (.getfield 87, 3) := dw180 (n := 64) (i := 11) (a := 0) (b := 87) kc_cX11_tallyWays_2 (by decide +kernel) (by decide)
theorem dX11_tallyWays_78 : decode cX11_tallyWays 78 = .ok (.iload_n 1, 1) := dw27 (n := 64) (i := 14) kc_cX11_tallyWays_2 (by decide +kernel)
theorem dX11_tallyWays_79 : decode cX11_tallyWays 79 = .ok (.aload_n 0, 1) := dw42 (n := 64) (i := 15) kc_cX11_tallyWays_2 (by decide +kernel)
theorem dX11_tallyWays_80 : decode cX11_tallyWays 80 = .ok (.getfield 123, 3) := dw180 (n := 64) (i := 16) (a := 0) (b := 123) kc_cX11_tallyWays_2 (by decide +kernel) (by decide)
theorem dX11_tallyWays_83 : decode cX11_tallyWays 83 = .ok (.bipush 10, 2) := dw16 (n := 64) (i := 19) (a := 10) kc_cX11_tallyWays_2 (by decide +kernel) (by decide)
theorem dX11_tallyWays_85 : decode cX11_tallyWays 85 = .ok (.iload_n 1, 1) := dw27 (n := 64) (i := 21) kc_cX11_tallyWays_2 (by decide +kernel)
theorem dX11_tallyWays_86 : decode cX11_tallyWays 86 = .ok (.imul, 1) := dw104 (n := 64) (i := 22) kc_cX11_tallyWays_2 (by decide +kernel)
theorem dX11_tallyWays_87 : decode cX11_tallyWays 87 = .ok (.iload_n 3, 1) := dw29 (n := 64) (i := 23) kc_cX11_tallyWays_2 (by decide +kernel)
theorem dX11_tallyWays_88 : decode cX11_tallyWays 88 = .ok (.iadd, 1) := dw96 (n := 64) (i := 24) kc_cX11_tallyWays_2 (by decide +kernel)
theorem dX11_tallyWays_89 : decode cX11_tallyWays 89 = .ok (.laload, 1) := dw47 (n := 64) (i := 25) kc_cX11_tallyWays_2 (by decide +kernel)
theorem dX11_tallyWays_90 : decode cX11_tallyWays 90 = .ok (.lastore, 1) := dw80 (n := 64) (i := 26) kc_cX11_tallyWays_2 (by decide +kernel)
theorem dX11_tallyWays_91 : decode cX11_tallyWays 91 = .ok (.iconst 1, 1) := dw4 (n := 64) (i := 27) kc_cX11_tallyWays_2 (by decide +kernel)
theorem dX11_tallyWays_92 : decode cX11_tallyWays 92 = .ok (.istore_n 2, 1) := dw61 (n := 64) (i := 28) kc_cX11_tallyWays_2 (by decide +kernel)
theorem dX11_tallyWays_53 : decode cX11_tallyWays 53 = .ok (.aload_n 0, 1) := dw42 (n := 32) (i := 21) kc_cX11_tallyWays_1 (by decide +kernel)
theorem dX11_tallyWays_54 : decode cX11_tallyWays 54 = .ok (.getfield 123, 3) := dw180 (n := 32) (i := 22) (a := 0) (b := 123) kc_cX11_tallyWays_1 (by decide +kernel) (by decide)
theorem dX11_tallyWays_57 : decode cX11_tallyWays 57 = .ok (.bipush 10, 2) := dw16 (n := 32) (i := 25) (a := 10) kc_cX11_tallyWays_1 (by decide +kernel) (by decide)
theorem dX11_tallyWays_59 : decode cX11_tallyWays 59 = .ok (.iload_n 1, 1) := dw27 (n := 32) (i := 27) kc_cX11_tallyWays_1 (by decide +kernel)
theorem dX11_tallyWays_60 : decode cX11_tallyWays 60 = .ok (.imul, 1) := dw104 (n := 32) (i := 28) kc_cX11_tallyWays_1 (by decide +kernel)
theorem dX11_tallyWays_61 : decode cX11_tallyWays 61 = .ok (.iload_n 3, 1) := dw29 (n := 32) (i := 29) kc_cX11_tallyWays_1 (by decide +kernel)
theorem dX11_tallyWays_62 : decode cX11_tallyWays 62 = .ok (.iadd, 1) := dw96 (n := 32) (i := 30) kc_cX11_tallyWays_1 (by decide +kernel)
theorem dX11_tallyWays_63 : decode cX11_tallyWays 63 = .ok (.laload, 1) := dw47 (n := 32) (i := 31) kc_cX11_tallyWays_1 (by decide +kernel)
theorem dX11_tallyWays_64 : decode cX11_tallyWays 64 = .ok (.aload_n 0, 1) := dw42 (n := 64) (i := 0) kc_cX11_tallyWays_2 (by decide +kernel)
theorem dX11_tallyWays_65 : decode cX11_tallyWays 65 = .ok (.getfield 87, 3) := dw180 (n := 64) (i := 1) (a := 0) (b := 87) kc_cX11_tallyWays_2 (by decide +kernel) (by decide)
theorem dX11_tallyWays_68 : decode cX11_tallyWays 68 = .ok (.iload_n 1, 1) := dw27 (n := 64) (i := 4) kc_cX11_tallyWays_2 (by decide +kernel)
theorem dX11_tallyWays_69 : decode cX11_tallyWays 69 = .ok (.laload, 1) := dw47 (n := 64) (i := 5) kc_cX11_tallyWays_2 (by decide +kernel)
theorem dX11_tallyWays_70 : decode cX11_tallyWays 70 = .ok (.lcmp, 1) := dw148 (n := 64) (i := 6) kc_cX11_tallyWays_2 (by decide +kernel)
theorem dX11_tallyWays_71 : decode cX11_tallyWays 71 = .ok (.ifCond .ge 22, 3) := dw156 (n := 64) (i := 7) (a := 0) (b := 22) kc_cX11_tallyWays_2 (by decide +kernel) (by decide)
set_option maxHeartbeats 4000000 in
set_option maxRecDepth 100000 in
theorem s_X11_tallyWays (l : Launch) (D : va_G) (ad : Nat → Nat) (cs : Nat → ClassId) (M : MI) (L : ML)  (hI : IR M) : Cv l yX11_tallyWays wsX11_tallyWays ({ frames := 1, cells := 0, slots := 0, locals := 21 }) D ad cs [.ref (ad 258)] M L (fun M1 L1 => (True) ∧ IR M1 ∧ (∀ k i, True → M1 k i = M k i) ∧ ∀ k i, k ≠ 284 ∧ k ≠ 285 → L1 k i = L k i) := by
  refine enter_v RX11 rfl [(0, .ref (ad 258))] rfl (Nat.le_of_ble_eq_true rfl) (by decide +kernel) rfl ?_
  intro p e s m below meth c C hr
  have hF : ∀ k i, True → M k i = M k i := fun _ _ _ => rfl
  have hG : ∀ k i, k ≠ 284 ∧ k ≠ 285 → L k i = L k i := fun _ _ _ => rfl
  have p284 : L 284 = L 284 := rfl
  have p285 : L 285 = L 285 := rfl
  refine g_aload_n C 0 dX11_tallyWays_0 rfl ?_
  refine g_callVv C (n := 0) (As := []) (st := []) (s_X11_noTallies l D ad cs _ _  hI ) gX11_tallyWays_X11_noTallies rfl rfl rfl (by decide +kernel) ⟨Nat.le_of_ble_eq_true rfl, Nat.le_of_ble_eq_true rfl⟩ rfl (Nat.le_of_ble_eq_true rfl) ⟨Nat.zero_le _, Nat.zero_le _⟩ (by decide) (ce_model ad cs _ _) rfl rfl dX11_tallyWays_1 (fun M2 L3 hr1 => ?_)
  obtain ⟨hr1, hI, hFr1, hGr1⟩ := hr1
  have hF : ∀ k i, True → M2 k i = M k i := fun k i hk => by (rw [hFr1 k i trivial]; try exact hF k i hk)
  have hG : ∀ k i, k ≠ 284 ∧ k ≠ 285 → L3 k i = L k i := fun k i hk => by (rw [hGr1 k i (by as_aux_lemma => omega)]; try exact hG k i hk)
  have p284 : L3 284 = L3 284 := rfl
  have p285 : L3 285 = L3 285 := rfl
  refine g_iconst C 0 dX11_tallyWays_4 (by decide) ?_
  refine g_istore_n C [(1, .int 0), (0, .ref (ad 258))] dX11_tallyWays_5 (by decide) rfl ?_
  have zy4 : (0 : Int32).toInt = 0 := by decide
  refine g_loop (α := Int32 × MI × ML) (fun a => (11 - a.1.toInt).toNat) (fun a => (0 ≤ a.1.toInt) ∧ (a.1.toInt ≤ 10) ∧ IR a.2.1 ∧ (∀ k i, True → a.2.1 k i = M k i) ∧ (∀ k i, k ≠ 284 ∧ k ≠ 285 → a.2.2 k i = L k i)) (fun a => a.2.1) (fun a => a.2.2) (fun a => [(1, .int a.1), (0, .ref (ad 258))]) ((0 : Int32), M2, L3) ⟨by show 0 ≤ (0 : Int32).toInt; omega, by show (0 : Int32).toInt ≤ 10; omega, hI, hF, hG⟩ rfl rfl rfl ?_
  rintro ⟨x1_6, M_6, L_6⟩ ⟨j6_0, j6_1, hI, hF, hG⟩ ih_6
  dsimp only at j6_0 j6_1 hI hF hG ih_6 ⊢
  have p284 : L_6 284 = L_6 284 := rfl
  have p285 : L_6 285 = L_6 285 := rfl
  refine g_iload_n C 0 dX11_tallyWays_6 rfl ?_
  refine g_aload_n C 1 dX11_tallyWays_7 rfl ?_
  refine g_get C (.int (M_6 258 2)) 2 in_X11_tallyWays_11 (List.mem_of_getElem? (i := 1) rfl) (by decide) (ce_model ad cs _ _) rfl (by decide) rfl rfl dX11_tallyWays_8 ?_
  refine g_ni (fun v5 ev5 => ?_)
  have gv5 : v5 = M 258 2 := ev5.trans (hF 258 2 trivial)
  have tv5 := congrArg Int32.toInt gv5
  obtain ⟨bv5, dv5⟩ := (show rg 0 10 v5 from (by rw [ev5]; exact hI 258 2))
  refine g_icmp_ge C 105 dX11_tallyWays_11 (by decide) (fun c6 => ?_) (fun c6 => ?_)
  ·
    have f7 := fle rfl rfl c6
    exact g_vret C hr ⟨trivial, hI, hF, hG⟩ dX11_tallyWays_105
  ·
    have f8 := fnle rfl rfl c6
    refine g_iconst C 0 dX11_tallyWays_14 (by decide) ?_
    refine g_istore_n C [(2, .int 0), (1, .int x1_6), (0, .ref (ad 258))] dX11_tallyWays_15 (by decide) rfl ?_
    refine g_iconst C 0 dX11_tallyWays_16 (by decide) ?_
    refine g_istore_n C [(3, .int 0), (2, .int 0), (1, .int x1_6), (0, .ref (ad 258))] dX11_tallyWays_17 (by decide) rfl ?_
    have zy9 : (0 : Int32).toInt = 0 := by decide
    have zy10 : (0 : Int32).toInt = 0 := by decide
    refine g_loop (α := Int32 × Int32 × MI × ML) (fun a => (11 - a.1.toInt).toNat) (fun a => (0 ≤ a.1.toInt) ∧ (a.1.toInt ≤ 10) ∧ IR a.2.2.1 ∧ (∀ k i, True → a.2.2.1 k i = M k i) ∧ (∀ k i, k ≠ 284 ∧ k ≠ 285 → a.2.2.2 k i = L k i)) (fun a => a.2.2.1) (fun a => a.2.2.2) (fun a => [(3, .int a.1), (2, .int a.2.1), (1, .int x1_6), (0, .ref (ad 258))]) ((0 : Int32), (0 : Int32), M_6, L_6) ⟨by show 0 ≤ (0 : Int32).toInt; omega, by show (0 : Int32).toInt ≤ 10; omega, hI, hF, hG⟩ rfl rfl rfl ?_
    rintro ⟨x3_18, x2_18, M_18, L_18⟩ ⟨j18_0, j18_1, hI, hF, hG⟩ ih_18
    dsimp only at j18_0 j18_1 hI hF hG ih_18 ⊢
    have p284 : L_18 284 = L_18 284 := rfl
    have p285 : L_18 285 = L_18 285 := rfl
    refine g_iload_n C 0 dX11_tallyWays_18 rfl ?_
    refine g_aload_n C 3 dX11_tallyWays_19 rfl ?_
    refine g_get C (.int (M_18 258 2)) 2 in_X11_tallyWays_11 (List.mem_of_getElem? (i := 1) rfl) (by decide) (ce_model ad cs _ _) rfl (by decide) rfl rfl dX11_tallyWays_20 ?_
    refine g_ni (fun v11 ev11 => ?_)
    have gv11 : v11 = M 258 2 := ev11.trans (hF 258 2 trivial)
    have tv11 := congrArg Int32.toInt gv11
    obtain ⟨bv11, dv11⟩ := (show rg 0 10 v11 from (by rw [ev11]; exact hI 258 2))
    refine g_icmp_ge C 99 dX11_tallyWays_23 (by decide) (fun c12 => ?_) (fun c12 => ?_)
    ·
      have f13 := fle rfl rfl c12
      obtain ⟨v14, ev14⟩ : ∃ y : Int32, y = x1_6 + 1 := ⟨_, rfl⟩
      try have fv14 := fadd rfl (by decide : (1 : Int32).toInt = 1) ev14 (by as_aux_lemma => omega) (by as_aux_lemma => omega)
      refine g_iinc C 2 v14 [(1, .int v14), (3, .int x3_18), (2, .int x2_18), (0, .ref (ad 258))] dX11_tallyWays_99 rfl (by rw [ev14]; rfl) (by decide) rfl ?_
      refine g_goto C 6 dX11_tallyWays_102 (by decide) ?_
      refine g_lv [0, 3] [(1, .int v14), (0, .ref (ad 258))] rfl ?_
      exact ih_6 (v14, M_18, L_18) ⟨by show 0 ≤ v14.toInt; omega, by show v14.toInt ≤ 10; omega, hI, hF, hG⟩ (by show (11 - v14.toInt).toNat < (11 - x1_6.toInt).toNat; omega)
    ·
      have f15 := fnle rfl rfl c12
      refine g_aload_n C 3 dX11_tallyWays_26 rfl ?_
      refine g_get C (.ref (ad 282)) 36 in_X11_tallyWays_11 (List.mem_of_getElem? (i := 2) rfl) (by decide) (ce_model ad cs _ _) rfl (by decide) rfl rfl dX11_tallyWays_27 ?_
      refine g_iload_n C 2 dX11_tallyWays_30 rfl ?_
      refine g_zald C (by decide) (ce_m_isIn ad cs _ _) (fin' (n := 10) rfl (by as_aux_lemma => omega) (by as_aux_lemma => omega)) dX11_tallyWays_31 ?_
      refine g_ni (fun v16 ev16 => ?_)
      have gv16 : v16 = M 282 x1_6.toNatClampNeg := ev16.trans (hF 282 x1_6.toNatClampNeg trivial)
      have tv16 := congrArg Int32.toInt gv16
      refine g_if_eq C 99 dX11_tallyWays_32 (by decide) (fun c17 => ?_) (fun c17 => ?_)
      ·
        have f18 := feq rfl (by decide : (0 : Int32).toInt = 0) c17
        obtain ⟨v19, ev19⟩ : ∃ y : Int32, y = x1_6 + 1 := ⟨_, rfl⟩
        try have fv19 := fadd rfl (by decide : (1 : Int32).toInt = 1) ev19 (by as_aux_lemma => omega) (by as_aux_lemma => omega)
        refine g_iinc C 2 v19 [(1, .int v19), (3, .int x3_18), (2, .int x2_18), (0, .ref (ad 258))] dX11_tallyWays_99 rfl (by rw [ev19]; rfl) (by decide) rfl ?_
        refine g_goto C 6 dX11_tallyWays_102 (by decide) ?_
        refine g_lv [0, 3] [(1, .int v19), (0, .ref (ad 258))] rfl ?_
        exact ih_6 (v19, M_18, L_18) ⟨by show 0 ≤ v19.toInt; omega, by show v19.toInt ≤ 10; omega, hI, hF, hG⟩ (by show (11 - v19.toInt).toNat < (11 - x1_6.toInt).toNat; omega)
      ·
        have f20 := fne rfl (by decide : (0 : Int32).toInt = 0) c17
        refine g_iload_n C 0 dX11_tallyWays_35 rfl ?_
        refine g_iload_n C 2 dX11_tallyWays_36 rfl ?_
        refine g_icmp_eq C 93 dX11_tallyWays_37 (by decide) (fun c21 => ?_) (fun c21 => ?_)
        ·
          have f22 := feq rfl rfl c21
          obtain ⟨v23, ev23⟩ : ∃ y : Int32, y = x3_18 + 1 := ⟨_, rfl⟩
          try have fv23 := fadd rfl (by decide : (1 : Int32).toInt = 1) ev23 (by as_aux_lemma => omega) (by as_aux_lemma => omega)
          refine g_iinc C 0 v23 [(3, .int v23), (2, .int x2_18), (1, .int x1_6), (0, .ref (ad 258))] dX11_tallyWays_93 rfl (by rw [ev23]; rfl) (by decide) rfl ?_
          refine g_goto C 18 dX11_tallyWays_96 (by decide) ?_
          exact ih_18 (v23, x2_18, M_18, L_18) ⟨by show 0 ≤ v23.toInt; omega, by show v23.toInt ≤ 10; omega, hI, hF, hG⟩ (by show (11 - v23.toInt).toNat < (11 - x3_18.toInt).toNat; omega)
        ·
          have f24 := fne rfl rfl c21
          refine g_aload_n C 3 dX11_tallyWays_40 rfl ?_
          refine g_get C (.ref (ad 282)) 36 in_X11_tallyWays_11 (List.mem_of_getElem? (i := 2) rfl) (by decide) (ce_model ad cs _ _) rfl (by decide) rfl rfl dX11_tallyWays_41 ?_
          refine g_iload_n C 0 dX11_tallyWays_44 rfl ?_
          refine g_zald C (by decide) (ce_m_isIn ad cs _ _) (fin' (n := 10) rfl (by as_aux_lemma => omega) (by as_aux_lemma => omega)) dX11_tallyWays_45 ?_
          refine g_ni (fun v25 ev25 => ?_)
          have gv25 : v25 = M 282 x3_18.toNatClampNeg := ev25.trans (hF 282 x3_18.toNatClampNeg trivial)
          have tv25 := congrArg Int32.toInt gv25
          refine g_if_eq C 93 dX11_tallyWays_46 (by decide) (fun c26 => ?_) (fun c26 => ?_)
          ·
            have f27 := feq rfl (by decide : (0 : Int32).toInt = 0) c26
            obtain ⟨v28, ev28⟩ : ∃ y : Int32, y = x3_18 + 1 := ⟨_, rfl⟩
            try have fv28 := fadd rfl (by decide : (1 : Int32).toInt = 1) ev28 (by as_aux_lemma => omega) (by as_aux_lemma => omega)
            refine g_iinc C 0 v28 [(3, .int v28), (2, .int x2_18), (1, .int x1_6), (0, .ref (ad 258))] dX11_tallyWays_93 rfl (by rw [ev28]; rfl) (by decide) rfl ?_
            refine g_goto C 18 dX11_tallyWays_96 (by decide) ?_
            exact ih_18 (v28, x2_18, M_18, L_18) ⟨by show 0 ≤ v28.toInt; omega, by show v28.toInt ≤ 10; omega, hI, hF, hG⟩ (by show (11 - v28.toInt).toNat < (11 - x3_18.toInt).toNat; omega)
          ·
            have f29 := fne rfl (by decide : (0 : Int32).toInt = 0) c26
            refine g_iload_n C 1 dX11_tallyWays_49 rfl ?_
            refine g_if_eq C 74 dX11_tallyWays_50 (by decide) (fun c30 => ?_) (fun c30 => ?_)
            ·
              have f31 := feq rfl (by decide : (0 : Int32).toInt = 0) c30
              refine g_aload_n C 3 dX11_tallyWays_74 rfl ?_
              refine g_get C (.ref (ad 284)) 38 in_X11_tallyWays_11 (List.mem_of_getElem? (i := 4) rfl) (by decide) (ce_model ad cs _ _) rfl (by decide) rfl rfl dX11_tallyWays_75 ?_
              refine g_iload_n C 2 dX11_tallyWays_78 rfl ?_
              refine g_aload_n C 3 dX11_tallyWays_79 rfl ?_
              refine g_get C (.ref (ad 296)) 52 in_X11_tallyWays_11 (List.mem_of_getElem? (i := 3) rfl) (by decide) (ce_model ad cs _ _) rfl (by decide) rfl rfl dX11_tallyWays_80 ?_
              refine g_bipush C 10 dX11_tallyWays_83 (by decide) ?_
              refine g_iload_n C 2 dX11_tallyWays_85 rfl ?_
              refine g_imul C dX11_tallyWays_86 ?_
              refine g_ni (fun v32 ev32 => ?_)
              try have fv32 := fmul (by decide : (10 : Int32).toInt = 10) rfl ev32 (by as_aux_lemma => omega) (by as_aux_lemma => omega)
              refine g_iload_n C 0 dX11_tallyWays_87 rfl ?_
              refine g_iadd C dX11_tallyWays_88 ?_
              refine g_ni (fun v33 ev33 => ?_)
              try have fv33 := fadd rfl rfl ev33 (by as_aux_lemma => omega) (by as_aux_lemma => omega)
              have nx1_6 := ixn (x := x1_6) (by as_aux_lemma => omega)
              have nx3_18 := ixn (x := x3_18) (by as_aux_lemma => omega)
              have nv33 := ixn (x := v33) (by as_aux_lemma => omega)
              have iv33 : v33.toNatClampNeg = 10 * x1_6.toNatClampNeg + x3_18.toNatClampNeg := by as_aux_lemma => omega
              refine g_lald C (by decide) (ce_m_way ad cs _ _) (fin' (n := 100) rfl (by as_aux_lemma => omega) (by as_aux_lemma => omega)) dX11_tallyWays_89 ?_
              refine g_nl (fun v34 ev34 => ?_)
              have gv34 : v34 = L 296 v33.toNatClampNeg := ev34.trans (hG 296 _ (by as_aux_lemma => omega))
              have gv34 := cg1L (f := L 296) gv34 iv33
              have tv34 := congrArg Int64.toInt gv34
              refine g_last C (by decide) (ce_m_ups ad cs _ _) (by rw [sJ_k]; rfl) (fin' (n := 10) rfl (by as_aux_lemma => omega) (by as_aux_lemma => omega)) dX11_tallyWays_90 ?_
              refine g_nmL (fun L35 hL35 => ?_)
              have hG : ∀ k i, k ≠ 284 ∧ k ≠ 285 → L35 k i = L k i := fun k i hk => by (rw [hL35, sJ_at, if_neg (by as_aux_lemma => omega)]; try exact hG k i hk)
              have p285 : L35 285 = L_18 285 := by rw [hL35, sJ_n _ _ _ (by decide)]; try exact p285
              refine g_iconst C 1 dX11_tallyWays_91 (by decide) ?_
              refine g_istore_n C [(2, .int 1), (3, .int x3_18), (1, .int x1_6), (0, .ref (ad 258))] dX11_tallyWays_92 (by decide) rfl ?_
              obtain ⟨v36, ev36⟩ : ∃ y : Int32, y = x3_18 + 1 := ⟨_, rfl⟩
              try have fv36 := fadd rfl (by decide : (1 : Int32).toInt = 1) ev36 (by as_aux_lemma => omega) (by as_aux_lemma => omega)
              refine g_iinc C 1 v36 [(3, .int v36), (2, .int 1), (1, .int x1_6), (0, .ref (ad 258))] dX11_tallyWays_93 rfl (by rw [ev36]; rfl) (by decide) rfl ?_
              refine g_goto C 18 dX11_tallyWays_96 (by decide) ?_
              have zy37 : (1 : Int32).toInt = 1 := by decide
              exact ih_18 (v36, 1, M_18, L35) ⟨by show 0 ≤ v36.toInt; omega, by show v36.toInt ≤ 10; omega, hI, hF, hG⟩ (by show (11 - v36.toInt).toNat < (11 - x3_18.toInt).toNat; omega)
            ·
              have f38 := fne rfl (by decide : (0 : Int32).toInt = 0) c30
              refine g_aload_n C 3 dX11_tallyWays_53 rfl ?_
              refine g_get C (.ref (ad 296)) 52 in_X11_tallyWays_11 (List.mem_of_getElem? (i := 3) rfl) (by decide) (ce_model ad cs _ _) rfl (by decide) rfl rfl dX11_tallyWays_54 ?_
              refine g_bipush C 10 dX11_tallyWays_57 (by decide) ?_
              refine g_iload_n C 2 dX11_tallyWays_59 rfl ?_
              refine g_imul C dX11_tallyWays_60 ?_
              refine g_ni (fun v39 ev39 => ?_)
              try have fv39 := fmul (by decide : (10 : Int32).toInt = 10) rfl ev39 (by as_aux_lemma => omega) (by as_aux_lemma => omega)
              refine g_iload_n C 0 dX11_tallyWays_61 rfl ?_
              refine g_iadd C dX11_tallyWays_62 ?_
              refine g_ni (fun v40 ev40 => ?_)
              try have fv40 := fadd rfl rfl ev40 (by as_aux_lemma => omega) (by as_aux_lemma => omega)
              have nx1_6 := ixn (x := x1_6) (by as_aux_lemma => omega)
              have nx3_18 := ixn (x := x3_18) (by as_aux_lemma => omega)
              have nv40 := ixn (x := v40) (by as_aux_lemma => omega)
              have iv40 : v40.toNatClampNeg = 10 * x1_6.toNatClampNeg + x3_18.toNatClampNeg := by as_aux_lemma => omega
              refine g_lald C (by decide) (ce_m_way ad cs _ _) (fin' (n := 100) rfl (by as_aux_lemma => omega) (by as_aux_lemma => omega)) dX11_tallyWays_63 ?_
              refine g_nl (fun v41 ev41 => ?_)
              have gv41 : v41 = L 296 v40.toNatClampNeg := ev41.trans (hG 296 _ (by as_aux_lemma => omega))
              have gv41 := cg1L (f := L 296) gv41 iv40
              have tv41 := congrArg Int64.toInt gv41
              refine g_aload_n C 3 dX11_tallyWays_64 rfl ?_
              refine g_get C (.ref (ad 284)) 38 in_X11_tallyWays_11 (List.mem_of_getElem? (i := 4) rfl) (by decide) (ce_model ad cs _ _) rfl (by decide) rfl rfl dX11_tallyWays_65 ?_
              refine g_iload_n C 2 dX11_tallyWays_68 rfl ?_
              refine g_lald C (by decide) (ce_m_ups ad cs _ _) (fin' (n := 10) rfl (by as_aux_lemma => omega) (by as_aux_lemma => omega)) dX11_tallyWays_69 ?_
              refine g_nl (fun v42 ev42 => ?_)
              have gv42 : v42 = L_18 284 x1_6.toNatClampNeg := ev42.trans (congrFun p284 _)
              have tv42 := congrArg Int64.toInt gv42
              refine g_lcmp C dX11_tallyWays_70 ?_
              refine g_ni (fun v43 ev43 => ?_)
              refine g_if_ge C 93 dX11_tallyWays_71 (by decide) (fun c44 => ?_) (fun c44 => ?_)
              ·
                have f45 := cge rfl rfl ev43 c44
                obtain ⟨v46, ev46⟩ : ∃ y : Int32, y = x3_18 + 1 := ⟨_, rfl⟩
                try have fv46 := fadd rfl (by decide : (1 : Int32).toInt = 1) ev46 (by as_aux_lemma => omega) (by as_aux_lemma => omega)
                refine g_iinc C 0 v46 [(3, .int v46), (2, .int x2_18), (1, .int x1_6), (0, .ref (ad 258))] dX11_tallyWays_93 rfl (by rw [ev46]; rfl) (by decide) rfl ?_
                refine g_goto C 18 dX11_tallyWays_96 (by decide) ?_
                exact ih_18 (v46, x2_18, M_18, L_18) ⟨by show 0 ≤ v46.toInt; omega, by show v46.toInt ≤ 10; omega, hI, hF, hG⟩ (by show (11 - v46.toInt).toNat < (11 - x3_18.toInt).toNat; omega)
              ·
                have f47 := cnge rfl rfl ev43 c44
                refine g_aload_n C 3 dX11_tallyWays_74 rfl ?_
                refine g_get C (.ref (ad 284)) 38 in_X11_tallyWays_11 (List.mem_of_getElem? (i := 4) rfl) (by decide) (ce_model ad cs _ _) rfl (by decide) rfl rfl dX11_tallyWays_75 ?_
                refine g_iload_n C 2 dX11_tallyWays_78 rfl ?_
                refine g_aload_n C 3 dX11_tallyWays_79 rfl ?_
                refine g_get C (.ref (ad 296)) 52 in_X11_tallyWays_11 (List.mem_of_getElem? (i := 3) rfl) (by decide) (ce_model ad cs _ _) rfl (by decide) rfl rfl dX11_tallyWays_80 ?_
                refine g_bipush C 10 dX11_tallyWays_83 (by decide) ?_
                refine g_iload_n C 2 dX11_tallyWays_85 rfl ?_
                refine g_imul C dX11_tallyWays_86 ?_
                refine g_ni (fun v48 ev48 => ?_)
                try have fv48 := fmul (by decide : (10 : Int32).toInt = 10) rfl ev48 (by as_aux_lemma => omega) (by as_aux_lemma => omega)
                refine g_iload_n C 0 dX11_tallyWays_87 rfl ?_
                refine g_iadd C dX11_tallyWays_88 ?_
                refine g_ni (fun v49 ev49 => ?_)
                try have fv49 := fadd rfl rfl ev49 (by as_aux_lemma => omega) (by as_aux_lemma => omega)
                have nx1_6 := ixn (x := x1_6) (by as_aux_lemma => omega)
                have nx3_18 := ixn (x := x3_18) (by as_aux_lemma => omega)
                have nv49 := ixn (x := v49) (by as_aux_lemma => omega)
                have iv49 : v49.toNatClampNeg = 10 * x1_6.toNatClampNeg + x3_18.toNatClampNeg := by as_aux_lemma => omega
                refine g_lald C (by decide) (ce_m_way ad cs _ _) (fin' (n := 100) rfl (by as_aux_lemma => omega) (by as_aux_lemma => omega)) dX11_tallyWays_89 ?_
                refine g_nl (fun v50 ev50 => ?_)
                have gv50 : v50 = L 296 v49.toNatClampNeg := ev50.trans (hG 296 _ (by as_aux_lemma => omega))
                have gv50 := cg1L (f := L 296) gv50 iv49
                have tv50 := congrArg Int64.toInt gv50
                refine g_last C (by decide) (ce_m_ups ad cs _ _) (by rw [sJ_k]; rfl) (fin' (n := 10) rfl (by as_aux_lemma => omega) (by as_aux_lemma => omega)) dX11_tallyWays_90 ?_
                refine g_nmL (fun L51 hL51 => ?_)
                have hG : ∀ k i, k ≠ 284 ∧ k ≠ 285 → L51 k i = L k i := fun k i hk => by (rw [hL51, sJ_at, if_neg (by as_aux_lemma => omega)]; try exact hG k i hk)
                have p285 : L51 285 = L_18 285 := by rw [hL51, sJ_n _ _ _ (by decide)]; try exact p285
                refine g_iconst C 1 dX11_tallyWays_91 (by decide) ?_
                refine g_istore_n C [(2, .int 1), (3, .int x3_18), (1, .int x1_6), (0, .ref (ad 258))] dX11_tallyWays_92 (by decide) rfl ?_
                obtain ⟨v52, ev52⟩ : ∃ y : Int32, y = x3_18 + 1 := ⟨_, rfl⟩
                try have fv52 := fadd rfl (by decide : (1 : Int32).toInt = 1) ev52 (by as_aux_lemma => omega) (by as_aux_lemma => omega)
                refine g_iinc C 1 v52 [(3, .int v52), (2, .int 1), (1, .int x1_6), (0, .ref (ad 258))] dX11_tallyWays_93 rfl (by rw [ev52]; rfl) (by decide) rfl ?_
                refine g_goto C 18 dX11_tallyWays_96 (by decide) ?_
                have zy53 : (1 : Int32).toInt = 1 := by decide
                exact ih_18 (v52, 1, M_18, L51) ⟨by show 0 ≤ v52.toInt; omega, by show v52.toInt ≤ 10; omega, hI, hF, hG⟩ (by show (11 - v52.toInt).toNat < (11 - x3_18.toInt).toNat; omega)
theorem dX11_isBeaten_0 : decode cX11_isBeaten 0 = .ok (.iconst 0, 1) := dw3 (n := 0) (i := 0) kc_cX11_isBeaten_0 (by decide +kernel)
theorem dX11_isBeaten_1 : decode cX11_isBeaten 1 = .ok (.istore_n 2, 1) := dw61 (n := 0) (i := 1) kc_cX11_isBeaten_0 (by decide +kernel)
theorem dX11_isBeaten_2 : decode cX11_isBeaten 2 = .ok (.iconst 0, 1) := dw3 (n := 0) (i := 2) kc_cX11_isBeaten_0 (by decide +kernel)
theorem dX11_isBeaten_3 : decode cX11_isBeaten 3 = .ok (.istore_n 3, 1) := dw62 (n := 0) (i := 3) kc_cX11_isBeaten_0 (by decide +kernel)
theorem dX11_isBeaten_4 : decode cX11_isBeaten 4 = .ok (.iload_n 3, 1) := dw29 (n := 0) (i := 4) kc_cX11_isBeaten_0 (by decide +kernel)
theorem dX11_isBeaten_5 : decode cX11_isBeaten 5 = .ok (.aload_n 0, 1) := dw42 (n := 0) (i := 5) kc_cX11_isBeaten_0 (by decide +kernel)
theorem dX11_isBeaten_6 : decode cX11_isBeaten 6 = .ok (.getfield 137, 3) := dw180 (n := 0) (i := 6) (a := 0) (b := 137) kc_cX11_isBeaten_0 (by decide +kernel) (by decide)
theorem in_X11_isBeaten_11 : ∀ w ∈ u_ws RX11 TX11 53, w ∈ wsX11_isBeaten := fun _ h => List.mem_cons_of_mem _ (List.mem_append_right _ h)
theorem dX11_isBeaten_9 : decode cX11_isBeaten 9 = .ok (.if_icmp .ge 59, 3) := dw162 (n := 0) (i := 9) (a := 0) (b := 59) kc_cX11_isBeaten_0 (by decide +kernel) (by decide)
theorem dX11_isBeaten_68 : decode cX11_isBeaten 68 = .ok (.iload_n 2, 1) := dw28 (n := 64) (i := 4) kc_cX11_isBeaten_2 (by decide +kernel)
theorem dX11_isBeaten_69 : decode cX11_isBeaten 69 = .ok (.ireturn, 1) := dw172 (n := 64) (i := 5) kc_cX11_isBeaten_2 (by decide +kernel)
theorem dX11_isBeaten_12 : decode cX11_isBeaten 12 = .ok (.iload_n 2, 1) := dw28 (n := 0) (i := 12) kc_cX11_isBeaten_0 (by decide +kernel)
theorem dX11_isBeaten_13 : decode cX11_isBeaten 13 = .ok (.ifCond .ne 43, 3) := dw154 (n := 0) (i := 13) (a := 0) (b := 43) kc_cX11_isBeaten_0 (by decide +kernel) (by decide)
theorem dX11_isBeaten_56 : decode cX11_isBeaten 56 = .ok (.iconst 1, 1) := dw4 (n := 32) (i := 24) kc_cX11_isBeaten_1 (by decide +kernel)
theorem dX11_isBeaten_57 : decode cX11_isBeaten 57 = .ok (.goto 4, 3) := dw167 (n := 32) (i := 25) (a := 0) (b := 4) kc_cX11_isBeaten_1 (by decide +kernel) (by decide)
theorem dX11_isBeaten_61 : decode cX11_isBeaten 61 = .ok (.istore_n 2, 1) := dw61 (n := 32) (i := 29) kc_cX11_isBeaten_1 (by decide +kernel)
theorem dX11_isBeaten_62 : decode cX11_isBeaten 62 = .ok (.iinc 3 1, 3) := by decide +kernel
theorem dX11_isBeaten_65 : decode cX11_isBeaten 65 = .ok (.goto (-61), 3) := dw167 (n := 64) (i := 1) (a := 255) (b := 195) kc_cX11_isBeaten_2 (by decide +kernel) (by decide)
theorem dX11_isBeaten_16 : decode cX11_isBeaten 16 = .ok (.iload_n 3, 1) := dw29 (n := 0) (i := 16) kc_cX11_isBeaten_0 (by decide +kernel)
theorem dX11_isBeaten_17 : decode cX11_isBeaten 17 = .ok (.iload_n 1, 1) := dw27 (n := 0) (i := 17) kc_cX11_isBeaten_0 (by decide +kernel)
theorem dX11_isBeaten_18 : decode cX11_isBeaten 18 = .ok (.if_icmp .eq 42, 3) := dw159 (n := 0) (i := 18) (a := 0) (b := 42) kc_cX11_isBeaten_0 (by decide +kernel) (by decide)
theorem dX11_isBeaten_60 : decode cX11_isBeaten 60 = .ok (.iconst 0, 1) := dw3 (n := 32) (i := 28) kc_cX11_isBeaten_1 (by decide +kernel)
theorem dX11_isBeaten_21 : decode cX11_isBeaten 21 = .ok (.aload_n 0, 1) := dw42 (n := 0) (i := 21) kc_cX11_isBeaten_0 (by decide +kernel)
theorem dX11_isBeaten_22 : decode cX11_isBeaten 22 = .ok (.getfield 81, 3) := dw180 (n := 0) (i := 22) (a := 0) (b := 81) kc_cX11_isBeaten_0 (by decide +kernel) (by decide)
theorem dX11_isBeaten_25 : decode cX11_isBeaten 25 = .ok (.iload_n 3, 1) := dw29 (n := 0) (i := 25) kc_cX11_isBeaten_0 (by decide +kernel)
theorem dX11_isBeaten_26 : decode cX11_isBeaten 26 = .ok (.baload, 1) := dw51 (n := 0) (i := 26) kc_cX11_isBeaten_0 (by decide +kernel)
theorem dX11_isBeaten_27 : decode cX11_isBeaten 27 = .ok (.ifCond .eq 33, 3) := dw153 (n := 0) (i := 27) (a := 0) (b := 33) kc_cX11_isBeaten_0 (by decide +kernel) (by decide)
theorem dX11_isBeaten_30 : decode cX11_isBeaten 30 = .ok (.aload_n 0, 1) := dw42 (n := 0) (i := 30) kc_cX11_isBeaten_0 (by decide +kernel)
theorem dX11_isBeaten_31 : decode cX11_isBeaten 31 = .ok (.getfield 123, 3) := dw180 (n := 0) (i := 31) (a := 0) (b := 123) kc_cX11_isBeaten_0 (by decide +kernel) (by decide)
theorem dX11_isBeaten_34 : decode cX11_isBeaten 34 = .ok (.bipush 10, 2) := dw16 (n := 32) (i := 2) (a := 10) kc_cX11_isBeaten_1 (by decide +kernel) (by decide)
theorem dX11_isBeaten_36 : decode cX11_isBeaten 36 = .ok (.iload_n 3, 1) := dw29 (n := 32) (i := 4) kc_cX11_isBeaten_1 (by decide +kernel)
theorem dX11_isBeaten_37 : decode cX11_isBeaten 37 = .ok (.imul, 1) := dw104 (n := 32) (i := 5) kc_cX11_isBeaten_1 (by decide +kernel)
theorem dX11_isBeaten_38 : decode cX11_isBeaten 38 = .ok (.iload_n 1, 1) := dw27 (n := 32) (i := 6) kc_cX11_isBeaten_1 (by decide +kernel)
theorem dX11_isBeaten_39 : decode cX11_isBeaten 39 = .ok (.iadd, 1) := dw96 (n := 32) (i := 7) kc_cX11_isBeaten_1 (by decide +kernel)
theorem dX11_isBeaten_40 : decode cX11_isBeaten 40 = .ok (.laload, 1) := dw47 (n := 32) (i := 8) kc_cX11_isBeaten_1 (by decide +kernel)
theorem dX11_isBeaten_41 : decode cX11_isBeaten 41 = .ok (.aload_n 0, 1) := dw42 (n := 32) (i := 9) kc_cX11_isBeaten_1 (by decide +kernel)
theorem dX11_isBeaten_42 : decode cX11_isBeaten 42 = .ok (.getfield 123, 3) := dw180 (n := 32) (i := 10) (a := 0) (b := 123) kc_cX11_isBeaten_1 (by decide +kernel) (by decide)
theorem dX11_isBeaten_45 : decode cX11_isBeaten 45 = .ok (.bipush 10, 2) := dw16 (n := 32) (i := 13) (a := 10) kc_cX11_isBeaten_1 (by decide +kernel) (by decide)
theorem dX11_isBeaten_47 : decode cX11_isBeaten 47 = .ok (.iload_n 1, 1) := dw27 (n := 32) (i := 15) kc_cX11_isBeaten_1 (by decide +kernel)
theorem dX11_isBeaten_48 : decode cX11_isBeaten 48 = .ok (.imul, 1) := dw104 (n := 32) (i := 16) kc_cX11_isBeaten_1 (by decide +kernel)
theorem dX11_isBeaten_49 : decode cX11_isBeaten 49 = .ok (.iload_n 3, 1) := dw29 (n := 32) (i := 17) kc_cX11_isBeaten_1 (by decide +kernel)
theorem dX11_isBeaten_50 : decode cX11_isBeaten 50 = .ok (.iadd, 1) := dw96 (n := 32) (i := 18) kc_cX11_isBeaten_1 (by decide +kernel)
theorem dX11_isBeaten_51 : decode cX11_isBeaten 51 = .ok (.laload, 1) := dw47 (n := 32) (i := 19) kc_cX11_isBeaten_1 (by decide +kernel)
theorem dX11_isBeaten_52 : decode cX11_isBeaten 52 = .ok (.lcmp, 1) := dw148 (n := 32) (i := 20) kc_cX11_isBeaten_1 (by decide +kernel)
theorem dX11_isBeaten_53 : decode cX11_isBeaten 53 = .ok (.ifCond .le 7, 3) := dw158 (n := 32) (i := 21) (a := 0) (b := 7) kc_cX11_isBeaten_1 (by decide +kernel) (by decide)
set_option maxHeartbeats 4000000 in
set_option maxRecDepth 100000 in
theorem s_X11_isBeaten (l : Launch) (D : va_G) (ad : Nat → Nat) (cs : Nat → ClassId) (M : MI) (L : ML) (x : Int32) (hI : IR M) (hx : 0 ≤ x.toInt ∧ x.toInt < 10) : Ci l yX11_isBeaten wsX11_isBeaten ({ frames := 0, cells := 0, slots := 0, locals := 0 }) D ad cs [.ref (ad 258), .int x] M L (fun r M1 L1 => M1 = M ∧ L1 = L ∧ (zo r (BT (M 282) (L 296) x.toNatClampNeg (M 258 2).toNatClampNeg))) := by
  refine enter_i RX11 rfl [(0, .ref (ad 258)), (1, .int x)] rfl (Nat.le_of_ble_eq_true rfl) (by decide +kernel) rfl ?_
  intro p e s m below meth c C hr
  have hF : ∀ k i, True → M k i = M k i := fun _ _ _ => rfl
  have hG : ∀ k i, True → L k i = L k i := fun _ _ _ => rfl
  obtain ⟨hx1, hx2⟩ := hx
  obtain ⟨ca, cb⟩ := (show rg 0 10 (M 258 2) from hI 258 2)
  have n02 := ixn ca
  obtain ⟨sa, sb⟩ := (show rg 0 30 (M 258 28) from hI 258 28)
  have nx := ixn (x := x) hx1
  refine g_iconst C 0 dX11_isBeaten_0 (by decide) ?_
  refine g_istore_n C [(2, .int 0), (0, .ref (ad 258)), (1, .int x)] dX11_isBeaten_1 (by decide) rfl ?_
  refine g_iconst C 0 dX11_isBeaten_2 (by decide) ?_
  refine g_istore_n C [(3, .int 0), (2, .int 0), (0, .ref (ad 258)), (1, .int x)] dX11_isBeaten_3 (by decide) rfl ?_
  have zy1 : (0 : Int32).toInt = 0 := by decide
  have zy2 : (0 : Int32).toInt = 0 := by decide
  refine g_loop (α := Int32 × Int32 × MI × ML) (fun a => (11 - a.1.toInt).toNat) (fun a => (0 ≤ a.1.toInt) ∧ (a.1.toInt ≤ (M 258 2).toInt) ∧ (zo a.2.1 (BT (M 282) (L 296) x.toNatClampNeg a.1.toNatClampNeg)) ∧ IR a.2.2.1 ∧ (∀ k i, True → a.2.2.1 k i = M k i) ∧ (∀ k i, True → a.2.2.2 k i = L k i)) (fun a => a.2.2.1) (fun a => a.2.2.2) (fun a => [(3, .int a.1), (2, .int a.2.1), (0, .ref (ad 258)), (1, .int x)]) ((0 : Int32), (0 : Int32), M, L) ⟨by show 0 ≤ (0 : Int32).toInt; omega, by show (0 : Int32).toInt ≤ (M 258 2).toInt; omega, by show zo (0 : Int32) (BT (M 282) (L 296) x.toNatClampNeg (0 : Int32).toNatClampNeg); exact Or.inr ⟨rfl, fun ⟨j, hj, _⟩ => absurd hj (by show ¬ j < 0; omega)⟩, hI, hF, hG⟩ rfl rfl rfl ?_
  rintro ⟨x3_4, x2_4, M_4, L_4⟩ ⟨j4_0, j4_1, j4_2, hI, hF, hG⟩ ih_4
  dsimp only at j4_0 j4_1 j4_2 hI hF hG ih_4 ⊢
  have n3 := ixn (x := x3_4) (by as_aux_lemma => omega)
  obtain ⟨bz1, bz2⟩ := zo_b j4_2
  refine g_iload_n C 0 dX11_isBeaten_4 rfl ?_
  refine g_aload_n C 2 dX11_isBeaten_5 rfl ?_
  refine g_get C (.int (M_4 258 2)) 2 in_X11_isBeaten_11 (List.mem_of_getElem? (i := 1) rfl) (by decide) (ce_model ad cs _ _) rfl (by decide) rfl rfl dX11_isBeaten_6 ?_
  refine g_ni (fun v3 ev3 => ?_)
  have gv3 : v3 = M 258 2 := ev3.trans (hF 258 2 trivial)
  have tv3 := congrArg Int32.toInt gv3
  obtain ⟨bv3, dv3⟩ := (show rg 0 10 v3 from (by rw [ev3]; exact hI 258 2))
  refine g_icmp_ge C 68 dX11_isBeaten_9 (by decide) (fun c4 => ?_) (fun c4 => ?_)
  ·
    have f5 := fle rfl rfl c4
    refine g_iload_n C 1 dX11_isBeaten_68 rfl ?_
    have hz9 := z_of (r := x2_4) (by as_aux_lemma => omega) (by as_aux_lemma => omega)
    exact g_zret C hr (by rcases hz9 with h9 | h9 <;> rw [h9] <;> rfl) ⟨funext (fun k => funext (fun i => hF k i trivial)), funext (fun k => funext (fun i => hG k i trivial)), (by have e9 : x3_4.toNatClampNeg = (M 258 2).toNatClampNeg := (by as_aux_lemma => omega); rw [e9] at j4_2; exact j4_2)⟩ dX11_isBeaten_69
  ·
    have f6 := fnle rfl rfl c4
    refine g_iload_n C 1 dX11_isBeaten_12 rfl ?_
    refine g_if_ne C 56 dX11_isBeaten_13 (by decide) (fun c7 => ?_) (fun c7 => ?_)
    ·
      have f8 := fne rfl (by decide : (0 : Int32).toInt = 0) c7
      refine g_iconst C 1 dX11_isBeaten_56 (by decide) ?_
      refine g_goto C 61 dX11_isBeaten_57 (by decide) ?_
      refine g_istore_n C [(2, .int 1), (3, .int x3_4), (0, .ref (ad 258)), (1, .int x)] dX11_isBeaten_61 (by decide) rfl ?_
      obtain ⟨v9, ev9⟩ : ∃ y : Int32, y = x3_4 + 1 := ⟨_, rfl⟩
      try have fv9 := fadd rfl (by decide : (1 : Int32).toInt = 1) ev9 (by as_aux_lemma => omega) (by as_aux_lemma => omega)
      refine g_iinc C 1 v9 [(3, .int v9), (2, .int 1), (0, .ref (ad 258)), (1, .int x)] dX11_isBeaten_62 rfl (by rw [ev9]; rfl) (by decide) rfl ?_
      refine g_goto C 4 dX11_isBeaten_65 (by decide) ?_
      have zy10 : (1 : Int32).toInt = 1 := by decide
      have nv := ixn (x := v9) (by as_aux_lemma => omega)
      have iv : v9.toNatClampNeg = x3_4.toNatClampNeg + 1 := by as_aux_lemma => omega
      exact ih_4 (v9, 1, M_4, L_4) ⟨by show 0 ≤ v9.toInt; omega, by show v9.toInt ≤ (M 258 2).toInt; omega, by show zo (1 : Int32) (BT (M 282) (L 296) x.toNatClampNeg v9.toNatClampNeg); rw [iv]; refine zo_i ?_ BT_s; first | exact Or.inl ⟨rfl, Or.inl (zo_tI j4_2 (by as_aux_lemma => omega))⟩ | exact Or.inl ⟨rfl, Or.inr ⟨by as_aux_lemma => omega, by as_aux_lemma => omega, by unfold wv; omega⟩⟩ | exact Or.inr ⟨rfl, fun h => h.elim (zo_fI j4_2 (by as_aux_lemma => omega)) (fun ⟨ha, hb, hc⟩ => by unfold wv at hc; omega)⟩, hI, hF, hG⟩ (by show (11 - v9.toInt).toNat < (11 - x3_4.toInt).toNat; omega)
    ·
      have f11 := feq rfl (by decide : (0 : Int32).toInt = 0) c7
      refine g_iload_n C 0 dX11_isBeaten_16 rfl ?_
      refine g_iload_n C 3 dX11_isBeaten_17 rfl ?_
      refine g_icmp_eq C 60 dX11_isBeaten_18 (by decide) (fun c12 => ?_) (fun c12 => ?_)
      ·
        have f13 := feq rfl rfl c12
        refine g_iconst C 0 dX11_isBeaten_60 (by decide) ?_
        refine g_istore_n C [(2, .int 0), (3, .int x3_4), (0, .ref (ad 258)), (1, .int x)] dX11_isBeaten_61 (by decide) rfl ?_
        obtain ⟨v14, ev14⟩ : ∃ y : Int32, y = x3_4 + 1 := ⟨_, rfl⟩
        try have fv14 := fadd rfl (by decide : (1 : Int32).toInt = 1) ev14 (by as_aux_lemma => omega) (by as_aux_lemma => omega)
        refine g_iinc C 1 v14 [(3, .int v14), (2, .int 0), (0, .ref (ad 258)), (1, .int x)] dX11_isBeaten_62 rfl (by rw [ev14]; rfl) (by decide) rfl ?_
        refine g_goto C 4 dX11_isBeaten_65 (by decide) ?_
        have zy15 : (0 : Int32).toInt = 0 := by decide
        have nv := ixn (x := v14) (by as_aux_lemma => omega)
        have iv : v14.toNatClampNeg = x3_4.toNatClampNeg + 1 := by as_aux_lemma => omega
        exact ih_4 (v14, 0, M_4, L_4) ⟨by show 0 ≤ v14.toInt; omega, by show v14.toInt ≤ (M 258 2).toInt; omega, by show zo (0 : Int32) (BT (M 282) (L 296) x.toNatClampNeg v14.toNatClampNeg); rw [iv]; refine zo_i ?_ BT_s; first | exact Or.inl ⟨rfl, Or.inl (zo_tI j4_2 (by as_aux_lemma => omega))⟩ | exact Or.inl ⟨rfl, Or.inr ⟨by as_aux_lemma => omega, by as_aux_lemma => omega, by unfold wv; omega⟩⟩ | exact Or.inr ⟨rfl, fun h => h.elim (zo_fI j4_2 (by as_aux_lemma => omega)) (fun ⟨ha, hb, hc⟩ => by unfold wv at hc; omega)⟩, hI, hF, hG⟩ (by show (11 - v14.toInt).toNat < (11 - x3_4.toInt).toNat; omega)
      ·
        have f16 := fne rfl rfl c12
        refine g_aload_n C 2 dX11_isBeaten_21 rfl ?_
        refine g_get C (.ref (ad 282)) 36 in_X11_isBeaten_11 (List.mem_of_getElem? (i := 2) rfl) (by decide) (ce_model ad cs _ _) rfl (by decide) rfl rfl dX11_isBeaten_22 ?_
        refine g_iload_n C 0 dX11_isBeaten_25 rfl ?_
        refine g_zald C (by decide) (ce_m_isIn ad cs _ _) (fin' (n := 10) rfl (by as_aux_lemma => omega) (by as_aux_lemma => omega)) dX11_isBeaten_26 ?_
        refine g_ni (fun v17 ev17 => ?_)
        have gv17 : v17 = M 282 x3_4.toNatClampNeg := ev17.trans (hF 282 x3_4.toNatClampNeg trivial)
        have tv17 := congrArg Int32.toInt gv17
        refine g_if_eq C 60 dX11_isBeaten_27 (by decide) (fun c18 => ?_) (fun c18 => ?_)
        ·
          have f19 := feq rfl (by decide : (0 : Int32).toInt = 0) c18
          refine g_iconst C 0 dX11_isBeaten_60 (by decide) ?_
          refine g_istore_n C [(2, .int 0), (3, .int x3_4), (0, .ref (ad 258)), (1, .int x)] dX11_isBeaten_61 (by decide) rfl ?_
          obtain ⟨v20, ev20⟩ : ∃ y : Int32, y = x3_4 + 1 := ⟨_, rfl⟩
          try have fv20 := fadd rfl (by decide : (1 : Int32).toInt = 1) ev20 (by as_aux_lemma => omega) (by as_aux_lemma => omega)
          refine g_iinc C 1 v20 [(3, .int v20), (2, .int 0), (0, .ref (ad 258)), (1, .int x)] dX11_isBeaten_62 rfl (by rw [ev20]; rfl) (by decide) rfl ?_
          refine g_goto C 4 dX11_isBeaten_65 (by decide) ?_
          have zy21 : (0 : Int32).toInt = 0 := by decide
          have nv := ixn (x := v20) (by as_aux_lemma => omega)
          have iv : v20.toNatClampNeg = x3_4.toNatClampNeg + 1 := by as_aux_lemma => omega
          exact ih_4 (v20, 0, M_4, L_4) ⟨by show 0 ≤ v20.toInt; omega, by show v20.toInt ≤ (M 258 2).toInt; omega, by show zo (0 : Int32) (BT (M 282) (L 296) x.toNatClampNeg v20.toNatClampNeg); rw [iv]; refine zo_i ?_ BT_s; first | exact Or.inl ⟨rfl, Or.inl (zo_tI j4_2 (by as_aux_lemma => omega))⟩ | exact Or.inl ⟨rfl, Or.inr ⟨by as_aux_lemma => omega, by as_aux_lemma => omega, by unfold wv; omega⟩⟩ | exact Or.inr ⟨rfl, fun h => h.elim (zo_fI j4_2 (by as_aux_lemma => omega)) (fun ⟨ha, hb, hc⟩ => by unfold wv at hc; omega)⟩, hI, hF, hG⟩ (by show (11 - v20.toInt).toNat < (11 - x3_4.toInt).toNat; omega)
        ·
          have f22 := fne rfl (by decide : (0 : Int32).toInt = 0) c18
          refine g_aload_n C 2 dX11_isBeaten_30 rfl ?_
          refine g_get C (.ref (ad 296)) 52 in_X11_isBeaten_11 (List.mem_of_getElem? (i := 3) rfl) (by decide) (ce_model ad cs _ _) rfl (by decide) rfl rfl dX11_isBeaten_31 ?_
          refine g_bipush C 10 dX11_isBeaten_34 (by decide) ?_
          refine g_iload_n C 0 dX11_isBeaten_36 rfl ?_
          refine g_imul C dX11_isBeaten_37 ?_
          refine g_ni (fun v23 ev23 => ?_)
          try have fv23 := fmul (by decide : (10 : Int32).toInt = 10) rfl ev23 (by as_aux_lemma => omega) (by as_aux_lemma => omega)
          refine g_iload_n C 3 dX11_isBeaten_38 rfl ?_
          refine g_iadd C dX11_isBeaten_39 ?_
          refine g_ni (fun v24 ev24 => ?_)
          try have fv24 := fadd rfl rfl ev24 (by as_aux_lemma => omega) (by as_aux_lemma => omega)
          have nx3_4 := ixn (x := x3_4) (by as_aux_lemma => omega)
          have nx := ixn (x := x) (by as_aux_lemma => omega)
          have nv24 := ixn (x := v24) (by as_aux_lemma => omega)
          have iv24 : v24.toNatClampNeg = 10 * x3_4.toNatClampNeg + x.toNatClampNeg := by as_aux_lemma => omega
          refine g_lald C (by decide) (ce_m_way ad cs _ _) (fin' (n := 100) rfl (by as_aux_lemma => omega) (by as_aux_lemma => omega)) dX11_isBeaten_40 ?_
          refine g_nl (fun v25 ev25 => ?_)
          have gv25 : v25 = L 296 v24.toNatClampNeg := ev25.trans (hG 296 _ trivial)
          have gv25 := cg1L (f := L 296) gv25 iv24
          have tv25 := congrArg Int64.toInt gv25
          refine g_aload_n C 2 dX11_isBeaten_41 rfl ?_
          refine g_get C (.ref (ad 296)) 52 in_X11_isBeaten_11 (List.mem_of_getElem? (i := 3) rfl) (by decide) (ce_model ad cs _ _) rfl (by decide) rfl rfl dX11_isBeaten_42 ?_
          refine g_bipush C 10 dX11_isBeaten_45 (by decide) ?_
          refine g_iload_n C 3 dX11_isBeaten_47 rfl ?_
          refine g_imul C dX11_isBeaten_48 ?_
          refine g_ni (fun v26 ev26 => ?_)
          try have fv26 := fmul (by decide : (10 : Int32).toInt = 10) rfl ev26 (by as_aux_lemma => omega) (by as_aux_lemma => omega)
          refine g_iload_n C 0 dX11_isBeaten_49 rfl ?_
          refine g_iadd C dX11_isBeaten_50 ?_
          refine g_ni (fun v27 ev27 => ?_)
          try have fv27 := fadd rfl rfl ev27 (by as_aux_lemma => omega) (by as_aux_lemma => omega)
          have nx := ixn (x := x) (by as_aux_lemma => omega)
          have nx3_4 := ixn (x := x3_4) (by as_aux_lemma => omega)
          have nv27 := ixn (x := v27) (by as_aux_lemma => omega)
          have iv27 : v27.toNatClampNeg = 10 * x.toNatClampNeg + x3_4.toNatClampNeg := by as_aux_lemma => omega
          refine g_lald C (by decide) (ce_m_way ad cs _ _) (fin' (n := 100) rfl (by as_aux_lemma => omega) (by as_aux_lemma => omega)) dX11_isBeaten_51 ?_
          refine g_nl (fun v28 ev28 => ?_)
          have gv28 : v28 = L 296 v27.toNatClampNeg := ev28.trans (hG 296 _ trivial)
          have gv28 := cg1L (f := L 296) gv28 iv27
          have tv28 := congrArg Int64.toInt gv28
          refine g_lcmp C dX11_isBeaten_52 ?_
          refine g_ni (fun v29 ev29 => ?_)
          refine g_if_le C 60 dX11_isBeaten_53 (by decide) (fun c30 => ?_) (fun c30 => ?_)
          ·
            have f31 := cle rfl rfl ev29 c30
            refine g_iconst C 0 dX11_isBeaten_60 (by decide) ?_
            refine g_istore_n C [(2, .int 0), (3, .int x3_4), (0, .ref (ad 258)), (1, .int x)] dX11_isBeaten_61 (by decide) rfl ?_
            obtain ⟨v32, ev32⟩ : ∃ y : Int32, y = x3_4 + 1 := ⟨_, rfl⟩
            try have fv32 := fadd rfl (by decide : (1 : Int32).toInt = 1) ev32 (by as_aux_lemma => omega) (by as_aux_lemma => omega)
            refine g_iinc C 1 v32 [(3, .int v32), (2, .int 0), (0, .ref (ad 258)), (1, .int x)] dX11_isBeaten_62 rfl (by rw [ev32]; rfl) (by decide) rfl ?_
            refine g_goto C 4 dX11_isBeaten_65 (by decide) ?_
            have zy33 : (0 : Int32).toInt = 0 := by decide
            have nv := ixn (x := v32) (by as_aux_lemma => omega)
            have iv : v32.toNatClampNeg = x3_4.toNatClampNeg + 1 := by as_aux_lemma => omega
            exact ih_4 (v32, 0, M_4, L_4) ⟨by show 0 ≤ v32.toInt; omega, by show v32.toInt ≤ (M 258 2).toInt; omega, by show zo (0 : Int32) (BT (M 282) (L 296) x.toNatClampNeg v32.toNatClampNeg); rw [iv]; refine zo_i ?_ BT_s; first | exact Or.inl ⟨rfl, Or.inl (zo_tI j4_2 (by as_aux_lemma => omega))⟩ | exact Or.inl ⟨rfl, Or.inr ⟨by as_aux_lemma => omega, by as_aux_lemma => omega, by unfold wv; omega⟩⟩ | exact Or.inr ⟨rfl, fun h => h.elim (zo_fI j4_2 (by as_aux_lemma => omega)) (fun ⟨ha, hb, hc⟩ => by unfold wv at hc; omega)⟩, hI, hF, hG⟩ (by show (11 - v32.toInt).toNat < (11 - x3_4.toInt).toNat; omega)
          ·
            have f34 := cnle rfl rfl ev29 c30
            refine g_iconst C 1 dX11_isBeaten_56 (by decide) ?_
            refine g_goto C 61 dX11_isBeaten_57 (by decide) ?_
            refine g_istore_n C [(2, .int 1), (3, .int x3_4), (0, .ref (ad 258)), (1, .int x)] dX11_isBeaten_61 (by decide) rfl ?_
            obtain ⟨v35, ev35⟩ : ∃ y : Int32, y = x3_4 + 1 := ⟨_, rfl⟩
            try have fv35 := fadd rfl (by decide : (1 : Int32).toInt = 1) ev35 (by as_aux_lemma => omega) (by as_aux_lemma => omega)
            refine g_iinc C 1 v35 [(3, .int v35), (2, .int 1), (0, .ref (ad 258)), (1, .int x)] dX11_isBeaten_62 rfl (by rw [ev35]; rfl) (by decide) rfl ?_
            refine g_goto C 4 dX11_isBeaten_65 (by decide) ?_
            have zy36 : (1 : Int32).toInt = 1 := by decide
            have nv := ixn (x := v35) (by as_aux_lemma => omega)
            have iv : v35.toNatClampNeg = x3_4.toNatClampNeg + 1 := by as_aux_lemma => omega
            exact ih_4 (v35, 1, M_4, L_4) ⟨by show 0 ≤ v35.toInt; omega, by show v35.toInt ≤ (M 258 2).toInt; omega, by show zo (1 : Int32) (BT (M 282) (L 296) x.toNatClampNeg v35.toNatClampNeg); rw [iv]; refine zo_i ?_ BT_s; first | exact Or.inl ⟨rfl, Or.inl (zo_tI j4_2 (by as_aux_lemma => omega))⟩ | exact Or.inl ⟨rfl, Or.inr ⟨by as_aux_lemma => omega, by as_aux_lemma => omega, by unfold wv; omega⟩⟩ | exact Or.inr ⟨rfl, fun h => h.elim (zo_fI j4_2 (by as_aux_lemma => omega)) (fun ⟨ha, hb, hc⟩ => by unfold wv at hc; omega)⟩, hI, hF, hG⟩ (by show (11 - v35.toInt).toNat < (11 - x3_4.toInt).toNat; omega)
