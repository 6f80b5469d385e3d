theorem dX10_written_0 : decode cX10_written 0 = .ok (.aload_n 0, 1) := dw42 (n := 0) (i := 0) kc_cX10_written_0 (by decide +kernel)
theorem dX10_written_1 : decode cX10_written 1 = .ok (.getfield 19, 3) := dw180 (n := 0) (i := 1) (a := 0) (b := 19) kc_cX10_written_0 (by decide +kernel) (by decide)
theorem in_X10_written_10 : ∀ w ∈ u_ws RX10 TX10 13, w ∈ wsX10_written := fun _ h => List.mem_cons_of_mem _ (List.mem_append_left _ (List.mem_append_left _ (List.mem_append_right _ h)))
theorem dX10_written_4 : decode cX10_written 4 = .ok (.iload_n 1, 1) := dw27 (n := 0) (i := 4) kc_cX10_written_0 (by decide +kernel)
theorem dX10_written_5 : decode cX10_written 5 = .ok (.iconst 3, 1) := dw6 (n := 0) (i := 5) kc_cX10_written_0 (by decide +kernel)
theorem dX10_written_6 : decode cX10_written 6 = .ok (.invokevirtual 113, 3) := dw182 (n := 0) (i := 6) (a := 0) (b := 113) kc_cX10_written_0 (by decide +kernel) (by decide)
set_option maxRecDepth 20000 in
theorem ggX10_written_X0_isOf : GoodIn wsX10_written wsX0_isOf := (gk_code 9 rfl (gk_fieldLink 10 rfl (gk_static 11 rfl (gk_initialized 12 rfl (gk_code 13 rfl (gk_lays 29 rfl (gk_laysFinal 30 rfl (gk_laysFinal 31 rfl (gk_laysFinal 32 rfl (gk_laysFinal 33 rfl (gn)))))))))))
set_option maxRecDepth 20000 in
theorem gX10_written_X0_isOf : GoodIn wsX10_written (wsV RX10 113 RX0 yX0_isOf wsX0_isOf) := goodIn_app (gk_methodLink 5 rfl (gk_instanceMethod 6 rfl (gk_selects 7 rfl (gk_initialized 8 rfl (gn))))) ggX10_written_X0_isOf
theorem dX10_written_9 : decode cX10_written 9 = .ok (.ifCond .eq 13, 3) := dw153 (n := 0) (i := 9) (a := 0) (b := 13) kc_cX10_written_0 (by decide +kernel) (by decide)
theorem dX10_written_22 : decode cX10_written 22 = .ok (.aload_n 0, 1) := dw42 (n := 0) (i := 22) kc_cX10_written_0 (by decide +kernel)
theorem dX10_written_23 : decode cX10_written 23 = .ok (.getfield 19, 3) := dw180 (n := 0) (i := 23) (a := 0) (b := 19) kc_cX10_written_0 (by decide +kernel) (by decide)
theorem dX10_written_26 : decode cX10_written 26 = .ok (.getfield 136, 3) := dw180 (n := 0) (i := 26) (a := 0) (b := 136) kc_cX10_written_0 (by decide +kernel) (by decide)
theorem in_X10_written_0 : ∀ w ∈ u_ws RX0 TX0 5, w ∈ wsX10_written := fun _ h => List.mem_cons_of_mem _ (List.mem_append_right _ h)
theorem dX10_written_29 : decode cX10_written 29 = .ok (.iload_n 1, 1) := dw27 (n := 0) (i := 29) kc_cX10_written_0 (by decide +kernel)
theorem dX10_written_30 : decode cX10_written 30 = .ok (.iaload, 1) := dw46 (n := 0) (i := 30) kc_cX10_written_0 (by decide +kernel)
theorem dX10_written_31 : decode cX10_written 31 = .ok (.ireturn, 1) := dw172 (n := 0) (i := 31) kc_cX10_written_0 (by decide +kernel)
theorem dX10_written_12 : decode cX10_written 12 = .ok (.aload_n 0, 1) := dw42 (n := 0) (i := 12) kc_cX10_written_0 (by decide +kernel)
theorem dX10_written_13 : decode cX10_written 13 = .ok (.getfield 10, 3) := dw180 (n := 0) (i := 13) (a := 0) (b := 10) kc_cX10_written_0 (by decide +kernel) (by decide)
theorem dX10_written_16 : decode cX10_written 16 = .ok (.getfield 252, 3) := dw180 (n := 0) (i := 16) (a := 0) (b := 252) kc_cX10_written_0 (by decide +kernel) (by decide)
theorem in_X10_written_2 : ∀ w ∈ u_ws RX2 TX2 2, w ∈ wsX10_written := fun _ h => List.mem_cons_of_mem _ (List.mem_append_left _ (List.mem_append_right _ h))
theorem dX10_written_19 : decode cX10_written 19 = .ok (.goto 12, 3) := dw167 (n := 0) (i := 19) (a := 0) (b := 12) kc_cX10_written_0 (by decide +kernel) (by decide)
set_option maxHeartbeats 4000000 in
set_option maxRecDepth 100000 in
theorem s_X10_written (l : Launch) (D : va_G) (ad : Nat → Nat) (cs : Nat → ClassId) (M : MI) (L : ML) (b : Int32) (hI : IC M) (hb : 0 ≤ b.toInt ∧ b.toInt < 60) : Ci l yX10_written wsX10_written ({ frames := 2, cells := 0, slots := 0, locals := 46 }) D ad cs [.ref (ad 0), .int b] M L (fun r M1 L1 => M1 = M ∧ L1 = L ∧ rg 0 10 r) := by
  refine enter_i RX10 rfl [(0, .ref (ad 0)), (1, .int b)] rfl (Nat.le_of_ble_eq_true rfl) (by decide +kernel) rfl ?_
  intro p e s m below meth c C hr
  have hF : ∀ k, True → M k = M k := fun _ _ => rfl
  have hG : ∀ k, True → L k = L k := fun _ _ => rfl
  obtain ⟨hb1, hb2⟩ := hb
  refine g_aload_n C 0 dX10_written_0 rfl ?_
  refine g_get C (.ref (ad 3)) 1 in_X10_written_10 (List.mem_of_getElem? (i := 1) rfl) (by decide) (ce_house ad cs _ _) rfl (by decide) rfl rfl dX10_written_1 ?_
  refine g_iload_n C 1 dX10_written_4 rfl ?_
  refine g_iconst C 3 dX10_written_5 (by decide) ?_
  refine g_callVi C (n := 2) (As := [.int b, .int 3]) (st := []) (s_X0_isOf l D ad cs _ _ b 3 hI ⟨by omega, by omega⟩) gX10_written_X0_isOf rfl rfl rfl (by decide +kernel) ⟨Nat.le_of_ble_eq_true rfl, Nat.le_of_ble_eq_true rfl⟩ rfl (Nat.le_of_ble_eq_true rfl) ⟨Nat.zero_le _, Nat.zero_le _⟩ (by decide) (ce_ball ad cs _ _) rfl rfl dX10_written_6 (fun r1 M2 L3 hr1 => ?_)
  obtain ⟨hq1, hq2, hr1⟩ := hr1
  obtain rfl := hq1.symm
  obtain rfl := hq2.symm
  have hz := hr1
  obtain ⟨zar1, zbr1⟩ := z_to hr1
  refine g_if_eq C 22 dX10_written_9 (by decide) (fun c4 => ?_) (fun c4 => ?_)
  ·
    have f5 := feq rfl (by decide : (0 : Int32).toInt = 0) c4
    refine g_aload_n C 0 dX10_written_22 rfl ?_
    refine g_get C (.ref (ad 3)) 1 in_X10_written_10 (List.mem_of_getElem? (i := 1) rfl) (by decide) (ce_house ad cs _ _) rfl (by decide) rfl rfl dX10_written_23 ?_
    refine g_get C (.ref (ad 6)) 3 in_X10_written_0 (List.mem_of_getElem? (i := 4) rfl) (by decide) (ce_ball ad cs _ _) rfl (by decide) rfl rfl dX10_written_26 ?_
    refine g_iload_n C 1 dX10_written_29 rfl ?_
    refine g_iald C (by decide) (ce_bonit ad cs _ _) (fin' (n := 60) rfl (by omega) (by omega)) dX10_written_30 ?_
    refine g_ni (fun v6 ev6 => ?_)
    have tv6 := congrArg Int32.toInt ev6
    obtain ⟨bv6, dv6⟩ := (show rg 0 10 v6 from (by rw [ev6]; exact hI 6 _))
    exact g_iret C hr ⟨rfl, rfl, ⟨by omega, by omega⟩⟩ dX10_written_31
  ·
    have f7 := fne rfl (by decide : (0 : Int32).toInt = 0) c4
    refine g_aload_n C 0 dX10_written_12 rfl ?_
    refine g_get C (.ref (ad 1)) 0 in_X10_written_10 (List.mem_of_getElem? (i := 2) rfl) (by decide) (ce_house ad cs _ _) rfl (by decide) rfl rfl dX10_written_13 ?_
    refine g_get C (.int (M 1 0)) 0 in_X10_written_2 (List.mem_of_getElem? (i := 3) rfl) (by decide) (ce_cand ad cs _ _) rfl (by decide) rfl rfl dX10_written_16 ?_
    refine g_ni (fun v8 ev8 => ?_)
    have tv8 := congrArg Int32.toInt ev8
    obtain ⟨bv8, dv8⟩ := (show rg 0 10 v8 from (by rw [ev8]; exact hI 1 0 rfl))
    refine g_goto C 31 dX10_written_19 (by decide) ?_
    exact g_iret C hr ⟨rfl, rfl, ⟨by omega, by omega⟩⟩ dX10_written_31
theorem dX10_told_0 : decode cX10_told 0 = .ok (.aload_n 0, 1) := dw42 (n := 0) (i := 0) kc_cX10_told_0 (by decide +kernel)
theorem dX10_told_1 : decode cX10_told 1 = .ok (.getfield 19, 3) := dw180 (n := 0) (i := 1) (a := 0) (b := 19) kc_cX10_told_0 (by decide +kernel) (by decide)
theorem in_X10_told_10 : ∀ w ∈ u_ws RX10 TX10 13, w ∈ wsX10_told := fun _ h => List.mem_cons_of_mem _ (List.mem_append_left _ (List.mem_append_left _ (List.mem_append_right _ h)))
theorem dX10_told_4 : decode cX10_told 4 = .ok (.iload_n 1, 1) := dw27 (n := 0) (i := 4) kc_cX10_told_0 (by decide +kernel)
theorem dX10_told_5 : decode cX10_told 5 = .ok (.invokevirtual 112, 3) := dw182 (n := 0) (i := 5) (a := 0) (b := 112) kc_cX10_told_0 (by decide +kernel) (by decide)
set_option maxRecDepth 20000 in
theorem ggX10_told_X0_has : GoodIn wsX10_told wsX0_has := (gk_code 10 rfl (gk_fieldLink 11 rfl (gk_lays 39 rfl (gk_laysFinal 40 rfl (gk_laysFinal 41 rfl (gk_laysFinal 42 rfl (gk_laysFinal 43 rfl (gn))))))))
set_option maxRecDepth 20000 in
theorem gX10_told_X0_has : GoodIn wsX10_told (wsV RX10 112 RX0 yX0_has wsX0_has) := goodIn_app (gk_methodLink 6 rfl (gk_instanceMethod 7 rfl (gk_selects 8 rfl (gk_initialized 9 rfl (gn))))) ggX10_told_X0_has
theorem dX10_told_8 : decode cX10_told 8 = .ok (.ifCond .eq 7, 3) := dw153 (n := 0) (i := 8) (a := 0) (b := 7) kc_cX10_told_0 (by decide +kernel) (by decide)
theorem dX10_told_15 : decode cX10_told 15 = .ok (.iconst (-1), 1) := dw2 (n := 0) (i := 15) kc_cX10_told_0 (by decide +kernel)
theorem dX10_told_16 : decode cX10_told 16 = .ok (.ireturn, 1) := dw172 (n := 0) (i := 16) kc_cX10_told_0 (by decide +kernel)
theorem dX10_told_11 : decode cX10_told 11 = .ok (.iload_n 2, 1) := dw28 (n := 0) (i := 11) kc_cX10_told_0 (by decide +kernel)
theorem dX10_told_12 : decode cX10_told 12 = .ok (.ifCond .ge 5, 3) := dw156 (n := 0) (i := 12) (a := 0) (b := 5) kc_cX10_told_0 (by decide +kernel) (by decide)
theorem dX10_told_17 : decode cX10_told 17 = .ok (.iload_n 2, 1) := dw28 (n := 0) (i := 17) kc_cX10_told_0 (by decide +kernel)
theorem dX10_told_18 : decode cX10_told 18 = .ok (.tableswitch 56 0 2 #[26, 36, 46], 26) := by decide +kernel
theorem dX10_told_74 : decode cX10_told 74 = .ok (.iload_n 2, 1) := dw28 (n := 64) (i := 10) kc_cX10_told_2 (by decide +kernel)
theorem dX10_told_75 : decode cX10_told 75 = .ok (.iconst 3, 1) := dw6 (n := 64) (i := 11) kc_cX10_told_2 (by decide +kernel)
theorem dX10_told_76 : decode cX10_told 76 = .ok (.isub, 1) := dw100 (n := 64) (i := 12) kc_cX10_told_2 (by decide +kernel)
theorem dX10_told_77 : decode cX10_told 77 = .ok (.aload_n 0, 1) := dw42 (n := 64) (i := 13) kc_cX10_told_2 (by decide +kernel)
theorem dX10_told_78 : decode cX10_told 78 = .ok (.iload_n 1, 1) := dw27 (n := 64) (i := 14) kc_cX10_told_2 (by decide +kernel)
theorem dX10_told_79 : decode cX10_told 79 = .ok (.invokevirtual 139, 3) := dw182 (n := 64) (i := 15) (a := 0) (b := 139) kc_cX10_told_2 (by decide +kernel) (by decide)
set_option maxRecDepth 20000 in
theorem ggX10_told_X10_written : GoodIn wsX10_told wsX10_written := (gk_code 16 rfl (gk_fieldLink 1 rfl (gk_fieldLink 17 rfl (gk_fieldLink 18 rfl (gk_fieldLink 4 rfl (gk_methodLink 19 rfl (gk_instanceMethod 20 rfl (gk_selects 21 rfl (gk_initialized 9 rfl (gk_code 22 rfl (gk_fieldLink 23 rfl (gk_static 24 rfl (gk_initialized 15 rfl (gk_code 25 rfl (gk_laysFinal 26 rfl (gk_laysFinal 27 rfl (gk_laysFinal 28 rfl (gk_laysFinal 29 rfl (gk_laysFinal 30 rfl (gk_laysFinal 31 rfl (gk_laysFinal 32 rfl (gk_laysFinal 33 rfl (gk_lays 34 rfl (gk_lays 35 rfl (gk_lays 36 rfl (gk_lays 37 rfl (gk_laysFinal 38 rfl (gk_lays 44 rfl (gk_laysFinal 45 rfl (gk_lays 39 rfl (gk_laysFinal 40 rfl (gk_laysFinal 41 rfl (gk_laysFinal 42 rfl (gk_laysFinal 43 rfl (gn)))))))))))))))))))))))))))))))))))
set_option maxRecDepth 20000 in
theorem gX10_told_X10_written : GoodIn wsX10_told (wsV RX10 139 RX10 yX10_written wsX10_written) := goodIn_app (gk_methodLink 12 rfl (gk_instanceMethod 13 rfl (gk_selects 14 rfl (gk_initialized 15 rfl (gn))))) ggX10_told_X10_written
theorem dX10_told_82 : decode cX10_told 82 = .ok (.if_icmp .ge 19, 3) := dw162 (n := 64) (i := 18) (a := 0) (b := 19) kc_cX10_told_2 (by decide +kernel) (by decide)
theorem dX10_told_101 : decode cX10_told 101 = .ok (.bipush (-9), 2) := dw16 (n := 96) (i := 5) (a := 247) kc_cX10_told_3 (by decide +kernel) (by decide)
theorem dX10_told_103 : decode cX10_told 103 = .ok (.ireturn, 1) := dw172 (n := 96) (i := 7) kc_cX10_told_3 (by decide +kernel)
theorem dX10_told_85 : decode cX10_told 85 = .ok (.aload_n 0, 1) := dw42 (n := 64) (i := 21) kc_cX10_told_2 (by decide +kernel)
theorem dX10_told_86 : decode cX10_told 86 = .ok (.getfield 19, 3) := dw180 (n := 64) (i := 22) (a := 0) (b := 19) kc_cX10_told_2 (by decide +kernel) (by decide)
theorem dX10_told_89 : decode cX10_told 89 = .ok (.getfield 127, 3) := dw180 (n := 64) (i := 25) (a := 0) (b := 127) kc_cX10_told_2 (by decide +kernel) (by decide)
theorem in_X10_told_0 : ∀ w ∈ u_ws RX0 TX0 5, w ∈ wsX10_told := fun _ h => List.mem_cons_of_mem _ (List.mem_append_left _ (List.mem_append_right _ h))
theorem dX10_told_92 : decode cX10_told 92 = .ok (.iload_n 1, 1) := dw27 (n := 64) (i := 28) kc_cX10_told_2 (by decide +kernel)
theorem dX10_told_93 : decode cX10_told 93 = .ok (.aaload, 1) := dw50 (n := 64) (i := 29) kc_cX10_told_2 (by decide +kernel)
theorem dX10_told_94 : decode cX10_told 94 = .ok (.iload_n 2, 1) := dw28 (n := 64) (i := 30) kc_cX10_told_2 (by decide +kernel)
theorem dX10_told_95 : decode cX10_told 95 = .ok (.iconst 3, 1) := dw6 (n := 64) (i := 31) kc_cX10_told_2 (by decide +kernel)
theorem dX10_told_96 : decode cX10_told 96 = .ok (.isub, 1) := dw100 (n := 96) (i := 0) kc_cX10_told_3 (by decide +kernel)
theorem dX10_told_97 : decode cX10_told 97 = .ok (.iaload, 1) := dw46 (n := 96) (i := 1) kc_cX10_told_3 (by decide +kernel)
theorem dX10_told_98 : decode cX10_told 98 = .ok (.goto 5, 3) := dw167 (n := 96) (i := 2) (a := 0) (b := 5) kc_cX10_told_3 (by decide +kernel) (by decide)
theorem dX10_told_44 : decode cX10_told 44 = .ok (.aload_n 0, 1) := dw42 (n := 32) (i := 12) kc_cX10_told_1 (by decide +kernel)
theorem dX10_told_45 : decode cX10_told 45 = .ok (.getfield 19, 3) := dw180 (n := 32) (i := 13) (a := 0) (b := 19) kc_cX10_told_1 (by decide +kernel) (by decide)
theorem dX10_told_48 : decode cX10_told 48 = .ok (.getfield 130, 3) := dw180 (n := 32) (i := 16) (a := 0) (b := 130) kc_cX10_told_1 (by decide +kernel) (by decide)
theorem dX10_told_51 : decode cX10_told 51 = .ok (.iload_n 1, 1) := dw27 (n := 32) (i := 19) kc_cX10_told_1 (by decide +kernel)
theorem dX10_told_52 : decode cX10_told 52 = .ok (.iaload, 1) := dw46 (n := 32) (i := 20) kc_cX10_told_1 (by decide +kernel)
theorem dX10_told_53 : decode cX10_told 53 = .ok (.ireturn, 1) := dw172 (n := 32) (i := 21) kc_cX10_told_1 (by decide +kernel)
theorem dX10_told_54 : decode cX10_told 54 = .ok (.aload_n 0, 1) := dw42 (n := 32) (i := 22) kc_cX10_told_1 (by decide +kernel)
theorem dX10_told_55 : decode cX10_told 55 = .ok (.getfield 19, 3) := dw180 (n := 32) (i := 23) (a := 0) (b := 19) kc_cX10_told_1 (by decide +kernel) (by decide)
theorem dX10_told_58 : decode cX10_told 58 = .ok (.getfield 133, 3) := dw180 (n := 32) (i := 26) (a := 0) (b := 133) kc_cX10_told_1 (by decide +kernel) (by decide)
theorem dX10_told_61 : decode cX10_told 61 = .ok (.iload_n 1, 1) := dw27 (n := 32) (i := 29) kc_cX10_told_1 (by decide +kernel)
theorem dX10_told_62 : decode cX10_told 62 = .ok (.iaload, 1) := dw46 (n := 32) (i := 30) kc_cX10_told_1 (by decide +kernel)
theorem dX10_told_63 : decode cX10_told 63 = .ok (.ireturn, 1) := dw172 (n := 32) (i := 31) kc_cX10_told_1 (by decide +kernel)
theorem dX10_told_64 : decode cX10_told 64 = .ok (.aload_n 0, 1) := dw42 (n := 64) (i := 0) kc_cX10_told_2 (by decide +kernel)
theorem dX10_told_65 : decode cX10_told 65 = .ok (.getfield 19, 3) := dw180 (n := 64) (i := 1) (a := 0) (b := 19) kc_cX10_told_2 (by decide +kernel) (by decide)
theorem dX10_told_68 : decode cX10_told 68 = .ok (.getfield 136, 3) := dw180 (n := 64) (i := 4) (a := 0) (b := 136) kc_cX10_told_2 (by decide +kernel) (by decide)
theorem dX10_told_71 : decode cX10_told 71 = .ok (.iload_n 1, 1) := dw27 (n := 64) (i := 7) kc_cX10_told_2 (by decide +kernel)
theorem dX10_told_72 : decode cX10_told 72 = .ok (.iaload, 1) := dw46 (n := 64) (i := 8) kc_cX10_told_2 (by decide +kernel)
theorem dX10_told_73 : decode cX10_told 73 = .ok (.ireturn, 1) := dw172 (n := 64) (i := 9) kc_cX10_told_2 (by decide +kernel)
set_option maxHeartbeats 4000000 in
set_option maxRecDepth 100000 in
theorem s_X10_told (l : Launch) (D : va_G) (ad : Nat → Nat) (cs : Nat → ClassId) (M : MI) (L : ML) (b : Int32) (x : Int32) (hI : IC M) : Ci l yX10_told wsX10_told ({ frames := 3, cells := 0, slots := 0, locals := 67 }) D ad cs [.ref (ad 0), .int b, .int x] M L (fun r M1 L1 => M1 = M ∧ L1 = L ∧ True) := by
  refine enter_i RX10 rfl [(0, .ref (ad 0)), (1, .int b), (2, .int x)] rfl (Nat.le_of_ble_eq_true rfl) (by decide +kernel) rfl ?_
  intro p e s m below meth c C hr
  have hF : ∀ k, True → M k = M k := fun _ _ => rfl
  have hG : ∀ k, True → L k = L k := fun _ _ => rfl
  have qx := Int32.toInt_lt x
  refine g_aload_n C 0 dX10_told_0 rfl ?_
  refine g_get C (.ref (ad 3)) 1 in_X10_told_10 (List.mem_of_getElem? (i := 1) rfl) (by decide) (ce_house ad cs _ _) rfl (by decide) rfl rfl dX10_told_1 ?_
  refine g_iload_n C 1 dX10_told_4 rfl ?_
  refine g_callVi C (n := 1) (As := [.int b]) (st := []) (c_X0_has l D ad cs _ _ b) gX10_told_X0_has rfl rfl rfl (by decide +kernel) ⟨Nat.le_of_ble_eq_true rfl, Nat.le_of_ble_eq_true rfl⟩ rfl (Nat.le_of_ble_eq_true rfl) ⟨Nat.zero_le _, Nat.zero_le _⟩ (by decide) (ce_ball ad cs _ _) rfl rfl dX10_told_5 (fun r1 M2 L3 hr1 => ?_)
  obtain ⟨hq1, hq2, hr1⟩ := hr1
  obtain rfl := hq1.symm
  obtain rfl := hq2.symm
  refine g_if_eq C 15 dX10_told_8 (by decide) (fun c4 => ?_) (fun c4 => ?_)
  ·
    have f5 := feq rfl (by decide : (0 : Int32).toInt = 0) c4
    refine g_iconst C (-1) dX10_told_15 (by decide) ?_
    exact g_iret C hr ⟨rfl, rfl, trivial⟩ dX10_told_16
  ·
    have f6 := fne rfl (by decide : (0 : Int32).toInt = 0) c4
    obtain ⟨far1, fbr1⟩ := has_t hr1 c4
    obtain ⟨fcr1, fdr1⟩ := (show rg 0 60 (M 3 0) from hI 3 0 rfl)
    refine g_iload_n C 2 dX10_told_11 rfl ?_
    refine g_if_ge C 17 dX10_told_12 (by decide) (fun c7 => ?_) (fun c7 => ?_)
    ·
      have f8 := fle (by decide : (0 : Int32).toInt = 0) rfl c7
      refine g_iload_n C 2 dX10_told_17 rfl ?_
      by_cases hsw : x.toInt < 0 ∨ 2 < x.toInt
      ·
        refine g_tableOut C 74 dX10_told_18 hsw (by decide) ?_
        refine g_iload_n C 2 dX10_told_74 rfl ?_
        refine g_iconst C 3 dX10_told_75 (by decide) ?_
        refine g_isub C dX10_told_76 ?_
        refine g_ni (fun v9 ev9 => ?_)
        try have fv9 := fsub rfl (by decide : (3 : Int32).toInt = 3) ev9 (by omega) (by omega)
        refine g_aload_n C 0 dX10_told_77 rfl ?_
        refine g_iload_n C 1 dX10_told_78 rfl ?_
        refine g_callVi C (n := 1) (As := [.int b]) (st := [.int v9]) (s_X10_written l D ad cs _ _ b hI ⟨by omega, by omega⟩) gX10_told_X10_written rfl rfl rfl (by decide +kernel) ⟨Nat.le_of_ble_eq_true rfl, Nat.le_of_ble_eq_true rfl⟩ rfl (Nat.le_of_ble_eq_true rfl) ⟨Nat.zero_le _, Nat.zero_le _⟩ (by decide) (ce_house ad cs _ _) rfl rfl dX10_told_79 (fun r10 M11 L12 hr10 => ?_)
        obtain ⟨hq1, hq2, hr10⟩ := hr10
        obtain rfl := hq1.symm
        obtain rfl := hq2.symm
        obtain ⟨br10, dr10⟩ := hr10
        refine g_icmp_ge C 101 dX10_told_82 (by decide) (fun c13 => ?_) (fun c13 => ?_)
        ·
          have f14 := fle rfl rfl c13
          refine g_bipush C (-9) dX10_told_101 (by decide) ?_
          exact g_iret C hr ⟨rfl, rfl, trivial⟩ dX10_told_103
        ·
          have f15 := fnle rfl rfl c13
          refine g_aload_n C 0 dX10_told_85 rfl ?_
          refine g_get C (.ref (ad 3)) 1 in_X10_told_10 (List.mem_of_getElem? (i := 1) rfl) (by decide) (ce_house ad cs _ _) rfl (by decide) rfl rfl dX10_told_86 ?_
          refine g_get C (.ref (ad 7)) 4 in_X10_told_0 (List.mem_of_getElem? (i := 5) rfl) (by decide) (ce_ball ad cs _ _) rfl (by decide) rfl rfl dX10_told_89 ?_
          refine g_iload_n C 1 dX10_told_92 rfl ?_
          have hi16 : vp_in b 60 := (fin' (n := 60) rfl (by omega) (by omega))
          have nhi16 := tn hi16
          refine g_aald C (by decide) (ce_browm ad cs _ _) rfl hi16 dX10_told_93 ?_
          refine g_iload_n C 2 dX10_told_94 rfl ?_
          refine g_iconst C 3 dX10_told_95 (by decide) ?_
          refine g_isub C dX10_told_96 ?_
          refine g_ni (fun v17 ev17 => ?_)
          try have fv17 := fsub rfl (by decide : (3 : Int32).toInt = 3) ev17 (by omega) (by omega)
          refine g_iald C (by omega) (ce_brow ad cs _ _ nhi16) (fin' (n := 10) rfl (by omega) (by omega)) dX10_told_97 ?_
          refine g_ni (fun v18 ev18 => ?_)
          have tv18 := congrArg Int32.toInt ev18
          obtain ⟨bv18, dv18⟩ := (show rg 0 9 v18 from (by rw [ev18]; exact hI.row _ (by omega) (by omega)))
          refine g_goto C 103 dX10_told_98 (by decide) ?_
          exact g_iret C hr ⟨rfl, rfl, trivial⟩ dX10_told_103
      ·
        have hsw1 : ¬ x.toInt < 0 := fun h => hsw (Or.inl h)
        have hsw2 : ¬ 2 < x.toInt := fun h => hsw (Or.inr h)
        rcases (show x.toInt = 0 ∨ x.toInt = 1 ∨ x.toInt = 2 by omega) with hq | hq | hq
        ·
          refine g_tableIn C 44 dX10_told_18 hsw1 hsw2 (off := 26) (by rw [hq]; rfl) (by decide) ?_
          refine g_aload_n C 0 dX10_told_44 rfl ?_
          refine g_get C (.ref (ad 3)) 1 in_X10_told_10 (List.mem_of_getElem? (i := 1) rfl) (by decide) (ce_house ad cs _ _) rfl (by decide) rfl rfl dX10_told_45 ?_
          refine g_get C (.ref (ad 4)) 1 in_X10_told_0 (List.mem_of_getElem? (i := 2) rfl) (by decide) (ce_ball ad cs _ _) rfl (by decide) rfl rfl dX10_told_48 ?_
          refine g_iload_n C 1 dX10_told_51 rfl ?_
          refine g_iald C (by decide) (ce_bsort ad cs _ _) (fin' (n := 60) rfl (by omega) (by omega)) dX10_told_52 ?_
          refine g_ni (fun v19 ev19 => ?_)
          have tv19 := congrArg Int32.toInt ev19
          exact g_iret C hr ⟨rfl, rfl, trivial⟩ dX10_told_53
        ·
          refine g_tableIn C 54 dX10_told_18 hsw1 hsw2 (off := 36) (by rw [hq]; rfl) (by decide) ?_
          refine g_aload_n C 0 dX10_told_54 rfl ?_
          refine g_get C (.ref (ad 3)) 1 in_X10_told_10 (List.mem_of_getElem? (i := 1) rfl) (by decide) (ce_house ad cs _ _) rfl (by decide) rfl rfl dX10_told_55 ?_
          refine g_get C (.ref (ad 5)) 2 in_X10_told_0 (List.mem_of_getElem? (i := 3) rfl) (by decide) (ce_ball ad cs _ _) rfl (by decide) rfl rfl dX10_told_58 ?_
          refine g_iload_n C 1 dX10_told_61 rfl ?_
          refine g_iald C (by decide) (ce_bpapers ad cs _ _) (fin' (n := 60) rfl (by omega) (by omega)) dX10_told_62 ?_
          refine g_ni (fun v20 ev20 => ?_)
          have tv20 := congrArg Int32.toInt ev20
          exact g_iret C hr ⟨rfl, rfl, trivial⟩ dX10_told_63
        ·
          refine g_tableIn C 64 dX10_told_18 hsw1 hsw2 (off := 46) (by rw [hq]; rfl) (by decide) ?_
          refine g_aload_n C 0 dX10_told_64 rfl ?_
          refine g_get C (.ref (ad 3)) 1 in_X10_told_10 (List.mem_of_getElem? (i := 1) rfl) (by decide) (ce_house ad cs _ _) rfl (by decide) rfl rfl dX10_told_65 ?_
          refine g_get C (.ref (ad 6)) 3 in_X10_told_0 (List.mem_of_getElem? (i := 4) rfl) (by decide) (ce_ball ad cs _ _) rfl (by decide) rfl rfl dX10_told_68 ?_
          refine g_iload_n C 1 dX10_told_71 rfl ?_
          refine g_iald C (by decide) (ce_bonit ad cs _ _) (fin' (n := 60) rfl (by omega) (by omega)) dX10_told_72 ?_
          refine g_ni (fun v21 ev21 => ?_)
          have tv21 := congrArg Int32.toInt ev21
          obtain ⟨bv21, dv21⟩ := (show rg 0 10 v21 from (by rw [ev21]; exact hI 6 _))
          exact g_iret C hr ⟨rfl, rfl, trivial⟩ dX10_told_73
    ·
      have f22 := fnle (by decide : (0 : Int32).toInt = 0) rfl c7
      refine g_iconst C (-1) dX10_told_15 (by decide) ?_
      exact g_iret C hr ⟨rfl, rfl, trivial⟩ dX10_told_16
theorem dX10_digestBallot_0 : decode cX10_digestBallot 0 = .ok (.lload_n 1, 1) := dw31 (n := 0) (i := 0) kc_cX10_digestBallot_0 (by decide +kernel)
theorem dX10_digestBallot_1 : decode cX10_digestBallot 1 = .ok (.lstore 4, 2) := dw55 (n := 0) (i := 1) (a := 4) kc_cX10_digestBallot_0 (by decide +kernel) (by decide)
theorem dX10_digestBallot_3 : decode cX10_digestBallot 3 = .ok (.iconst 3, 1) := dw6 (n := 0) (i := 3) kc_cX10_digestBallot_0 (by decide +kernel)
theorem dX10_digestBallot_4 : decode cX10_digestBallot 4 = .ok (.aload_n 0, 1) := dw42 (n := 0) (i := 4) kc_cX10_digestBallot_0 (by decide +kernel)
theorem dX10_digestBallot_5 : decode cX10_digestBallot 5 = .ok (.iload_n 3, 1) := dw29 (n := 0) (i := 5) kc_cX10_digestBallot_0 (by decide +kernel)
theorem dX10_digestBallot_6 : decode cX10_digestBallot 6 = .ok (.invokevirtual 139, 3) := dw182 (n := 0) (i := 6) (a := 0) (b := 139) kc_cX10_digestBallot_0 (by decide +kernel) (by decide)
set_option maxRecDepth 20000 in
theorem ggX10_digestBallot_X10_written : GoodIn wsX10_digestBallot wsX10_written := (gk_code 6 rfl (gk_fieldLink 7 rfl (gk_fieldLink 8 rfl (gk_fieldLink 9 rfl (gk_fieldLink 10 rfl (gk_methodLink 11 rfl (gk_instanceMethod 12 rfl (gk_selects 13 rfl (gk_initialized 14 rfl (gk_code 15 rfl (gk_fieldLink 16 rfl (gk_static 17 rfl (gk_initialized 5 rfl (gk_code 18 rfl (gk_laysFinal 31 rfl (gk_laysFinal 32 rfl (gk_laysFinal 33 rfl (gk_laysFinal 34 rfl (gk_laysFinal 35 rfl (gk_laysFinal 36 rfl (gk_laysFinal 37 rfl (gk_laysFinal 38 rfl (gk_lays 39 rfl (gk_lays 40 rfl (gk_lays 41 rfl (gk_lays 42 rfl (gk_laysFinal 43 rfl (gk_lays 44 rfl (gk_laysFinal 45 rfl (gk_lays 46 rfl (gk_laysFinal 47 rfl (gk_laysFinal 48 rfl (gk_laysFinal 49 rfl (gk_laysFinal 50 rfl (gn)))))))))))))))))))))))))))))))))))
set_option maxRecDepth 20000 in
theorem gX10_digestBallot_X10_written : GoodIn wsX10_digestBallot (wsV RX10 139 RX10 yX10_written wsX10_written) := goodIn_app (gk_methodLink 2 rfl (gk_instanceMethod 3 rfl (gk_selects 4 rfl (gk_initialized 5 rfl (gn))))) ggX10_digestBallot_X10_written
theorem dX10_digestBallot_9 : decode cX10_digestBallot 9 = .ok (.iadd, 1) := dw96 (n := 0) (i := 9) kc_cX10_digestBallot_0 (by decide +kernel)
theorem dX10_digestBallot_10 : decode cX10_digestBallot 10 = .ok (.istore 6, 2) := dw54 (n := 0) (i := 10) (a := 6) kc_cX10_digestBallot_0 (by decide +kernel) (by decide)
theorem dX10_digestBallot_12 : decode cX10_digestBallot 12 = .ok (.iconst 0, 1) := dw3 (n := 0) (i := 12) kc_cX10_digestBallot_0 (by decide +kernel)
theorem dX10_digestBallot_13 : decode cX10_digestBallot 13 = .ok (.istore 7, 2) := dw54 (n := 0) (i := 13) (a := 7) kc_cX10_digestBallot_0 (by decide +kernel) (by decide)
theorem dX10_digestBallot_15 : decode cX10_digestBallot 15 = .ok (.iload 7, 2) := dw21 (n := 0) (i := 15) (a := 7) kc_cX10_digestBallot_0 (by decide +kernel) (by decide)
theorem dX10_digestBallot_17 : decode cX10_digestBallot 17 = .ok (.iload 6, 2) := dw21 (n := 0) (i := 17) (a := 6) kc_cX10_digestBallot_0 (by decide +kernel) (by decide)
theorem dX10_digestBallot_19 : decode cX10_digestBallot 19 = .ok (.if_icmp .ge 26, 3) := dw162 (n := 0) (i := 19) (a := 0) (b := 26) kc_cX10_digestBallot_0 (by decide +kernel) (by decide)
theorem dX10_digestBallot_45 : decode cX10_digestBallot 45 = .ok (.lload 4, 2) := dw22 (n := 32) (i := 13) (a := 4) kc_cX10_digestBallot_1 (by decide +kernel) (by decide)
theorem dX10_digestBallot_47 : decode cX10_digestBallot 47 = .ok (.lreturn, 1) := dw173 (n := 32) (i := 15) kc_cX10_digestBallot_1 (by decide +kernel)
theorem dX10_digestBallot_22 : decode cX10_digestBallot 22 = .ok (.ldc2_w 257, 3) := dw20 (n := 0) (i := 22) (a := 1) (b := 1) kc_cX10_digestBallot_0 (by decide +kernel) (by decide)
theorem dX10_digestBallot_25 : decode cX10_digestBallot 25 = .ok (.lload 4, 2) := dw22 (n := 0) (i := 25) (a := 4) kc_cX10_digestBallot_0 (by decide +kernel) (by decide)
theorem dX10_digestBallot_27 : decode cX10_digestBallot 27 = .ok (.lmul, 1) := dw105 (n := 0) (i := 27) kc_cX10_digestBallot_0 (by decide +kernel)
theorem dX10_digestBallot_28 : decode cX10_digestBallot 28 = .ok (.aload_n 0, 1) := dw42 (n := 0) (i := 28) kc_cX10_digestBallot_0 (by decide +kernel)
theorem dX10_digestBallot_29 : decode cX10_digestBallot 29 = .ok (.iload_n 3, 1) := dw29 (n := 0) (i := 29) kc_cX10_digestBallot_0 (by decide +kernel)
theorem dX10_digestBallot_30 : decode cX10_digestBallot 30 = .ok (.iload 7, 2) := dw21 (n := 0) (i := 30) (a := 7) kc_cX10_digestBallot_0 (by decide +kernel) (by decide)
theorem dX10_digestBallot_32 : decode cX10_digestBallot 32 = .ok (.invokevirtual 269, 3) := dw182 (n := 32) (i := 0) (a := 1) (b := 13) kc_cX10_digestBallot_1 (by decide +kernel) (by decide)
set_option maxRecDepth 20000 in
theorem ggX10_digestBallot_X10_told : GoodIn wsX10_digestBallot wsX10_told := (gk_code 22 rfl (gk_fieldLink 7 rfl (gk_fieldLink 23 rfl (gk_fieldLink 24 rfl (gk_fieldLink 10 rfl (gk_fieldLink 25 rfl (gk_methodLink 26 rfl (gk_instanceMethod 27 rfl (gk_selects 28 rfl (gk_initialized 14 rfl (gk_code 29 rfl (gk_fieldLink 30 rfl (gk_methodLink 2 rfl (gk_instanceMethod 3 rfl (gk_selects 4 rfl (gk_initialized 5 rfl (gk_code 6 rfl (gk_fieldLink 8 rfl (gk_fieldLink 9 rfl (gk_methodLink 11 rfl (gk_instanceMethod 12 rfl (gk_selects 13 rfl (gk_code 15 rfl (gk_fieldLink 16 rfl (gk_static 17 rfl (gk_code 18 rfl (gk_laysFinal 31 rfl (gk_laysFinal 32 rfl (gk_laysFinal 33 rfl (gk_laysFinal 34 rfl (gk_laysFinal 35 rfl (gk_laysFinal 36 rfl (gk_laysFinal 37 rfl (gk_laysFinal 38 rfl (gk_lays 39 rfl (gk_lays 40 rfl (gk_lays 41 rfl (gk_lays 42 rfl (gk_laysFinal 43 rfl (gk_lays 46 rfl (gk_laysFinal 47 rfl (gk_laysFinal 48 rfl (gk_laysFinal 49 rfl (gk_laysFinal 50 rfl (gk_lays 44 rfl (gk_laysFinal 45 rfl (gn)))))))))))))))))))))))))))))))))))))))))))))))
set_option maxRecDepth 20000 in
theorem gX10_digestBallot_X10_told : GoodIn wsX10_digestBallot (wsV RX10 269 RX10 yX10_told wsX10_told) := goodIn_app (gk_methodLink 19 rfl (gk_instanceMethod 20 rfl (gk_selects 21 rfl (gk_initialized 5 rfl (gn))))) ggX10_digestBallot_X10_told
theorem dX10_digestBallot_35 : decode cX10_digestBallot 35 = .ok (.i2l, 1) := dw133 (n := 32) (i := 3) kc_cX10_digestBallot_1 (by decide +kernel)
theorem dX10_digestBallot_36 : decode cX10_digestBallot 36 = .ok (.ladd, 1) := dw97 (n := 32) (i := 4) kc_cX10_digestBallot_1 (by decide +kernel)
theorem dX10_digestBallot_37 : decode cX10_digestBallot 37 = .ok (.lstore 4, 2) := dw55 (n := 32) (i := 5) (a := 4) kc_cX10_digestBallot_1 (by decide +kernel) (by decide)
theorem dX10_digestBallot_39 : decode cX10_digestBallot 39 = .ok (.iinc 7 1, 3) := by decide +kernel
theorem dX10_digestBallot_42 : decode cX10_digestBallot 42 = .ok (.goto (-27), 3) := dw167 (n := 32) (i := 10) (a := 255) (b := 229) kc_cX10_digestBallot_1 (by decide +kernel) (by decide)
set_option maxHeartbeats 4000000 in
set_option maxRecDepth 100000 in
theorem s_X10_digestBallot (l : Launch) (D : va_G) (ad : Nat → Nat) (cs : Nat → ClassId) (M : MI) (L : ML) (y : Int64) (b : Int32) (hI : IC M) (hb : 0 ≤ b.toInt ∧ b.toInt < 60) : Cl l yX10_digestBallot wsX10_digestBallot ({ frames := 4, cells := 0, slots := 0, locals := 89 }) D ad cs [.ref (ad 0), .long y, .int b] M L (fun r M1 L1 => M1 = M ∧ L1 = L ∧ True) := by
  refine enter_l RX10 rfl [(0, .ref (ad 0)), (1, .long y), (3, .int b)] rfl (Nat.le_of_ble_eq_true rfl) (by decide +kernel) rfl ?_
  intro p e s m below meth c C hr
  have hF : ∀ k, True → M k = M k := fun _ _ => rfl
  have hG : ∀ k, True → L k = L k := fun _ _ => rfl
  obtain ⟨hb1, hb2⟩ := hb
  refine g_lload_n C 1 dX10_digestBallot_0 rfl ?_
  refine g_lstore C [(4, .long y), (0, .ref (ad 0)), (1, .long y), (3, .int b)] dX10_digestBallot_1 (by decide) rfl ?_
  refine g_iconst C 3 dX10_digestBallot_3 (by decide) ?_
  refine g_aload_n C 1 dX10_digestBallot_4 rfl ?_
  refine g_iload_n C 3 dX10_digestBallot_5 rfl ?_
  refine g_callVi C (n := 1) (As := [.int b]) (st := [.int 3]) (s_X10_written l D ad cs _ _ b hI ⟨by omega, by omega⟩) gX10_digestBallot_X10_written rfl rfl rfl (by decide +kernel) ⟨Nat.le_of_ble_eq_true rfl, Nat.le_of_ble_eq_true rfl⟩ rfl (Nat.le_of_ble_eq_true rfl) ⟨Nat.zero_le _, Nat.zero_le _⟩ (by decide) (ce_house ad cs _ _) rfl rfl dX10_digestBallot_6 (fun r1 M2 L3 hr1 => ?_)
  obtain ⟨hq1, hq2, hr1⟩ := hr1
  obtain rfl := hq1.symm
  obtain rfl := hq2.symm
  obtain ⟨br1, dr1⟩ := hr1
  refine g_iadd C dX10_digestBallot_9 ?_
  refine g_ni (fun v4 ev4 => ?_)
  try have fv4 := fadd (by decide : (3 : Int32).toInt = 3) rfl ev4 (by omega) (by omega)
  refine g_istore C [(6, .int v4), (4, .long y), (0, .ref (ad 0)), (1, .long y), (3, .int b)] dX10_digestBallot_10 (by decide) rfl ?_
  refine g_iconst C 0 dX10_digestBallot_12 (by decide) ?_
  refine g_istore C [(7, .int 0), (6, .int v4), (4, .long y), (0, .ref (ad 0)), (1, .long y), (3, .int b)] dX10_digestBallot_13 (by decide) rfl ?_
  have zy5 : (0 : Int32).toInt = 0 := by decide
  refine g_loop (α := Int32 × Int64 × MI × ML) (fun a => (14 - a.1.toInt).toNat) (fun a => 0 ≤ a.1.toInt ∧ a.1.toInt ≤ 13 ∧ IC a.2.2.1 ∧ (∀ k, True → a.2.2.1 k = M k) ∧ (∀ k, True → a.2.2.2 k = L k)) (fun a => a.2.2.1) (fun a => a.2.2.2) (fun a => [(7, .int a.1), (6, .int v4), (4, .long a.2.1), (0, .ref (ad 0)), (1, .long y), (3, .int b)]) (0, y, M, L) ⟨by show 0 ≤ (0 : Int32).toInt; omega, by show (0 : Int32).toInt ≤ 13; omega, hI, hF, hG⟩ rfl rfl rfl ?_
  rintro ⟨x7_15, x4_15, M_15, L_15⟩ ⟨j15_0, j15_1, hI, hF, hG⟩ ih_15
  dsimp only at j15_0 j15_1 hI hF hG ih_15 ⊢
  refine g_iload C 0 dX10_digestBallot_15 rfl ?_
  refine g_iload C 1 dX10_digestBallot_17 rfl ?_
  refine g_icmp_ge C 45 dX10_digestBallot_19 (by decide) (fun c6 => ?_) (fun c6 => ?_)
  ·
    have f7 := fle rfl rfl c6
    refine g_lload C 2 dX10_digestBallot_45 rfl ?_
    exact g_lret C hr ⟨funext (fun k => hF k trivial), funext (fun k => hG k trivial), trivial⟩ dX10_digestBallot_47
  ·
    have f8 := fnle rfl rfl c6
    refine g_ldc2 C 31 (List.mem_of_getElem? (i := 1) rfl) dX10_digestBallot_22 ?_
    refine g_lload C 2 dX10_digestBallot_25 rfl ?_
    refine g_lmul C dX10_digestBallot_27 ?_
    refine g_nl (fun v9 ev9 => ?_)
    refine g_aload_n C 3 dX10_digestBallot_28 rfl ?_
    refine g_iload_n C 5 dX10_digestBallot_29 rfl ?_
    refine g_iload C 0 dX10_digestBallot_30 rfl ?_
    refine g_callVi C (n := 2) (As := [.int b, .int x7_15]) (st := [.long v9]) (s_X10_told l D ad cs _ _ b x7_15 hI) gX10_digestBallot_X10_told rfl rfl rfl (by decide +kernel) ⟨Nat.le_of_ble_eq_true rfl, Nat.le_of_ble_eq_true rfl⟩ rfl (Nat.le_of_ble_eq_true rfl) ⟨Nat.zero_le _, Nat.zero_le _⟩ (by decide) (ce_house ad cs _ _) rfl rfl dX10_digestBallot_32 (fun r10 M11 L12 hr10 => ?_)
    obtain ⟨hq1, hq2, hr10⟩ := hr10
    obtain rfl := hq1.symm
    obtain rfl := hq2.symm
    refine g_i2l C dX10_digestBallot_35 ?_
    refine g_nl (fun v13 ev13 => ?_)
    refine g_ladd C dX10_digestBallot_36 ?_
    refine g_nl (fun v14 ev14 => ?_)
    refine g_lstore C [(4, .long v14), (7, .int x7_15), (6, .int v4), (0, .ref (ad 0)), (1, .long y), (3, .int b)] dX10_digestBallot_37 (by decide) rfl ?_
    obtain ⟨v15, ev15⟩ : ∃ y : Int32, y = x7_15 + 1 := ⟨_, rfl⟩
    try have fv15 := fadd rfl (by decide : (1 : Int32).toInt = 1) ev15 (by omega) (by omega)
    refine g_iinc C 1 v15 [(7, .int v15), (4, .long v14), (6, .int v4), (0, .ref (ad 0)), (1, .long y), (3, .int b)] dX10_digestBallot_39 rfl (by rw [ev15]; rfl) (by decide) rfl ?_
    refine g_goto C 15 dX10_digestBallot_42 (by decide) ?_
    refine g_lv [0, 2, 1, 3, 4, 5] [(7, .int v15), (6, .int v4), (4, .long v14), (0, .ref (ad 0)), (1, .long y), (3, .int b)] rfl ?_
    exact ih_15 (v15, v14, M_15, L_15) ⟨by show 0 ≤ v15.toInt; omega, by show v15.toInt ≤ 13; omega, hI, hF, hG⟩ (by show (14 - v15.toInt).toNat < (14 - x7_15.toInt).toNat; omega)
theorem dX10_methodOf_0 : decode cX10_methodOf 0 = .ok (.aload_n 0, 1) := dw42 (n := 0) (i := 0) kc_cX10_methodOf_0 (by decide +kernel)
theorem dX10_methodOf_1 : decode cX10_methodOf 1 = .ok (.getfield 33, 3) := dw180 (n := 0) (i := 1) (a := 0) (b := 33) kc_cX10_methodOf_0 (by decide +kernel) (by decide)
theorem in_X10_methodOf_10 : ∀ w ∈ u_ws RX10 TX10 13, w ∈ wsX10_methodOf := fun _ h => List.mem_cons_of_mem _ (List.mem_append_left _ (List.mem_append_right _ h))
theorem dX10_methodOf_4 : decode cX10_methodOf 4 = .ok (.iload_n 1, 1) := dw27 (n := 0) (i := 4) kc_cX10_methodOf_0 (by decide +kernel)
theorem dX10_methodOf_5 : decode cX10_methodOf 5 = .ok (.invokevirtual 180, 3) := dw182 (n := 0) (i := 5) (a := 0) (b := 180) kc_cX10_methodOf_0 (by decide +kernel) (by decide)
set_option maxRecDepth 20000 in
theorem ggX10_methodOf_X4_has : GoodIn wsX10_methodOf wsX4_has := (gk_code 9 rfl (gk_fieldLink 10 rfl (gk_lays 24 rfl (gk_laysFinal 25 rfl (gk_laysFinal 26 rfl (gk_laysFinal 27 rfl (gk_laysFinal 28 rfl (gk_laysFinal 29 rfl (gk_laysFinal 30 rfl (gn))))))))))
set_option maxRecDepth 20000 in
theorem gX10_methodOf_X4_has : GoodIn wsX10_methodOf (wsV RX10 180 RX4 yX4_has wsX4_has) := goodIn_app (gk_methodLink 5 rfl (gk_instanceMethod 6 rfl (gk_selects 7 rfl (gk_initialized 8 rfl (gn))))) ggX10_methodOf_X4_has
theorem dX10_methodOf_8 : decode cX10_methodOf 8 = .ok (.ifCond .ne 5, 3) := dw154 (n := 0) (i := 8) (a := 0) (b := 5) kc_cX10_methodOf_0 (by decide +kernel) (by decide)
theorem dX10_methodOf_13 : decode cX10_methodOf 13 = .ok (.iload_n 2, 1) := dw28 (n := 0) (i := 13) kc_cX10_methodOf_0 (by decide +kernel)
theorem dX10_methodOf_14 : decode cX10_methodOf 14 = .ok (.tableswitch 78 0 3 #[30, 40, 50, 68], 30) := by decide +kernel
theorem dX10_methodOf_92 : decode cX10_methodOf 92 = .ok (.iconst (-1), 1) := dw2 (n := 64) (i := 28) kc_cX10_methodOf_2 (by decide +kernel)
theorem dX10_methodOf_93 : decode cX10_methodOf 93 = .ok (.ireturn, 1) := dw172 (n := 64) (i := 29) kc_cX10_methodOf_2 (by decide +kernel)
theorem dX10_methodOf_44 : decode cX10_methodOf 44 = .ok (.aload_n 0, 1) := dw42 (n := 32) (i := 12) kc_cX10_methodOf_1 (by decide +kernel)
theorem dX10_methodOf_45 : decode cX10_methodOf 45 = .ok (.getfield 33, 3) := dw180 (n := 32) (i := 13) (a := 0) (b := 33) kc_cX10_methodOf_1 (by decide +kernel) (by decide)
theorem dX10_methodOf_48 : decode cX10_methodOf 48 = .ok (.getfield 184, 3) := dw180 (n := 32) (i := 16) (a := 0) (b := 184) kc_cX10_methodOf_1 (by decide +kernel) (by decide)
theorem in_X10_methodOf_4 : ∀ w ∈ u_ws RX4 TX4 7, w ∈ wsX10_methodOf := fun _ h => List.mem_cons_of_mem _ (List.mem_append_right _ h)
theorem dX10_methodOf_51 : decode cX10_methodOf 51 = .ok (.iload_n 1, 1) := dw27 (n := 32) (i := 19) kc_cX10_methodOf_1 (by decide +kernel)
theorem dX10_methodOf_52 : decode cX10_methodOf 52 = .ok (.iaload, 1) := dw46 (n := 32) (i := 20) kc_cX10_methodOf_1 (by decide +kernel)
theorem dX10_methodOf_53 : decode cX10_methodOf 53 = .ok (.ireturn, 1) := dw172 (n := 32) (i := 21) kc_cX10_methodOf_1 (by decide +kernel)
theorem dX10_methodOf_54 : decode cX10_methodOf 54 = .ok (.aload_n 0, 1) := dw42 (n := 32) (i := 22) kc_cX10_methodOf_1 (by decide +kernel)
theorem dX10_methodOf_55 : decode cX10_methodOf 55 = .ok (.getfield 33, 3) := dw180 (n := 32) (i := 23) (a := 0) (b := 33) kc_cX10_methodOf_1 (by decide +kernel) (by decide)
theorem dX10_methodOf_58 : decode cX10_methodOf 58 = .ok (.getfield 187, 3) := dw180 (n := 32) (i := 26) (a := 0) (b := 187) kc_cX10_methodOf_1 (by decide +kernel) (by decide)
theorem dX10_methodOf_61 : decode cX10_methodOf 61 = .ok (.iload_n 1, 1) := dw27 (n := 32) (i := 29) kc_cX10_methodOf_1 (by decide +kernel)
theorem dX10_methodOf_62 : decode cX10_methodOf 62 = .ok (.iaload, 1) := dw46 (n := 32) (i := 30) kc_cX10_methodOf_1 (by decide +kernel)
theorem dX10_methodOf_63 : decode cX10_methodOf 63 = .ok (.ireturn, 1) := dw172 (n := 32) (i := 31) kc_cX10_methodOf_1 (by decide +kernel)
theorem dX10_methodOf_64 : decode cX10_methodOf 64 = .ok (.aload_n 0, 1) := dw42 (n := 64) (i := 0) kc_cX10_methodOf_2 (by decide +kernel)
theorem dX10_methodOf_65 : decode cX10_methodOf 65 = .ok (.getfield 33, 3) := dw180 (n := 64) (i := 1) (a := 0) (b := 33) kc_cX10_methodOf_2 (by decide +kernel) (by decide)
theorem dX10_methodOf_68 : decode cX10_methodOf 68 = .ok (.getfield 187, 3) := dw180 (n := 64) (i := 4) (a := 0) (b := 187) kc_cX10_methodOf_2 (by decide +kernel) (by decide)
theorem dX10_methodOf_71 : decode cX10_methodOf 71 = .ok (.iload_n 1, 1) := dw27 (n := 64) (i := 7) kc_cX10_methodOf_2 (by decide +kernel)
theorem dX10_methodOf_72 : decode cX10_methodOf 72 = .ok (.iaload, 1) := dw46 (n := 64) (i := 8) kc_cX10_methodOf_2 (by decide +kernel)
theorem dX10_methodOf_73 : decode cX10_methodOf 73 = .ok (.ifCond .ne 7, 3) := dw154 (n := 64) (i := 9) (a := 0) (b := 7) kc_cX10_methodOf_2 (by decide +kernel) (by decide)
theorem dX10_methodOf_80 : decode cX10_methodOf 80 = .ok (.iconst 1, 1) := dw4 (n := 64) (i := 16) kc_cX10_methodOf_2 (by decide +kernel)
theorem dX10_methodOf_81 : decode cX10_methodOf 81 = .ok (.ireturn, 1) := dw172 (n := 64) (i := 17) kc_cX10_methodOf_2 (by decide +kernel)
theorem dX10_methodOf_76 : decode cX10_methodOf 76 = .ok (.iconst 0, 1) := dw3 (n := 64) (i := 12) kc_cX10_methodOf_2 (by decide +kernel)
theorem dX10_methodOf_77 : decode cX10_methodOf 77 = .ok (.goto 4, 3) := dw167 (n := 64) (i := 13) (a := 0) (b := 4) kc_cX10_methodOf_2 (by decide +kernel) (by decide)
theorem dX10_methodOf_82 : decode cX10_methodOf 82 = .ok (.aload_n 0, 1) := dw42 (n := 64) (i := 18) kc_cX10_methodOf_2 (by decide +kernel)
theorem dX10_methodOf_83 : decode cX10_methodOf 83 = .ok (.getfield 33, 3) := dw180 (n := 64) (i := 19) (a := 0) (b := 33) kc_cX10_methodOf_2 (by decide +kernel) (by decide)
theorem dX10_methodOf_86 : decode cX10_methodOf 86 = .ok (.getfield 190, 3) := dw180 (n := 64) (i := 22) (a := 0) (b := 190) kc_cX10_methodOf_2 (by decide +kernel) (by decide)
theorem dX10_methodOf_89 : decode cX10_methodOf 89 = .ok (.iload_n 1, 1) := dw27 (n := 64) (i := 25) kc_cX10_methodOf_2 (by decide +kernel)
theorem dX10_methodOf_90 : decode cX10_methodOf 90 = .ok (.iaload, 1) := dw46 (n := 64) (i := 26) kc_cX10_methodOf_2 (by decide +kernel)
theorem dX10_methodOf_91 : decode cX10_methodOf 91 = .ok (.ireturn, 1) := dw172 (n := 64) (i := 27) kc_cX10_methodOf_2 (by decide +kernel)
theorem dX10_methodOf_11 : decode cX10_methodOf 11 = .ok (.iconst (-1), 1) := dw2 (n := 0) (i := 11) kc_cX10_methodOf_0 (by decide +kernel)
theorem dX10_methodOf_12 : decode cX10_methodOf 12 = .ok (.ireturn, 1) := dw172 (n := 0) (i := 12) kc_cX10_methodOf_0 (by decide +kernel)
set_option maxHeartbeats 4000000 in
set_option maxRecDepth 100000 in
theorem s_X10_methodOf (l : Launch) (D : va_G) (ad : Nat → Nat) (cs : Nat → ClassId) (M : MI) (L : ML) (x : Int32) (y : Int32) (hI : IC M) : Ci l yX10_methodOf wsX10_methodOf ({ frames := 1, cells := 0, slots := 0, locals := 21 }) D ad cs [.ref (ad 0), .int x, .int y] M L (fun r M1 L1 => M1 = M ∧ L1 = L ∧ True) := by
  refine enter_i RX10 rfl [(0, .ref (ad 0)), (1, .int x), (2, .int y)] rfl (Nat.le_of_ble_eq_true rfl) (by decide +kernel) rfl ?_
  intro p e s m below meth c C hr
  have hF : ∀ k, True → M k = M k := fun _ _ => rfl
  have hG : ∀ k, True → L k = L k := fun _ _ => rfl
  refine g_aload_n C 0 dX10_methodOf_0 rfl ?_
  refine g_get C (.ref (ad 81)) 3 in_X10_methodOf_10 (List.mem_of_getElem? (i := 1) rfl) (by decide) (ce_house ad cs _ _) rfl (by decide) rfl rfl dX10_methodOf_1 ?_
  refine g_iload_n C 1 dX10_methodOf_4 rfl ?_
  refine g_callVi C (n := 1) (As := [.int x]) (st := []) (c_X4_has l D ad cs _ _ x) gX10_methodOf_X4_has rfl rfl rfl (by decide +kernel) ⟨Nat.le_of_ble_eq_true rfl, Nat.le_of_ble_eq_true rfl⟩ rfl (Nat.le_of_ble_eq_true rfl) ⟨Nat.zero_le _, Nat.zero_le _⟩ (by decide) (ce_meth ad cs _ _) rfl rfl dX10_methodOf_5 (fun r1 M2 L3 hr1 => ?_)
  obtain ⟨hq1, hq2, hr1⟩ := hr1
  obtain rfl := hq1.symm
  obtain rfl := hq2.symm
  refine g_if_ne C 13 dX10_methodOf_8 (by decide) (fun c4 => ?_) (fun c4 => ?_)
  ·
    have f5 := fne rfl (by decide : (0 : Int32).toInt = 0) c4
    obtain ⟨far1, fbr1⟩ := has_t hr1 c4
    obtain ⟨fcr1, fdr1⟩ := (show rg 0 20 (M 81 0) from hI 81 0 rfl)
    refine g_iload_n C 2 dX10_methodOf_13 rfl ?_
    by_cases hsw : y.toInt < 0 ∨ 3 < y.toInt
    ·
      refine g_tableOut C 92 dX10_methodOf_14 hsw (by decide) ?_
      refine g_iconst C (-1) dX10_methodOf_92 (by decide) ?_
      exact g_iret C hr ⟨rfl, rfl, trivial⟩ dX10_methodOf_93
    ·
      have hsw1 : ¬ y.toInt < 0 := fun h => hsw (Or.inl h)
      have hsw2 : ¬ 3 < y.toInt := fun h => hsw (Or.inr h)
      rcases (show y.toInt = 0 ∨ y.toInt = 1 ∨ y.toInt = 2 ∨ y.toInt = 3 by omega) with hq | hq | hq | hq
      ·
        refine g_tableIn C 44 dX10_methodOf_14 hsw1 hsw2 (off := 30) (by rw [hq]; rfl) (by decide) ?_
        refine g_aload_n C 0 dX10_methodOf_44 rfl ?_
        refine g_get C (.ref (ad 81)) 3 in_X10_methodOf_10 (List.mem_of_getElem? (i := 1) rfl) (by decide) (ce_house ad cs _ _) rfl (by decide) rfl rfl dX10_methodOf_45 ?_
        refine g_get C (.ref (ad 82)) 1 in_X10_methodOf_4 (List.mem_of_getElem? (i := 2) rfl) (by decide) (ce_meth ad cs _ _) rfl (by decide) rfl rfl dX10_methodOf_48 ?_
        refine g_iload_n C 1 dX10_methodOf_51 rfl ?_
        refine g_iald C (by decide) (ce_mkind ad cs _ _) (fin' (n := 20) rfl (by omega) (by omega)) dX10_methodOf_52 ?_
        refine g_ni (fun v6 ev6 => ?_)
        have tv6 := congrArg Int32.toInt ev6
        exact g_iret C hr ⟨rfl, rfl, trivial⟩ dX10_methodOf_53
      ·
        refine g_tableIn C 54 dX10_methodOf_14 hsw1 hsw2 (off := 40) (by rw [hq]; rfl) (by decide) ?_
        refine g_aload_n C 0 dX10_methodOf_54 rfl ?_
        refine g_get C (.ref (ad 81)) 3 in_X10_methodOf_10 (List.mem_of_getElem? (i := 1) rfl) (by decide) (ce_house ad cs _ _) rfl (by decide) rfl rfl dX10_methodOf_55 ?_
        refine g_get C (.ref (ad 83)) 2 in_X10_methodOf_4 (List.mem_of_getElem? (i := 3) rfl) (by decide) (ce_meth ad cs _ _) rfl (by decide) rfl rfl dX10_methodOf_58 ?_
        refine g_iload_n C 1 dX10_methodOf_61 rfl ?_
        refine g_iald C (by decide) (ce_mbegun ad cs _ _) (fin' (n := 20) rfl (by omega) (by omega)) dX10_methodOf_62 ?_
        refine g_ni (fun v7 ev7 => ?_)
        have tv7 := congrArg Int32.toInt ev7
        exact g_iret C hr ⟨rfl, rfl, trivial⟩ dX10_methodOf_63
      ·
        refine g_tableIn C 64 dX10_methodOf_14 hsw1 hsw2 (off := 50) (by rw [hq]; rfl) (by decide) ?_
        refine g_aload_n C 0 dX10_methodOf_64 rfl ?_
        refine g_get C (.ref (ad 81)) 3 in_X10_methodOf_10 (List.mem_of_getElem? (i := 1) rfl) (by decide) (ce_house ad cs _ _) rfl (by decide) rfl rfl dX10_methodOf_65 ?_
        refine g_get C (.ref (ad 83)) 2 in_X10_methodOf_4 (List.mem_of_getElem? (i := 3) rfl) (by decide) (ce_meth ad cs _ _) rfl (by decide) rfl rfl dX10_methodOf_68 ?_
        refine g_iload_n C 1 dX10_methodOf_71 rfl ?_
        refine g_iald C (by decide) (ce_mbegun ad cs _ _) (fin' (n := 20) rfl (by omega) (by omega)) dX10_methodOf_72 ?_
        refine g_ni (fun v8 ev8 => ?_)
        have tv8 := congrArg Int32.toInt ev8
        refine g_if_ne C 80 dX10_methodOf_73 (by decide) (fun c9 => ?_) (fun c9 => ?_)
        ·
          have f10 := fne rfl (by decide : (0 : Int32).toInt = 0) c9
          refine g_iconst C 1 dX10_methodOf_80 (by decide) ?_
          exact g_iret C hr ⟨rfl, rfl, trivial⟩ dX10_methodOf_81
        ·
          have f11 := feq rfl (by decide : (0 : Int32).toInt = 0) c9
          refine g_iconst C 0 dX10_methodOf_76 (by decide) ?_
          refine g_goto C 81 dX10_methodOf_77 (by decide) ?_
          exact g_iret C hr ⟨rfl, rfl, trivial⟩ dX10_methodOf_81
      ·
        refine g_tableIn C 82 dX10_methodOf_14 hsw1 hsw2 (off := 68) (by rw [hq]; rfl) (by decide) ?_
        refine g_aload_n C 0 dX10_methodOf_82 rfl ?_
        refine g_get C (.ref (ad 81)) 3 in_X10_methodOf_10 (List.mem_of_getElem? (i := 1) rfl) (by decide) (ce_house ad cs _ _) rfl (by decide) rfl rfl dX10_methodOf_83 ?_
        refine g_get C (.ref (ad 84)) 3 in_X10_methodOf_4 (List.mem_of_getElem? (i := 4) rfl) (by decide) (ce_meth ad cs _ _) rfl (by decide) rfl rfl dX10_methodOf_86 ?_
        refine g_iload_n C 1 dX10_methodOf_89 rfl ?_
        refine g_iald C (by decide) (ce_mneed ad cs _ _) (fin' (n := 20) rfl (by omega) (by omega)) dX10_methodOf_90 ?_
        refine g_ni (fun v12 ev12 => ?_)
        have tv12 := congrArg Int32.toInt ev12
        exact g_iret C hr ⟨rfl, rfl, trivial⟩ dX10_methodOf_91
  ·
    have f13 := feq rfl (by decide : (0 : Int32).toInt = 0) c4
    refine g_iconst C (-1) dX10_methodOf_11 (by decide) ?_
    exact g_iret C hr ⟨rfl, rfl, trivial⟩ dX10_methodOf_12
theorem dX10_digest_0 : decode cX10_digest 0 = .ok (.ldc2_w 255, 3) := dw20 (n := 0) (i := 0) (a := 0) (b := 255) kc_cX10_digest_0 (by decide +kernel) (by decide)
theorem dX10_digest_3 : decode cX10_digest 3 = .ok (.lstore_n 1, 1) := dw64 (n := 0) (i := 3) kc_cX10_digest_0 (by decide +kernel)
theorem dX10_digest_4 : decode cX10_digest 4 = .ok (.iconst 0, 1) := dw3 (n := 0) (i := 4) kc_cX10_digest_0 (by decide +kernel)
theorem dX10_digest_5 : decode cX10_digest 5 = .ok (.istore_n 3, 1) := dw62 (n := 0) (i := 5) kc_cX10_digest_0 (by decide +kernel)
theorem dX10_digest_6 : decode cX10_digest 6 = .ok (.iload_n 3, 1) := dw29 (n := 0) (i := 6) kc_cX10_digest_0 (by decide +kernel)
theorem dX10_digest_7 : decode cX10_digest 7 = .ok (.aload_n 0, 1) := dw42 (n := 0) (i := 7) kc_cX10_digest_0 (by decide +kernel)
theorem dX10_digest_8 : decode cX10_digest 8 = .ok (.getfield 10, 3) := dw180 (n := 0) (i := 8) (a := 0) (b := 10) kc_cX10_digest_0 (by decide +kernel) (by decide)
theorem in_X10_digest_10 : ∀ w ∈ u_ws RX10 TX10 13, w ∈ wsX10_digest := fun _ h => List.mem_cons_of_mem _ (List.mem_append_left _ (List.mem_append_left _ (List.mem_append_left _ (List.mem_append_left _ (List.mem_append_right _ h)))))
theorem dX10_digest_11 : decode cX10_digest 11 = .ok (.getfield 252, 3) := dw180 (n := 0) (i := 11) (a := 0) (b := 252) kc_cX10_digest_0 (by decide +kernel) (by decide)
theorem in_X10_digest_2 : ∀ w ∈ u_ws RX2 TX2 2, w ∈ wsX10_digest := fun _ h => List.mem_cons_of_mem _ (List.mem_append_left _ (List.mem_append_left _ (List.mem_append_left _ (List.mem_append_right _ h))))
theorem dX10_digest_14 : decode cX10_digest 14 = .ok (.if_icmp .ge 26, 3) := dw162 (n := 0) (i := 14) (a := 0) (b := 26) kc_cX10_digest_0 (by decide +kernel) (by decide)
theorem dX10_digest_40 : decode cX10_digest 40 = .ok (.iconst 0, 1) := dw3 (n := 32) (i := 8) kc_cX10_digest_1 (by decide +kernel)
theorem dX10_digest_41 : decode cX10_digest 41 = .ok (.istore_n 3, 1) := dw62 (n := 32) (i := 9) kc_cX10_digest_1 (by decide +kernel)
theorem dX10_digest_42 : decode cX10_digest 42 = .ok (.iload_n 3, 1) := dw29 (n := 32) (i := 10) kc_cX10_digest_1 (by decide +kernel)
theorem dX10_digest_43 : decode cX10_digest 43 = .ok (.aload_n 0, 1) := dw42 (n := 32) (i := 11) kc_cX10_digest_1 (by decide +kernel)
theorem dX10_digest_44 : decode cX10_digest 44 = .ok (.getfield 19, 3) := dw180 (n := 32) (i := 12) (a := 0) (b := 19) kc_cX10_digest_1 (by decide +kernel) (by decide)
theorem dX10_digest_47 : decode cX10_digest 47 = .ok (.getfield 253, 3) := dw180 (n := 32) (i := 15) (a := 0) (b := 253) kc_cX10_digest_1 (by decide +kernel) (by decide)
theorem in_X10_digest_0 : ∀ w ∈ u_ws RX0 TX0 5, w ∈ wsX10_digest := fun _ h => List.mem_cons_of_mem _ (List.mem_append_left _ (List.mem_append_left _ (List.mem_append_right _ h)))
theorem dX10_digest_50 : decode cX10_digest 50 = .ok (.if_icmp .ge 16, 3) := dw162 (n := 32) (i := 18) (a := 0) (b := 16) kc_cX10_digest_1 (by decide +kernel) (by decide)
theorem dX10_digest_66 : decode cX10_digest 66 = .ok (.iconst 0, 1) := dw3 (n := 64) (i := 2) kc_cX10_digest_2 (by decide +kernel)
theorem dX10_digest_67 : decode cX10_digest 67 = .ok (.istore_n 3, 1) := dw62 (n := 64) (i := 3) kc_cX10_digest_2 (by decide +kernel)
theorem dX10_digest_68 : decode cX10_digest 68 = .ok (.iload_n 3, 1) := dw29 (n := 64) (i := 4) kc_cX10_digest_2 (by decide +kernel)
theorem dX10_digest_69 : decode cX10_digest 69 = .ok (.aload_n 0, 1) := dw42 (n := 64) (i := 5) kc_cX10_digest_2 (by decide +kernel)
theorem dX10_digest_70 : decode cX10_digest 70 = .ok (.getfield 26, 3) := dw180 (n := 64) (i := 6) (a := 0) (b := 26) kc_cX10_digest_2 (by decide +kernel) (by decide)
theorem dX10_digest_73 : decode cX10_digest 73 = .ok (.getfield 142, 3) := dw180 (n := 64) (i := 9) (a := 0) (b := 142) kc_cX10_digest_2 (by decide +kernel) (by decide)
theorem in_X10_digest_1 : ∀ w ∈ u_ws RX1 TX1 5, w ∈ wsX10_digest := fun _ h => List.mem_cons_of_mem _ (List.mem_append_left _ (List.mem_append_right _ h))
theorem dX10_digest_76 : decode cX10_digest 76 = .ok (.if_icmp .ge 52, 3) := dw162 (n := 64) (i := 12) (a := 0) (b := 52) kc_cX10_digest_2 (by decide +kernel) (by decide)
theorem dX10_digest_128 : decode cX10_digest 128 = .ok (.iconst 0, 1) := dw3 (n := 128) (i := 0) kc_cX10_digest_4 (by decide +kernel)
theorem dX10_digest_129 : decode cX10_digest 129 = .ok (.istore_n 3, 1) := dw62 (n := 128) (i := 1) kc_cX10_digest_4 (by decide +kernel)
theorem dX10_digest_130 : decode cX10_digest 130 = .ok (.iload_n 3, 1) := dw29 (n := 128) (i := 2) kc_cX10_digest_4 (by decide +kernel)
theorem dX10_digest_131 : decode cX10_digest 131 = .ok (.aload_n 0, 1) := dw42 (n := 128) (i := 3) kc_cX10_digest_4 (by decide +kernel)
theorem dX10_digest_132 : decode cX10_digest 132 = .ok (.getfield 33, 3) := dw180 (n := 128) (i := 4) (a := 0) (b := 33) kc_cX10_digest_4 (by decide +kernel) (by decide)
theorem dX10_digest_135 : decode cX10_digest 135 = .ok (.getfield 254, 3) := dw180 (n := 128) (i := 7) (a := 0) (b := 254) kc_cX10_digest_4 (by decide +kernel) (by decide)
theorem in_X10_digest_4 : ∀ w ∈ u_ws RX4 TX4 7, w ∈ wsX10_digest := fun _ h => List.mem_cons_of_mem _ (List.mem_append_right _ h)
theorem dX10_digest_138 : decode cX10_digest 138 = .ok (.if_icmp .ge 39, 3) := dw162 (n := 128) (i := 10) (a := 0) (b := 39) kc_cX10_digest_4 (by decide +kernel) (by decide)
theorem dX10_digest_177 : decode cX10_digest 177 = .ok (.lload_n 1, 1) := dw31 (n := 160) (i := 17) kc_cX10_digest_5 (by decide +kernel)
theorem dX10_digest_178 : decode cX10_digest 178 = .ok (.lreturn, 1) := dw173 (n := 160) (i := 18) kc_cX10_digest_5 (by decide +kernel)
theorem dX10_digest_141 : decode cX10_digest 141 = .ok (.iconst 0, 1) := dw3 (n := 128) (i := 13) kc_cX10_digest_4 (by decide +kernel)
theorem dX10_digest_142 : decode cX10_digest 142 = .ok (.istore 4, 2) := dw54 (n := 128) (i := 14) (a := 4) kc_cX10_digest_4 (by decide +kernel) (by decide)
theorem dX10_digest_144 : decode cX10_digest 144 = .ok (.iload 4, 2) := dw21 (n := 128) (i := 16) (a := 4) kc_cX10_digest_4 (by decide +kernel) (by decide)
theorem dX10_digest_146 : decode cX10_digest 146 = .ok (.iconst 3, 1) := dw6 (n := 128) (i := 18) kc_cX10_digest_4 (by decide +kernel)
theorem dX10_digest_147 : decode cX10_digest 147 = .ok (.if_icmp .gt 24, 3) := dw163 (n := 128) (i := 19) (a := 0) (b := 24) kc_cX10_digest_4 (by decide +kernel) (by decide)
theorem dX10_digest_171 : decode cX10_digest 171 = .ok (.iinc 3 1, 3) := by decide +kernel
theorem dX10_digest_174 : decode cX10_digest 174 = .ok (.goto (-44), 3) := dw167 (n := 160) (i := 14) (a := 255) (b := 212) kc_cX10_digest_5 (by decide +kernel) (by decide)
theorem dX10_digest_150 : decode cX10_digest 150 = .ok (.ldc2_w 257, 3) := dw20 (n := 128) (i := 22) (a := 1) (b := 1) kc_cX10_digest_4 (by decide +kernel) (by decide)
theorem dX10_digest_153 : decode cX10_digest 153 = .ok (.lload_n 1, 1) := dw31 (n := 128) (i := 25) kc_cX10_digest_4 (by decide +kernel)
theorem dX10_digest_154 : decode cX10_digest 154 = .ok (.lmul, 1) := dw105 (n := 128) (i := 26) kc_cX10_digest_4 (by decide +kernel)
theorem dX10_digest_155 : decode cX10_digest 155 = .ok (.aload_n 0, 1) := dw42 (n := 128) (i := 27) kc_cX10_digest_4 (by decide +kernel)
theorem dX10_digest_156 : decode cX10_digest 156 = .ok (.iload_n 3, 1) := dw29 (n := 128) (i := 28) kc_cX10_digest_4 (by decide +kernel)
theorem dX10_digest_157 : decode cX10_digest 157 = .ok (.iload 4, 2) := dw21 (n := 128) (i := 29) (a := 4) kc_cX10_digest_4 (by decide +kernel) (by decide)
theorem dX10_digest_159 : decode cX10_digest 159 = .ok (.invokevirtual 266, 3) := dw182 (n := 128) (i := 31) (a := 1) (b := 10) kc_cX10_digest_4 (by decide +kernel) (by decide)
set_option maxRecDepth 20000 in
theorem ggX10_digest_X10_methodOf : GoodIn wsX10_digest wsX10_methodOf := (gk_code 47 rfl (gk_fieldLink 12 rfl (gk_fieldLink 48 rfl (gk_fieldLink 49 rfl (gk_fieldLink 50 rfl (gk_methodLink 51 rfl (gk_instanceMethod 52 rfl (gk_selects 53 rfl (gk_initialized 54 rfl (gk_code 55 rfl (gk_fieldLink 56 rfl (gk_laysFinal 57 rfl (gk_laysFinal 58 rfl (gk_laysFinal 59 rfl (gk_laysFinal 60 rfl (gk_laysFinal 61 rfl (gk_laysFinal 62 rfl (gk_laysFinal 63 rfl (gk_laysFinal 64 rfl (gk_lays 65 rfl (gk_lays 66 rfl (gk_lays 67 rfl (gk_lays 68 rfl (gk_laysFinal 69 rfl (gk_lays 82 rfl (gk_laysFinal 83 rfl (gk_laysFinal 84 rfl (gk_laysFinal 85 rfl (gk_laysFinal 86 rfl (gk_laysFinal 87 rfl (gk_laysFinal 88 rfl (gn))))))))))))))))))))))))))))))))
set_option maxRecDepth 20000 in
theorem gX10_digest_X10_methodOf : GoodIn wsX10_digest (wsV RX10 266 RX10 yX10_methodOf wsX10_methodOf) := goodIn_app (gk_methodLink 44 rfl (gk_instanceMethod 45 rfl (gk_selects 46 rfl (gk_initialized 17 rfl (gn))))) ggX10_digest_X10_methodOf
theorem dX10_digest_162 : decode cX10_digest 162 = .ok (.i2l, 1) := dw133 (n := 160) (i := 2) kc_cX10_digest_5 (by decide +kernel)
theorem dX10_digest_163 : decode cX10_digest 163 = .ok (.ladd, 1) := dw97 (n := 160) (i := 3) kc_cX10_digest_5 (by decide +kernel)
theorem dX10_digest_164 : decode cX10_digest 164 = .ok (.lstore_n 1, 1) := dw64 (n := 160) (i := 4) kc_cX10_digest_5 (by decide +kernel)
theorem dX10_digest_165 : decode cX10_digest 165 = .ok (.iinc 4 1, 3) := by decide +kernel
theorem dX10_digest_168 : decode cX10_digest 168 = .ok (.goto (-24), 3) := dw167 (n := 160) (i := 8) (a := 255) (b := 232) kc_cX10_digest_5 (by decide +kernel) (by decide)
theorem dX10_digest_79 : decode cX10_digest 79 = .ok (.iconst 0, 1) := dw3 (n := 64) (i := 15) kc_cX10_digest_2 (by decide +kernel)
theorem dX10_digest_80 : decode cX10_digest 80 = .ok (.istore 4, 2) := dw54 (n := 64) (i := 16) (a := 4) kc_cX10_digest_2 (by decide +kernel) (by decide)
theorem dX10_digest_82 : decode cX10_digest 82 = .ok (.iload 4, 2) := dw21 (n := 64) (i := 18) (a := 4) kc_cX10_digest_2 (by decide +kernel) (by decide)
theorem dX10_digest_84 : decode cX10_digest 84 = .ok (.aload_n 0, 1) := dw42 (n := 64) (i := 20) kc_cX10_digest_2 (by decide +kernel)
theorem dX10_digest_85 : decode cX10_digest 85 = .ok (.getfield 26, 3) := dw180 (n := 64) (i := 21) (a := 0) (b := 26) kc_cX10_digest_2 (by decide +kernel) (by decide)
theorem dX10_digest_88 : decode cX10_digest 88 = .ok (.getfield 263, 3) := dw180 (n := 64) (i := 24) (a := 1) (b := 7) kc_cX10_digest_2 (by decide +kernel) (by decide)
theorem dX10_digest_91 : decode cX10_digest 91 = .ok (.iload_n 3, 1) := dw29 (n := 64) (i := 27) kc_cX10_digest_2 (by decide +kernel)
theorem dX10_digest_92 : decode cX10_digest 92 = .ok (.iaload, 1) := dw46 (n := 64) (i := 28) kc_cX10_digest_2 (by decide +kernel)
theorem dX10_digest_93 : decode cX10_digest 93 = .ok (.if_icmp .ge 29, 3) := dw162 (n := 64) (i := 29) (a := 0) (b := 29) kc_cX10_digest_2 (by decide +kernel) (by decide)
theorem dX10_digest_122 : decode cX10_digest 122 = .ok (.iinc 3 1, 3) := by decide +kernel
theorem dX10_digest_125 : decode cX10_digest 125 = .ok (.goto (-57), 3) := dw167 (n := 96) (i := 29) (a := 255) (b := 199) kc_cX10_digest_3 (by decide +kernel) (by decide)
theorem dX10_digest_96 : decode cX10_digest 96 = .ok (.ldc2_w 257, 3) := dw20 (n := 96) (i := 0) (a := 1) (b := 1) kc_cX10_digest_3 (by decide +kernel) (by decide)
theorem dX10_digest_99 : decode cX10_digest 99 = .ok (.lload_n 1, 1) := dw31 (n := 96) (i := 3) kc_cX10_digest_3 (by decide +kernel)
theorem dX10_digest_100 : decode cX10_digest 100 = .ok (.lmul, 1) := dw105 (n := 96) (i := 4) kc_cX10_digest_3 (by decide +kernel)
theorem dX10_digest_101 : decode cX10_digest 101 = .ok (.aload_n 0, 1) := dw42 (n := 96) (i := 5) kc_cX10_digest_3 (by decide +kernel)
theorem dX10_digest_102 : decode cX10_digest 102 = .ok (.getfield 26, 3) := dw180 (n := 96) (i := 6) (a := 0) (b := 26) kc_cX10_digest_3 (by decide +kernel) (by decide)
theorem dX10_digest_105 : decode cX10_digest 105 = .ok (.getfield 151, 3) := dw180 (n := 96) (i := 9) (a := 0) (b := 151) kc_cX10_digest_3 (by decide +kernel) (by decide)
theorem dX10_digest_108 : decode cX10_digest 108 = .ok (.iload_n 3, 1) := dw29 (n := 96) (i := 12) kc_cX10_digest_3 (by decide +kernel)
theorem dX10_digest_109 : decode cX10_digest 109 = .ok (.aaload, 1) := dw50 (n := 96) (i := 13) kc_cX10_digest_3 (by decide +kernel)
theorem dX10_digest_110 : decode cX10_digest 110 = .ok (.iload 4, 2) := dw21 (n := 96) (i := 14) (a := 4) kc_cX10_digest_3 (by decide +kernel) (by decide)
theorem dX10_digest_112 : decode cX10_digest 112 = .ok (.iaload, 1) := dw46 (n := 96) (i := 16) kc_cX10_digest_3 (by decide +kernel)
theorem dX10_digest_113 : decode cX10_digest 113 = .ok (.i2l, 1) := dw133 (n := 96) (i := 17) kc_cX10_digest_3 (by decide +kernel)
theorem dX10_digest_114 : decode cX10_digest 114 = .ok (.ladd, 1) := dw97 (n := 96) (i := 18) kc_cX10_digest_3 (by decide +kernel)
theorem dX10_digest_115 : decode cX10_digest 115 = .ok (.lstore_n 1, 1) := dw64 (n := 96) (i := 19) kc_cX10_digest_3 (by decide +kernel)
theorem dX10_digest_116 : decode cX10_digest 116 = .ok (.iinc 4 1, 3) := by decide +kernel
theorem dX10_digest_119 : decode cX10_digest 119 = .ok (.goto (-37), 3) := dw167 (n := 96) (i := 23) (a := 255) (b := 219) kc_cX10_digest_3 (by decide +kernel) (by decide)
theorem dX10_digest_53 : decode cX10_digest 53 = .ok (.aload_n 0, 1) := dw42 (n := 32) (i := 21) kc_cX10_digest_1 (by decide +kernel)
theorem dX10_digest_54 : decode cX10_digest 54 = .ok (.lload_n 1, 1) := dw31 (n := 32) (i := 22) kc_cX10_digest_1 (by decide +kernel)
theorem dX10_digest_55 : decode cX10_digest 55 = .ok (.iload_n 3, 1) := dw29 (n := 32) (i := 23) kc_cX10_digest_1 (by decide +kernel)
theorem dX10_digest_56 : decode cX10_digest 56 = .ok (.invokevirtual 259, 3) := dw182 (n := 32) (i := 24) (a := 1) (b := 3) kc_cX10_digest_1 (by decide +kernel) (by decide)
set_option maxRecDepth 20000 in
theorem ggX10_digest_X10_digestBallot : GoodIn wsX10_digest wsX10_digestBallot := (gk_code 18 rfl (gk_constantLong 4 rfl (gk_methodLink 19 rfl (gk_instanceMethod 20 rfl (gk_selects 21 rfl (gk_initialized 17 rfl (gk_code 22 rfl (gk_fieldLink 6 rfl (gk_fieldLink 2 rfl (gk_fieldLink 3 rfl (gk_fieldLink 23 rfl (gk_methodLink 24 rfl (gk_instanceMethod 25 rfl (gk_selects 26 rfl (gk_initialized 27 rfl (gk_code 28 rfl (gk_fieldLink 29 rfl (gk_static 30 rfl (gk_code 31 rfl (gk_methodLink 32 rfl (gk_instanceMethod 33 rfl (gk_selects 34 rfl (gk_code 35 rfl (gk_fieldLink 36 rfl (gk_fieldLink 37 rfl (gk_fieldLink 38 rfl (gk_methodLink 39 rfl (gk_instanceMethod 40 rfl (gk_selects 41 rfl (gk_code 42 rfl (gk_fieldLink 43 rfl (gk_laysFinal 57 rfl (gk_laysFinal 58 rfl (gk_laysFinal 59 rfl (gk_laysFinal 60 rfl (gk_laysFinal 61 rfl (gk_laysFinal 62 rfl (gk_laysFinal 63 rfl (gk_laysFinal 64 rfl (gk_lays 65 rfl (gk_lays 66 rfl (gk_lays 67 rfl (gk_lays 68 rfl (gk_laysFinal 69 rfl (gk_lays 70 rfl (gk_laysFinal 71 rfl (gk_lays 72 rfl (gk_laysFinal 73 rfl (gk_laysFinal 74 rfl (gk_laysFinal 75 rfl (gk_laysFinal 76 rfl (gn))))))))))))))))))))))))))))))))))))))))))))))))))))
set_option maxRecDepth 20000 in
theorem gX10_digest_X10_digestBallot : GoodIn wsX10_digest (wsV RX10 259 RX10 yX10_digestBallot wsX10_digestBallot) := goodIn_app (gk_methodLink 14 rfl (gk_instanceMethod 15 rfl (gk_selects 16 rfl (gk_initialized 17 rfl (gn))))) ggX10_digest_X10_digestBallot
theorem dX10_digest_59 : decode cX10_digest 59 = .ok (.lstore_n 1, 1) := dw64 (n := 32) (i := 27) kc_cX10_digest_1 (by decide +kernel)
theorem dX10_digest_60 : decode cX10_digest 60 = .ok (.iinc 3 1, 3) := by decide +kernel
theorem dX10_digest_63 : decode cX10_digest 63 = .ok (.goto (-21), 3) := dw167 (n := 32) (i := 31) (a := 255) (b := 235) kc_cX10_digest_1 (by decide +kernel) (by decide)
theorem dX10_digest_17 : decode cX10_digest 17 = .ok (.ldc2_w 257, 3) := dw20 (n := 0) (i := 17) (a := 1) (b := 1) kc_cX10_digest_0 (by decide +kernel) (by decide)
theorem dX10_digest_20 : decode cX10_digest 20 = .ok (.lload_n 1, 1) := dw31 (n := 0) (i := 20) kc_cX10_digest_0 (by decide +kernel)
theorem dX10_digest_21 : decode cX10_digest 21 = .ok (.lmul, 1) := dw105 (n := 0) (i := 21) kc_cX10_digest_0 (by decide +kernel)
theorem dX10_digest_22 : decode cX10_digest 22 = .ok (.aload_n 0, 1) := dw42 (n := 0) (i := 22) kc_cX10_digest_0 (by decide +kernel)
theorem dX10_digest_23 : decode cX10_digest 23 = .ok (.getfield 10, 3) := dw180 (n := 0) (i := 23) (a := 0) (b := 10) kc_cX10_digest_0 (by decide +kernel) (by decide)
theorem dX10_digest_26 : decode cX10_digest 26 = .ok (.getfield 102, 3) := dw180 (n := 0) (i := 26) (a := 0) (b := 102) kc_cX10_digest_0 (by decide +kernel) (by decide)
theorem dX10_digest_29 : decode cX10_digest 29 = .ok (.iload_n 3, 1) := dw29 (n := 0) (i := 29) kc_cX10_digest_0 (by decide +kernel)
theorem dX10_digest_30 : decode cX10_digest 30 = .ok (.iaload, 1) := dw46 (n := 0) (i := 30) kc_cX10_digest_0 (by decide +kernel)
theorem dX10_digest_31 : decode cX10_digest 31 = .ok (.i2l, 1) := dw133 (n := 0) (i := 31) kc_cX10_digest_0 (by decide +kernel)
theorem dX10_digest_32 : decode cX10_digest 32 = .ok (.ladd, 1) := dw97 (n := 32) (i := 0) kc_cX10_digest_1 (by decide +kernel)
theorem dX10_digest_33 : decode cX10_digest 33 = .ok (.lstore_n 1, 1) := dw64 (n := 32) (i := 1) kc_cX10_digest_1 (by decide +kernel)
theorem dX10_digest_34 : decode cX10_digest 34 = .ok (.iinc 3 1, 3) := by decide +kernel
theorem dX10_digest_37 : decode cX10_digest 37 = .ok (.goto (-31), 3) := dw167 (n := 32) (i := 5) (a := 255) (b := 225) kc_cX10_digest_1 (by decide +kernel) (by decide)
set_option maxHeartbeats 4000000 in
set_option maxRecDepth 100000 in
theorem s_X10_digest (l : Launch) (D : va_G) (ad : Nat → Nat) (cs : Nat → ClassId) (M : MI) (L : ML)  (hI : IC M) : Cl l yX10_digest wsX10_digest ({ frames := 5, cells := 0, slots := 0, locals := 116 }) D ad cs [.ref (ad 0)] M L (fun r M1 L1 => M1 = M ∧ L1 = L ∧ True) := by
  refine enter_l RX10 rfl [(0, .ref (ad 0))] rfl (Nat.le_of_ble_eq_true rfl) (by decide +kernel) rfl ?_
  intro p e s m below meth c C hr
  have hF : ∀ k, True → M k = M k := fun _ _ => rfl
  have hG : ∀ k, True → L k = L k := fun _ _ => rfl
  refine g_ldc2 C 17 (List.mem_of_getElem? (i := 1) rfl) dX10_digest_0 ?_
  refine g_lstore_n C [(1, .long 17), (0, .ref (ad 0))] dX10_digest_3 (by decide) rfl ?_
  refine g_iconst C 0 dX10_digest_4 (by decide) ?_
  refine g_istore_n C [(3, .int 0), (1, .long 17), (0, .ref (ad 0))] dX10_digest_5 (by decide) rfl ?_
  have zy1 : (0 : Int32).toInt = 0 := by decide
  have zy2 : (17 : Int32).toInt = 17 := by decide
  refine g_loop (α := Int32 × Int64 × MI × ML) (fun a => (11 - a.1.toInt).toNat) (fun a => 0 ≤ a.1.toInt ∧ a.1.toInt ≤ 10 ∧ IC a.2.2.1 ∧ (∀ k, True → a.2.2.1 k = M k) ∧ (∀ k, True → a.2.2.2 k = L k)) (fun a => a.2.2.1) (fun a => a.2.2.2) (fun a => [(3, .int a.1), (1, .long a.2.1), (0, .ref (ad 0))]) (0, 17, M, L) ⟨by show 0 ≤ (0 : Int32).toInt; omega, by show (0 : Int32).toInt ≤ 10; omega, hI, hF, hG⟩ rfl rfl rfl ?_
  rintro ⟨x3_6, x1_6, M_6, L_6⟩ ⟨j6_0, j6_1, hI, hF, hG⟩ ih_6
  dsimp only at j6_0 j6_1 hI hF hG ih_6 ⊢
  refine g_iload_n C 0 dX10_digest_6 rfl ?_
  refine g_aload_n C 2 dX10_digest_7 rfl ?_
  refine g_get C (.ref (ad 1)) 0 in_X10_digest_10 (List.mem_of_getElem? (i := 2) rfl) (by decide) (ce_house ad cs _ _) rfl (by decide) rfl rfl dX10_digest_8 ?_
  refine g_get C (.int (M_6 1 0)) 0 in_X10_digest_2 (List.mem_of_getElem? (i := 3) rfl) (by decide) (ce_cand ad cs _ _) rfl (by decide) rfl rfl dX10_digest_11 ?_
  refine g_ni (fun v3 ev3 => ?_)
  have tv3 := congrArg Int32.toInt ev3
  obtain ⟨bv3, dv3⟩ := (show rg 0 10 v3 from (by rw [ev3]; exact hI 1 0 rfl))
  refine g_icmp_ge C 40 dX10_digest_14 (by decide) (fun c4 => ?_) (fun c4 => ?_)
  ·
    have f5 := fle rfl rfl c4
    refine g_iconst C 0 dX10_digest_40 (by decide) ?_
    refine g_istore_n C [(3, .int 0), (1, .long x1_6), (0, .ref (ad 0))] dX10_digest_41 (by decide) rfl ?_
    have zy6 : (0 : Int32).toInt = 0 := by decide
    refine g_loop (α := Int32 × Int64 × MI × ML) (fun a => (61 - a.1.toInt).toNat) (fun a => 0 ≤ a.1.toInt ∧ a.1.toInt ≤ 60 ∧ IC a.2.2.1 ∧ (∀ k, True → a.2.2.1 k = M k) ∧ (∀ k, True → a.2.2.2 k = L k)) (fun a => a.2.2.1) (fun a => a.2.2.2) (fun a => [(3, .int a.1), (1, .long a.2.1), (0, .ref (ad 0))]) (0, x1_6, M_6, L_6) ⟨by show 0 ≤ (0 : Int32).toInt; omega, by show (0 : Int32).toInt ≤ 60; omega, hI, hF, hG⟩ rfl rfl rfl ?_
    rintro ⟨x3_42, x1_42, M_42, L_42⟩ ⟨j42_0, j42_1, hI, hF, hG⟩ ih_42
    dsimp only at j42_0 j42_1 hI hF hG ih_42 ⊢
    refine g_iload_n C 0 dX10_digest_42 rfl ?_
    refine g_aload_n C 2 dX10_digest_43 rfl ?_
    refine g_get C (.ref (ad 3)) 1 in_X10_digest_10 (List.mem_of_getElem? (i := 6) rfl) (by decide) (ce_house ad cs _ _) rfl (by decide) rfl rfl dX10_digest_44 ?_
    refine g_get C (.int (M_42 3 0)) 0 in_X10_digest_0 (List.mem_of_getElem? (i := 7) rfl) (by decide) (ce_ball ad cs _ _) rfl (by decide) rfl rfl dX10_digest_47 ?_
    refine g_ni (fun v7 ev7 => ?_)
    have tv7 := congrArg Int32.toInt ev7
    obtain ⟨bv7, dv7⟩ := (show rg 0 60 v7 from (by rw [ev7]; exact hI 3 0 rfl))
    refine g_icmp_ge C 66 dX10_digest_50 (by decide) (fun c8 => ?_) (fun c8 => ?_)
    ·
      have f9 := fle rfl rfl c8
      refine g_iconst C 0 dX10_digest_66 (by decide) ?_
      refine g_istore_n C [(3, .int 0), (1, .long x1_42), (0, .ref (ad 0))] dX10_digest_67 (by decide) rfl ?_
      have zy10 : (0 : Int32).toInt = 0 := by decide
      refine g_loop (α := Int32 × Int64 × MI × ML) (fun a => (9 - a.1.toInt).toNat) (fun a => 0 ≤ a.1.toInt ∧ a.1.toInt ≤ 8 ∧ IC a.2.2.1 ∧ (∀ k, True → a.2.2.1 k = M k) ∧ (∀ k, True → a.2.2.2 k = L k)) (fun a => a.2.2.1) (fun a => a.2.2.2) (fun a => [(3, .int a.1), (1, .long a.2.1), (0, .ref (ad 0))]) (0, x1_42, M_42, L_42) ⟨by show 0 ≤ (0 : Int32).toInt; omega, by show (0 : Int32).toInt ≤ 8; omega, hI, hF, hG⟩ rfl rfl rfl ?_
      rintro ⟨x3_68, x1_68, M_68, L_68⟩ ⟨j68_0, j68_1, hI, hF, hG⟩ ih_68
      dsimp only at j68_0 j68_1 hI hF hG ih_68 ⊢
      refine g_iload_n C 0 dX10_digest_68 rfl ?_
      refine g_aload_n C 2 dX10_digest_69 rfl ?_
      refine g_get C (.ref (ad 68)) 2 in_X10_digest_10 (List.mem_of_getElem? (i := 8) rfl) (by decide) (ce_house ad cs _ _) rfl (by decide) rfl rfl dX10_digest_70 ?_
      refine g_get C (.int (M_68 68 0)) 0 in_X10_digest_1 (List.mem_of_getElem? (i := 9) rfl) (by decide) (ce_box ad cs _ _) rfl (by decide) rfl rfl dX10_digest_73 ?_
      refine g_ni (fun v11 ev11 => ?_)
      have tv11 := congrArg Int32.toInt ev11
      obtain ⟨bv11, dv11⟩ := (show rg 0 8 v11 from (by rw [ev11]; exact hI 68 0 rfl))
      refine g_icmp_ge C 128 dX10_digest_76 (by decide) (fun c12 => ?_) (fun c12 => ?_)
      ·
        have f13 := fle rfl rfl c12
        refine g_iconst C 0 dX10_digest_128 (by decide) ?_
        refine g_istore_n C [(3, .int 0), (1, .long x1_68), (0, .ref (ad 0))] dX10_digest_129 (by decide) rfl ?_
        have zy14 : (0 : Int32).toInt = 0 := by decide
        refine g_loop (α := Int32 × Int64 × MI × ML) (fun a => (21 - a.1.toInt).toNat) (fun a => 0 ≤ a.1.toInt ∧ a.1.toInt ≤ 20 ∧ IC a.2.2.1 ∧ (∀ k, True → a.2.2.1 k = M k) ∧ (∀ k, True → a.2.2.2 k = L k)) (fun a => a.2.2.1) (fun a => a.2.2.2) (fun a => [(3, .int a.1), (1, .long a.2.1), (0, .ref (ad 0))]) (0, x1_68, M_68, L_68) ⟨by show 0 ≤ (0 : Int32).toInt; omega, by show (0 : Int32).toInt ≤ 20; omega, hI, hF, hG⟩ rfl rfl rfl ?_
        rintro ⟨x3_130, x1_130, M_130, L_130⟩ ⟨j130_0, j130_1, hI, hF, hG⟩ ih_130
        dsimp only at j130_0 j130_1 hI hF hG ih_130 ⊢
        refine g_iload_n C 0 dX10_digest_130 rfl ?_
        refine g_aload_n C 2 dX10_digest_131 rfl ?_
        refine g_get C (.ref (ad 81)) 3 in_X10_digest_10 (List.mem_of_getElem? (i := 12) rfl) (by decide) (ce_house ad cs _ _) rfl (by decide) rfl rfl dX10_digest_132 ?_
        refine g_get C (.int (M_130 81 0)) 0 in_X10_digest_4 (List.mem_of_getElem? (i := 13) rfl) (by decide) (ce_meth ad cs _ _) rfl (by decide) rfl rfl dX10_digest_135 ?_
        refine g_ni (fun v15 ev15 => ?_)
        have tv15 := congrArg Int32.toInt ev15
        obtain ⟨bv15, dv15⟩ := (show rg 0 20 v15 from (by rw [ev15]; exact hI 81 0 rfl))
        refine g_icmp_ge C 177 dX10_digest_138 (by decide) (fun c16 => ?_) (fun c16 => ?_)
        ·
          have f17 := fle rfl rfl c16
          refine g_lload_n C 1 dX10_digest_177 rfl ?_
          exact g_lret C hr ⟨funext (fun k => hF k trivial), funext (fun k => hG k trivial), trivial⟩ dX10_digest_178
        ·
          have f18 := fnle rfl rfl c16
          refine g_iconst C 0 dX10_digest_141 (by decide) ?_
          refine g_istore C [(4, .int 0), (3, .int x3_130), (1, .long x1_130), (0, .ref (ad 0))] dX10_digest_142 (by decide) rfl ?_
          have zy19 : (0 : Int32).toInt = 0 := by decide
          refine g_loop (α := Int32 × Int64 × MI × ML) (fun a => (5 - a.1.toInt).toNat) (fun a => 0 ≤ a.1.toInt ∧ a.1.toInt ≤ 4 ∧ IC a.2.2.1 ∧ (∀ k, True → a.2.2.1 k = M k) ∧ (∀ k, True → a.2.2.2 k = L k)) (fun a => a.2.2.1) (fun a => a.2.2.2) (fun a => [(4, .int a.1), (3, .int x3_130), (1, .long a.2.1), (0, .ref (ad 0))]) (0, x1_130, M_130, L_130) ⟨by show 0 ≤ (0 : Int32).toInt; omega, by show (0 : Int32).toInt ≤ 4; omega, hI, hF, hG⟩ rfl rfl rfl ?_
          rintro ⟨x4_144, x1_144, M_144, L_144⟩ ⟨j144_0, j144_1, hI, hF, hG⟩ ih_144
          dsimp only at j144_0 j144_1 hI hF hG ih_144 ⊢
          refine g_iload C 0 dX10_digest_144 rfl ?_
          refine g_iconst C 3 dX10_digest_146 (by decide) ?_
          refine g_icmp_gt C 171 dX10_digest_147 (by decide) (fun c20 => ?_) (fun c20 => ?_)
          ·
            have f21 := fl (by decide : (3 : Int32).toInt = 3) rfl c20
            obtain ⟨v22, ev22⟩ : ∃ y : Int32, y = x3_130 + 1 := ⟨_, rfl⟩
            try have fv22 := fadd rfl (by decide : (1 : Int32).toInt = 1) ev22 (by omega) (by omega)
            refine g_iinc C 1 v22 [(3, .int v22), (4, .int x4_144), (1, .long x1_144), (0, .ref (ad 0))] dX10_digest_171 rfl (by rw [ev22]; rfl) (by decide) rfl ?_
            refine g_goto C 130 dX10_digest_174 (by decide) ?_
            refine g_lv [0, 2, 3] [(3, .int v22), (1, .long x1_144), (0, .ref (ad 0))] rfl ?_
            exact ih_130 (v22, x1_144, M_144, L_144) ⟨by show 0 ≤ v22.toInt; omega, by show v22.toInt ≤ 20; omega, hI, hF, hG⟩ (by show (21 - v22.toInt).toNat < (21 - x3_130.toInt).toNat; omega)
          ·
            have f23 := fnl (by decide : (3 : Int32).toInt = 3) rfl c20
            refine g_ldc2 C 31 (List.mem_of_getElem? (i := 4) rfl) dX10_digest_150 ?_
            refine g_lload_n C 2 dX10_digest_153 rfl ?_
            refine g_lmul C dX10_digest_154 ?_
            refine g_nl (fun v24 ev24 => ?_)
            refine g_aload_n C 3 dX10_digest_155 rfl ?_
            refine g_iload_n C 1 dX10_digest_156 rfl ?_
            refine g_iload C 0 dX10_digest_157 rfl ?_
            refine g_callVi C (n := 2) (As := [.int x3_130, .int x4_144]) (st := [.long v24]) (s_X10_methodOf l D ad cs _ _ x3_130 x4_144 hI) gX10_digest_X10_methodOf rfl rfl rfl (by decide +kernel) ⟨Nat.le_of_ble_eq_true rfl, Nat.le_of_ble_eq_true rfl⟩ rfl (Nat.le_of_ble_eq_true rfl) ⟨Nat.zero_le _, Nat.zero_le _⟩ (by decide) (ce_house ad cs _ _) rfl rfl dX10_digest_159 (fun r25 M26 L27 hr25 => ?_)
            obtain ⟨hq1, hq2, hr25⟩ := hr25
            obtain rfl := hq1.symm
            obtain rfl := hq2.symm
            refine g_i2l C dX10_digest_162 ?_
            refine g_nl (fun v28 ev28 => ?_)
            refine g_ladd C dX10_digest_163 ?_
            refine g_nl (fun v29 ev29 => ?_)
            refine g_lstore_n C [(1, .long v29), (4, .int x4_144), (3, .int x3_130), (0, .ref (ad 0))] dX10_digest_164 (by decide) rfl ?_
            obtain ⟨v30, ev30⟩ : ∃ y : Int32, y = x4_144 + 1 := ⟨_, rfl⟩
            try have fv30 := fadd rfl (by decide : (1 : Int32).toInt = 1) ev30 (by omega) (by omega)
            refine g_iinc C 1 v30 [(4, .int v30), (1, .long v29), (3, .int x3_130), (0, .ref (ad 0))] dX10_digest_165 rfl (by rw [ev30]; rfl) (by decide) rfl ?_
            refine g_goto C 144 dX10_digest_168 (by decide) ?_
            refine g_lv [0, 2, 1, 3] [(4, .int v30), (3, .int x3_130), (1, .long v29), (0, .ref (ad 0))] rfl ?_
            exact ih_144 (v30, v29, M_144, L_144) ⟨by show 0 ≤ v30.toInt; omega, by show v30.toInt ≤ 4; omega, hI, hF, hG⟩ (by show (5 - v30.toInt).toNat < (5 - x4_144.toInt).toNat; omega)
      ·
        have f31 := fnle rfl rfl c12
        refine g_iconst C 0 dX10_digest_79 (by decide) ?_
        refine g_istore C [(4, .int 0), (3, .int x3_68), (1, .long x1_68), (0, .ref (ad 0))] dX10_digest_80 (by decide) rfl ?_
        have zy32 : (0 : Int32).toInt = 0 := by decide
        refine g_loop (α := Int32 × Int64 × MI × ML) (fun a => (41 - a.1.toInt).toNat) (fun a => 0 ≤ a.1.toInt ∧ a.1.toInt ≤ 40 ∧ IC a.2.2.1 ∧ (∀ k, True → a.2.2.1 k = M k) ∧ (∀ k, True → a.2.2.2 k = L k)) (fun a => a.2.2.1) (fun a => a.2.2.2) (fun a => [(4, .int a.1), (3, .int x3_68), (1, .long a.2.1), (0, .ref (ad 0))]) (0, x1_68, M_68, L_68) ⟨by show 0 ≤ (0 : Int32).toInt; omega, by show (0 : Int32).toInt ≤ 40; omega, hI, hF, hG⟩ rfl rfl rfl ?_
        rintro ⟨x4_82, x1_82, M_82, L_82⟩ ⟨j82_0, j82_1, hI, hF, hG⟩ ih_82
        dsimp only at j82_0 j82_1 hI hF hG ih_82 ⊢
        refine g_iload C 0 dX10_digest_82 rfl ?_
        refine g_aload_n C 3 dX10_digest_84 rfl ?_
        refine g_get C (.ref (ad 68)) 2 in_X10_digest_10 (List.mem_of_getElem? (i := 8) rfl) (by decide) (ce_house ad cs _ _) rfl (by decide) rfl rfl dX10_digest_85 ?_
        refine g_get C (.ref (ad 70)) 2 in_X10_digest_1 (List.mem_of_getElem? (i := 10) rfl) (by decide) (ce_box ad cs _ _) rfl (by decide) rfl rfl dX10_digest_88 ?_
        refine g_iload_n C 1 dX10_digest_91 rfl ?_
        refine g_iald C (by decide) (ce_xsize ad cs _ _) (fin' (n := 8) rfl (by omega) (by omega)) dX10_digest_92 ?_
        refine g_ni (fun v33 ev33 => ?_)
        have tv33 := congrArg Int32.toInt ev33
        obtain ⟨bv33, dv33⟩ := (show rg 0 40 v33 from (by rw [ev33]; exact hI 70 _))
        refine g_icmp_ge C 122 dX10_digest_93 (by decide) (fun c34 => ?_) (fun c34 => ?_)
        ·
          have f35 := fle rfl rfl c34
          obtain ⟨v36, ev36⟩ : ∃ y : Int32, y = x3_68 + 1 := ⟨_, rfl⟩
          try have fv36 := fadd rfl (by decide : (1 : Int32).toInt = 1) ev36 (by omega) (by omega)
          refine g_iinc C 1 v36 [(3, .int v36), (4, .int x4_82), (1, .long x1_82), (0, .ref (ad 0))] dX10_digest_122 rfl (by rw [ev36]; rfl) (by decide) rfl ?_
          refine g_goto C 68 dX10_digest_125 (by decide) ?_
          refine g_lv [0, 2, 3] [(3, .int v36), (1, .long x1_82), (0, .ref (ad 0))] rfl ?_
          exact ih_68 (v36, x1_82, M_82, L_82) ⟨by show 0 ≤ v36.toInt; omega, by show v36.toInt ≤ 8; omega, hI, hF, hG⟩ (by show (9 - v36.toInt).toNat < (9 - x3_68.toInt).toNat; omega)
        ·
          have f37 := fnle rfl rfl c34
          refine g_ldc2 C 31 (List.mem_of_getElem? (i := 4) rfl) dX10_digest_96 ?_
          refine g_lload_n C 2 dX10_digest_99 rfl ?_
          refine g_lmul C dX10_digest_100 ?_
          refine g_nl (fun v38 ev38 => ?_)
          refine g_aload_n C 3 dX10_digest_101 rfl ?_
          refine g_get C (.ref (ad 68)) 2 in_X10_digest_10 (List.mem_of_getElem? (i := 8) rfl) (by decide) (ce_house ad cs _ _) rfl (by decide) rfl rfl dX10_digest_102 ?_
          refine g_get C (.ref (ad 71)) 3 in_X10_digest_1 (List.mem_of_getElem? (i := 11) rfl) (by decide) (ce_box ad cs _ _) rfl (by decide) rfl rfl dX10_digest_105 ?_
          refine g_iload_n C 1 dX10_digest_108 rfl ?_
          have hi39 : vp_in x3_68 8 := (fin' (n := 8) rfl (by omega) (by omega))
          have nhi39 := tn hi39
          refine g_aald C (by decide) (ce_xplacem ad cs _ _) rfl hi39 dX10_digest_109 ?_
          refine g_iload C 0 dX10_digest_110 rfl ?_
          refine g_iald C (by omega) (ce_xplace ad cs _ _ nhi39) (fin' (n := 40) rfl (by omega) (by omega)) dX10_digest_112 ?_
          refine g_ni (fun v40 ev40 => ?_)
          have tv40 := congrArg Int32.toInt ev40
          refine g_i2l C dX10_digest_113 ?_
          refine g_nl (fun v41 ev41 => ?_)
          refine g_ladd C dX10_digest_114 ?_
          refine g_nl (fun v42 ev42 => ?_)
          refine g_lstore_n C [(1, .long v42), (4, .int x4_82), (3, .int x3_68), (0, .ref (ad 0))] dX10_digest_115 (by decide) rfl ?_
          obtain ⟨v43, ev43⟩ : ∃ y : Int32, y = x4_82 + 1 := ⟨_, rfl⟩
          try have fv43 := fadd rfl (by decide : (1 : Int32).toInt = 1) ev43 (by omega) (by omega)
          refine g_iinc C 1 v43 [(4, .int v43), (1, .long v42), (3, .int x3_68), (0, .ref (ad 0))] dX10_digest_116 rfl (by rw [ev43]; rfl) (by decide) rfl ?_
          refine g_goto C 82 dX10_digest_119 (by decide) ?_
          refine g_lv [0, 2, 1, 3] [(4, .int v43), (3, .int x3_68), (1, .long v42), (0, .ref (ad 0))] rfl ?_
          exact ih_82 (v43, v42, M_82, L_82) ⟨by show 0 ≤ v43.toInt; omega, by show v43.toInt ≤ 40; omega, hI, hF, hG⟩ (by show (41 - v43.toInt).toNat < (41 - x4_82.toInt).toNat; omega)
    ·
      have f44 := fnle rfl rfl c8
      refine g_aload_n C 2 dX10_digest_53 rfl ?_
      refine g_lload_n C 1 dX10_digest_54 rfl ?_
      refine g_iload_n C 0 dX10_digest_55 rfl ?_
      refine g_callVl C (n := 2) (As := [.long x1_42, .int x3_42]) (st := []) (s_X10_digestBallot l D ad cs _ _ x1_42 x3_42 hI ⟨by omega, by omega⟩) gX10_digest_X10_digestBallot rfl rfl rfl (by decide +kernel) ⟨Nat.le_of_ble_eq_true rfl, Nat.le_of_ble_eq_true rfl⟩ rfl (Nat.le_of_ble_eq_true rfl) ⟨Nat.zero_le _, Nat.zero_le _⟩ (by decide) (ce_house ad cs _ _) rfl rfl dX10_digest_56 (fun r45 M46 L47 hr45 => ?_)
      obtain ⟨hq1, hq2, hr45⟩ := hr45
      obtain rfl := hq1.symm
      obtain rfl := hq2.symm
      refine g_lstore_n C [(1, .long r45), (3, .int x3_42), (0, .ref (ad 0))] dX10_digest_59 (by decide) rfl ?_
      obtain ⟨v48, ev48⟩ : ∃ y : Int32, y = x3_42 + 1 := ⟨_, rfl⟩
      try have fv48 := fadd rfl (by decide : (1 : Int32).toInt = 1) ev48 (by omega) (by omega)
      refine g_iinc C 1 v48 [(3, .int v48), (1, .long r45), (0, .ref (ad 0))] dX10_digest_60 rfl (by rw [ev48]; rfl) (by decide) rfl ?_
      refine g_goto C 42 dX10_digest_63 (by decide) ?_
      exact ih_42 (v48, r45, M_42, L_42) ⟨by show 0 ≤ v48.toInt; omega, by show v48.toInt ≤ 60; omega, hI, hF, hG⟩ (by show (61 - v48.toInt).toNat < (61 - x3_42.toInt).toNat; omega)
  ·
    have f49 := fnle rfl rfl c4
    refine g_ldc2 C 31 (List.mem_of_getElem? (i := 4) rfl) dX10_digest_17 ?_
    refine g_lload_n C 1 dX10_digest_20 rfl ?_
    refine g_lmul C dX10_digest_21 ?_
    refine g_nl (fun v50 ev50 => ?_)
    refine g_aload_n C 2 dX10_digest_22 rfl ?_
    refine g_get C (.ref (ad 1)) 0 in_X10_digest_10 (List.mem_of_getElem? (i := 2) rfl) (by decide) (ce_house ad cs _ _) rfl (by decide) rfl rfl dX10_digest_23 ?_
    refine g_get C (.ref (ad 2)) 1 in_X10_digest_2 (List.mem_of_getElem? (i := 5) rfl) (by decide) (ce_cand ad cs _ _) rfl (by decide) rfl rfl dX10_digest_26 ?_
    refine g_iload_n C 0 dX10_digest_29 rfl ?_
    refine g_iald C (by decide) (ce_crow ad cs _ _) (fin' (n := 10) rfl (by omega) (by omega)) dX10_digest_30 ?_
    refine g_ni (fun v51 ev51 => ?_)
    have tv51 := congrArg Int32.toInt ev51
    obtain ⟨bv51, dv51⟩ := (show rg 0 9 v51 from (by rw [ev51]; exact hI 2 _))
    refine g_i2l C dX10_digest_31 ?_
    refine g_nl (fun v52 ev52 => ?_)
    refine g_ladd C dX10_digest_32 ?_
    refine g_nl (fun v53 ev53 => ?_)
    refine g_lstore_n C [(1, .long v53), (3, .int x3_6), (0, .ref (ad 0))] dX10_digest_33 (by decide) rfl ?_
    obtain ⟨v54, ev54⟩ : ∃ y : Int32, y = x3_6 + 1 := ⟨_, rfl⟩
    try have fv54 := fadd rfl (by decide : (1 : Int32).toInt = 1) ev54 (by omega) (by omega)
    refine g_iinc C 1 v54 [(3, .int v54), (1, .long v53), (0, .ref (ad 0))] dX10_digest_34 rfl (by rw [ev54]; rfl) (by decide) rfl ?_
    refine g_goto C 6 dX10_digest_37 (by decide) ?_
    exact ih_6 (v54, v53, M_6, L_6) ⟨by show 0 ≤ v54.toInt; omega, by show v54.toInt ≤ 10; omega, hI, hF, hG⟩ (by show (11 - v54.toInt).toNat < (11 - x3_6.toInt).toNat; omega)
theorem dX10_missingAt_0 : decode cX10_missingAt 0 = .ok (.aload_n 0, 1) := dw42 (n := 0) (i := 0) kc_cX10_missingAt_0 (by decide +kernel)
theorem dX10_missingAt_1 : decode cX10_missingAt 1 = .ok (.getfield 26, 3) := dw180 (n := 0) (i := 1) (a := 0) (b := 26) kc_cX10_missingAt_0 (by decide +kernel) (by decide)
theorem in_X10_missingAt_10 : ∀ w ∈ u_ws RX10 TX10 13, w ∈ wsX10_missingAt := fun _ h => List.mem_cons_of_mem _ (List.mem_append_left _ (List.mem_append_right _ h))
theorem dX10_missingAt_4 : decode cX10_missingAt 4 = .ok (.iload_n 1, 1) := dw27 (n := 0) (i := 4) kc_cX10_missingAt_0 (by decide +kernel)
theorem dX10_missingAt_5 : decode cX10_missingAt 5 = .ok (.iload_n 2, 1) := dw28 (n := 0) (i := 5) kc_cX10_missingAt_0 (by decide +kernel)
theorem dX10_missingAt_6 : decode cX10_missingAt 6 = .ok (.invokevirtual 147, 3) := dw182 (n := 0) (i := 6) (a := 0) (b := 147) kc_cX10_missingAt_0 (by decide +kernel) (by decide)
set_option maxRecDepth 20000 in
theorem ggX10_missingAt_X1_hasPlace : GoodIn wsX10_missingAt wsX1_hasPlace := (gk_code 7 rfl (gk_fieldLink 8 rfl (gk_lays 22 rfl (gk_laysFinal 23 rfl (gk_laysFinal 24 rfl (gk_laysFinal 25 rfl (gk_laysFinal 26 rfl (gn))))))))
set_option maxRecDepth 20000 in
theorem gX10_missingAt_X1_hasPlace : GoodIn wsX10_missingAt (wsV RX10 147 RX1 yX1_hasPlace wsX1_hasPlace) := goodIn_app (gk_methodLink 3 rfl (gk_instanceMethod 4 rfl (gk_selects 5 rfl (gk_initialized 6 rfl (gn))))) ggX10_missingAt_X1_hasPlace
theorem dX10_missingAt_9 : decode cX10_missingAt 9 = .ok (.ifCond .ne 5, 3) := dw154 (n := 0) (i := 9) (a := 0) (b := 5) kc_cX10_missingAt_0 (by decide +kernel) (by decide)
theorem dX10_missingAt_14 : decode cX10_missingAt 14 = .ok (.aload_n 0, 1) := dw42 (n := 0) (i := 14) kc_cX10_missingAt_0 (by decide +kernel)
theorem dX10_missingAt_15 : decode cX10_missingAt 15 = .ok (.getfield 26, 3) := dw180 (n := 0) (i := 15) (a := 0) (b := 26) kc_cX10_missingAt_0 (by decide +kernel) (by decide)
theorem dX10_missingAt_18 : decode cX10_missingAt 18 = .ok (.getfield 151, 3) := dw180 (n := 0) (i := 18) (a := 0) (b := 151) kc_cX10_missingAt_0 (by decide +kernel) (by decide)
theorem in_X10_missingAt_1 : ∀ w ∈ u_ws RX1 TX1 5, w ∈ wsX10_missingAt := fun _ h => List.mem_cons_of_mem _ (List.mem_append_right _ h)
theorem dX10_missingAt_21 : decode cX10_missingAt 21 = .ok (.iload_n 1, 1) := dw27 (n := 0) (i := 21) kc_cX10_missingAt_0 (by decide +kernel)
theorem dX10_missingAt_22 : decode cX10_missingAt 22 = .ok (.aaload, 1) := dw50 (n := 0) (i := 22) kc_cX10_missingAt_0 (by decide +kernel)
theorem dX10_missingAt_23 : decode cX10_missingAt 23 = .ok (.iload_n 2, 1) := dw28 (n := 0) (i := 23) kc_cX10_missingAt_0 (by decide +kernel)
theorem dX10_missingAt_24 : decode cX10_missingAt 24 = .ok (.iaload, 1) := dw46 (n := 0) (i := 24) kc_cX10_missingAt_0 (by decide +kernel)
theorem dX10_missingAt_25 : decode cX10_missingAt 25 = .ok (.bipush (-9), 2) := dw16 (n := 0) (i := 25) (a := 247) kc_cX10_missingAt_0 (by decide +kernel) (by decide)
theorem dX10_missingAt_27 : decode cX10_missingAt 27 = .ok (.if_icmp .ne 7, 3) := dw160 (n := 0) (i := 27) (a := 0) (b := 7) kc_cX10_missingAt_0 (by decide +kernel) (by decide)
theorem dX10_missingAt_34 : decode cX10_missingAt 34 = .ok (.iconst 0, 1) := dw3 (n := 32) (i := 2) kc_cX10_missingAt_1 (by decide +kernel)
theorem dX10_missingAt_35 : decode cX10_missingAt 35 = .ok (.ireturn, 1) := dw172 (n := 32) (i := 3) kc_cX10_missingAt_1 (by decide +kernel)
theorem dX10_missingAt_30 : decode cX10_missingAt 30 = .ok (.iconst 1, 1) := dw4 (n := 0) (i := 30) kc_cX10_missingAt_0 (by decide +kernel)
theorem dX10_missingAt_31 : decode cX10_missingAt 31 = .ok (.goto 4, 3) := dw167 (n := 0) (i := 31) (a := 0) (b := 4) kc_cX10_missingAt_0 (by decide +kernel) (by decide)
theorem dX10_missingAt_12 : decode cX10_missingAt 12 = .ok (.iconst 2, 1) := dw5 (n := 0) (i := 12) kc_cX10_missingAt_0 (by decide +kernel)
theorem dX10_missingAt_13 : decode cX10_missingAt 13 = .ok (.ireturn, 1) := dw172 (n := 0) (i := 13) kc_cX10_missingAt_0 (by decide +kernel)
theorem dX10_thousandths_0 : decode cX10_thousandths 0 = .ok (.iload_n 1, 1) := dw27 (n := 0) (i := 0) kc_cX10_thousandths_0 (by decide +kernel)
theorem dX10_thousandths_1 : decode cX10_thousandths 1 = .ok (.iconst 1, 1) := dw4 (n := 0) (i := 1) kc_cX10_thousandths_0 (by decide +kernel)
theorem dX10_thousandths_2 : decode cX10_thousandths 2 = .ok (.if_icmp .ge 7, 3) := dw162 (n := 0) (i := 2) (a := 0) (b := 7) kc_cX10_thousandths_0 (by decide +kernel) (by decide)
theorem dX10_thousandths_9 : decode cX10_thousandths 9 = .ok (.sipush 1000, 3) := dw17 (n := 0) (i := 9) (a := 3) (b := 232) kc_cX10_thousandths_0 (by decide +kernel) (by decide)
theorem dX10_thousandths_12 : decode cX10_thousandths 12 = .ok (.iload_n 0, 1) := dw26 (n := 0) (i := 12) kc_cX10_thousandths_0 (by decide +kernel)
theorem dX10_thousandths_13 : decode cX10_thousandths 13 = .ok (.imul, 1) := dw104 (n := 0) (i := 13) kc_cX10_thousandths_0 (by decide +kernel)
theorem dX10_thousandths_14 : decode cX10_thousandths 14 = .ok (.iload_n 1, 1) := dw27 (n := 0) (i := 14) kc_cX10_thousandths_0 (by decide +kernel)
theorem dX10_thousandths_15 : decode cX10_thousandths 15 = .ok (.idiv, 1) := dw108 (n := 0) (i := 15) kc_cX10_thousandths_0 (by decide +kernel)
theorem dX10_thousandths_16 : decode cX10_thousandths 16 = .ok (.ireturn, 1) := dw172 (n := 0) (i := 16) kc_cX10_thousandths_0 (by decide +kernel)
theorem dX10_thousandths_5 : decode cX10_thousandths 5 = .ok (.iconst 0, 1) := dw3 (n := 0) (i := 5) kc_cX10_thousandths_0 (by decide +kernel)
theorem dX10_thousandths_6 : decode cX10_thousandths 6 = .ok (.goto 10, 3) := dw167 (n := 0) (i := 6) (a := 0) (b := 10) kc_cX10_thousandths_0 (by decide +kernel) (by decide)
theorem dX10_papersIn_0 : decode cX10_papersIn 0 = .ok (.iconst 0, 1) := dw3 (n := 0) (i := 0) kc_cX10_papersIn_0 (by decide +kernel)
theorem dX10_papersIn_1 : decode cX10_papersIn 1 = .ok (.istore_n 2, 1) := dw61 (n := 0) (i := 1) kc_cX10_papersIn_0 (by decide +kernel)
theorem dX10_papersIn_2 : decode cX10_papersIn 2 = .ok (.iconst 0, 1) := dw3 (n := 0) (i := 2) kc_cX10_papersIn_0 (by decide +kernel)
theorem dX10_papersIn_3 : decode cX10_papersIn 3 = .ok (.istore_n 3, 1) := dw62 (n := 0) (i := 3) kc_cX10_papersIn_0 (by decide +kernel)
theorem dX10_papersIn_4 : decode cX10_papersIn 4 = .ok (.iload_n 3, 1) := dw29 (n := 0) (i := 4) kc_cX10_papersIn_0 (by decide +kernel)
theorem dX10_papersIn_5 : decode cX10_papersIn 5 = .ok (.aload_n 0, 1) := dw42 (n := 0) (i := 5) kc_cX10_papersIn_0 (by decide +kernel)
theorem dX10_papersIn_6 : decode cX10_papersIn 6 = .ok (.getfield 26, 3) := dw180 (n := 0) (i := 6) (a := 0) (b := 26) kc_cX10_papersIn_0 (by decide +kernel) (by decide)
theorem in_X10_papersIn_10 : ∀ w ∈ u_ws RX10 TX10 13, w ∈ wsX10_papersIn := fun _ h => List.mem_cons_of_mem _ (List.mem_append_left _ (List.mem_append_left _ (List.mem_append_right _ h)))
theorem dX10_papersIn_9 : decode cX10_papersIn 9 = .ok (.getfield 263, 3) := dw180 (n := 0) (i := 9) (a := 1) (b := 7) kc_cX10_papersIn_0 (by decide +kernel) (by decide)
theorem in_X10_papersIn_1 : ∀ w ∈ u_ws RX1 TX1 5, w ∈ wsX10_papersIn := fun _ h => List.mem_cons_of_mem _ (List.mem_append_left _ (List.mem_append_right _ h))
theorem dX10_papersIn_12 : decode cX10_papersIn 12 = .ok (.iload_n 1, 1) := dw27 (n := 0) (i := 12) kc_cX10_papersIn_0 (by decide +kernel)
theorem dX10_papersIn_13 : decode cX10_papersIn 13 = .ok (.iaload, 1) := dw46 (n := 0) (i := 13) kc_cX10_papersIn_0 (by decide +kernel)
theorem dX10_papersIn_14 : decode cX10_papersIn 14 = .ok (.if_icmp .ge 30, 3) := dw162 (n := 0) (i := 14) (a := 0) (b := 30) kc_cX10_papersIn_0 (by decide +kernel) (by decide)
theorem dX10_papersIn_44 : decode cX10_papersIn 44 = .ok (.iload_n 2, 1) := dw28 (n := 32) (i := 12) kc_cX10_papersIn_1 (by decide +kernel)
theorem dX10_papersIn_45 : decode cX10_papersIn 45 = .ok (.ireturn, 1) := dw172 (n := 32) (i := 13) kc_cX10_papersIn_1 (by decide +kernel)
theorem dX10_papersIn_17 : decode cX10_papersIn 17 = .ok (.iload_n 2, 1) := dw28 (n := 0) (i := 17) kc_cX10_papersIn_0 (by decide +kernel)
theorem dX10_papersIn_18 : decode cX10_papersIn 18 = .ok (.aload_n 0, 1) := dw42 (n := 0) (i := 18) kc_cX10_papersIn_0 (by decide +kernel)
theorem dX10_papersIn_19 : decode cX10_papersIn 19 = .ok (.getfield 19, 3) := dw180 (n := 0) (i := 19) (a := 0) (b := 19) kc_cX10_papersIn_0 (by decide +kernel) (by decide)
theorem dX10_papersIn_22 : decode cX10_papersIn 22 = .ok (.aload_n 0, 1) := dw42 (n := 0) (i := 22) kc_cX10_papersIn_0 (by decide +kernel)
theorem dX10_papersIn_23 : decode cX10_papersIn 23 = .ok (.getfield 26, 3) := dw180 (n := 0) (i := 23) (a := 0) (b := 26) kc_cX10_papersIn_0 (by decide +kernel) (by decide)
theorem dX10_papersIn_26 : decode cX10_papersIn 26 = .ok (.getfield 151, 3) := dw180 (n := 0) (i := 26) (a := 0) (b := 151) kc_cX10_papersIn_0 (by decide +kernel) (by decide)
theorem dX10_papersIn_29 : decode cX10_papersIn 29 = .ok (.iload_n 1, 1) := dw27 (n := 0) (i := 29) kc_cX10_papersIn_0 (by decide +kernel)
theorem dX10_papersIn_30 : decode cX10_papersIn 30 = .ok (.aaload, 1) := dw50 (n := 0) (i := 30) kc_cX10_papersIn_0 (by decide +kernel)
theorem dX10_papersIn_31 : decode cX10_papersIn 31 = .ok (.iload_n 3, 1) := dw29 (n := 0) (i := 31) kc_cX10_papersIn_0 (by decide +kernel)
theorem dX10_papersIn_32 : decode cX10_papersIn 32 = .ok (.iaload, 1) := dw46 (n := 32) (i := 0) kc_cX10_papersIn_1 (by decide +kernel)
theorem dX10_papersIn_33 : decode cX10_papersIn 33 = .ok (.invokevirtual 165, 3) := dw182 (n := 32) (i := 1) (a := 0) (b := 165) kc_cX10_papersIn_1 (by decide +kernel) (by decide)
set_option maxRecDepth 20000 in
theorem ggX10_papersIn_X0_papersAt : GoodIn wsX10_papersIn wsX0_papersAt := (gk_code 9 rfl (gk_fieldLink 10 rfl (gk_methodLink 11 rfl (gk_instanceMethod 12 rfl (gk_selects 13 rfl (gk_initialized 8 rfl (gk_code 14 rfl (gk_fieldLink 15 rfl (gk_lays 34 rfl (gk_laysFinal 35 rfl (gk_laysFinal 36 rfl (gk_laysFinal 37 rfl (gk_laysFinal 38 rfl (gn))))))))))))))
set_option maxRecDepth 20000 in
theorem gX10_papersIn_X0_papersAt : GoodIn wsX10_papersIn (wsV RX10 165 RX0 yX0_papersAt wsX0_papersAt) := goodIn_app (gk_methodLink 5 rfl (gk_instanceMethod 6 rfl (gk_selects 7 rfl (gk_initialized 8 rfl (gn))))) ggX10_papersIn_X0_papersAt
theorem dX10_papersIn_36 : decode cX10_papersIn 36 = .ok (.iadd, 1) := dw96 (n := 32) (i := 4) kc_cX10_papersIn_1 (by decide +kernel)
theorem dX10_papersIn_37 : decode cX10_papersIn 37 = .ok (.istore_n 2, 1) := dw61 (n := 32) (i := 5) kc_cX10_papersIn_1 (by decide +kernel)
theorem dX10_papersIn_38 : decode cX10_papersIn 38 = .ok (.iinc 3 1, 3) := by decide +kernel
theorem dX10_papersIn_41 : decode cX10_papersIn 41 = .ok (.goto (-37), 3) := dw167 (n := 32) (i := 9) (a := 255) (b := 219) kc_cX10_papersIn_1 (by decide +kernel) (by decide)
theorem dX10_firstUnlike_0 : decode cX10_firstUnlike 0 = .ok (.iconst 0, 1) := dw3 (n := 0) (i := 0) kc_cX10_firstUnlike_0 (by decide +kernel)
theorem dX10_firstUnlike_1 : decode cX10_firstUnlike 1 = .ok (.istore_n 3, 1) := dw62 (n := 0) (i := 1) kc_cX10_firstUnlike_0 (by decide +kernel)
theorem dX10_firstUnlike_2 : decode cX10_firstUnlike 2 = .ok (.iload_n 3, 1) := dw29 (n := 0) (i := 2) kc_cX10_firstUnlike_0 (by decide +kernel)
theorem dX10_firstUnlike_3 : decode cX10_firstUnlike 3 = .ok (.aload_n 0, 1) := dw42 (n := 0) (i := 3) kc_cX10_firstUnlike_0 (by decide +kernel)
theorem dX10_firstUnlike_4 : decode cX10_firstUnlike 4 = .ok (.getfield 26, 3) := dw180 (n := 0) (i := 4) (a := 0) (b := 26) kc_cX10_firstUnlike_0 (by decide +kernel) (by decide)
theorem in_X10_firstUnlike_10 : ∀ w ∈ u_ws RX10 TX10 13, w ∈ wsX10_firstUnlike := fun _ h => List.mem_cons_of_mem _ (List.mem_append_left _ (List.mem_append_left _ (List.mem_append_right _ h)))
theorem dX10_firstUnlike_7 : decode cX10_firstUnlike 7 = .ok (.getfield 263, 3) := dw180 (n := 0) (i := 7) (a := 1) (b := 7) kc_cX10_firstUnlike_0 (by decide +kernel) (by decide)
theorem in_X10_firstUnlike_1 : ∀ w ∈ u_ws RX1 TX1 5, w ∈ wsX10_firstUnlike := fun _ h => List.mem_cons_of_mem _ (List.mem_append_left _ (List.mem_append_right _ h))
theorem dX10_firstUnlike_10 : decode cX10_firstUnlike 10 = .ok (.iload_n 1, 1) := dw27 (n := 0) (i := 10) kc_cX10_firstUnlike_0 (by decide +kernel)
theorem dX10_firstUnlike_11 : decode cX10_firstUnlike 11 = .ok (.iaload, 1) := dw46 (n := 0) (i := 11) kc_cX10_firstUnlike_0 (by decide +kernel)
theorem dX10_firstUnlike_12 : decode cX10_firstUnlike 12 = .ok (.if_icmp .ge 49, 3) := dw162 (n := 0) (i := 12) (a := 0) (b := 49) kc_cX10_firstUnlike_0 (by decide +kernel) (by decide)
theorem dX10_firstUnlike_61 : decode cX10_firstUnlike 61 = .ok (.bipush (-9), 2) := dw16 (n := 32) (i := 29) (a := 247) kc_cX10_firstUnlike_1 (by decide +kernel) (by decide)
theorem dX10_firstUnlike_63 : decode cX10_firstUnlike 63 = .ok (.ireturn, 1) := dw172 (n := 32) (i := 31) kc_cX10_firstUnlike_1 (by decide +kernel)
theorem dX10_firstUnlike_15 : decode cX10_firstUnlike 15 = .ok (.aload_n 0, 1) := dw42 (n := 0) (i := 15) kc_cX10_firstUnlike_0 (by decide +kernel)
theorem dX10_firstUnlike_16 : decode cX10_firstUnlike 16 = .ok (.getfield 26, 3) := dw180 (n := 0) (i := 16) (a := 0) (b := 26) kc_cX10_firstUnlike_0 (by decide +kernel) (by decide)
theorem dX10_firstUnlike_19 : decode cX10_firstUnlike 19 = .ok (.getfield 151, 3) := dw180 (n := 0) (i := 19) (a := 0) (b := 151) kc_cX10_firstUnlike_0 (by decide +kernel) (by decide)
theorem dX10_firstUnlike_22 : decode cX10_firstUnlike 22 = .ok (.iload_n 1, 1) := dw27 (n := 0) (i := 22) kc_cX10_firstUnlike_0 (by decide +kernel)
theorem dX10_firstUnlike_23 : decode cX10_firstUnlike 23 = .ok (.aaload, 1) := dw50 (n := 0) (i := 23) kc_cX10_firstUnlike_0 (by decide +kernel)
theorem dX10_firstUnlike_24 : decode cX10_firstUnlike 24 = .ok (.iload_n 3, 1) := dw29 (n := 0) (i := 24) kc_cX10_firstUnlike_0 (by decide +kernel)
theorem dX10_firstUnlike_25 : decode cX10_firstUnlike 25 = .ok (.iaload, 1) := dw46 (n := 0) (i := 25) kc_cX10_firstUnlike_0 (by decide +kernel)
theorem dX10_firstUnlike_26 : decode cX10_firstUnlike 26 = .ok (.istore 4, 2) := dw54 (n := 0) (i := 26) (a := 4) kc_cX10_firstUnlike_0 (by decide +kernel) (by decide)
theorem dX10_firstUnlike_28 : decode cX10_firstUnlike 28 = .ok (.aload_n 0, 1) := dw42 (n := 0) (i := 28) kc_cX10_firstUnlike_0 (by decide +kernel)
theorem dX10_firstUnlike_29 : decode cX10_firstUnlike 29 = .ok (.getfield 19, 3) := dw180 (n := 0) (i := 29) (a := 0) (b := 19) kc_cX10_firstUnlike_0 (by decide +kernel) (by decide)
theorem dX10_firstUnlike_32 : decode cX10_firstUnlike 32 = .ok (.iload 4, 2) := dw21 (n := 32) (i := 0) (a := 4) kc_cX10_firstUnlike_1 (by decide +kernel) (by decide)
theorem dX10_firstUnlike_34 : decode cX10_firstUnlike 34 = .ok (.invokevirtual 112, 3) := dw182 (n := 32) (i := 2) (a := 0) (b := 112) kc_cX10_firstUnlike_1 (by decide +kernel) (by decide)
set_option maxRecDepth 20000 in
theorem ggX10_firstUnlike_X0_has : GoodIn wsX10_firstUnlike wsX0_has := (gk_code 9 rfl (gk_fieldLink 10 rfl (gk_lays 37 rfl (gk_laysFinal 38 rfl (gk_laysFinal 39 rfl (gk_laysFinal 40 rfl (gk_laysFinal 41 rfl (gn))))))))
set_option maxRecDepth 20000 in
theorem gX10_firstUnlike_X0_has : GoodIn wsX10_firstUnlike (wsV RX10 112 RX0 yX0_has wsX0_has) := goodIn_app (gk_methodLink 5 rfl (gk_instanceMethod 6 rfl (gk_selects 7 rfl (gk_initialized 8 rfl (gn))))) ggX10_firstUnlike_X0_has
theorem dX10_firstUnlike_37 : decode cX10_firstUnlike 37 = .ok (.ifCond .eq 18, 3) := dw153 (n := 32) (i := 5) (a := 0) (b := 18) kc_cX10_firstUnlike_1 (by decide +kernel) (by decide)
theorem dX10_firstUnlike_55 : decode cX10_firstUnlike 55 = .ok (.iinc 3 1, 3) := by decide +kernel
theorem dX10_firstUnlike_58 : decode cX10_firstUnlike 58 = .ok (.goto (-56), 3) := dw167 (n := 32) (i := 26) (a := 255) (b := 200) kc_cX10_firstUnlike_1 (by decide +kernel) (by decide)
theorem dX10_firstUnlike_40 : decode cX10_firstUnlike 40 = .ok (.aload_n 0, 1) := dw42 (n := 32) (i := 8) kc_cX10_firstUnlike_1 (by decide +kernel)
theorem dX10_firstUnlike_41 : decode cX10_firstUnlike 41 = .ok (.getfield 19, 3) := dw180 (n := 32) (i := 9) (a := 0) (b := 19) kc_cX10_firstUnlike_1 (by decide +kernel) (by decide)
theorem dX10_firstUnlike_44 : decode cX10_firstUnlike 44 = .ok (.iload 4, 2) := dw21 (n := 32) (i := 12) (a := 4) kc_cX10_firstUnlike_1 (by decide +kernel) (by decide)
theorem dX10_firstUnlike_46 : decode cX10_firstUnlike 46 = .ok (.iload_n 2, 1) := dw28 (n := 32) (i := 14) kc_cX10_firstUnlike_1 (by decide +kernel)
theorem dX10_firstUnlike_47 : decode cX10_firstUnlike 47 = .ok (.invokevirtual 113, 3) := dw182 (n := 32) (i := 15) (a := 0) (b := 113) kc_cX10_firstUnlike_1 (by decide +kernel) (by decide)
set_option maxRecDepth 20000 in
theorem ggX10_firstUnlike_X0_isOf : GoodIn wsX10_firstUnlike wsX0_isOf := (gk_code 14 rfl (gk_fieldLink 15 rfl (gk_static 16 rfl (gk_initialized 17 rfl (gk_code 18 rfl (gk_lays 37 rfl (gk_laysFinal 38 rfl (gk_laysFinal 39 rfl (gk_laysFinal 40 rfl (gk_laysFinal 41 rfl (gn)))))))))))
set_option maxRecDepth 20000 in
theorem gX10_firstUnlike_X0_isOf : GoodIn wsX10_firstUnlike (wsV RX10 113 RX0 yX0_isOf wsX0_isOf) := goodIn_app (gk_methodLink 11 rfl (gk_instanceMethod 12 rfl (gk_selects 13 rfl (gk_initialized 8 rfl (gn))))) ggX10_firstUnlike_X0_isOf
theorem dX10_firstUnlike_50 : decode cX10_firstUnlike 50 = .ok (.ifCond .ne 5, 3) := dw154 (n := 32) (i := 18) (a := 0) (b := 5) kc_cX10_firstUnlike_1 (by decide +kernel) (by decide)
theorem dX10_firstUnlike_53 : decode cX10_firstUnlike 53 = .ok (.iload_n 3, 1) := dw29 (n := 32) (i := 21) kc_cX10_firstUnlike_1 (by decide +kernel)
theorem dX10_firstUnlike_54 : decode cX10_firstUnlike 54 = .ok (.ireturn, 1) := dw172 (n := 32) (i := 22) kc_cX10_firstUnlike_1 (by decide +kernel)
theorem dX10_maySeat_0 : decode cX10_maySeat 0 = .ok (.iload_n 2, 1) := dw28 (n := 0) (i := 0) kc_cX10_maySeat_0 (by decide +kernel)
theorem dX10_maySeat_1 : decode cX10_maySeat 1 = .ok (.iconst 1, 1) := dw4 (n := 0) (i := 1) kc_cX10_maySeat_0 (by decide +kernel)
theorem dX10_maySeat_2 : decode cX10_maySeat 2 = .ok (.if_icmp .lt 19, 3) := dw161 (n := 0) (i := 2) (a := 0) (b := 19) kc_cX10_maySeat_0 (by decide +kernel) (by decide)
theorem dX10_maySeat_21 : decode cX10_maySeat 21 = .ok (.iconst 0, 1) := dw3 (n := 0) (i := 21) kc_cX10_maySeat_0 (by decide +kernel)
theorem dX10_maySeat_22 : decode cX10_maySeat 22 = .ok (.ireturn, 1) := dw172 (n := 0) (i := 22) kc_cX10_maySeat_0 (by decide +kernel)
theorem dX10_maySeat_5 : decode cX10_maySeat 5 = .ok (.iload_n 2, 1) := dw28 (n := 0) (i := 5) kc_cX10_maySeat_0 (by decide +kernel)
theorem dX10_maySeat_6 : decode cX10_maySeat 6 = .ok (.bipush 30, 2) := dw16 (n := 0) (i := 6) (a := 30) kc_cX10_maySeat_0 (by decide +kernel) (by decide)
theorem dX10_maySeat_8 : decode cX10_maySeat 8 = .ok (.if_icmp .gt 13, 3) := dw163 (n := 0) (i := 8) (a := 0) (b := 13) kc_cX10_maySeat_0 (by decide +kernel) (by decide)
theorem dX10_maySeat_11 : decode cX10_maySeat 11 = .ok (.aload_n 0, 1) := dw42 (n := 0) (i := 11) kc_cX10_maySeat_0 (by decide +kernel)
theorem dX10_maySeat_12 : decode cX10_maySeat 12 = .ok (.getfield 10, 3) := dw180 (n := 0) (i := 12) (a := 0) (b := 10) kc_cX10_maySeat_0 (by decide +kernel) (by decide)
theorem in_X10_maySeat_10 : ∀ w ∈ u_ws RX10 TX10 13, w ∈ wsX10_maySeat := fun _ h => List.mem_cons_of_mem _ (List.mem_append_left _ (List.mem_append_right _ h))
theorem dX10_maySeat_15 : decode cX10_maySeat 15 = .ok (.getfield 252, 3) := dw180 (n := 0) (i := 15) (a := 0) (b := 252) kc_cX10_maySeat_0 (by decide +kernel) (by decide)
theorem in_X10_maySeat_2 : ∀ w ∈ u_ws RX2 TX2 2, w ∈ wsX10_maySeat := fun _ h => List.mem_cons_of_mem _ (List.mem_append_right _ h)
theorem dX10_maySeat_18 : decode cX10_maySeat 18 = .ok (.ifCond .ne 5, 3) := dw154 (n := 0) (i := 18) (a := 0) (b := 5) kc_cX10_maySeat_0 (by decide +kernel) (by decide)
theorem dX10_maySeat_23 : decode cX10_maySeat 23 = .ok (.iload_n 2, 1) := dw28 (n := 0) (i := 23) kc_cX10_maySeat_0 (by decide +kernel)
theorem dX10_maySeat_24 : decode cX10_maySeat 24 = .ok (.aload_n 0, 1) := dw42 (n := 0) (i := 24) kc_cX10_maySeat_0 (by decide +kernel)
theorem dX10_maySeat_25 : decode cX10_maySeat 25 = .ok (.getfield 10, 3) := dw180 (n := 0) (i := 25) (a := 0) (b := 10) kc_cX10_maySeat_0 (by decide +kernel) (by decide)
theorem dX10_maySeat_28 : decode cX10_maySeat 28 = .ok (.getfield 252, 3) := dw180 (n := 0) (i := 28) (a := 0) (b := 252) kc_cX10_maySeat_0 (by decide +kernel) (by decide)
theorem dX10_maySeat_31 : decode cX10_maySeat 31 = .ok (.if_icmp .le 15, 3) := dw164 (n := 0) (i := 31) (a := 0) (b := 15) kc_cX10_maySeat_0 (by decide +kernel) (by decide)
theorem dX10_maySeat_46 : decode cX10_maySeat 46 = .ok (.iconst 1, 1) := dw4 (n := 32) (i := 14) kc_cX10_maySeat_1 (by decide +kernel)
theorem dX10_maySeat_47 : decode cX10_maySeat 47 = .ok (.goto 4, 3) := dw167 (n := 32) (i := 15) (a := 0) (b := 4) kc_cX10_maySeat_1 (by decide +kernel) (by decide)
theorem dX10_maySeat_51 : decode cX10_maySeat 51 = .ok (.ireturn, 1) := dw172 (n := 32) (i := 19) kc_cX10_maySeat_1 (by decide +kernel)
theorem dX10_maySeat_34 : decode cX10_maySeat 34 = .ok (.iload_n 1, 1) := dw27 (n := 32) (i := 2) kc_cX10_maySeat_1 (by decide +kernel)
theorem dX10_maySeat_35 : decode cX10_maySeat 35 = .ok (.bipush 6, 2) := dw16 (n := 32) (i := 3) (a := 6) kc_cX10_maySeat_1 (by decide +kernel) (by decide)
theorem dX10_maySeat_37 : decode cX10_maySeat 37 = .ok (.getstatic 193, 3) := dw178 (n := 32) (i := 5) (a := 0) (b := 193) kc_cX10_maySeat_1 (by decide +kernel) (by decide)
theorem dX10_maySeat_40 : decode cX10_maySeat 40 = .ok (.invokestatic 196, 3) := dw184 (n := 32) (i := 8) (a := 0) (b := 196) kc_cX10_maySeat_1 (by decide +kernel) (by decide)
set_option maxRecDepth 20000 in
theorem ggX10_maySeat_X10_isUnder : GoodIn wsX10_maySeat wsX10_isUnder := (gk_code 7 rfl (gn))
set_option maxRecDepth 20000 in
theorem gX10_maySeat_X10_isUnder : GoodIn wsX10_maySeat (va_wsS RX10 196 yX10_isUnder wsX10_isUnder) := goodIn_app (gk_methodLink 4 rfl (gk_static 5 rfl (gk_initialized 6 rfl (gn)))) ggX10_maySeat_X10_isUnder
theorem dX10_maySeat_43 : decode cX10_maySeat 43 = .ok (.ifCond .eq 7, 3) := dw153 (n := 32) (i := 11) (a := 0) (b := 7) kc_cX10_maySeat_1 (by decide +kernel) (by decide)
theorem dX10_maySeat_50 : decode cX10_maySeat 50 = .ok (.iconst 0, 1) := dw3 (n := 32) (i := 18) kc_cX10_maySeat_1 (by decide +kernel)
theorem dX10_stand_0 : decode cX10_stand 0 = .ok (.aload_n 0, 1) := dw42 (n := 0) (i := 0) kc_cX10_stand_0 (by decide +kernel)
theorem dX10_stand_1 : decode cX10_stand 1 = .ok (.getfield 10, 3) := dw180 (n := 0) (i := 1) (a := 0) (b := 10) kc_cX10_stand_0 (by decide +kernel) (by decide)
theorem in_X10_stand_10 : ∀ w ∈ u_ws RX10 TX10 13, w ∈ wsX10_stand := fun _ h => List.mem_cons_of_mem _ (List.mem_append_left _ (List.mem_append_right _ h))
theorem dX10_stand_4 : decode cX10_stand 4 = .ok (.invokevirtual 90, 3) := dw182 (n := 0) (i := 4) (a := 0) (b := 90) kc_cX10_stand_0 (by decide +kernel) (by decide)
set_option maxRecDepth 20000 in
theorem ggX10_stand_X2_come : GoodIn wsX10_stand wsX2_come := (gk_code 6 rfl (gk_fieldLink 7 rfl (gk_fieldLink 8 rfl (gk_lays 22 rfl (gk_laysFinal 23 rfl (gn))))))
set_option maxRecDepth 20000 in
theorem gX10_stand_X2_come : GoodIn wsX10_stand (wsV RX10 90 RX2 yX2_come wsX2_come) := goodIn_app (gk_methodLink 2 rfl (gk_instanceMethod 3 rfl (gk_selects 4 rfl (gk_initialized 5 rfl (gn))))) ggX10_stand_X2_come
theorem dX10_stand_7 : decode cX10_stand 7 = .ok (.ireturn, 1) := dw172 (n := 0) (i := 7) kc_cX10_stand_0 (by decide +kernel)
theorem dX10_draw_0 : decode cX10_draw 0 = .ok (.aload_n 0, 1) := dw42 (n := 0) (i := 0) kc_cX10_draw_0 (by decide +kernel)
theorem dX10_draw_1 : decode cX10_draw 1 = .ok (.getfield 10, 3) := dw180 (n := 0) (i := 1) (a := 0) (b := 10) kc_cX10_draw_0 (by decide +kernel) (by decide)
theorem in_X10_draw_10 : ∀ w ∈ u_ws RX10 TX10 13, w ∈ wsX10_draw := fun _ h => List.mem_cons_of_mem _ (List.mem_append_left _ (List.mem_append_right _ h))
theorem dX10_draw_4 : decode cX10_draw 4 = .ok (.iload_n 1, 1) := dw27 (n := 0) (i := 4) kc_cX10_draw_0 (by decide +kernel)
theorem dX10_draw_5 : decode cX10_draw 5 = .ok (.invokevirtual 94, 3) := dw182 (n := 0) (i := 5) (a := 0) (b := 94) kc_cX10_draw_0 (by decide +kernel) (by decide)
set_option maxRecDepth 20000 in
theorem ggX10_draw_X2_has : GoodIn wsX10_draw wsX2_has := (gk_code 6 rfl (gk_fieldLink 7 rfl (gk_lays 26 rfl (gk_laysFinal 27 rfl (gn)))))
set_option maxRecDepth 20000 in
theorem gX10_draw_X2_has : GoodIn wsX10_draw (wsV RX10 94 RX2 yX2_has wsX2_has) := goodIn_app (gk_methodLink 2 rfl (gk_instanceMethod 3 rfl (gk_selects 4 rfl (gk_initialized 5 rfl (gn))))) ggX10_draw_X2_has
theorem dX10_draw_8 : decode cX10_draw 8 = .ok (.ifCond .eq 14, 3) := dw153 (n := 0) (i := 8) (a := 0) (b := 14) kc_cX10_draw_0 (by decide +kernel) (by decide)
theorem dX10_draw_22 : decode cX10_draw 22 = .ok (.iconst (-1), 1) := dw2 (n := 0) (i := 22) kc_cX10_draw_0 (by decide +kernel)
theorem dX10_draw_23 : decode cX10_draw 23 = .ok (.ireturn, 1) := dw172 (n := 0) (i := 23) kc_cX10_draw_0 (by decide +kernel)
theorem dX10_draw_11 : decode cX10_draw 11 = .ok (.aload_n 0, 1) := dw42 (n := 0) (i := 11) kc_cX10_draw_0 (by decide +kernel)
theorem dX10_draw_12 : decode cX10_draw 12 = .ok (.getfield 10, 3) := dw180 (n := 0) (i := 12) (a := 0) (b := 10) kc_cX10_draw_0 (by decide +kernel) (by decide)
theorem dX10_draw_15 : decode cX10_draw 15 = .ok (.iload_n 2, 1) := dw28 (n := 0) (i := 15) kc_cX10_draw_0 (by decide +kernel)
theorem dX10_draw_16 : decode cX10_draw 16 = .ok (.invokevirtual 94, 3) := dw182 (n := 0) (i := 16) (a := 0) (b := 94) kc_cX10_draw_0 (by decide +kernel) (by decide)
theorem dX10_draw_19 : decode cX10_draw 19 = .ok (.ifCond .ne 5, 3) := dw154 (n := 0) (i := 19) (a := 0) (b := 5) kc_cX10_draw_0 (by decide +kernel) (by decide)
theorem dX10_draw_24 : decode cX10_draw 24 = .ok (.aload_n 0, 1) := dw42 (n := 0) (i := 24) kc_cX10_draw_0 (by decide +kernel)
theorem dX10_draw_25 : decode cX10_draw 25 = .ok (.getfield 10, 3) := dw180 (n := 0) (i := 25) (a := 0) (b := 10) kc_cX10_draw_0 (by decide +kernel) (by decide)
theorem dX10_draw_28 : decode cX10_draw 28 = .ok (.iload_n 1, 1) := dw27 (n := 0) (i := 28) kc_cX10_draw_0 (by decide +kernel)
theorem dX10_draw_29 : decode cX10_draw 29 = .ok (.iload_n 2, 1) := dw28 (n := 0) (i := 29) kc_cX10_draw_0 (by decide +kernel)
theorem dX10_draw_30 : decode cX10_draw 30 = .ok (.invokevirtual 98, 3) := dw182 (n := 0) (i := 30) (a := 0) (b := 98) kc_cX10_draw_0 (by decide +kernel) (by decide)
set_option maxRecDepth 20000 in
theorem ggX10_draw_X2_change : GoodIn wsX10_draw wsX2_change := (gk_code 11 rfl (gk_fieldLink 12 rfl (gk_lays 26 rfl (gk_laysFinal 27 rfl (gn)))))
set_option maxRecDepth 20000 in
theorem gX10_draw_X2_change : GoodIn wsX10_draw (wsV RX10 98 RX2 yX2_change wsX2_change) := goodIn_app (gk_methodLink 8 rfl (gk_instanceMethod 9 rfl (gk_selects 10 rfl (gk_initialized 5 rfl (gn))))) ggX10_draw_X2_change
theorem dX10_draw_33 : decode cX10_draw 33 = .ok (.iconst 1, 1) := dw4 (n := 32) (i := 1) kc_cX10_draw_1 (by decide +kernel)
theorem dX10_draw_34 : decode cX10_draw 34 = .ok (.ireturn, 1) := dw172 (n := 32) (i := 2) kc_cX10_draw_1 (by decide +kernel)
theorem dX10_drawn_0 : decode cX10_drawn 0 = .ok (.aload_n 0, 1) := dw42 (n := 0) (i := 0) kc_cX10_drawn_0 (by decide +kernel)
theorem dX10_drawn_1 : decode cX10_drawn 1 = .ok (.getfield 10, 3) := dw180 (n := 0) (i := 1) (a := 0) (b := 10) kc_cX10_drawn_0 (by decide +kernel) (by decide)
theorem in_X10_drawn_10 : ∀ w ∈ u_ws RX10 TX10 13, w ∈ wsX10_drawn := fun _ h => List.mem_cons_of_mem _ (List.mem_append_left _ (List.mem_append_right _ h))
theorem dX10_drawn_4 : decode cX10_drawn 4 = .ok (.iload_n 1, 1) := dw27 (n := 0) (i := 4) kc_cX10_drawn_0 (by decide +kernel)
theorem dX10_drawn_5 : decode cX10_drawn 5 = .ok (.invokevirtual 94, 3) := dw182 (n := 0) (i := 5) (a := 0) (b := 94) kc_cX10_drawn_0 (by decide +kernel) (by decide)
set_option maxRecDepth 20000 in
theorem ggX10_drawn_X2_has : GoodIn wsX10_drawn wsX2_has := (gk_code 7 rfl (gk_fieldLink 8 rfl (gk_lays 22 rfl (gk_laysFinal 23 rfl (gn)))))
set_option maxRecDepth 20000 in
theorem gX10_drawn_X2_has : GoodIn wsX10_drawn (wsV RX10 94 RX2 yX2_has wsX2_has) := goodIn_app (gk_methodLink 3 rfl (gk_instanceMethod 4 rfl (gk_selects 5 rfl (gk_initialized 6 rfl (gn))))) ggX10_drawn_X2_has
theorem dX10_drawn_8 : decode cX10_drawn 8 = .ok (.ifCond .eq 15, 3) := dw153 (n := 0) (i := 8) (a := 0) (b := 15) kc_cX10_drawn_0 (by decide +kernel) (by decide)
theorem dX10_drawn_23 : decode cX10_drawn 23 = .ok (.iconst (-1), 1) := dw2 (n := 0) (i := 23) kc_cX10_drawn_0 (by decide +kernel)
theorem dX10_drawn_24 : decode cX10_drawn 24 = .ok (.ireturn, 1) := dw172 (n := 0) (i := 24) kc_cX10_drawn_0 (by decide +kernel)
theorem dX10_drawn_11 : decode cX10_drawn 11 = .ok (.aload_n 0, 1) := dw42 (n := 0) (i := 11) kc_cX10_drawn_0 (by decide +kernel)
theorem dX10_drawn_12 : decode cX10_drawn 12 = .ok (.getfield 10, 3) := dw180 (n := 0) (i := 12) (a := 0) (b := 10) kc_cX10_drawn_0 (by decide +kernel) (by decide)
theorem dX10_drawn_15 : decode cX10_drawn 15 = .ok (.getfield 102, 3) := dw180 (n := 0) (i := 15) (a := 0) (b := 102) kc_cX10_drawn_0 (by decide +kernel) (by decide)
theorem in_X10_drawn_2 : ∀ w ∈ u_ws RX2 TX2 2, w ∈ wsX10_drawn := fun _ h => List.mem_cons_of_mem _ (List.mem_append_right _ h)
theorem dX10_drawn_18 : decode cX10_drawn 18 = .ok (.iload_n 1, 1) := dw27 (n := 0) (i := 18) kc_cX10_drawn_0 (by decide +kernel)
theorem dX10_drawn_19 : decode cX10_drawn 19 = .ok (.iaload, 1) := dw46 (n := 0) (i := 19) kc_cX10_drawn_0 (by decide +kernel)
theorem dX10_drawn_20 : decode cX10_drawn 20 = .ok (.goto 4, 3) := dw167 (n := 0) (i := 20) (a := 0) (b := 4) kc_cX10_drawn_0 (by decide +kernel) (by decide)
theorem dX10_ballot_0 : decode cX10_ballot 0 = .ok (.iload_n 1, 1) := dw27 (n := 0) (i := 0) kc_cX10_ballot_0 (by decide +kernel)
theorem dX10_ballot_1 : decode cX10_ballot 1 = .ok (.invokestatic 105, 3) := dw184 (n := 0) (i := 1) (a := 0) (b := 105) kc_cX10_ballot_0 (by decide +kernel) (by decide)
set_option maxRecDepth 20000 in
theorem ggX10_ballot_X10_isSort : GoodIn wsX10_ballot wsX10_isSort := (gk_code 6 rfl (gk_fieldLink 7 rfl (gn)))
set_option maxRecDepth 20000 in
theorem gX10_ballot_X10_isSort : GoodIn wsX10_ballot (va_wsS RX10 105 yX10_isSort wsX10_isSort) := goodIn_app (gk_methodLink 3 rfl (gk_static 4 rfl (gk_initialized 5 rfl (gn)))) ggX10_ballot_X10_isSort
theorem dX10_ballot_4 : decode cX10_ballot 4 = .ok (.ifCond .eq 14, 3) := dw153 (n := 0) (i := 4) (a := 0) (b := 14) kc_cX10_ballot_0 (by decide +kernel) (by decide)
theorem dX10_ballot_18 : decode cX10_ballot 18 = .ok (.iconst (-1), 1) := dw2 (n := 0) (i := 18) kc_cX10_ballot_0 (by decide +kernel)
theorem dX10_ballot_19 : decode cX10_ballot 19 = .ok (.ireturn, 1) := dw172 (n := 0) (i := 19) kc_cX10_ballot_0 (by decide +kernel)
theorem dX10_ballot_7 : decode cX10_ballot 7 = .ok (.iload_n 2, 1) := dw28 (n := 0) (i := 7) kc_cX10_ballot_0 (by decide +kernel)
theorem dX10_ballot_8 : decode cX10_ballot 8 = .ok (.iconst 1, 1) := dw4 (n := 0) (i := 8) kc_cX10_ballot_0 (by decide +kernel)
theorem dX10_ballot_9 : decode cX10_ballot 9 = .ok (.if_icmp .lt 9, 3) := dw161 (n := 0) (i := 9) (a := 0) (b := 9) kc_cX10_ballot_0 (by decide +kernel) (by decide)
theorem dX10_ballot_12 : decode cX10_ballot 12 = .ok (.iload_n 2, 1) := dw28 (n := 0) (i := 12) kc_cX10_ballot_0 (by decide +kernel)
theorem dX10_ballot_13 : decode cX10_ballot 13 = .ok (.ldc 108, 2) := dw18 (n := 0) (i := 13) (a := 108) kc_cX10_ballot_0 (by decide +kernel) (by decide)
theorem dX10_ballot_15 : decode cX10_ballot 15 = .ok (.if_icmp .le 5, 3) := dw164 (n := 0) (i := 15) (a := 0) (b := 5) kc_cX10_ballot_0 (by decide +kernel) (by decide)
theorem dX10_ballot_20 : decode cX10_ballot 20 = .ok (.aload_n 0, 1) := dw42 (n := 0) (i := 20) kc_cX10_ballot_0 (by decide +kernel)
theorem dX10_ballot_21 : decode cX10_ballot 21 = .ok (.getfield 19, 3) := dw180 (n := 0) (i := 21) (a := 0) (b := 19) kc_cX10_ballot_0 (by decide +kernel) (by decide)
theorem in_X10_ballot_10 : ∀ w ∈ u_ws RX10 TX10 13, w ∈ wsX10_ballot := fun _ h => List.mem_cons_of_mem _ (List.mem_append_left _ (List.mem_append_right _ h))
theorem dX10_ballot_24 : decode cX10_ballot 24 = .ok (.iload_n 1, 1) := dw27 (n := 0) (i := 24) kc_cX10_ballot_0 (by decide +kernel)
theorem dX10_ballot_25 : decode cX10_ballot 25 = .ok (.iload_n 2, 1) := dw28 (n := 0) (i := 25) kc_cX10_ballot_0 (by decide +kernel)
theorem dX10_ballot_26 : decode cX10_ballot 26 = .ok (.invokevirtual 109, 3) := dw182 (n := 0) (i := 26) (a := 0) (b := 109) kc_cX10_ballot_0 (by decide +kernel) (by decide)
set_option maxRecDepth 20000 in
theorem ggX10_ballot_X0_come : GoodIn wsX10_ballot wsX0_come := (gk_code 12 rfl (gk_fieldLink 13 rfl (gk_fieldLink 14 rfl (gk_fieldLink 15 rfl (gk_lays 29 rfl (gk_laysFinal 30 rfl (gk_laysFinal 31 rfl (gk_laysFinal 32 rfl (gk_laysFinal 33 rfl (gn))))))))))
set_option maxRecDepth 20000 in
theorem gX10_ballot_X0_come : GoodIn wsX10_ballot (wsV RX10 109 RX0 yX0_come wsX0_come) := goodIn_app (gk_methodLink 8 rfl (gk_instanceMethod 9 rfl (gk_selects 10 rfl (gk_initialized 11 rfl (gn))))) ggX10_ballot_X0_come
theorem dX10_ballot_29 : decode cX10_ballot 29 = .ok (.ireturn, 1) := dw172 (n := 0) (i := 29) kc_cX10_ballot_0 (by decide +kernel)
theorem dX10_rank_0 : decode cX10_rank 0 = .ok (.aload_n 0, 1) := dw42 (n := 0) (i := 0) kc_cX10_rank_0 (by decide +kernel)
theorem dX10_rank_1 : decode cX10_rank 1 = .ok (.getfield 19, 3) := dw180 (n := 0) (i := 1) (a := 0) (b := 19) kc_cX10_rank_0 (by decide +kernel) (by decide)
theorem in_X10_rank_10 : ∀ w ∈ u_ws RX10 TX10 13, w ∈ wsX10_rank := fun _ h => List.mem_cons_of_mem _ (List.mem_append_left _ (List.mem_append_left _ (List.mem_append_right _ h)))
theorem dX10_rank_4 : decode cX10_rank 4 = .ok (.iload_n 1, 1) := dw27 (n := 0) (i := 4) kc_cX10_rank_0 (by decide +kernel)
theorem dX10_rank_5 : decode cX10_rank 5 = .ok (.invokevirtual 112, 3) := dw182 (n := 0) (i := 5) (a := 0) (b := 112) kc_cX10_rank_0 (by decide +kernel) (by decide)
set_option maxRecDepth 20000 in
theorem ggX10_rank_X0_has : GoodIn wsX10_rank wsX0_has := (gk_code 7 rfl (gk_fieldLink 8 rfl (gk_lays 57 rfl (gk_laysFinal 58 rfl (gk_laysFinal 59 rfl (gk_laysFinal 60 rfl (gk_laysFinal 61 rfl (gn))))))))
set_option maxRecDepth 20000 in
theorem gX10_rank_X0_has : GoodIn wsX10_rank (wsV RX10 112 RX0 yX0_has wsX0_has) := goodIn_app (gk_methodLink 3 rfl (gk_instanceMethod 4 rfl (gk_selects 5 rfl (gk_initialized 6 rfl (gn))))) ggX10_rank_X0_has
theorem dX10_rank_8 : decode cX10_rank 8 = .ok (.ifCond .eq 14, 3) := dw153 (n := 0) (i := 8) (a := 0) (b := 14) kc_cX10_rank_0 (by decide +kernel) (by decide)
theorem dX10_rank_22 : decode cX10_rank 22 = .ok (.iconst (-1), 1) := dw2 (n := 0) (i := 22) kc_cX10_rank_0 (by decide +kernel)
theorem dX10_rank_23 : decode cX10_rank 23 = .ok (.ireturn, 1) := dw172 (n := 0) (i := 23) kc_cX10_rank_0 (by decide +kernel)
theorem dX10_rank_11 : decode cX10_rank 11 = .ok (.aload_n 0, 1) := dw42 (n := 0) (i := 11) kc_cX10_rank_0 (by decide +kernel)
theorem dX10_rank_12 : decode cX10_rank 12 = .ok (.getfield 10, 3) := dw180 (n := 0) (i := 12) (a := 0) (b := 10) kc_cX10_rank_0 (by decide +kernel) (by decide)
theorem dX10_rank_15 : decode cX10_rank 15 = .ok (.iload_n 2, 1) := dw28 (n := 0) (i := 15) kc_cX10_rank_0 (by decide +kernel)
theorem dX10_rank_16 : decode cX10_rank 16 = .ok (.invokevirtual 94, 3) := dw182 (n := 0) (i := 16) (a := 0) (b := 94) kc_cX10_rank_0 (by decide +kernel) (by decide)
set_option maxRecDepth 20000 in
theorem ggX10_rank_X2_has : GoodIn wsX10_rank wsX2_has := (gk_code 13 rfl (gk_fieldLink 14 rfl (gk_lays 62 rfl (gk_laysFinal 63 rfl (gn)))))
set_option maxRecDepth 20000 in
theorem gX10_rank_X2_has : GoodIn wsX10_rank (wsV RX10 94 RX2 yX2_has wsX2_has) := goodIn_app (gk_methodLink 9 rfl (gk_instanceMethod 10 rfl (gk_selects 11 rfl (gk_initialized 12 rfl (gn))))) ggX10_rank_X2_has
theorem dX10_rank_19 : decode cX10_rank 19 = .ok (.ifCond .ne 5, 3) := dw154 (n := 0) (i := 19) (a := 0) (b := 5) kc_cX10_rank_0 (by decide +kernel) (by decide)
theorem dX10_rank_24 : decode cX10_rank 24 = .ok (.aload_n 0, 1) := dw42 (n := 0) (i := 24) kc_cX10_rank_0 (by decide +kernel)
theorem dX10_rank_25 : decode cX10_rank 25 = .ok (.getfield 19, 3) := dw180 (n := 0) (i := 25) (a := 0) (b := 19) kc_cX10_rank_0 (by decide +kernel) (by decide)
theorem dX10_rank_28 : decode cX10_rank 28 = .ok (.iload_n 1, 1) := dw27 (n := 0) (i := 28) kc_cX10_rank_0 (by decide +kernel)
theorem dX10_rank_29 : decode cX10_rank 29 = .ok (.iconst 1, 1) := dw4 (n := 0) (i := 29) kc_cX10_rank_0 (by decide +kernel)
theorem dX10_rank_30 : decode cX10_rank 30 = .ok (.invokevirtual 113, 3) := dw182 (n := 0) (i := 30) (a := 0) (b := 113) kc_cX10_rank_0 (by decide +kernel) (by decide)
set_option maxRecDepth 20000 in
theorem ggX10_rank_X0_isOf : GoodIn wsX10_rank wsX0_isOf := (gk_code 18 rfl (gk_fieldLink 19 rfl (gk_static 20 rfl (gk_initialized 21 rfl (gk_code 22 rfl (gk_lays 57 rfl (gk_laysFinal 58 rfl (gk_laysFinal 59 rfl (gk_laysFinal 60 rfl (gk_laysFinal 61 rfl (gn)))))))))))
set_option maxRecDepth 20000 in
theorem gX10_rank_X0_isOf : GoodIn wsX10_rank (wsV RX10 113 RX0 yX0_isOf wsX0_isOf) := goodIn_app (gk_methodLink 15 rfl (gk_instanceMethod 16 rfl (gk_selects 17 rfl (gk_initialized 6 rfl (gn))))) ggX10_rank_X0_isOf
theorem dX10_rank_33 : decode cX10_rank 33 = .ok (.ifCond .ne 9, 3) := dw154 (n := 32) (i := 1) (a := 0) (b := 9) kc_cX10_rank_1 (by decide +kernel) (by decide)
theorem dX10_rank_42 : decode cX10_rank 42 = .ok (.aload_n 0, 1) := dw42 (n := 32) (i := 10) kc_cX10_rank_1 (by decide +kernel)
theorem dX10_rank_43 : decode cX10_rank 43 = .ok (.getfield 19, 3) := dw180 (n := 32) (i := 11) (a := 0) (b := 19) kc_cX10_rank_1 (by decide +kernel) (by decide)
theorem dX10_rank_46 : decode cX10_rank 46 = .ok (.iload_n 1, 1) := dw27 (n := 32) (i := 14) kc_cX10_rank_1 (by decide +kernel)
theorem dX10_rank_47 : decode cX10_rank 47 = .ok (.iload_n 2, 1) := dw28 (n := 32) (i := 15) kc_cX10_rank_1 (by decide +kernel)
theorem dX10_rank_48 : decode cX10_rank 48 = .ok (.invokevirtual 121, 3) := dw182 (n := 32) (i := 16) (a := 0) (b := 121) kc_cX10_rank_1 (by decide +kernel) (by decide)
set_option maxRecDepth 20000 in
theorem ggX10_rank_X0_hasRoomFor : GoodIn wsX10_rank wsX0_hasRoomFor := (gk_code 32 rfl (gk_fieldLink 33 rfl (gk_methodLink 34 rfl (gk_instanceMethod 16 rfl (gk_selects 17 rfl (gk_initialized 6 rfl (gk_code 18 rfl (gk_fieldLink 19 rfl (gk_static 20 rfl (gk_initialized 21 rfl (gk_code 22 rfl (gk_methodLink 35 rfl (gk_instanceMethod 36 rfl (gk_selects 37 rfl (gk_code 38 rfl (gk_fieldLink 39 rfl (gk_lays 57 rfl (gk_laysFinal 58 rfl (gk_laysFinal 59 rfl (gk_laysFinal 60 rfl (gk_laysFinal 61 rfl (gn))))))))))))))))))))))
set_option maxRecDepth 20000 in
theorem gX10_rank_X0_hasRoomFor : GoodIn wsX10_rank (wsV RX10 121 RX0 yX0_hasRoomFor wsX0_hasRoomFor) := goodIn_app (gk_methodLink 29 rfl (gk_instanceMethod 30 rfl (gk_selects 31 rfl (gk_initialized 6 rfl (gn))))) ggX10_rank_X0_hasRoomFor
theorem dX10_rank_51 : decode cX10_rank 51 = .ok (.ifCond .ne 6, 3) := dw154 (n := 32) (i := 19) (a := 0) (b := 6) kc_cX10_rank_1 (by decide +kernel) (by decide)
theorem dX10_rank_57 : decode cX10_rank 57 = .ok (.aload_n 0, 1) := dw42 (n := 32) (i := 25) kc_cX10_rank_1 (by decide +kernel)
theorem dX10_rank_58 : decode cX10_rank 58 = .ok (.getfield 19, 3) := dw180 (n := 32) (i := 26) (a := 0) (b := 19) kc_cX10_rank_1 (by decide +kernel) (by decide)
theorem dX10_rank_61 : decode cX10_rank 61 = .ok (.iload_n 1, 1) := dw27 (n := 32) (i := 29) kc_cX10_rank_1 (by decide +kernel)
theorem dX10_rank_62 : decode cX10_rank 62 = .ok (.iload_n 2, 1) := dw28 (n := 32) (i := 30) kc_cX10_rank_1 (by decide +kernel)
theorem dX10_rank_63 : decode cX10_rank 63 = .ok (.invokevirtual 124, 3) := dw182 (n := 32) (i := 31) (a := 0) (b := 124) kc_cX10_rank_1 (by decide +kernel) (by decide)
set_option maxRecDepth 20000 in
theorem ggX10_rank_X0_append : GoodIn wsX10_rank wsX0_append := (gk_code 43 rfl (gk_fieldLink 39 rfl (gk_fieldLink 33 rfl (gk_lays 57 rfl (gk_laysFinal 58 rfl (gk_laysFinal 59 rfl (gk_laysFinal 60 rfl (gk_laysFinal 61 rfl (gn)))))))))
set_option maxRecDepth 20000 in
theorem gX10_rank_X0_append : GoodIn wsX10_rank (wsV RX10 124 RX0 yX0_append wsX0_append) := goodIn_app (gk_methodLink 40 rfl (gk_instanceMethod 41 rfl (gk_selects 42 rfl (gk_initialized 6 rfl (gn))))) ggX10_rank_X0_append
theorem dX10_rank_66 : decode cX10_rank 66 = .ok (.ireturn, 1) := dw172 (n := 64) (i := 2) kc_cX10_rank_2 (by decide +kernel)
theorem dX10_rank_54 : decode cX10_rank 54 = .ok (.bipush (-4), 2) := dw16 (n := 32) (i := 22) (a := 252) kc_cX10_rank_1 (by decide +kernel) (by decide)
theorem dX10_rank_56 : decode cX10_rank 56 = .ok (.ireturn, 1) := dw172 (n := 32) (i := 24) kc_cX10_rank_1 (by decide +kernel)
theorem dX10_rank_36 : decode cX10_rank 36 = .ok (.aload_n 0, 1) := dw42 (n := 32) (i := 4) kc_cX10_rank_1 (by decide +kernel)
theorem dX10_rank_37 : decode cX10_rank 37 = .ok (.iconst 3, 1) := dw6 (n := 32) (i := 5) kc_cX10_rank_1 (by decide +kernel)
theorem dX10_rank_38 : decode cX10_rank 38 = .ok (.invokevirtual 117, 3) := dw182 (n := 32) (i := 6) (a := 0) (b := 117) kc_cX10_rank_1 (by decide +kernel) (by decide)
set_option maxRecDepth 20000 in
theorem ggX10_rank_X10_found : GoodIn wsX10_rank wsX10_found := (gk_code 26 rfl (gk_fieldLink 27 rfl (gk_fieldLink 28 rfl (gk_laysFinal 44 rfl (gk_laysFinal 45 rfl (gk_laysFinal 46 rfl (gk_laysFinal 47 rfl (gk_laysFinal 48 rfl (gk_laysFinal 49 rfl (gk_laysFinal 50 rfl (gk_laysFinal 51 rfl (gk_lays 52 rfl (gk_lays 53 rfl (gk_lays 54 rfl (gk_lays 55 rfl (gk_laysFinal 56 rfl (gn)))))))))))))))))
set_option maxRecDepth 20000 in
theorem gX10_rank_X10_found : GoodIn wsX10_rank (wsV RX10 117 RX10 yX10_found wsX10_found) := goodIn_app (gk_methodLink 23 rfl (gk_instanceMethod 24 rfl (gk_selects 25 rfl (gk_initialized 21 rfl (gn))))) ggX10_rank_X10_found
theorem dX10_rank_41 : decode cX10_rank 41 = .ok (.ireturn, 1) := dw172 (n := 32) (i := 9) kc_cX10_rank_1 (by decide +kernel)
theorem dX10_score_0 : decode cX10_score 0 = .ok (.aload_n 0, 1) := dw42 (n := 0) (i := 0) kc_cX10_score_0 (by decide +kernel)
theorem dX10_score_1 : decode cX10_score 1 = .ok (.getfield 19, 3) := dw180 (n := 0) (i := 1) (a := 0) (b := 19) kc_cX10_score_0 (by decide +kernel) (by decide)
theorem in_X10_score_10 : ∀ w ∈ u_ws RX10 TX10 13, w ∈ wsX10_score := fun _ h => List.mem_cons_of_mem _ (List.mem_append_left _ (List.mem_append_left _ (List.mem_append_right _ h)))
theorem dX10_score_4 : decode cX10_score 4 = .ok (.iload_n 1, 1) := dw27 (n := 0) (i := 4) kc_cX10_score_0 (by decide +kernel)
theorem dX10_score_5 : decode cX10_score 5 = .ok (.invokevirtual 112, 3) := dw182 (n := 0) (i := 5) (a := 0) (b := 112) kc_cX10_score_0 (by decide +kernel) (by decide)
set_option maxRecDepth 20000 in
theorem ggX10_score_X0_has : GoodIn wsX10_score wsX0_has := (gk_code 8 rfl (gk_fieldLink 9 rfl (gk_lays 43 rfl (gk_laysFinal 44 rfl (gk_laysFinal 45 rfl (gk_laysFinal 46 rfl (gk_laysFinal 47 rfl (gn))))))))
set_option maxRecDepth 20000 in
theorem gX10_score_X0_has : GoodIn wsX10_score (wsV RX10 112 RX0 yX0_has wsX0_has) := goodIn_app (gk_methodLink 4 rfl (gk_instanceMethod 5 rfl (gk_selects 6 rfl (gk_initialized 7 rfl (gn))))) ggX10_score_X0_has
theorem dX10_score_8 : decode cX10_score 8 = .ok (.ifCond .eq 24, 3) := dw153 (n := 0) (i := 8) (a := 0) (b := 24) kc_cX10_score_0 (by decide +kernel) (by decide)
theorem dX10_score_32 : decode cX10_score 32 = .ok (.iconst (-1), 1) := dw2 (n := 32) (i := 0) kc_cX10_score_1 (by decide +kernel)
theorem dX10_score_33 : decode cX10_score 33 = .ok (.ireturn, 1) := dw172 (n := 32) (i := 1) kc_cX10_score_1 (by decide +kernel)
theorem dX10_score_11 : decode cX10_score 11 = .ok (.aload_n 0, 1) := dw42 (n := 0) (i := 11) kc_cX10_score_0 (by decide +kernel)
theorem dX10_score_12 : decode cX10_score 12 = .ok (.getfield 10, 3) := dw180 (n := 0) (i := 12) (a := 0) (b := 10) kc_cX10_score_0 (by decide +kernel) (by decide)
theorem dX10_score_15 : decode cX10_score 15 = .ok (.iload_n 2, 1) := dw28 (n := 0) (i := 15) kc_cX10_score_0 (by decide +kernel)
theorem dX10_score_16 : decode cX10_score 16 = .ok (.invokevirtual 94, 3) := dw182 (n := 0) (i := 16) (a := 0) (b := 94) kc_cX10_score_0 (by decide +kernel) (by decide)
set_option maxRecDepth 20000 in
theorem ggX10_score_X2_has : GoodIn wsX10_score wsX2_has := (gk_code 14 rfl (gk_fieldLink 15 rfl (gk_lays 48 rfl (gk_laysFinal 49 rfl (gn)))))
set_option maxRecDepth 20000 in
theorem gX10_score_X2_has : GoodIn wsX10_score (wsV RX10 94 RX2 yX2_has wsX2_has) := goodIn_app (gk_methodLink 10 rfl (gk_instanceMethod 11 rfl (gk_selects 12 rfl (gk_initialized 13 rfl (gn))))) ggX10_score_X2_has
theorem dX10_score_19 : decode cX10_score 19 = .ok (.ifCond .eq 13, 3) := dw153 (n := 0) (i := 19) (a := 0) (b := 13) kc_cX10_score_0 (by decide +kernel) (by decide)
theorem dX10_score_22 : decode cX10_score 22 = .ok (.iload_n 3, 1) := dw29 (n := 0) (i := 22) kc_cX10_score_0 (by decide +kernel)
theorem dX10_score_23 : decode cX10_score 23 = .ok (.ifCond .lt 9, 3) := dw155 (n := 0) (i := 23) (a := 0) (b := 9) kc_cX10_score_0 (by decide +kernel) (by decide)
theorem dX10_score_26 : decode cX10_score 26 = .ok (.iload_n 3, 1) := dw29 (n := 0) (i := 26) kc_cX10_score_0 (by decide +kernel)
theorem dX10_score_27 : decode cX10_score 27 = .ok (.bipush 9, 2) := dw16 (n := 0) (i := 27) (a := 9) kc_cX10_score_0 (by decide +kernel) (by decide)
theorem dX10_score_29 : decode cX10_score 29 = .ok (.if_icmp .le 5, 3) := dw164 (n := 0) (i := 29) (a := 0) (b := 5) kc_cX10_score_0 (by decide +kernel) (by decide)
theorem dX10_score_34 : decode cX10_score 34 = .ok (.aload_n 0, 1) := dw42 (n := 32) (i := 2) kc_cX10_score_1 (by decide +kernel)
theorem dX10_score_35 : decode cX10_score 35 = .ok (.getfield 19, 3) := dw180 (n := 32) (i := 3) (a := 0) (b := 19) kc_cX10_score_1 (by decide +kernel) (by decide)
theorem dX10_score_38 : decode cX10_score 38 = .ok (.iload_n 1, 1) := dw27 (n := 32) (i := 6) kc_cX10_score_1 (by decide +kernel)
theorem dX10_score_39 : decode cX10_score 39 = .ok (.iconst 3, 1) := dw6 (n := 32) (i := 7) kc_cX10_score_1 (by decide +kernel)
theorem dX10_score_40 : decode cX10_score 40 = .ok (.invokevirtual 113, 3) := dw182 (n := 32) (i := 8) (a := 0) (b := 113) kc_cX10_score_1 (by decide +kernel) (by decide)
set_option maxRecDepth 20000 in
theorem ggX10_score_X0_isOf : GoodIn wsX10_score wsX0_isOf := (gk_code 19 rfl (gk_fieldLink 20 rfl (gk_static 21 rfl (gk_initialized 22 rfl (gk_code 23 rfl (gk_lays 43 rfl (gk_laysFinal 44 rfl (gk_laysFinal 45 rfl (gk_laysFinal 46 rfl (gk_laysFinal 47 rfl (gn)))))))))))
set_option maxRecDepth 20000 in
theorem gX10_score_X0_isOf : GoodIn wsX10_score (wsV RX10 113 RX0 yX0_isOf wsX0_isOf) := goodIn_app (gk_methodLink 16 rfl (gk_instanceMethod 17 rfl (gk_selects 18 rfl (gk_initialized 7 rfl (gn))))) ggX10_score_X0_isOf
theorem dX10_score_43 : decode cX10_score 43 = .ok (.ifCond .ne 9, 3) := dw154 (n := 32) (i := 11) (a := 0) (b := 9) kc_cX10_score_1 (by decide +kernel) (by decide)
theorem dX10_score_52 : decode cX10_score 52 = .ok (.aload_n 0, 1) := dw42 (n := 32) (i := 20) kc_cX10_score_1 (by decide +kernel)
theorem dX10_score_53 : decode cX10_score 53 = .ok (.getfield 19, 3) := dw180 (n := 32) (i := 21) (a := 0) (b := 19) kc_cX10_score_1 (by decide +kernel) (by decide)
theorem dX10_score_56 : decode cX10_score 56 = .ok (.getfield 127, 3) := dw180 (n := 32) (i := 24) (a := 0) (b := 127) kc_cX10_score_1 (by decide +kernel) (by decide)
theorem in_X10_score_0 : ∀ w ∈ u_ws RX0 TX0 5, w ∈ wsX10_score := fun _ h => List.mem_cons_of_mem _ (List.mem_append_left _ (List.mem_append_right _ h))
theorem dX10_score_59 : decode cX10_score 59 = .ok (.iload_n 1, 1) := dw27 (n := 32) (i := 27) kc_cX10_score_1 (by decide +kernel)
theorem dX10_score_60 : decode cX10_score 60 = .ok (.aaload, 1) := dw50 (n := 32) (i := 28) kc_cX10_score_1 (by decide +kernel)
theorem dX10_score_61 : decode cX10_score 61 = .ok (.iload_n 2, 1) := dw28 (n := 32) (i := 29) kc_cX10_score_1 (by decide +kernel)
theorem dX10_score_62 : decode cX10_score 62 = .ok (.iaload, 1) := dw46 (n := 32) (i := 30) kc_cX10_score_1 (by decide +kernel)
theorem dX10_score_63 : decode cX10_score 63 = .ok (.istore 4, 2) := dw54 (n := 32) (i := 31) (a := 4) kc_cX10_score_1 (by decide +kernel) (by decide)
theorem dX10_score_65 : decode cX10_score 65 = .ok (.aload_n 0, 1) := dw42 (n := 64) (i := 1) kc_cX10_score_2 (by decide +kernel)
theorem dX10_score_66 : decode cX10_score 66 = .ok (.getfield 19, 3) := dw180 (n := 64) (i := 2) (a := 0) (b := 19) kc_cX10_score_2 (by decide +kernel) (by decide)
theorem dX10_score_69 : decode cX10_score 69 = .ok (.getfield 127, 3) := dw180 (n := 64) (i := 5) (a := 0) (b := 127) kc_cX10_score_2 (by decide +kernel) (by decide)
theorem dX10_score_72 : decode cX10_score 72 = .ok (.iload_n 1, 1) := dw27 (n := 64) (i := 8) kc_cX10_score_2 (by decide +kernel)
theorem dX10_score_73 : decode cX10_score 73 = .ok (.aaload, 1) := dw50 (n := 64) (i := 9) kc_cX10_score_2 (by decide +kernel)
theorem dX10_score_74 : decode cX10_score 74 = .ok (.iload_n 2, 1) := dw28 (n := 64) (i := 10) kc_cX10_score_2 (by decide +kernel)
theorem dX10_score_75 : decode cX10_score 75 = .ok (.iload_n 3, 1) := dw29 (n := 64) (i := 11) kc_cX10_score_2 (by decide +kernel)
theorem dX10_score_76 : decode cX10_score 76 = .ok (.iastore, 1) := dw79 (n := 64) (i := 12) kc_cX10_score_2 (by decide +kernel)
theorem dX10_score_77 : decode cX10_score 77 = .ok (.iload 4, 2) := dw21 (n := 64) (i := 13) (a := 4) kc_cX10_score_2 (by decide +kernel) (by decide)
theorem dX10_score_79 : decode cX10_score 79 = .ok (.ireturn, 1) := dw172 (n := 64) (i := 15) kc_cX10_score_2 (by decide +kernel)
theorem dX10_score_46 : decode cX10_score 46 = .ok (.aload_n 0, 1) := dw42 (n := 32) (i := 14) kc_cX10_score_1 (by decide +kernel)
theorem dX10_score_47 : decode cX10_score 47 = .ok (.iconst 3, 1) := dw6 (n := 32) (i := 15) kc_cX10_score_1 (by decide +kernel)
theorem dX10_score_48 : decode cX10_score 48 = .ok (.invokevirtual 117, 3) := dw182 (n := 32) (i := 16) (a := 0) (b := 117) kc_cX10_score_1 (by decide +kernel) (by decide)
set_option maxRecDepth 20000 in
theorem ggX10_score_X10_found : GoodIn wsX10_score wsX10_found := (gk_code 27 rfl (gk_fieldLink 28 rfl (gk_fieldLink 29 rfl (gk_laysFinal 30 rfl (gk_laysFinal 31 rfl (gk_laysFinal 32 rfl (gk_laysFinal 33 rfl (gk_laysFinal 34 rfl (gk_laysFinal 35 rfl (gk_laysFinal 36 rfl (gk_laysFinal 37 rfl (gk_lays 38 rfl (gk_lays 39 rfl (gk_lays 40 rfl (gk_lays 41 rfl (gk_laysFinal 42 rfl (gn)))))))))))))))))
set_option maxRecDepth 20000 in
theorem gX10_score_X10_found : GoodIn wsX10_score (wsV RX10 117 RX10 yX10_found wsX10_found) := goodIn_app (gk_methodLink 24 rfl (gk_instanceMethod 25 rfl (gk_selects 26 rfl (gk_initialized 22 rfl (gn))))) ggX10_score_X10_found
theorem dX10_score_51 : decode cX10_score 51 = .ok (.ireturn, 1) := dw172 (n := 32) (i := 19) kc_cX10_score_1 (by decide +kernel)
theorem dX10_is_0 : decode cX10_is 0 = .ok (.aload_n 0, 1) := dw42 (n := 0) (i := 0) kc_cX10_is_0 (by decide +kernel)
theorem dX10_is_1 : decode cX10_is 1 = .ok (.getfield 19, 3) := dw180 (n := 0) (i := 1) (a := 0) (b := 19) kc_cX10_is_0 (by decide +kernel) (by decide)
theorem in_X10_is_10 : ∀ w ∈ u_ws RX10 TX10 13, w ∈ wsX10_is := fun _ h => List.mem_cons_of_mem _ (List.mem_append_left _ (List.mem_append_right _ h))
theorem dX10_is_4 : decode cX10_is 4 = .ok (.iload_n 1, 1) := dw27 (n := 0) (i := 4) kc_cX10_is_0 (by decide +kernel)
theorem dX10_is_5 : decode cX10_is 5 = .ok (.invokevirtual 112, 3) := dw182 (n := 0) (i := 5) (a := 0) (b := 112) kc_cX10_is_0 (by decide +kernel) (by decide)
set_option maxRecDepth 20000 in
theorem ggX10_is_X0_has : GoodIn wsX10_is wsX0_has := (gk_code 6 rfl (gk_fieldLink 7 rfl (gk_lays 33 rfl (gk_laysFinal 34 rfl (gk_laysFinal 35 rfl (gk_laysFinal 36 rfl (gk_laysFinal 37 rfl (gn))))))))
set_option maxRecDepth 20000 in
theorem gX10_is_X0_has : GoodIn wsX10_is (wsV RX10 112 RX0 yX0_has wsX0_has) := goodIn_app (gk_methodLink 2 rfl (gk_instanceMethod 3 rfl (gk_selects 4 rfl (gk_initialized 5 rfl (gn))))) ggX10_is_X0_has
theorem dX10_is_8 : decode cX10_is 8 = .ok (.ifCond .eq 10, 3) := dw153 (n := 0) (i := 8) (a := 0) (b := 10) kc_cX10_is_0 (by decide +kernel) (by decide)
theorem dX10_is_18 : decode cX10_is 18 = .ok (.iconst (-1), 1) := dw2 (n := 0) (i := 18) kc_cX10_is_0 (by decide +kernel)
theorem dX10_is_19 : decode cX10_is 19 = .ok (.ireturn, 1) := dw172 (n := 0) (i := 19) kc_cX10_is_0 (by decide +kernel)
theorem dX10_is_11 : decode cX10_is 11 = .ok (.iload_n 2, 1) := dw28 (n := 0) (i := 11) kc_cX10_is_0 (by decide +kernel)
theorem dX10_is_12 : decode cX10_is 12 = .ok (.invokestatic 105, 3) := dw184 (n := 0) (i := 12) (a := 0) (b := 105) kc_cX10_is_0 (by decide +kernel) (by decide)
set_option maxRecDepth 20000 in
theorem ggX10_is_X10_isSort : GoodIn wsX10_is wsX10_isSort := (gk_code 11 rfl (gk_fieldLink 12 rfl (gn)))
set_option maxRecDepth 20000 in
theorem gX10_is_X10_isSort : GoodIn wsX10_is (va_wsS RX10 105 yX10_isSort wsX10_isSort) := goodIn_app (gk_methodLink 8 rfl (gk_static 9 rfl (gk_initialized 10 rfl (gn)))) ggX10_is_X10_isSort
theorem dX10_is_15 : decode cX10_is 15 = .ok (.ifCond .ne 5, 3) := dw154 (n := 0) (i := 15) (a := 0) (b := 5) kc_cX10_is_0 (by decide +kernel) (by decide)
theorem dX10_is_20 : decode cX10_is 20 = .ok (.aload_n 0, 1) := dw42 (n := 0) (i := 20) kc_cX10_is_0 (by decide +kernel)
theorem dX10_is_21 : decode cX10_is 21 = .ok (.getfield 19, 3) := dw180 (n := 0) (i := 21) (a := 0) (b := 19) kc_cX10_is_0 (by decide +kernel) (by decide)
theorem dX10_is_24 : decode cX10_is 24 = .ok (.iload_n 1, 1) := dw27 (n := 0) (i := 24) kc_cX10_is_0 (by decide +kernel)
theorem dX10_is_25 : decode cX10_is 25 = .ok (.iload_n 2, 1) := dw28 (n := 0) (i := 25) kc_cX10_is_0 (by decide +kernel)
theorem dX10_is_26 : decode cX10_is 26 = .ok (.invokevirtual 113, 3) := dw182 (n := 0) (i := 26) (a := 0) (b := 113) kc_cX10_is_0 (by decide +kernel) (by decide)
set_option maxRecDepth 20000 in
theorem ggX10_is_X0_isOf : GoodIn wsX10_is wsX0_isOf := (gk_code 16 rfl (gk_fieldLink 17 rfl (gk_static 18 rfl (gk_initialized 10 rfl (gk_code 19 rfl (gk_lays 33 rfl (gk_laysFinal 34 rfl (gk_laysFinal 35 rfl (gk_laysFinal 36 rfl (gk_laysFinal 37 rfl (gn)))))))))))
set_option maxRecDepth 20000 in
theorem gX10_is_X0_isOf : GoodIn wsX10_is (wsV RX10 113 RX0 yX0_isOf wsX0_isOf) := goodIn_app (gk_methodLink 13 rfl (gk_instanceMethod 14 rfl (gk_selects 15 rfl (gk_initialized 5 rfl (gn))))) ggX10_is_X0_isOf
theorem dX10_is_29 : decode cX10_is 29 = .ok (.ifCond .eq 7, 3) := dw153 (n := 0) (i := 29) (a := 0) (b := 7) kc_cX10_is_0 (by decide +kernel) (by decide)
theorem dX10_is_36 : decode cX10_is 36 = .ok (.iconst 0, 1) := dw3 (n := 32) (i := 4) kc_cX10_is_1 (by decide +kernel)
theorem dX10_is_37 : decode cX10_is 37 = .ok (.ireturn, 1) := dw172 (n := 32) (i := 5) kc_cX10_is_1 (by decide +kernel)
theorem dX10_is_32 : decode cX10_is 32 = .ok (.iconst 1, 1) := dw4 (n := 32) (i := 0) kc_cX10_is_1 (by decide +kernel)
theorem dX10_is_33 : decode cX10_is 33 = .ok (.goto 4, 3) := dw167 (n := 32) (i := 1) (a := 0) (b := 4) kc_cX10_is_1 (by decide +kernel) (by decide)
theorem dX10_box_0 : decode cX10_box 0 = .ok (.iload_n 1, 1) := dw27 (n := 0) (i := 0) kc_cX10_box_0 (by decide +kernel)
theorem dX10_box_1 : decode cX10_box 1 = .ok (.invokestatic 105, 3) := dw184 (n := 0) (i := 1) (a := 0) (b := 105) kc_cX10_box_0 (by decide +kernel) (by decide)
set_option maxRecDepth 20000 in
theorem ggX10_box_X10_isSort : GoodIn wsX10_box wsX10_isSort := (gk_code 6 rfl (gk_fieldLink 7 rfl (gn)))
set_option maxRecDepth 20000 in
theorem gX10_box_X10_isSort : GoodIn wsX10_box (va_wsS RX10 105 yX10_isSort wsX10_isSort) := goodIn_app (gk_methodLink 3 rfl (gk_static 4 rfl (gk_initialized 5 rfl (gn)))) ggX10_box_X10_isSort
theorem dX10_box_4 : decode cX10_box 4 = .ok (.ifCond .eq 9, 3) := dw153 (n := 0) (i := 4) (a := 0) (b := 9) kc_cX10_box_0 (by decide +kernel) (by decide)
theorem dX10_box_13 : decode cX10_box 13 = .ok (.iconst (-1), 1) := dw2 (n := 0) (i := 13) kc_cX10_box_0 (by decide +kernel)
theorem dX10_box_14 : decode cX10_box 14 = .ok (.ireturn, 1) := dw172 (n := 0) (i := 14) kc_cX10_box_0 (by decide +kernel)
theorem dX10_box_7 : decode cX10_box 7 = .ok (.iload_n 2, 1) := dw28 (n := 0) (i := 7) kc_cX10_box_0 (by decide +kernel)
theorem dX10_box_8 : decode cX10_box 8 = .ok (.bipush 40, 2) := dw16 (n := 0) (i := 8) (a := 40) kc_cX10_box_0 (by decide +kernel) (by decide)
theorem dX10_box_10 : decode cX10_box 10 = .ok (.if_icmp .le 5, 3) := dw164 (n := 0) (i := 10) (a := 0) (b := 5) kc_cX10_box_0 (by decide +kernel) (by decide)
theorem dX10_box_15 : decode cX10_box 15 = .ok (.aload_n 0, 1) := dw42 (n := 0) (i := 15) kc_cX10_box_0 (by decide +kernel)
theorem dX10_box_16 : decode cX10_box 16 = .ok (.getfield 26, 3) := dw180 (n := 0) (i := 16) (a := 0) (b := 26) kc_cX10_box_0 (by decide +kernel) (by decide)
theorem in_X10_box_10 : ∀ w ∈ u_ws RX10 TX10 13, w ∈ wsX10_box := fun _ h => List.mem_cons_of_mem _ (List.mem_append_left _ (List.mem_append_right _ h))
theorem dX10_box_19 : decode cX10_box 19 = .ok (.getfield 142, 3) := dw180 (n := 0) (i := 19) (a := 0) (b := 142) kc_cX10_box_0 (by decide +kernel) (by decide)
theorem in_X10_box_1 : ∀ w ∈ u_ws RX1 TX1 5, w ∈ wsX10_box := fun _ h => List.mem_cons_of_mem _ (List.mem_append_right _ h)
theorem dX10_box_22 : decode cX10_box 22 = .ok (.bipush 8, 2) := dw16 (n := 0) (i := 22) (a := 8) kc_cX10_box_0 (by decide +kernel) (by decide)
theorem dX10_box_24 : decode cX10_box 24 = .ok (.if_icmp .ne 6, 3) := dw160 (n := 0) (i := 24) (a := 0) (b := 6) kc_cX10_box_0 (by decide +kernel) (by decide)
theorem dX10_box_30 : decode cX10_box 30 = .ok (.iload_n 2, 1) := dw28 (n := 0) (i := 30) kc_cX10_box_0 (by decide +kernel)
theorem dX10_box_31 : decode cX10_box 31 = .ok (.ifCond .ge 9, 3) := dw156 (n := 0) (i := 31) (a := 0) (b := 9) kc_cX10_box_0 (by decide +kernel) (by decide)
theorem dX10_box_40 : decode cX10_box 40 = .ok (.aload_n 0, 1) := dw42 (n := 32) (i := 8) kc_cX10_box_1 (by decide +kernel)
theorem dX10_box_41 : decode cX10_box 41 = .ok (.getfield 26, 3) := dw180 (n := 32) (i := 9) (a := 0) (b := 26) kc_cX10_box_1 (by decide +kernel) (by decide)
theorem dX10_box_44 : decode cX10_box 44 = .ok (.iload_n 1, 1) := dw27 (n := 32) (i := 12) kc_cX10_box_1 (by decide +kernel)
theorem dX10_box_45 : decode cX10_box 45 = .ok (.iload_n 2, 1) := dw28 (n := 32) (i := 13) kc_cX10_box_1 (by decide +kernel)
theorem dX10_box_46 : decode cX10_box 46 = .ok (.invokevirtual 145, 3) := dw182 (n := 32) (i := 14) (a := 0) (b := 145) kc_cX10_box_1 (by decide +kernel) (by decide)
set_option maxRecDepth 20000 in
theorem ggX10_box_X1_come : GoodIn wsX10_box wsX1_come := (gk_code 18 rfl (gk_fieldLink 19 rfl (gk_fieldLink 20 rfl (gk_fieldLink 21 rfl (gk_fieldLink 22 rfl (gk_lays 36 rfl (gk_laysFinal 37 rfl (gk_laysFinal 38 rfl (gk_laysFinal 39 rfl (gk_laysFinal 40 rfl (gn)))))))))))
set_option maxRecDepth 20000 in
theorem gX10_box_X1_come : GoodIn wsX10_box (wsV RX10 145 RX1 yX1_come wsX1_come) := goodIn_app (gk_methodLink 14 rfl (gk_instanceMethod 15 rfl (gk_selects 16 rfl (gk_initialized 17 rfl (gn))))) ggX10_box_X1_come
theorem dX10_box_49 : decode cX10_box 49 = .ok (.ireturn, 1) := dw172 (n := 32) (i := 17) kc_cX10_box_1 (by decide +kernel)
theorem dX10_box_34 : decode cX10_box 34 = .ok (.aload_n 0, 1) := dw42 (n := 32) (i := 2) kc_cX10_box_1 (by decide +kernel)
theorem dX10_box_35 : decode cX10_box 35 = .ok (.iconst 5, 1) := dw8 (n := 32) (i := 3) kc_cX10_box_1 (by decide +kernel)
theorem dX10_box_36 : decode cX10_box 36 = .ok (.invokevirtual 117, 3) := dw182 (n := 32) (i := 4) (a := 0) (b := 117) kc_cX10_box_1 (by decide +kernel) (by decide)
set_option maxRecDepth 20000 in
theorem ggX10_box_X10_found : GoodIn wsX10_box wsX10_found := (gk_code 11 rfl (gk_fieldLink 12 rfl (gk_fieldLink 13 rfl (gk_laysFinal 23 rfl (gk_laysFinal 24 rfl (gk_laysFinal 25 rfl (gk_laysFinal 26 rfl (gk_laysFinal 27 rfl (gk_laysFinal 28 rfl (gk_laysFinal 29 rfl (gk_laysFinal 30 rfl (gk_lays 31 rfl (gk_lays 32 rfl (gk_lays 33 rfl (gk_lays 34 rfl (gk_laysFinal 35 rfl (gn)))))))))))))))))
set_option maxRecDepth 20000 in
theorem gX10_box_X10_found : GoodIn wsX10_box (wsV RX10 117 RX10 yX10_found wsX10_found) := goodIn_app (gk_methodLink 8 rfl (gk_instanceMethod 9 rfl (gk_selects 10 rfl (gk_initialized 5 rfl (gn))))) ggX10_box_X10_found
theorem dX10_box_39 : decode cX10_box 39 = .ok (.ireturn, 1) := dw172 (n := 32) (i := 7) kc_cX10_box_1 (by decide +kernel)
theorem dX10_box_27 : decode cX10_box 27 = .ok (.bipush (-2), 2) := dw16 (n := 0) (i := 27) (a := 254) kc_cX10_box_0 (by decide +kernel) (by decide)
theorem dX10_box_29 : decode cX10_box 29 = .ok (.ireturn, 1) := dw172 (n := 0) (i := 29) kc_cX10_box_0 (by decide +kernel)
theorem dX10_put_0 : decode cX10_put 0 = .ok (.aload_n 0, 1) := dw42 (n := 0) (i := 0) kc_cX10_put_0 (by decide +kernel)
theorem dX10_put_1 : decode cX10_put 1 = .ok (.getfield 26, 3) := dw180 (n := 0) (i := 1) (a := 0) (b := 26) kc_cX10_put_0 (by decide +kernel) (by decide)
theorem in_X10_put_10 : ∀ w ∈ u_ws RX10 TX10 13, w ∈ wsX10_put := fun _ h => List.mem_cons_of_mem _ (List.mem_append_left _ (List.mem_append_left _ (List.mem_append_right _ h)))
theorem dX10_put_4 : decode cX10_put 4 = .ok (.iload_n 1, 1) := dw27 (n := 0) (i := 4) kc_cX10_put_0 (by decide +kernel)
theorem dX10_put_5 : decode cX10_put 5 = .ok (.invokevirtual 146, 3) := dw182 (n := 0) (i := 5) (a := 0) (b := 146) kc_cX10_put_0 (by decide +kernel) (by decide)
set_option maxRecDepth 20000 in
theorem ggX10_put_X1_has : GoodIn wsX10_put wsX1_has := (gk_code 9 rfl (gk_fieldLink 10 rfl (gk_lays 49 rfl (gk_laysFinal 50 rfl (gk_laysFinal 51 rfl (gk_laysFinal 52 rfl (gk_laysFinal 53 rfl (gn))))))))
set_option maxRecDepth 20000 in
theorem gX10_put_X1_has : GoodIn wsX10_put (wsV RX10 146 RX1 yX1_has wsX1_has) := goodIn_app (gk_methodLink 5 rfl (gk_instanceMethod 6 rfl (gk_selects 7 rfl (gk_initialized 8 rfl (gn))))) ggX10_put_X1_has
theorem dX10_put_8 : decode cX10_put 8 = .ok (.ifCond .eq 20, 3) := dw153 (n := 0) (i := 8) (a := 0) (b := 20) kc_cX10_put_0 (by decide +kernel) (by decide)
theorem dX10_put_28 : decode cX10_put 28 = .ok (.iconst (-1), 1) := dw2 (n := 0) (i := 28) kc_cX10_put_0 (by decide +kernel)
theorem dX10_put_29 : decode cX10_put 29 = .ok (.ireturn, 1) := dw172 (n := 0) (i := 29) kc_cX10_put_0 (by decide +kernel)
theorem dX10_put_11 : decode cX10_put 11 = .ok (.iload_n 3, 1) := dw29 (n := 0) (i := 11) kc_cX10_put_0 (by decide +kernel)
theorem dX10_put_12 : decode cX10_put 12 = .ok (.bipush (-9), 2) := dw16 (n := 0) (i := 12) (a := 247) kc_cX10_put_0 (by decide +kernel) (by decide)
theorem dX10_put_14 : decode cX10_put 14 = .ok (.if_icmp .eq 16, 3) := dw159 (n := 0) (i := 14) (a := 0) (b := 16) kc_cX10_put_0 (by decide +kernel) (by decide)
theorem dX10_put_30 : decode cX10_put 30 = .ok (.aload_n 0, 1) := dw42 (n := 0) (i := 30) kc_cX10_put_0 (by decide +kernel)
theorem dX10_put_31 : decode cX10_put 31 = .ok (.getfield 26, 3) := dw180 (n := 0) (i := 31) (a := 0) (b := 26) kc_cX10_put_0 (by decide +kernel) (by decide)
theorem dX10_put_34 : decode cX10_put 34 = .ok (.iload_n 1, 1) := dw27 (n := 32) (i := 2) kc_cX10_put_1 (by decide +kernel)
theorem dX10_put_35 : decode cX10_put 35 = .ok (.iload_n 2, 1) := dw28 (n := 32) (i := 3) kc_cX10_put_1 (by decide +kernel)
theorem dX10_put_36 : decode cX10_put 36 = .ok (.invokevirtual 147, 3) := dw182 (n := 32) (i := 4) (a := 0) (b := 147) kc_cX10_put_1 (by decide +kernel) (by decide)
set_option maxRecDepth 20000 in
theorem ggX10_put_X1_hasPlace : GoodIn wsX10_put wsX1_hasPlace := (gk_code 20 rfl (gk_fieldLink 21 rfl (gk_lays 49 rfl (gk_laysFinal 50 rfl (gk_laysFinal 51 rfl (gk_laysFinal 52 rfl (gk_laysFinal 53 rfl (gn))))))))
set_option maxRecDepth 20000 in
theorem gX10_put_X1_hasPlace : GoodIn wsX10_put (wsV RX10 147 RX1 yX1_hasPlace wsX1_hasPlace) := goodIn_app (gk_methodLink 17 rfl (gk_instanceMethod 18 rfl (gk_selects 19 rfl (gk_initialized 8 rfl (gn))))) ggX10_put_X1_hasPlace
theorem dX10_put_39 : decode cX10_put 39 = .ok (.ifCond .ne 9, 3) := dw154 (n := 32) (i := 7) (a := 0) (b := 9) kc_cX10_put_1 (by decide +kernel) (by decide)
theorem dX10_put_48 : decode cX10_put 48 = .ok (.iload_n 3, 1) := dw29 (n := 32) (i := 16) kc_cX10_put_1 (by decide +kernel)
theorem dX10_put_49 : decode cX10_put 49 = .ok (.bipush (-9), 2) := dw16 (n := 32) (i := 17) (a := 247) kc_cX10_put_1 (by decide +kernel) (by decide)
theorem dX10_put_51 : decode cX10_put 51 = .ok (.if_icmp .eq 30, 3) := dw159 (n := 32) (i := 19) (a := 0) (b := 30) kc_cX10_put_1 (by decide +kernel) (by decide)
theorem dX10_put_81 : decode cX10_put 81 = .ok (.aload_n 0, 1) := dw42 (n := 64) (i := 17) kc_cX10_put_2 (by decide +kernel)
theorem dX10_put_82 : decode cX10_put 82 = .ok (.getfield 26, 3) := dw180 (n := 64) (i := 18) (a := 0) (b := 26) kc_cX10_put_2 (by decide +kernel) (by decide)
theorem dX10_put_85 : decode cX10_put 85 = .ok (.getfield 151, 3) := dw180 (n := 64) (i := 21) (a := 0) (b := 151) kc_cX10_put_2 (by decide +kernel) (by decide)
theorem in_X10_put_1 : ∀ w ∈ u_ws RX1 TX1 5, w ∈ wsX10_put := fun _ h => List.mem_cons_of_mem _ (List.mem_append_left _ (List.mem_append_right _ h))
theorem dX10_put_88 : decode cX10_put 88 = .ok (.iload_n 1, 1) := dw27 (n := 64) (i := 24) kc_cX10_put_2 (by decide +kernel)
theorem dX10_put_89 : decode cX10_put 89 = .ok (.aaload, 1) := dw50 (n := 64) (i := 25) kc_cX10_put_2 (by decide +kernel)
theorem dX10_put_90 : decode cX10_put 90 = .ok (.iload_n 2, 1) := dw28 (n := 64) (i := 26) kc_cX10_put_2 (by decide +kernel)
theorem dX10_put_91 : decode cX10_put 91 = .ok (.iload_n 3, 1) := dw29 (n := 64) (i := 27) kc_cX10_put_2 (by decide +kernel)
theorem dX10_put_92 : decode cX10_put 92 = .ok (.iastore, 1) := dw79 (n := 64) (i := 28) kc_cX10_put_2 (by decide +kernel)
theorem dX10_put_93 : decode cX10_put 93 = .ok (.iconst 1, 1) := dw4 (n := 64) (i := 29) kc_cX10_put_2 (by decide +kernel)
theorem dX10_put_94 : decode cX10_put 94 = .ok (.ireturn, 1) := dw172 (n := 64) (i := 30) kc_cX10_put_2 (by decide +kernel)
theorem dX10_put_54 : decode cX10_put 54 = .ok (.aload_n 0, 1) := dw42 (n := 32) (i := 22) kc_cX10_put_1 (by decide +kernel)
theorem dX10_put_55 : decode cX10_put 55 = .ok (.getfield 19, 3) := dw180 (n := 32) (i := 23) (a := 0) (b := 19) kc_cX10_put_1 (by decide +kernel) (by decide)
theorem dX10_put_58 : decode cX10_put 58 = .ok (.iload_n 3, 1) := dw29 (n := 32) (i := 26) kc_cX10_put_1 (by decide +kernel)
theorem dX10_put_59 : decode cX10_put 59 = .ok (.aload_n 0, 1) := dw42 (n := 32) (i := 27) kc_cX10_put_1 (by decide +kernel)
theorem dX10_put_60 : decode cX10_put 60 = .ok (.getfield 26, 3) := dw180 (n := 32) (i := 28) (a := 0) (b := 26) kc_cX10_put_1 (by decide +kernel) (by decide)
theorem dX10_put_63 : decode cX10_put 63 = .ok (.getfield 150, 3) := dw180 (n := 32) (i := 31) (a := 0) (b := 150) kc_cX10_put_1 (by decide +kernel) (by decide)
theorem dX10_put_66 : decode cX10_put 66 = .ok (.iload_n 1, 1) := dw27 (n := 64) (i := 2) kc_cX10_put_2 (by decide +kernel)
theorem dX10_put_67 : decode cX10_put 67 = .ok (.iaload, 1) := dw46 (n := 64) (i := 3) kc_cX10_put_2 (by decide +kernel)
theorem dX10_put_68 : decode cX10_put 68 = .ok (.invokevirtual 113, 3) := dw182 (n := 64) (i := 4) (a := 0) (b := 113) kc_cX10_put_2 (by decide +kernel) (by decide)
set_option maxRecDepth 20000 in
theorem ggX10_put_X0_isOf : GoodIn wsX10_put wsX0_isOf := (gk_code 32 rfl (gk_fieldLink 33 rfl (gk_static 34 rfl (gk_initialized 25 rfl (gk_code 35 rfl (gk_lays 54 rfl (gk_laysFinal 55 rfl (gk_laysFinal 56 rfl (gk_laysFinal 57 rfl (gk_laysFinal 58 rfl (gn)))))))))))
set_option maxRecDepth 20000 in
theorem gX10_put_X0_isOf : GoodIn wsX10_put (wsV RX10 113 RX0 yX0_isOf wsX0_isOf) := goodIn_app (gk_methodLink 29 rfl (gk_instanceMethod 30 rfl (gk_selects 31 rfl (gk_initialized 14 rfl (gn))))) ggX10_put_X0_isOf
theorem dX10_put_71 : decode cX10_put 71 = .ok (.ifCond .ne 10, 3) := dw154 (n := 64) (i := 7) (a := 0) (b := 10) kc_cX10_put_2 (by decide +kernel) (by decide)
theorem dX10_put_74 : decode cX10_put 74 = .ok (.aload_n 0, 1) := dw42 (n := 64) (i := 10) kc_cX10_put_2 (by decide +kernel)
theorem dX10_put_75 : decode cX10_put 75 = .ok (.bipush 6, 2) := dw16 (n := 64) (i := 11) (a := 6) kc_cX10_put_2 (by decide +kernel) (by decide)
theorem dX10_put_77 : decode cX10_put 77 = .ok (.invokevirtual 117, 3) := dw182 (n := 64) (i := 13) (a := 0) (b := 117) kc_cX10_put_2 (by decide +kernel) (by decide)
set_option maxRecDepth 20000 in
theorem ggX10_put_X10_found : GoodIn wsX10_put wsX10_found := (gk_code 26 rfl (gk_fieldLink 27 rfl (gk_fieldLink 28 rfl (gk_laysFinal 36 rfl (gk_laysFinal 37 rfl (gk_laysFinal 38 rfl (gk_laysFinal 39 rfl (gk_laysFinal 40 rfl (gk_laysFinal 41 rfl (gk_laysFinal 42 rfl (gk_laysFinal 43 rfl (gk_lays 44 rfl (gk_lays 45 rfl (gk_lays 46 rfl (gk_lays 47 rfl (gk_laysFinal 48 rfl (gn)))))))))))))))))
set_option maxRecDepth 20000 in
theorem gX10_put_X10_found : GoodIn wsX10_put (wsV RX10 117 RX10 yX10_found wsX10_found) := goodIn_app (gk_methodLink 22 rfl (gk_instanceMethod 23 rfl (gk_selects 24 rfl (gk_initialized 25 rfl (gn))))) ggX10_put_X10_found
theorem dX10_put_80 : decode cX10_put 80 = .ok (.ireturn, 1) := dw172 (n := 64) (i := 16) kc_cX10_put_2 (by decide +kernel)
theorem dX10_put_42 : decode cX10_put 42 = .ok (.aload_n 0, 1) := dw42 (n := 32) (i := 10) kc_cX10_put_1 (by decide +kernel)
theorem dX10_put_43 : decode cX10_put 43 = .ok (.iconst 2, 1) := dw5 (n := 32) (i := 11) kc_cX10_put_1 (by decide +kernel)
theorem dX10_put_44 : decode cX10_put 44 = .ok (.invokevirtual 117, 3) := dw182 (n := 32) (i := 12) (a := 0) (b := 117) kc_cX10_put_1 (by decide +kernel) (by decide)
theorem dX10_put_47 : decode cX10_put 47 = .ok (.ireturn, 1) := dw172 (n := 32) (i := 15) kc_cX10_put_1 (by decide +kernel)
theorem dX10_put_17 : decode cX10_put 17 = .ok (.aload_n 0, 1) := dw42 (n := 0) (i := 17) kc_cX10_put_0 (by decide +kernel)
theorem dX10_put_18 : decode cX10_put 18 = .ok (.getfield 19, 3) := dw180 (n := 0) (i := 18) (a := 0) (b := 19) kc_cX10_put_0 (by decide +kernel) (by decide)
theorem dX10_put_21 : decode cX10_put 21 = .ok (.iload_n 3, 1) := dw29 (n := 0) (i := 21) kc_cX10_put_0 (by decide +kernel)
theorem dX10_put_22 : decode cX10_put 22 = .ok (.invokevirtual 112, 3) := dw182 (n := 0) (i := 22) (a := 0) (b := 112) kc_cX10_put_0 (by decide +kernel) (by decide)
set_option maxRecDepth 20000 in
theorem ggX10_put_X0_has : GoodIn wsX10_put wsX0_has := (gk_code 15 rfl (gk_fieldLink 16 rfl (gk_lays 54 rfl (gk_laysFinal 55 rfl (gk_laysFinal 56 rfl (gk_laysFinal 57 rfl (gk_laysFinal 58 rfl (gn))))))))
set_option maxRecDepth 20000 in
theorem gX10_put_X0_has : GoodIn wsX10_put (wsV RX10 112 RX0 yX0_has wsX0_has) := goodIn_app (gk_methodLink 11 rfl (gk_instanceMethod 12 rfl (gk_selects 13 rfl (gk_initialized 14 rfl (gn))))) ggX10_put_X0_has
theorem dX10_put_25 : decode cX10_put 25 = .ok (.ifCond .ne 5, 3) := dw154 (n := 0) (i := 25) (a := 0) (b := 5) kc_cX10_put_0 (by decide +kernel) (by decide)
theorem dX10_pour_0 : decode cX10_pour 0 = .ok (.aload_n 0, 1) := dw42 (n := 0) (i := 0) kc_cX10_pour_0 (by decide +kernel)
theorem dX10_pour_1 : decode cX10_pour 1 = .ok (.getfield 26, 3) := dw180 (n := 0) (i := 1) (a := 0) (b := 26) kc_cX10_pour_0 (by decide +kernel) (by decide)
theorem in_X10_pour_10 : ∀ w ∈ u_ws RX10 TX10 13, w ∈ wsX10_pour := fun _ h => List.mem_cons_of_mem _ (List.mem_append_left _ (List.mem_append_right _ h))
theorem dX10_pour_4 : decode cX10_pour 4 = .ok (.iload_n 1, 1) := dw27 (n := 0) (i := 4) kc_cX10_pour_0 (by decide +kernel)
theorem dX10_pour_5 : decode cX10_pour 5 = .ok (.invokevirtual 146, 3) := dw182 (n := 0) (i := 5) (a := 0) (b := 146) kc_cX10_pour_0 (by decide +kernel) (by decide)
set_option maxRecDepth 20000 in
theorem ggX10_pour_X1_has : GoodIn wsX10_pour wsX1_has := (gk_code 7 rfl (gk_fieldLink 8 rfl (gk_lays 40 rfl (gk_laysFinal 41 rfl (gk_laysFinal 42 rfl (gk_laysFinal 43 rfl (gk_laysFinal 44 rfl (gn))))))))
set_option maxRecDepth 20000 in
theorem gX10_pour_X1_has : GoodIn wsX10_pour (wsV RX10 146 RX1 yX1_has wsX1_has) := goodIn_app (gk_methodLink 3 rfl (gk_instanceMethod 4 rfl (gk_selects 5 rfl (gk_initialized 6 rfl (gn))))) ggX10_pour_X1_has
theorem dX10_pour_8 : decode cX10_pour 8 = .ok (.ifCond .eq 14, 3) := dw153 (n := 0) (i := 8) (a := 0) (b := 14) kc_cX10_pour_0 (by decide +kernel) (by decide)
theorem dX10_pour_22 : decode cX10_pour 22 = .ok (.iconst (-1), 1) := dw2 (n := 0) (i := 22) kc_cX10_pour_0 (by decide +kernel)
theorem dX10_pour_23 : decode cX10_pour 23 = .ok (.ireturn, 1) := dw172 (n := 0) (i := 23) kc_cX10_pour_0 (by decide +kernel)
theorem dX10_pour_11 : decode cX10_pour 11 = .ok (.aload_n 0, 1) := dw42 (n := 0) (i := 11) kc_cX10_pour_0 (by decide +kernel)
theorem dX10_pour_12 : decode cX10_pour 12 = .ok (.getfield 26, 3) := dw180 (n := 0) (i := 12) (a := 0) (b := 26) kc_cX10_pour_0 (by decide +kernel) (by decide)
theorem dX10_pour_15 : decode cX10_pour 15 = .ok (.iload_n 3, 1) := dw29 (n := 0) (i := 15) kc_cX10_pour_0 (by decide +kernel)
theorem dX10_pour_16 : decode cX10_pour 16 = .ok (.invokevirtual 146, 3) := dw182 (n := 0) (i := 16) (a := 0) (b := 146) kc_cX10_pour_0 (by decide +kernel) (by decide)
theorem dX10_pour_19 : decode cX10_pour 19 = .ok (.ifCond .ne 5, 3) := dw154 (n := 0) (i := 19) (a := 0) (b := 5) kc_cX10_pour_0 (by decide +kernel) (by decide)
theorem dX10_pour_24 : decode cX10_pour 24 = .ok (.aload_n 0, 1) := dw42 (n := 0) (i := 24) kc_cX10_pour_0 (by decide +kernel)
theorem dX10_pour_25 : decode cX10_pour 25 = .ok (.getfield 26, 3) := dw180 (n := 0) (i := 25) (a := 0) (b := 26) kc_cX10_pour_0 (by decide +kernel) (by decide)
theorem dX10_pour_28 : decode cX10_pour 28 = .ok (.getfield 150, 3) := dw180 (n := 0) (i := 28) (a := 0) (b := 150) kc_cX10_pour_0 (by decide +kernel) (by decide)
theorem in_X10_pour_1 : ∀ w ∈ u_ws RX1 TX1 5, w ∈ wsX10_pour := fun _ h => List.mem_cons_of_mem _ (List.mem_append_right _ h)
theorem dX10_pour_31 : decode cX10_pour 31 = .ok (.iload_n 1, 1) := dw27 (n := 0) (i := 31) kc_cX10_pour_0 (by decide +kernel)
theorem dX10_pour_32 : decode cX10_pour 32 = .ok (.iaload, 1) := dw46 (n := 32) (i := 0) kc_cX10_pour_1 (by decide +kernel)
theorem dX10_pour_33 : decode cX10_pour 33 = .ok (.aload_n 0, 1) := dw42 (n := 32) (i := 1) kc_cX10_pour_1 (by decide +kernel)
theorem dX10_pour_34 : decode cX10_pour 34 = .ok (.getfield 26, 3) := dw180 (n := 32) (i := 2) (a := 0) (b := 26) kc_cX10_pour_1 (by decide +kernel) (by decide)
theorem dX10_pour_37 : decode cX10_pour 37 = .ok (.getfield 150, 3) := dw180 (n := 32) (i := 5) (a := 0) (b := 150) kc_cX10_pour_1 (by decide +kernel) (by decide)
theorem dX10_pour_40 : decode cX10_pour 40 = .ok (.iload_n 3, 1) := dw29 (n := 32) (i := 8) kc_cX10_pour_1 (by decide +kernel)
theorem dX10_pour_41 : decode cX10_pour 41 = .ok (.iaload, 1) := dw46 (n := 32) (i := 9) kc_cX10_pour_1 (by decide +kernel)
theorem dX10_pour_42 : decode cX10_pour 42 = .ok (.if_icmp .eq 10, 3) := dw159 (n := 32) (i := 10) (a := 0) (b := 10) kc_cX10_pour_1 (by decide +kernel) (by decide)
theorem dX10_pour_52 : decode cX10_pour 52 = .ok (.aload_n 0, 1) := dw42 (n := 32) (i := 20) kc_cX10_pour_1 (by decide +kernel)
theorem dX10_pour_53 : decode cX10_pour 53 = .ok (.getfield 26, 3) := dw180 (n := 32) (i := 21) (a := 0) (b := 26) kc_cX10_pour_1 (by decide +kernel) (by decide)
theorem dX10_pour_56 : decode cX10_pour 56 = .ok (.iload_n 1, 1) := dw27 (n := 32) (i := 24) kc_cX10_pour_1 (by decide +kernel)
theorem dX10_pour_57 : decode cX10_pour 57 = .ok (.iload_n 2, 1) := dw28 (n := 32) (i := 25) kc_cX10_pour_1 (by decide +kernel)
theorem dX10_pour_58 : decode cX10_pour 58 = .ok (.iload 5, 2) := dw21 (n := 32) (i := 26) (a := 5) kc_cX10_pour_1 (by decide +kernel) (by decide)
theorem dX10_pour_60 : decode cX10_pour 60 = .ok (.invokevirtual 154, 3) := dw182 (n := 32) (i := 28) (a := 0) (b := 154) kc_cX10_pour_1 (by decide +kernel) (by decide)
set_option maxRecDepth 20000 in
theorem ggX10_pour_X1_hasPlaces : GoodIn wsX10_pour wsX1_hasPlaces := (gk_code 19 rfl (gk_fieldLink 20 rfl (gk_lays 40 rfl (gk_laysFinal 41 rfl (gk_laysFinal 42 rfl (gk_laysFinal 43 rfl (gk_laysFinal 44 rfl (gn))))))))
set_option maxRecDepth 20000 in
theorem gX10_pour_X1_hasPlaces : GoodIn wsX10_pour (wsV RX10 154 RX1 yX1_hasPlaces wsX1_hasPlaces) := goodIn_app (gk_methodLink 16 rfl (gk_instanceMethod 17 rfl (gk_selects 18 rfl (gk_initialized 6 rfl (gn))))) ggX10_pour_X1_hasPlaces
theorem dX10_pour_63 : decode cX10_pour 63 = .ok (.ifCond .eq 18, 3) := dw153 (n := 32) (i := 31) (a := 0) (b := 18) kc_cX10_pour_1 (by decide +kernel) (by decide)
theorem dX10_pour_81 : decode cX10_pour 81 = .ok (.aload_n 0, 1) := dw42 (n := 64) (i := 17) kc_cX10_pour_2 (by decide +kernel)
theorem dX10_pour_82 : decode cX10_pour 82 = .ok (.iconst 2, 1) := dw5 (n := 64) (i := 18) kc_cX10_pour_2 (by decide +kernel)
theorem dX10_pour_83 : decode cX10_pour 83 = .ok (.invokevirtual 117, 3) := dw182 (n := 64) (i := 19) (a := 0) (b := 117) kc_cX10_pour_2 (by decide +kernel) (by decide)
set_option maxRecDepth 20000 in
theorem ggX10_pour_X10_found : GoodIn wsX10_pour wsX10_found := (gk_code 13 rfl (gk_fieldLink 14 rfl (gk_fieldLink 15 rfl (gk_laysFinal 27 rfl (gk_laysFinal 28 rfl (gk_laysFinal 29 rfl (gk_laysFinal 30 rfl (gk_laysFinal 31 rfl (gk_laysFinal 32 rfl (gk_laysFinal 33 rfl (gk_laysFinal 34 rfl (gk_lays 35 rfl (gk_lays 36 rfl (gk_lays 37 rfl (gk_lays 38 rfl (gk_laysFinal 39 rfl (gn)))))))))))))))))
set_option maxRecDepth 20000 in
theorem gX10_pour_X10_found : GoodIn wsX10_pour (wsV RX10 117 RX10 yX10_found wsX10_found) := goodIn_app (gk_methodLink 9 rfl (gk_instanceMethod 10 rfl (gk_selects 11 rfl (gk_initialized 12 rfl (gn))))) ggX10_pour_X10_found
theorem dX10_pour_86 : decode cX10_pour 86 = .ok (.ireturn, 1) := dw172 (n := 64) (i := 22) kc_cX10_pour_2 (by decide +kernel)
theorem dX10_pour_66 : decode cX10_pour 66 = .ok (.aload_n 0, 1) := dw42 (n := 64) (i := 2) kc_cX10_pour_2 (by decide +kernel)
theorem dX10_pour_67 : decode cX10_pour 67 = .ok (.getfield 26, 3) := dw180 (n := 64) (i := 3) (a := 0) (b := 26) kc_cX10_pour_2 (by decide +kernel) (by decide)
theorem dX10_pour_70 : decode cX10_pour 70 = .ok (.iload_n 3, 1) := dw29 (n := 64) (i := 6) kc_cX10_pour_2 (by decide +kernel)
theorem dX10_pour_71 : decode cX10_pour 71 = .ok (.iload 4, 2) := dw21 (n := 64) (i := 7) (a := 4) kc_cX10_pour_2 (by decide +kernel) (by decide)
theorem dX10_pour_73 : decode cX10_pour 73 = .ok (.iload 5, 2) := dw21 (n := 64) (i := 9) (a := 5) kc_cX10_pour_2 (by decide +kernel) (by decide)
theorem dX10_pour_75 : decode cX10_pour 75 = .ok (.invokevirtual 154, 3) := dw182 (n := 64) (i := 11) (a := 0) (b := 154) kc_cX10_pour_2 (by decide +kernel) (by decide)
theorem dX10_pour_78 : decode cX10_pour 78 = .ok (.ifCond .ne 9, 3) := dw154 (n := 64) (i := 14) (a := 0) (b := 9) kc_cX10_pour_2 (by decide +kernel) (by decide)
theorem dX10_pour_87 : decode cX10_pour 87 = .ok (.aload_n 0, 1) := dw42 (n := 64) (i := 23) kc_cX10_pour_2 (by decide +kernel)
theorem dX10_pour_88 : decode cX10_pour 88 = .ok (.getfield 26, 3) := dw180 (n := 64) (i := 24) (a := 0) (b := 26) kc_cX10_pour_2 (by decide +kernel) (by decide)
theorem dX10_pour_91 : decode cX10_pour 91 = .ok (.iload_n 1, 1) := dw27 (n := 64) (i := 27) kc_cX10_pour_2 (by decide +kernel)
theorem dX10_pour_92 : decode cX10_pour 92 = .ok (.iload_n 2, 1) := dw28 (n := 64) (i := 28) kc_cX10_pour_2 (by decide +kernel)
theorem dX10_pour_93 : decode cX10_pour 93 = .ok (.iload_n 3, 1) := dw29 (n := 64) (i := 29) kc_cX10_pour_2 (by decide +kernel)
theorem dX10_pour_94 : decode cX10_pour 94 = .ok (.iload 4, 2) := dw21 (n := 64) (i := 30) (a := 4) kc_cX10_pour_2 (by decide +kernel) (by decide)
theorem dX10_pour_96 : decode cX10_pour 96 = .ok (.iload 5, 2) := dw21 (n := 96) (i := 0) (a := 5) kc_cX10_pour_3 (by decide +kernel) (by decide)
theorem dX10_pour_98 : decode cX10_pour 98 = .ok (.invokevirtual 158, 3) := dw182 (n := 96) (i := 2) (a := 0) (b := 158) kc_cX10_pour_3 (by decide +kernel) (by decide)
set_option maxRecDepth 20000 in
theorem ggX10_pour_X1_copy : GoodIn wsX10_pour wsX1_copy := (gk_code 24 rfl (gk_fieldLink 25 rfl (gk_fieldLink 26 rfl (gk_lays 40 rfl (gk_laysFinal 41 rfl (gk_laysFinal 42 rfl (gk_laysFinal 43 rfl (gk_laysFinal 44 rfl (gn)))))))))
set_option maxRecDepth 20000 in
theorem gX10_pour_X1_copy : GoodIn wsX10_pour (wsV RX10 158 RX1 yX1_copy wsX1_copy) := goodIn_app (gk_methodLink 21 rfl (gk_instanceMethod 22 rfl (gk_selects 23 rfl (gk_initialized 6 rfl (gn))))) ggX10_pour_X1_copy
theorem dX10_pour_101 : decode cX10_pour 101 = .ok (.iconst 1, 1) := dw4 (n := 96) (i := 5) kc_cX10_pour_3 (by decide +kernel)
theorem dX10_pour_102 : decode cX10_pour 102 = .ok (.ireturn, 1) := dw172 (n := 96) (i := 6) kc_cX10_pour_3 (by decide +kernel)
theorem dX10_pour_45 : decode cX10_pour 45 = .ok (.aload_n 0, 1) := dw42 (n := 32) (i := 13) kc_cX10_pour_1 (by decide +kernel)
theorem dX10_pour_46 : decode cX10_pour 46 = .ok (.bipush 6, 2) := dw16 (n := 32) (i := 14) (a := 6) kc_cX10_pour_1 (by decide +kernel) (by decide)
theorem dX10_pour_48 : decode cX10_pour 48 = .ok (.invokevirtual 117, 3) := dw182 (n := 32) (i := 16) (a := 0) (b := 117) kc_cX10_pour_1 (by decide +kernel) (by decide)
theorem dX10_pour_51 : decode cX10_pour 51 = .ok (.ireturn, 1) := dw172 (n := 32) (i := 19) kc_cX10_pour_1 (by decide +kernel)
theorem dX10_at_0 : decode cX10_at 0 = .ok (.aload_n 0, 1) := dw42 (n := 0) (i := 0) kc_cX10_at_0 (by decide +kernel)
theorem dX10_at_1 : decode cX10_at 1 = .ok (.getfield 26, 3) := dw180 (n := 0) (i := 1) (a := 0) (b := 26) kc_cX10_at_0 (by decide +kernel) (by decide)
theorem in_X10_at_10 : ∀ w ∈ u_ws RX10 TX10 13, w ∈ wsX10_at := fun _ h => List.mem_cons_of_mem _ (List.mem_append_left _ (List.mem_append_right _ h))
theorem dX10_at_4 : decode cX10_at 4 = .ok (.iload_n 1, 1) := dw27 (n := 0) (i := 4) kc_cX10_at_0 (by decide +kernel)
theorem dX10_at_5 : decode cX10_at 5 = .ok (.invokevirtual 146, 3) := dw182 (n := 0) (i := 5) (a := 0) (b := 146) kc_cX10_at_0 (by decide +kernel) (by decide)
set_option maxRecDepth 20000 in
theorem ggX10_at_X1_has : GoodIn wsX10_at wsX1_has := (gk_code 7 rfl (gk_fieldLink 8 rfl (gk_lays 38 rfl (gk_laysFinal 39 rfl (gk_laysFinal 40 rfl (gk_laysFinal 41 rfl (gk_laysFinal 42 rfl (gn))))))))
set_option maxRecDepth 20000 in
theorem gX10_at_X1_has : GoodIn wsX10_at (wsV RX10 146 RX1 yX1_has wsX1_has) := goodIn_app (gk_methodLink 3 rfl (gk_instanceMethod 4 rfl (gk_selects 5 rfl (gk_initialized 6 rfl (gn))))) ggX10_at_X1_has
theorem dX10_at_8 : decode cX10_at 8 = .ok (.ifCond .ne 5, 3) := dw154 (n := 0) (i := 8) (a := 0) (b := 5) kc_cX10_at_0 (by decide +kernel) (by decide)
theorem dX10_at_13 : decode cX10_at 13 = .ok (.aload_n 0, 1) := dw42 (n := 0) (i := 13) kc_cX10_at_0 (by decide +kernel)
theorem dX10_at_14 : decode cX10_at 14 = .ok (.iload_n 1, 1) := dw27 (n := 0) (i := 14) kc_cX10_at_0 (by decide +kernel)
theorem dX10_at_15 : decode cX10_at 15 = .ok (.iload_n 2, 1) := dw28 (n := 0) (i := 15) kc_cX10_at_0 (by decide +kernel)
theorem dX10_at_16 : decode cX10_at 16 = .ok (.invokevirtual 162, 3) := dw182 (n := 0) (i := 16) (a := 0) (b := 162) kc_cX10_at_0 (by decide +kernel) (by decide)
set_option maxRecDepth 20000 in
theorem ggX10_at_X10_missingAt : GoodIn wsX10_at wsX10_missingAt := (gk_code 13 rfl (gk_fieldLink 1 rfl (gk_fieldLink 2 rfl (gk_methodLink 14 rfl (gk_instanceMethod 15 rfl (gk_selects 16 rfl (gk_initialized 6 rfl (gk_code 17 rfl (gk_fieldLink 18 rfl (gk_laysFinal 25 rfl (gk_laysFinal 26 rfl (gk_laysFinal 27 rfl (gk_laysFinal 28 rfl (gk_laysFinal 29 rfl (gk_laysFinal 30 rfl (gk_laysFinal 31 rfl (gk_laysFinal 32 rfl (gk_lays 33 rfl (gk_lays 34 rfl (gk_lays 35 rfl (gk_lays 36 rfl (gk_laysFinal 37 rfl (gk_lays 38 rfl (gk_laysFinal 39 rfl (gk_laysFinal 40 rfl (gk_laysFinal 41 rfl (gk_laysFinal 42 rfl (gn))))))))))))))))))))))))))))
set_option maxRecDepth 20000 in
theorem gX10_at_X10_missingAt : GoodIn wsX10_at (wsV RX10 162 RX10 yX10_missingAt wsX10_missingAt) := goodIn_app (gk_methodLink 9 rfl (gk_instanceMethod 10 rfl (gk_selects 11 rfl (gk_initialized 12 rfl (gn))))) ggX10_at_X10_missingAt
theorem dX10_at_19 : decode cX10_at 19 = .ok (.istore_n 3, 1) := dw62 (n := 0) (i := 19) kc_cX10_at_0 (by decide +kernel)
theorem dX10_at_20 : decode cX10_at 20 = .ok (.iload_n 3, 1) := dw29 (n := 0) (i := 20) kc_cX10_at_0 (by decide +kernel)
theorem dX10_at_21 : decode cX10_at 21 = .ok (.ifCond .eq 11, 3) := dw153 (n := 0) (i := 21) (a := 0) (b := 11) kc_cX10_at_0 (by decide +kernel) (by decide)
theorem dX10_at_32 : decode cX10_at 32 = .ok (.aload_n 0, 1) := dw42 (n := 32) (i := 0) kc_cX10_at_1 (by decide +kernel)
theorem dX10_at_33 : decode cX10_at 33 = .ok (.getfield 26, 3) := dw180 (n := 32) (i := 1) (a := 0) (b := 26) kc_cX10_at_1 (by decide +kernel) (by decide)
theorem dX10_at_36 : decode cX10_at 36 = .ok (.getfield 151, 3) := dw180 (n := 32) (i := 4) (a := 0) (b := 151) kc_cX10_at_1 (by decide +kernel) (by decide)
theorem in_X10_at_1 : ∀ w ∈ u_ws RX1 TX1 5, w ∈ wsX10_at := fun _ h => List.mem_cons_of_mem _ (List.mem_append_right _ h)
theorem dX10_at_39 : decode cX10_at 39 = .ok (.iload_n 1, 1) := dw27 (n := 32) (i := 7) kc_cX10_at_1 (by decide +kernel)
theorem dX10_at_40 : decode cX10_at 40 = .ok (.aaload, 1) := dw50 (n := 32) (i := 8) kc_cX10_at_1 (by decide +kernel)
theorem dX10_at_41 : decode cX10_at 41 = .ok (.iload_n 2, 1) := dw28 (n := 32) (i := 9) kc_cX10_at_1 (by decide +kernel)
theorem dX10_at_42 : decode cX10_at 42 = .ok (.iaload, 1) := dw46 (n := 32) (i := 10) kc_cX10_at_1 (by decide +kernel)
theorem dX10_at_43 : decode cX10_at 43 = .ok (.ireturn, 1) := dw172 (n := 32) (i := 11) kc_cX10_at_1 (by decide +kernel)
theorem dX10_at_24 : decode cX10_at 24 = .ok (.aload_n 0, 1) := dw42 (n := 0) (i := 24) kc_cX10_at_0 (by decide +kernel)
theorem dX10_at_25 : decode cX10_at 25 = .ok (.iload_n 3, 1) := dw29 (n := 0) (i := 25) kc_cX10_at_0 (by decide +kernel)
theorem dX10_at_26 : decode cX10_at 26 = .ok (.invokevirtual 117, 3) := dw182 (n := 0) (i := 26) (a := 0) (b := 117) kc_cX10_at_0 (by decide +kernel) (by decide)
set_option maxRecDepth 20000 in
theorem ggX10_at_X10_found : GoodIn wsX10_at wsX10_found := (gk_code 22 rfl (gk_fieldLink 23 rfl (gk_fieldLink 24 rfl (gk_laysFinal 25 rfl (gk_laysFinal 26 rfl (gk_laysFinal 27 rfl (gk_laysFinal 28 rfl (gk_laysFinal 29 rfl (gk_laysFinal 30 rfl (gk_laysFinal 31 rfl (gk_laysFinal 32 rfl (gk_lays 33 rfl (gk_lays 34 rfl (gk_lays 35 rfl (gk_lays 36 rfl (gk_laysFinal 37 rfl (gn)))))))))))))))))
set_option maxRecDepth 20000 in
theorem gX10_at_X10_found : GoodIn wsX10_at (wsV RX10 117 RX10 yX10_found wsX10_found) := goodIn_app (gk_methodLink 19 rfl (gk_instanceMethod 20 rfl (gk_selects 21 rfl (gk_initialized 12 rfl (gn))))) ggX10_at_X10_found
theorem dX10_at_29 : decode cX10_at 29 = .ok (.goto 14, 3) := dw167 (n := 0) (i := 29) (a := 0) (b := 14) kc_cX10_at_0 (by decide +kernel) (by decide)
theorem dX10_at_11 : decode cX10_at 11 = .ok (.iconst (-1), 1) := dw2 (n := 0) (i := 11) kc_cX10_at_0 (by decide +kernel)
theorem dX10_at_12 : decode cX10_at 12 = .ok (.ireturn, 1) := dw172 (n := 0) (i := 12) kc_cX10_at_0 (by decide +kernel)
theorem dX10_share_0 : decode cX10_share 0 = .ok (.aload_n 0, 1) := dw42 (n := 0) (i := 0) kc_cX10_share_0 (by decide +kernel)
theorem dX10_share_1 : decode cX10_share 1 = .ok (.getfield 26, 3) := dw180 (n := 0) (i := 1) (a := 0) (b := 26) kc_cX10_share_0 (by decide +kernel) (by decide)
theorem in_X10_share_10 : ∀ w ∈ u_ws RX10 TX10 13, w ∈ wsX10_share := fun _ h => List.mem_cons_of_mem _ (List.mem_append_left _ (List.mem_append_left _ (List.mem_append_right _ h)))
theorem dX10_share_4 : decode cX10_share 4 = .ok (.iload_n 1, 1) := dw27 (n := 0) (i := 4) kc_cX10_share_0 (by decide +kernel)
theorem dX10_share_5 : decode cX10_share 5 = .ok (.invokevirtual 146, 3) := dw182 (n := 0) (i := 5) (a := 0) (b := 146) kc_cX10_share_0 (by decide +kernel) (by decide)
set_option maxRecDepth 20000 in
theorem ggX10_share_X1_has : GoodIn wsX10_share wsX1_has := (gk_code 8 rfl (gk_fieldLink 9 rfl (gk_lays 58 rfl (gk_laysFinal 59 rfl (gk_laysFinal 60 rfl (gk_laysFinal 61 rfl (gk_laysFinal 62 rfl (gn))))))))
set_option maxRecDepth 20000 in
theorem gX10_share_X1_has : GoodIn wsX10_share (wsV RX10 146 RX1 yX1_has wsX1_has) := goodIn_app (gk_methodLink 4 rfl (gk_instanceMethod 5 rfl (gk_selects 6 rfl (gk_initialized 7 rfl (gn))))) ggX10_share_X1_has
theorem dX10_share_8 : decode cX10_share 8 = .ok (.ifCond .ne 5, 3) := dw154 (n := 0) (i := 8) (a := 0) (b := 5) kc_cX10_share_0 (by decide +kernel) (by decide)
theorem dX10_share_13 : decode cX10_share 13 = .ok (.aload_n 0, 1) := dw42 (n := 0) (i := 13) kc_cX10_share_0 (by decide +kernel)
theorem dX10_share_14 : decode cX10_share 14 = .ok (.iload_n 1, 1) := dw27 (n := 0) (i := 14) kc_cX10_share_0 (by decide +kernel)
theorem dX10_share_15 : decode cX10_share 15 = .ok (.iload_n 2, 1) := dw28 (n := 0) (i := 15) kc_cX10_share_0 (by decide +kernel)
theorem dX10_share_16 : decode cX10_share 16 = .ok (.invokevirtual 162, 3) := dw182 (n := 0) (i := 16) (a := 0) (b := 162) kc_cX10_share_0 (by decide +kernel) (by decide)
set_option maxRecDepth 20000 in
theorem ggX10_share_X10_missingAt : GoodIn wsX10_share wsX10_missingAt := (gk_code 14 rfl (gk_fieldLink 1 rfl (gk_fieldLink 3 rfl (gk_methodLink 15 rfl (gk_instanceMethod 16 rfl (gk_selects 17 rfl (gk_initialized 7 rfl (gk_code 18 rfl (gk_fieldLink 19 rfl (gk_laysFinal 45 rfl (gk_laysFinal 46 rfl (gk_laysFinal 47 rfl (gk_laysFinal 48 rfl (gk_laysFinal 49 rfl (gk_laysFinal 50 rfl (gk_laysFinal 51 rfl (gk_laysFinal 52 rfl (gk_lays 53 rfl (gk_lays 54 rfl (gk_lays 55 rfl (gk_lays 56 rfl (gk_laysFinal 57 rfl (gk_lays 58 rfl (gk_laysFinal 59 rfl (gk_laysFinal 60 rfl (gk_laysFinal 61 rfl (gk_laysFinal 62 rfl (gn))))))))))))))))))))))))))))
set_option maxRecDepth 20000 in
theorem gX10_share_X10_missingAt : GoodIn wsX10_share (wsV RX10 162 RX10 yX10_missingAt wsX10_missingAt) := goodIn_app (gk_methodLink 10 rfl (gk_instanceMethod 11 rfl (gk_selects 12 rfl (gk_initialized 13 rfl (gn))))) ggX10_share_X10_missingAt
theorem dX10_share_19 : decode cX10_share 19 = .ok (.istore_n 3, 1) := dw62 (n := 0) (i := 19) kc_cX10_share_0 (by decide +kernel)
theorem dX10_share_20 : decode cX10_share 20 = .ok (.iload_n 3, 1) := dw29 (n := 0) (i := 20) kc_cX10_share_0 (by decide +kernel)
theorem dX10_share_21 : decode cX10_share 21 = .ok (.ifCond .eq 9, 3) := dw153 (n := 0) (i := 21) (a := 0) (b := 9) kc_cX10_share_0 (by decide +kernel) (by decide)
theorem dX10_share_30 : decode cX10_share 30 = .ok (.aload_n 0, 1) := dw42 (n := 0) (i := 30) kc_cX10_share_0 (by decide +kernel)
theorem dX10_share_31 : decode cX10_share 31 = .ok (.getfield 19, 3) := dw180 (n := 0) (i := 31) (a := 0) (b := 19) kc_cX10_share_0 (by decide +kernel) (by decide)
theorem dX10_share_34 : decode cX10_share 34 = .ok (.aload_n 0, 1) := dw42 (n := 32) (i := 2) kc_cX10_share_1 (by decide +kernel)
theorem dX10_share_35 : decode cX10_share 35 = .ok (.getfield 26, 3) := dw180 (n := 32) (i := 3) (a := 0) (b := 26) kc_cX10_share_1 (by decide +kernel) (by decide)
theorem dX10_share_38 : decode cX10_share 38 = .ok (.getfield 151, 3) := dw180 (n := 32) (i := 6) (a := 0) (b := 151) kc_cX10_share_1 (by decide +kernel) (by decide)
theorem in_X10_share_1 : ∀ w ∈ u_ws RX1 TX1 5, w ∈ wsX10_share := fun _ h => List.mem_cons_of_mem _ (List.mem_append_left _ (List.mem_append_right _ h))
theorem dX10_share_41 : decode cX10_share 41 = .ok (.iload_n 1, 1) := dw27 (n := 32) (i := 9) kc_cX10_share_1 (by decide +kernel)
theorem dX10_share_42 : decode cX10_share 42 = .ok (.aaload, 1) := dw50 (n := 32) (i := 10) kc_cX10_share_1 (by decide +kernel)
theorem dX10_share_43 : decode cX10_share 43 = .ok (.iload_n 2, 1) := dw28 (n := 32) (i := 11) kc_cX10_share_1 (by decide +kernel)
theorem dX10_share_44 : decode cX10_share 44 = .ok (.iaload, 1) := dw46 (n := 32) (i := 12) kc_cX10_share_1 (by decide +kernel)
theorem dX10_share_45 : decode cX10_share 45 = .ok (.invokevirtual 165, 3) := dw182 (n := 32) (i := 13) (a := 0) (b := 165) kc_cX10_share_1 (by decide +kernel) (by decide)
set_option maxRecDepth 20000 in
theorem ggX10_share_X0_papersAt : GoodIn wsX10_share wsX0_papersAt := (gk_code 30 rfl (gk_fieldLink 31 rfl (gk_methodLink 32 rfl (gk_instanceMethod 33 rfl (gk_selects 34 rfl (gk_initialized 29 rfl (gk_code 35 rfl (gk_fieldLink 36 rfl (gk_lays 63 rfl (gk_laysFinal 64 rfl (gk_laysFinal 65 rfl (gk_laysFinal 66 rfl (gk_laysFinal 67 rfl (gn))))))))))))))
set_option maxRecDepth 20000 in
theorem gX10_share_X0_papersAt : GoodIn wsX10_share (wsV RX10 165 RX0 yX0_papersAt wsX0_papersAt) := goodIn_app (gk_methodLink 26 rfl (gk_instanceMethod 27 rfl (gk_selects 28 rfl (gk_initialized 29 rfl (gn))))) ggX10_share_X0_papersAt
theorem dX10_share_48 : decode cX10_share 48 = .ok (.aload_n 0, 1) := dw42 (n := 32) (i := 16) kc_cX10_share_1 (by decide +kernel)
theorem dX10_share_49 : decode cX10_share 49 = .ok (.iload_n 1, 1) := dw27 (n := 32) (i := 17) kc_cX10_share_1 (by decide +kernel)
theorem dX10_share_50 : decode cX10_share 50 = .ok (.invokevirtual 168, 3) := dw182 (n := 32) (i := 18) (a := 0) (b := 168) kc_cX10_share_1 (by decide +kernel) (by decide)
set_option maxRecDepth 20000 in
theorem ggX10_share_X10_papersIn : GoodIn wsX10_share wsX10_papersIn := (gk_code 40 rfl (gk_fieldLink 1 rfl (gk_fieldLink 41 rfl (gk_fieldLink 2 rfl (gk_fieldLink 3 rfl (gk_methodLink 26 rfl (gk_instanceMethod 27 rfl (gk_selects 28 rfl (gk_initialized 29 rfl (gk_code 30 rfl (gk_fieldLink 31 rfl (gk_methodLink 32 rfl (gk_instanceMethod 33 rfl (gk_selects 34 rfl (gk_code 35 rfl (gk_fieldLink 36 rfl (gk_laysFinal 45 rfl (gk_laysFinal 46 rfl (gk_laysFinal 47 rfl (gk_laysFinal 48 rfl (gk_laysFinal 49 rfl (gk_laysFinal 50 rfl (gk_laysFinal 51 rfl (gk_laysFinal 52 rfl (gk_lays 53 rfl (gk_lays 54 rfl (gk_lays 55 rfl (gk_lays 56 rfl (gk_laysFinal 57 rfl (gk_lays 58 rfl (gk_laysFinal 59 rfl (gk_laysFinal 60 rfl (gk_laysFinal 61 rfl (gk_laysFinal 62 rfl (gk_lays 63 rfl (gk_laysFinal 64 rfl (gk_laysFinal 65 rfl (gk_laysFinal 66 rfl (gk_laysFinal 67 rfl (gn))))))))))))))))))))))))))))))))))))))))
set_option maxRecDepth 20000 in
theorem gX10_share_X10_papersIn : GoodIn wsX10_share (wsV RX10 168 RX10 yX10_papersIn wsX10_papersIn) := goodIn_app (gk_methodLink 37 rfl (gk_instanceMethod 38 rfl (gk_selects 39 rfl (gk_initialized 13 rfl (gn))))) ggX10_share_X10_papersIn
theorem dX10_share_53 : decode cX10_share 53 = .ok (.invokestatic 171, 3) := dw184 (n := 32) (i := 21) (a := 0) (b := 171) kc_cX10_share_1 (by decide +kernel) (by decide)
set_option maxRecDepth 20000 in
theorem ggX10_share_X10_thousandths : GoodIn wsX10_share wsX10_thousandths := (gk_code 44 rfl (gn))
set_option maxRecDepth 20000 in
theorem gX10_share_X10_thousandths : GoodIn wsX10_share (va_wsS RX10 171 yX10_thousandths wsX10_thousandths) := goodIn_app (gk_methodLink 42 rfl (gk_static 43 rfl (gk_initialized 13 rfl (gn)))) ggX10_share_X10_thousandths
theorem dX10_share_56 : decode cX10_share 56 = .ok (.ireturn, 1) := dw172 (n := 32) (i := 24) kc_cX10_share_1 (by decide +kernel)
theorem dX10_share_24 : decode cX10_share 24 = .ok (.aload_n 0, 1) := dw42 (n := 0) (i := 24) kc_cX10_share_0 (by decide +kernel)
theorem dX10_share_25 : decode cX10_share 25 = .ok (.iload_n 3, 1) := dw29 (n := 0) (i := 25) kc_cX10_share_0 (by decide +kernel)
theorem dX10_share_26 : decode cX10_share 26 = .ok (.invokevirtual 117, 3) := dw182 (n := 0) (i := 26) (a := 0) (b := 117) kc_cX10_share_0 (by decide +kernel) (by decide)
set_option maxRecDepth 20000 in
theorem ggX10_share_X10_found : GoodIn wsX10_share wsX10_found := (gk_code 23 rfl (gk_fieldLink 24 rfl (gk_fieldLink 25 rfl (gk_laysFinal 45 rfl (gk_laysFinal 46 rfl (gk_laysFinal 47 rfl (gk_laysFinal 48 rfl (gk_laysFinal 49 rfl (gk_laysFinal 50 rfl (gk_laysFinal 51 rfl (gk_laysFinal 52 rfl (gk_lays 53 rfl (gk_lays 54 rfl (gk_lays 55 rfl (gk_lays 56 rfl (gk_laysFinal 57 rfl (gn)))))))))))))))))
set_option maxRecDepth 20000 in
theorem gX10_share_X10_found : GoodIn wsX10_share (wsV RX10 117 RX10 yX10_found wsX10_found) := goodIn_app (gk_methodLink 20 rfl (gk_instanceMethod 21 rfl (gk_selects 22 rfl (gk_initialized 13 rfl (gn))))) ggX10_share_X10_found
theorem dX10_share_29 : decode cX10_share 29 = .ok (.ireturn, 1) := dw172 (n := 0) (i := 29) kc_cX10_share_0 (by decide +kernel)
theorem dX10_share_11 : decode cX10_share 11 = .ok (.iconst (-1), 1) := dw2 (n := 0) (i := 11) kc_cX10_share_0 (by decide +kernel)
theorem dX10_share_12 : decode cX10_share 12 = .ok (.ireturn, 1) := dw172 (n := 0) (i := 12) kc_cX10_share_0 (by decide +kernel)
theorem dX10_weight_0 : decode cX10_weight 0 = .ok (.aload_n 0, 1) := dw42 (n := 0) (i := 0) kc_cX10_weight_0 (by decide +kernel)
theorem dX10_weight_1 : decode cX10_weight 1 = .ok (.getfield 19, 3) := dw180 (n := 0) (i := 1) (a := 0) (b := 19) kc_cX10_weight_0 (by decide +kernel) (by decide)
theorem in_X10_weight_10 : ∀ w ∈ u_ws RX10 TX10 13, w ∈ wsX10_weight := fun _ h => List.mem_cons_of_mem _ (List.mem_append_left _ (List.mem_append_left _ (List.mem_append_right _ h)))
theorem dX10_weight_4 : decode cX10_weight 4 = .ok (.iload_n 1, 1) := dw27 (n := 0) (i := 4) kc_cX10_weight_0 (by decide +kernel)
theorem dX10_weight_5 : decode cX10_weight 5 = .ok (.invokevirtual 112, 3) := dw182 (n := 0) (i := 5) (a := 0) (b := 112) kc_cX10_weight_0 (by decide +kernel) (by decide)
set_option maxRecDepth 20000 in
theorem ggX10_weight_X0_has : GoodIn wsX10_weight wsX0_has := (gk_code 8 rfl (gk_fieldLink 9 rfl (gk_lays 51 rfl (gk_laysFinal 52 rfl (gk_laysFinal 53 rfl (gk_laysFinal 54 rfl (gk_laysFinal 55 rfl (gn))))))))
set_option maxRecDepth 20000 in
theorem gX10_weight_X0_has : GoodIn wsX10_weight (wsV RX10 112 RX0 yX0_has wsX0_has) := goodIn_app (gk_methodLink 4 rfl (gk_instanceMethod 5 rfl (gk_selects 6 rfl (gk_initialized 7 rfl (gn))))) ggX10_weight_X0_has
theorem dX10_weight_8 : decode cX10_weight 8 = .ok (.ifCond .eq 14, 3) := dw153 (n := 0) (i := 8) (a := 0) (b := 14) kc_cX10_weight_0 (by decide +kernel) (by decide)
theorem dX10_weight_22 : decode cX10_weight 22 = .ok (.iconst (-1), 1) := dw2 (n := 0) (i := 22) kc_cX10_weight_0 (by decide +kernel)
theorem dX10_weight_23 : decode cX10_weight 23 = .ok (.ireturn, 1) := dw172 (n := 0) (i := 23) kc_cX10_weight_0 (by decide +kernel)
theorem dX10_weight_11 : decode cX10_weight 11 = .ok (.aload_n 0, 1) := dw42 (n := 0) (i := 11) kc_cX10_weight_0 (by decide +kernel)
theorem dX10_weight_12 : decode cX10_weight 12 = .ok (.getfield 10, 3) := dw180 (n := 0) (i := 12) (a := 0) (b := 10) kc_cX10_weight_0 (by decide +kernel) (by decide)
theorem dX10_weight_15 : decode cX10_weight 15 = .ok (.iload_n 2, 1) := dw28 (n := 0) (i := 15) kc_cX10_weight_0 (by decide +kernel)
theorem dX10_weight_16 : decode cX10_weight 16 = .ok (.invokevirtual 94, 3) := dw182 (n := 0) (i := 16) (a := 0) (b := 94) kc_cX10_weight_0 (by decide +kernel) (by decide)
set_option maxRecDepth 20000 in
theorem ggX10_weight_X2_has : GoodIn wsX10_weight wsX2_has := (gk_code 14 rfl (gk_fieldLink 15 rfl (gk_lays 56 rfl (gk_laysFinal 57 rfl (gn)))))
set_option maxRecDepth 20000 in
theorem gX10_weight_X2_has : GoodIn wsX10_weight (wsV RX10 94 RX2 yX2_has wsX2_has) := goodIn_app (gk_methodLink 10 rfl (gk_instanceMethod 11 rfl (gk_selects 12 rfl (gk_initialized 13 rfl (gn))))) ggX10_weight_X2_has
theorem dX10_weight_19 : decode cX10_weight 19 = .ok (.ifCond .ne 5, 3) := dw154 (n := 0) (i := 19) (a := 0) (b := 5) kc_cX10_weight_0 (by decide +kernel) (by decide)
theorem dX10_weight_24 : decode cX10_weight 24 = .ok (.aload_n 0, 1) := dw42 (n := 0) (i := 24) kc_cX10_weight_0 (by decide +kernel)
theorem dX10_weight_25 : decode cX10_weight 25 = .ok (.getfield 19, 3) := dw180 (n := 0) (i := 25) (a := 0) (b := 19) kc_cX10_weight_0 (by decide +kernel) (by decide)
theorem dX10_weight_28 : decode cX10_weight 28 = .ok (.iload_n 1, 1) := dw27 (n := 0) (i := 28) kc_cX10_weight_0 (by decide +kernel)
theorem dX10_weight_29 : decode cX10_weight 29 = .ok (.iconst 3, 1) := dw6 (n := 0) (i := 29) kc_cX10_weight_0 (by decide +kernel)
theorem dX10_weight_30 : decode cX10_weight 30 = .ok (.invokevirtual 113, 3) := dw182 (n := 0) (i := 30) (a := 0) (b := 113) kc_cX10_weight_0 (by decide +kernel) (by decide)
set_option maxRecDepth 20000 in
theorem ggX10_weight_X0_isOf : GoodIn wsX10_weight wsX0_isOf := (gk_code 19 rfl (gk_fieldLink 20 rfl (gk_static 21 rfl (gk_initialized 22 rfl (gk_code 23 rfl (gk_lays 51 rfl (gk_laysFinal 52 rfl (gk_laysFinal 53 rfl (gk_laysFinal 54 rfl (gk_laysFinal 55 rfl (gn)))))))))))
set_option maxRecDepth 20000 in
theorem gX10_weight_X0_isOf : GoodIn wsX10_weight (wsV RX10 113 RX0 yX0_isOf wsX0_isOf) := goodIn_app (gk_methodLink 16 rfl (gk_instanceMethod 17 rfl (gk_selects 18 rfl (gk_initialized 7 rfl (gn))))) ggX10_weight_X0_isOf
theorem dX10_weight_33 : decode cX10_weight 33 = .ok (.ifCond .ne 9, 3) := dw154 (n := 32) (i := 1) (a := 0) (b := 9) kc_cX10_weight_1 (by decide +kernel) (by decide)
theorem dX10_weight_42 : decode cX10_weight 42 = .ok (.aload_n 0, 1) := dw42 (n := 32) (i := 10) kc_cX10_weight_1 (by decide +kernel)
theorem dX10_weight_43 : decode cX10_weight 43 = .ok (.getfield 19, 3) := dw180 (n := 32) (i := 11) (a := 0) (b := 19) kc_cX10_weight_1 (by decide +kernel) (by decide)
theorem dX10_weight_46 : decode cX10_weight 46 = .ok (.iload_n 1, 1) := dw27 (n := 32) (i := 14) kc_cX10_weight_1 (by decide +kernel)
theorem dX10_weight_47 : decode cX10_weight 47 = .ok (.invokevirtual 174, 3) := dw182 (n := 32) (i := 15) (a := 0) (b := 174) kc_cX10_weight_1 (by decide +kernel) (by decide)
set_option maxRecDepth 20000 in
theorem ggX10_weight_X0_allPoints : GoodIn wsX10_weight wsX0_allPoints := (gk_code 33 rfl (gk_fieldLink 34 rfl (gk_lays 51 rfl (gk_laysFinal 52 rfl (gk_laysFinal 53 rfl (gk_laysFinal 54 rfl (gk_laysFinal 55 rfl (gn))))))))
set_option maxRecDepth 20000 in
theorem gX10_weight_X0_allPoints : GoodIn wsX10_weight (wsV RX10 174 RX0 yX0_allPoints wsX0_allPoints) := goodIn_app (gk_methodLink 30 rfl (gk_instanceMethod 31 rfl (gk_selects 32 rfl (gk_initialized 7 rfl (gn))))) ggX10_weight_X0_allPoints
theorem dX10_weight_50 : decode cX10_weight 50 = .ok (.istore_n 3, 1) := dw62 (n := 32) (i := 18) kc_cX10_weight_1 (by decide +kernel)
theorem dX10_weight_51 : decode cX10_weight 51 = .ok (.iload_n 3, 1) := dw29 (n := 32) (i := 19) kc_cX10_weight_1 (by decide +kernel)
theorem dX10_weight_52 : decode cX10_weight 52 = .ok (.ifCond .ne 9, 3) := dw154 (n := 32) (i := 20) (a := 0) (b := 9) kc_cX10_weight_1 (by decide +kernel) (by decide)
theorem dX10_weight_61 : decode cX10_weight 61 = .ok (.aload_n 0, 1) := dw42 (n := 32) (i := 29) kc_cX10_weight_1 (by decide +kernel)
theorem dX10_weight_62 : decode cX10_weight 62 = .ok (.getfield 19, 3) := dw180 (n := 32) (i := 30) (a := 0) (b := 19) kc_cX10_weight_1 (by decide +kernel) (by decide)
theorem dX10_weight_65 : decode cX10_weight 65 = .ok (.getfield 127, 3) := dw180 (n := 64) (i := 1) (a := 0) (b := 127) kc_cX10_weight_2 (by decide +kernel) (by decide)
theorem in_X10_weight_0 : ∀ w ∈ u_ws RX0 TX0 5, w ∈ wsX10_weight := fun _ h => List.mem_cons_of_mem _ (List.mem_append_left _ (List.mem_append_right _ h))
theorem dX10_weight_68 : decode cX10_weight 68 = .ok (.iload_n 1, 1) := dw27 (n := 64) (i := 4) kc_cX10_weight_2 (by decide +kernel)
theorem dX10_weight_69 : decode cX10_weight 69 = .ok (.aaload, 1) := dw50 (n := 64) (i := 5) kc_cX10_weight_2 (by decide +kernel)
theorem dX10_weight_70 : decode cX10_weight 70 = .ok (.iload_n 2, 1) := dw28 (n := 64) (i := 6) kc_cX10_weight_2 (by decide +kernel)
theorem dX10_weight_71 : decode cX10_weight 71 = .ok (.iaload, 1) := dw46 (n := 64) (i := 7) kc_cX10_weight_2 (by decide +kernel)
theorem dX10_weight_72 : decode cX10_weight 72 = .ok (.iload_n 3, 1) := dw29 (n := 64) (i := 8) kc_cX10_weight_2 (by decide +kernel)
theorem dX10_weight_73 : decode cX10_weight 73 = .ok (.invokestatic 171, 3) := dw184 (n := 64) (i := 9) (a := 0) (b := 171) kc_cX10_weight_2 (by decide +kernel) (by decide)
set_option maxRecDepth 20000 in
theorem ggX10_weight_X10_thousandths : GoodIn wsX10_weight wsX10_thousandths := (gk_code 37 rfl (gn))
set_option maxRecDepth 20000 in
theorem gX10_weight_X10_thousandths : GoodIn wsX10_weight (va_wsS RX10 171 yX10_thousandths wsX10_thousandths) := goodIn_app (gk_methodLink 35 rfl (gk_static 36 rfl (gk_initialized 22 rfl (gn)))) ggX10_weight_X10_thousandths
theorem dX10_weight_76 : decode cX10_weight 76 = .ok (.ireturn, 1) := dw172 (n := 64) (i := 12) kc_cX10_weight_2 (by decide +kernel)
theorem dX10_weight_55 : decode cX10_weight 55 = .ok (.aload_n 0, 1) := dw42 (n := 32) (i := 23) kc_cX10_weight_1 (by decide +kernel)
theorem dX10_weight_56 : decode cX10_weight 56 = .ok (.iconst 4, 1) := dw7 (n := 32) (i := 24) kc_cX10_weight_1 (by decide +kernel)
theorem dX10_weight_57 : decode cX10_weight 57 = .ok (.invokevirtual 117, 3) := dw182 (n := 32) (i := 25) (a := 0) (b := 117) kc_cX10_weight_1 (by decide +kernel) (by decide)
set_option maxRecDepth 20000 in
theorem ggX10_weight_X10_found : GoodIn wsX10_weight wsX10_found := (gk_code 27 rfl (gk_fieldLink 28 rfl (gk_fieldLink 29 rfl (gk_laysFinal 38 rfl (gk_laysFinal 39 rfl (gk_laysFinal 40 rfl (gk_laysFinal 41 rfl (gk_laysFinal 42 rfl (gk_laysFinal 43 rfl (gk_laysFinal 44 rfl (gk_laysFinal 45 rfl (gk_lays 46 rfl (gk_lays 47 rfl (gk_lays 48 rfl (gk_lays 49 rfl (gk_laysFinal 50 rfl (gn)))))))))))))))))
set_option maxRecDepth 20000 in
theorem gX10_weight_X10_found : GoodIn wsX10_weight (wsV RX10 117 RX10 yX10_found wsX10_found) := goodIn_app (gk_methodLink 24 rfl (gk_instanceMethod 25 rfl (gk_selects 26 rfl (gk_initialized 22 rfl (gn))))) ggX10_weight_X10_found
theorem dX10_weight_60 : decode cX10_weight 60 = .ok (.ireturn, 1) := dw172 (n := 32) (i := 28) kc_cX10_weight_1 (by decide +kernel)
theorem dX10_weight_36 : decode cX10_weight 36 = .ok (.aload_n 0, 1) := dw42 (n := 32) (i := 4) kc_cX10_weight_1 (by decide +kernel)
theorem dX10_weight_37 : decode cX10_weight 37 = .ok (.iconst 3, 1) := dw6 (n := 32) (i := 5) kc_cX10_weight_1 (by decide +kernel)
theorem dX10_weight_38 : decode cX10_weight 38 = .ok (.invokevirtual 117, 3) := dw182 (n := 32) (i := 6) (a := 0) (b := 117) kc_cX10_weight_1 (by decide +kernel) (by decide)
theorem dX10_weight_41 : decode cX10_weight 41 = .ok (.ireturn, 1) := dw172 (n := 32) (i := 9) kc_cX10_weight_1 (by decide +kernel)
theorem dX10_method_0 : decode cX10_method 0 = .ok (.iload_n 1, 1) := dw27 (n := 0) (i := 0) kc_cX10_method_0 (by decide +kernel)
theorem dX10_method_1 : decode cX10_method 1 = .ok (.invokestatic 177, 3) := dw184 (n := 0) (i := 1) (a := 0) (b := 177) kc_cX10_method_0 (by decide +kernel) (by decide)
set_option maxRecDepth 20000 in
theorem ggX10_method_X10_isKind : GoodIn wsX10_method wsX10_isKind := (gk_code 5 rfl (gk_fieldLink 6 rfl (gn)))
set_option maxRecDepth 20000 in
theorem gX10_method_X10_isKind : GoodIn wsX10_method (va_wsS RX10 177 yX10_isKind wsX10_isKind) := goodIn_app (gk_methodLink 2 rfl (gk_static 3 rfl (gk_initialized 4 rfl (gn)))) ggX10_method_X10_isKind
theorem dX10_method_4 : decode cX10_method 4 = .ok (.ifCond .eq 33, 3) := dw153 (n := 0) (i := 4) (a := 0) (b := 33) kc_cX10_method_0 (by decide +kernel) (by decide)
theorem dX10_method_37 : decode cX10_method 37 = .ok (.iconst (-1), 1) := dw2 (n := 32) (i := 5) kc_cX10_method_1 (by decide +kernel)
theorem dX10_method_38 : decode cX10_method 38 = .ok (.ireturn, 1) := dw172 (n := 32) (i := 6) kc_cX10_method_1 (by decide +kernel)
theorem dX10_method_7 : decode cX10_method 7 = .ok (.iload_n 3, 1) := dw29 (n := 0) (i := 7) kc_cX10_method_0 (by decide +kernel)
theorem dX10_method_8 : decode cX10_method 8 = .ok (.ifCond .lt 29, 3) := dw155 (n := 0) (i := 8) (a := 0) (b := 29) kc_cX10_method_0 (by decide +kernel) (by decide)
theorem dX10_method_11 : decode cX10_method 11 = .ok (.iload_n 3, 1) := dw29 (n := 0) (i := 11) kc_cX10_method_0 (by decide +kernel)
theorem dX10_method_12 : decode cX10_method 12 = .ok (.sipush 255, 3) := dw17 (n := 0) (i := 12) (a := 0) (b := 255) kc_cX10_method_0 (by decide +kernel) (by decide)
theorem dX10_method_15 : decode cX10_method 15 = .ok (.if_icmp .gt 22, 3) := dw163 (n := 0) (i := 15) (a := 0) (b := 22) kc_cX10_method_0 (by decide +kernel) (by decide)
theorem dX10_method_18 : decode cX10_method 18 = .ok (.iload 4, 2) := dw21 (n := 0) (i := 18) (a := 4) kc_cX10_method_0 (by decide +kernel) (by decide)
theorem dX10_method_20 : decode cX10_method 20 = .ok (.bipush (-9), 2) := dw16 (n := 0) (i := 20) (a := 247) kc_cX10_method_0 (by decide +kernel) (by decide)
theorem dX10_method_22 : decode cX10_method 22 = .ok (.if_icmp .eq 17, 3) := dw159 (n := 0) (i := 22) (a := 0) (b := 17) kc_cX10_method_0 (by decide +kernel) (by decide)
theorem dX10_method_39 : decode cX10_method 39 = .ok (.aload_n 0, 1) := dw42 (n := 32) (i := 7) kc_cX10_method_1 (by decide +kernel)
theorem dX10_method_40 : decode cX10_method 40 = .ok (.getfield 33, 3) := dw180 (n := 32) (i := 8) (a := 0) (b := 33) kc_cX10_method_1 (by decide +kernel) (by decide)
theorem in_X10_method_10 : ∀ w ∈ u_ws RX10 TX10 13, w ∈ wsX10_method := fun _ h => List.mem_cons_of_mem _ (List.mem_append_left _ (List.mem_append_right _ h))
theorem dX10_method_43 : decode cX10_method 43 = .ok (.iload_n 1, 1) := dw27 (n := 32) (i := 11) kc_cX10_method_1 (by decide +kernel)
theorem dX10_method_44 : decode cX10_method 44 = .ok (.iload_n 2, 1) := dw28 (n := 32) (i := 12) kc_cX10_method_1 (by decide +kernel)
theorem dX10_method_45 : decode cX10_method 45 = .ok (.iload_n 3, 1) := dw29 (n := 32) (i := 13) kc_cX10_method_1 (by decide +kernel)
theorem dX10_method_46 : decode cX10_method 46 = .ok (.iload 4, 2) := dw21 (n := 32) (i := 14) (a := 4) kc_cX10_method_1 (by decide +kernel) (by decide)
theorem dX10_method_48 : decode cX10_method 48 = .ok (.invokevirtual 181, 3) := dw182 (n := 32) (i := 16) (a := 0) (b := 181) kc_cX10_method_1 (by decide +kernel) (by decide)
set_option maxRecDepth 20000 in
theorem ggX10_method_X4_come : GoodIn wsX10_method wsX4_come := (gk_code 16 rfl (gk_fieldLink 12 rfl (gk_fieldLink 17 rfl (gk_fieldLink 18 rfl (gk_fieldLink 19 rfl (gk_fieldLink 20 rfl (gk_lays 34 rfl (gk_laysFinal 35 rfl (gk_laysFinal 36 rfl (gk_laysFinal 37 rfl (gk_laysFinal 38 rfl (gk_laysFinal 39 rfl (gk_laysFinal 40 rfl (gn))))))))))))))
set_option maxRecDepth 20000 in
theorem gX10_method_X4_come : GoodIn wsX10_method (wsV RX10 181 RX4 yX4_come wsX4_come) := goodIn_app (gk_methodLink 13 rfl (gk_instanceMethod 14 rfl (gk_selects 15 rfl (gk_initialized 10 rfl (gn))))) ggX10_method_X4_come
theorem dX10_method_51 : decode cX10_method 51 = .ok (.ireturn, 1) := dw172 (n := 32) (i := 19) kc_cX10_method_1 (by decide +kernel)
theorem dX10_method_25 : decode cX10_method 25 = .ok (.aload_n 0, 1) := dw42 (n := 0) (i := 25) kc_cX10_method_0 (by decide +kernel)
theorem dX10_method_26 : decode cX10_method 26 = .ok (.getfield 33, 3) := dw180 (n := 0) (i := 26) (a := 0) (b := 33) kc_cX10_method_0 (by decide +kernel) (by decide)
theorem dX10_method_29 : decode cX10_method 29 = .ok (.iload 4, 2) := dw21 (n := 0) (i := 29) (a := 4) kc_cX10_method_0 (by decide +kernel) (by decide)
theorem dX10_method_31 : decode cX10_method 31 = .ok (.invokevirtual 180, 3) := dw182 (n := 0) (i := 31) (a := 0) (b := 180) kc_cX10_method_0 (by decide +kernel) (by decide)
set_option maxRecDepth 20000 in
theorem ggX10_method_X4_has : GoodIn wsX10_method wsX4_has := (gk_code 11 rfl (gk_fieldLink 12 rfl (gk_lays 34 rfl (gk_laysFinal 35 rfl (gk_laysFinal 36 rfl (gk_laysFinal 37 rfl (gk_laysFinal 38 rfl (gk_laysFinal 39 rfl (gk_laysFinal 40 rfl (gn))))))))))
set_option maxRecDepth 20000 in
theorem gX10_method_X4_has : GoodIn wsX10_method (wsV RX10 180 RX4 yX4_has wsX4_has) := goodIn_app (gk_methodLink 7 rfl (gk_instanceMethod 8 rfl (gk_selects 9 rfl (gk_initialized 10 rfl (gn))))) ggX10_method_X4_has
theorem dX10_method_34 : decode cX10_method 34 = .ok (.ifCond .ne 5, 3) := dw154 (n := 32) (i := 2) (a := 0) (b := 5) kc_cX10_method_1 (by decide +kernel) (by decide)
theorem dX10_under_0 : decode cX10_under 0 = .ok (.aload_n 0, 1) := dw42 (n := 0) (i := 0) kc_cX10_under_0 (by decide +kernel)
theorem dX10_under_1 : decode cX10_under 1 = .ok (.getfield 33, 3) := dw180 (n := 0) (i := 1) (a := 0) (b := 33) kc_cX10_under_0 (by decide +kernel) (by decide)
theorem in_X10_under_10 : ∀ w ∈ u_ws RX10 TX10 13, w ∈ wsX10_under := fun _ h => List.mem_cons_of_mem _ (List.mem_append_left _ (List.mem_append_right _ h))
theorem dX10_under_4 : decode cX10_under 4 = .ok (.iload_n 1, 1) := dw27 (n := 0) (i := 4) kc_cX10_under_0 (by decide +kernel)
theorem dX10_under_5 : decode cX10_under 5 = .ok (.invokevirtual 180, 3) := dw182 (n := 0) (i := 5) (a := 0) (b := 180) kc_cX10_under_0 (by decide +kernel) (by decide)
set_option maxRecDepth 20000 in
theorem ggX10_under_X4_has : GoodIn wsX10_under wsX4_has := (gk_code 8 rfl (gk_fieldLink 9 rfl (gk_lays 30 rfl (gk_laysFinal 31 rfl (gk_laysFinal 32 rfl (gk_laysFinal 33 rfl (gk_laysFinal 34 rfl (gk_laysFinal 35 rfl (gk_laysFinal 36 rfl (gn))))))))))
set_option maxRecDepth 20000 in
theorem gX10_under_X4_has : GoodIn wsX10_under (wsV RX10 180 RX4 yX4_has wsX4_has) := goodIn_app (gk_methodLink 4 rfl (gk_instanceMethod 5 rfl (gk_selects 6 rfl (gk_initialized 7 rfl (gn))))) ggX10_under_X4_has
theorem dX10_under_8 : decode cX10_under 8 = .ok (.ifCond .eq 10, 3) := dw153 (n := 0) (i := 8) (a := 0) (b := 10) kc_cX10_under_0 (by decide +kernel) (by decide)
theorem dX10_under_18 : decode cX10_under 18 = .ok (.iconst (-1), 1) := dw2 (n := 0) (i := 18) kc_cX10_under_0 (by decide +kernel)
theorem dX10_under_19 : decode cX10_under 19 = .ok (.ireturn, 1) := dw172 (n := 0) (i := 19) kc_cX10_under_0 (by decide +kernel)
theorem dX10_under_11 : decode cX10_under 11 = .ok (.iload_n 2, 1) := dw28 (n := 0) (i := 11) kc_cX10_under_0 (by decide +kernel)
theorem dX10_under_12 : decode cX10_under 12 = .ok (.invokestatic 177, 3) := dw184 (n := 0) (i := 12) (a := 0) (b := 177) kc_cX10_under_0 (by decide +kernel) (by decide)
set_option maxRecDepth 20000 in
theorem ggX10_under_X10_isKind : GoodIn wsX10_under wsX10_isKind := (gk_code 13 rfl (gk_fieldLink 3 rfl (gn)))
set_option maxRecDepth 20000 in
theorem gX10_under_X10_isKind : GoodIn wsX10_under (va_wsS RX10 177 yX10_isKind wsX10_isKind) := goodIn_app (gk_methodLink 10 rfl (gk_static 11 rfl (gk_initialized 12 rfl (gn)))) ggX10_under_X10_isKind
theorem dX10_under_15 : decode cX10_under 15 = .ok (.ifCond .ne 5, 3) := dw154 (n := 0) (i := 15) (a := 0) (b := 5) kc_cX10_under_0 (by decide +kernel) (by decide)
theorem dX10_under_20 : decode cX10_under 20 = .ok (.aload_n 0, 1) := dw42 (n := 0) (i := 20) kc_cX10_under_0 (by decide +kernel)
theorem dX10_under_21 : decode cX10_under 21 = .ok (.getfield 33, 3) := dw180 (n := 0) (i := 21) (a := 0) (b := 33) kc_cX10_under_0 (by decide +kernel) (by decide)
theorem dX10_under_24 : decode cX10_under 24 = .ok (.getfield 184, 3) := dw180 (n := 0) (i := 24) (a := 0) (b := 184) kc_cX10_under_0 (by decide +kernel) (by decide)
theorem in_X10_under_4 : ∀ w ∈ u_ws RX4 TX4 7, w ∈ wsX10_under := fun _ h => List.mem_cons_of_mem _ (List.mem_append_right _ h)
theorem dX10_under_27 : decode cX10_under 27 = .ok (.iload_n 1, 1) := dw27 (n := 0) (i := 27) kc_cX10_under_0 (by decide +kernel)
theorem dX10_under_28 : decode cX10_under 28 = .ok (.iaload, 1) := dw46 (n := 0) (i := 28) kc_cX10_under_0 (by decide +kernel)
theorem dX10_under_29 : decode cX10_under 29 = .ok (.iload_n 2, 1) := dw28 (n := 0) (i := 29) kc_cX10_under_0 (by decide +kernel)
theorem dX10_under_30 : decode cX10_under 30 = .ok (.getstatic 193, 3) := dw178 (n := 0) (i := 30) (a := 0) (b := 193) kc_cX10_under_0 (by decide +kernel) (by decide)
theorem dX10_under_33 : decode cX10_under 33 = .ok (.invokestatic 196, 3) := dw184 (n := 32) (i := 1) (a := 0) (b := 196) kc_cX10_under_1 (by decide +kernel) (by decide)
set_option maxRecDepth 20000 in
theorem ggX10_under_X10_isUnder : GoodIn wsX10_under wsX10_isUnder := (gk_code 16 rfl (gn))
set_option maxRecDepth 20000 in
theorem gX10_under_X10_isUnder : GoodIn wsX10_under (va_wsS RX10 196 yX10_isUnder wsX10_isUnder) := goodIn_app (gk_methodLink 14 rfl (gk_static 15 rfl (gk_initialized 12 rfl (gn)))) ggX10_under_X10_isUnder
theorem dX10_under_36 : decode cX10_under 36 = .ok (.ifCond .eq 7, 3) := dw153 (n := 32) (i := 4) (a := 0) (b := 7) kc_cX10_under_1 (by decide +kernel) (by decide)
theorem dX10_under_43 : decode cX10_under 43 = .ok (.iconst 0, 1) := dw3 (n := 32) (i := 11) kc_cX10_under_1 (by decide +kernel)
theorem dX10_under_44 : decode cX10_under 44 = .ok (.ireturn, 1) := dw172 (n := 32) (i := 12) kc_cX10_under_1 (by decide +kernel)
theorem dX10_under_39 : decode cX10_under 39 = .ok (.iconst 1, 1) := dw4 (n := 32) (i := 7) kc_cX10_under_1 (by decide +kernel)
theorem dX10_under_40 : decode cX10_under 40 = .ok (.goto 4, 3) := dw167 (n := 32) (i := 8) (a := 0) (b := 4) kc_cX10_under_1 (by decide +kernel) (by decide)
theorem dX10_start_0 : decode cX10_start 0 = .ok (.aload_n 0, 1) := dw42 (n := 0) (i := 0) kc_cX10_start_0 (by decide +kernel)
theorem dX10_start_1 : decode cX10_start 1 = .ok (.getfield 33, 3) := dw180 (n := 0) (i := 1) (a := 0) (b := 33) kc_cX10_start_0 (by decide +kernel) (by decide)
theorem in_X10_start_10 : ∀ w ∈ u_ws RX10 TX10 13, w ∈ wsX10_start := fun _ h => List.mem_cons_of_mem _ (List.mem_append_left _ (List.mem_append_right _ h))
theorem dX10_start_4 : decode cX10_start 4 = .ok (.iload_n 1, 1) := dw27 (n := 0) (i := 4) kc_cX10_start_0 (by decide +kernel)
theorem dX10_start_5 : decode cX10_start 5 = .ok (.invokevirtual 180, 3) := dw182 (n := 0) (i := 5) (a := 0) (b := 180) kc_cX10_start_0 (by decide +kernel) (by decide)
set_option maxRecDepth 20000 in
theorem ggX10_start_X4_has : GoodIn wsX10_start wsX4_has := (gk_code 6 rfl (gk_fieldLink 7 rfl (gk_lays 30 rfl (gk_laysFinal 31 rfl (gk_laysFinal 32 rfl (gk_laysFinal 33 rfl (gk_laysFinal 34 rfl (gk_laysFinal 35 rfl (gk_laysFinal 36 rfl (gn))))))))))
set_option maxRecDepth 20000 in
theorem gX10_start_X4_has : GoodIn wsX10_start (wsV RX10 180 RX4 yX4_has wsX4_has) := goodIn_app (gk_methodLink 2 rfl (gk_instanceMethod 3 rfl (gk_selects 4 rfl (gk_initialized 5 rfl (gn))))) ggX10_start_X4_has
theorem dX10_start_8 : decode cX10_start 8 = .ok (.ifCond .eq 14, 3) := dw153 (n := 0) (i := 8) (a := 0) (b := 14) kc_cX10_start_0 (by decide +kernel) (by decide)
theorem dX10_start_22 : decode cX10_start 22 = .ok (.iconst (-1), 1) := dw2 (n := 0) (i := 22) kc_cX10_start_0 (by decide +kernel)
theorem dX10_start_23 : decode cX10_start 23 = .ok (.ireturn, 1) := dw172 (n := 0) (i := 23) kc_cX10_start_0 (by decide +kernel)
theorem dX10_start_11 : decode cX10_start 11 = .ok (.aload_n 0, 1) := dw42 (n := 0) (i := 11) kc_cX10_start_0 (by decide +kernel)
theorem dX10_start_12 : decode cX10_start 12 = .ok (.getfield 33, 3) := dw180 (n := 0) (i := 12) (a := 0) (b := 33) kc_cX10_start_0 (by decide +kernel) (by decide)
theorem dX10_start_15 : decode cX10_start 15 = .ok (.iload_n 1, 1) := dw27 (n := 0) (i := 15) kc_cX10_start_0 (by decide +kernel)
theorem dX10_start_16 : decode cX10_start 16 = .ok (.invokevirtual 200, 3) := dw182 (n := 0) (i := 16) (a := 0) (b := 200) kc_cX10_start_0 (by decide +kernel) (by decide)
set_option maxRecDepth 20000 in
theorem ggX10_start_X4_begin : GoodIn wsX10_start wsX4_begin := (gk_code 11 rfl (gk_fieldLink 12 rfl (gk_fieldLink 13 rfl (gk_fieldLink 14 rfl (gk_fieldLink 15 rfl (gk_methodLink 16 rfl (gk_instanceMethod 3 rfl (gk_selects 4 rfl (gk_initialized 5 rfl (gk_code 6 rfl (gk_fieldLink 7 rfl (gk_lays 30 rfl (gk_laysFinal 31 rfl (gk_laysFinal 32 rfl (gk_laysFinal 33 rfl (gk_laysFinal 34 rfl (gk_laysFinal 35 rfl (gk_laysFinal 36 rfl (gn)))))))))))))))))))
set_option maxRecDepth 20000 in
theorem gX10_start_X4_begin : GoodIn wsX10_start (wsV RX10 200 RX4 yX4_begin wsX4_begin) := goodIn_app (gk_methodLink 8 rfl (gk_instanceMethod 9 rfl (gk_selects 10 rfl (gk_initialized 5 rfl (gn))))) ggX10_start_X4_begin
theorem dX10_start_19 : decode cX10_start 19 = .ok (.goto 4, 3) := dw167 (n := 0) (i := 19) (a := 0) (b := 4) kc_cX10_start_0 (by decide +kernel) (by decide)
theorem dX10_find_0 : decode cX10_find 0 = .ok (.iload_n 1, 1) := dw27 (n := 0) (i := 0) kc_cX10_find_0 (by decide +kernel)
theorem dX10_find_1 : decode cX10_find 1 = .ok (.ifCond .lt 9, 3) := dw155 (n := 0) (i := 1) (a := 0) (b := 9) kc_cX10_find_0 (by decide +kernel) (by decide)
theorem dX10_find_10 : decode cX10_find 10 = .ok (.iconst (-1), 1) := dw2 (n := 0) (i := 10) kc_cX10_find_0 (by decide +kernel)
theorem dX10_find_11 : decode cX10_find 11 = .ok (.goto 11, 3) := dw167 (n := 0) (i := 11) (a := 0) (b := 11) kc_cX10_find_0 (by decide +kernel) (by decide)
theorem dX10_find_22 : decode cX10_find 22 = .ok (.ireturn, 1) := dw172 (n := 0) (i := 22) kc_cX10_find_0 (by decide +kernel)
theorem dX10_find_4 : decode cX10_find 4 = .ok (.iload_n 1, 1) := dw27 (n := 0) (i := 4) kc_cX10_find_0 (by decide +kernel)
theorem dX10_find_5 : decode cX10_find 5 = .ok (.bipush 8, 2) := dw16 (n := 0) (i := 5) (a := 8) kc_cX10_find_0 (by decide +kernel) (by decide)
theorem dX10_find_7 : decode cX10_find 7 = .ok (.if_icmp .lt 7, 3) := dw161 (n := 0) (i := 7) (a := 0) (b := 7) kc_cX10_find_0 (by decide +kernel) (by decide)
theorem dX10_find_14 : decode cX10_find 14 = .ok (.aload_n 0, 1) := dw42 (n := 0) (i := 14) kc_cX10_find_0 (by decide +kernel)
theorem dX10_find_15 : decode cX10_find 15 = .ok (.getfield 33, 3) := dw180 (n := 0) (i := 15) (a := 0) (b := 33) kc_cX10_find_0 (by decide +kernel) (by decide)
theorem in_X10_find_10 : ∀ w ∈ u_ws RX10 TX10 13, w ∈ wsX10_find := fun _ h => List.mem_cons_of_mem _ (List.mem_append_left _ (List.mem_append_right _ h))
theorem dX10_find_18 : decode cX10_find 18 = .ok (.iload_n 1, 1) := dw27 (n := 0) (i := 18) kc_cX10_find_0 (by decide +kernel)
theorem dX10_find_19 : decode cX10_find 19 = .ok (.invokevirtual 203, 3) := dw182 (n := 0) (i := 19) (a := 0) (b := 203) kc_cX10_find_0 (by decide +kernel) (by decide)
set_option maxRecDepth 20000 in
theorem ggX10_find_X4_firstToStart : GoodIn wsX10_find wsX4_firstToStart := (gk_code 6 rfl (gk_fieldLink 7 rfl (gk_methodLink 8 rfl (gk_instanceMethod 9 rfl (gk_selects 10 rfl (gk_initialized 5 rfl (gk_code 11 rfl (gk_fieldLink 12 rfl (gk_fieldLink 13 rfl (gk_fieldLink 14 rfl (gk_methodLink 15 rfl (gk_instanceMethod 16 rfl (gk_selects 17 rfl (gk_code 18 rfl (gk_fieldLink 19 rfl (gk_fieldLink 20 rfl (gk_fieldLink 21 rfl (gk_methodLink 22 rfl (gk_instanceMethod 23 rfl (gk_selects 24 rfl (gk_code 25 rfl (gk_lays 39 rfl (gk_laysFinal 40 rfl (gk_laysFinal 41 rfl (gk_laysFinal 42 rfl (gk_laysFinal 43 rfl (gk_laysFinal 44 rfl (gk_laysFinal 45 rfl (gn)))))))))))))))))))))))))))))
set_option maxRecDepth 20000 in
theorem gX10_find_X4_firstToStart : GoodIn wsX10_find (wsV RX10 203 RX4 yX4_firstToStart wsX4_firstToStart) := goodIn_app (gk_methodLink 2 rfl (gk_instanceMethod 3 rfl (gk_selects 4 rfl (gk_initialized 5 rfl (gn))))) ggX10_find_X4_firstToStart
theorem dX10_where_0 : decode cX10_where 0 = .ok (.aload_n 0, 1) := dw42 (n := 0) (i := 0) kc_cX10_where_0 (by decide +kernel)
theorem dX10_where_1 : decode cX10_where 1 = .ok (.getfield 79, 3) := dw180 (n := 0) (i := 1) (a := 0) (b := 79) kc_cX10_where_0 (by decide +kernel) (by decide)
theorem in_X10_where_10 : ∀ w ∈ u_ws RX10 TX10 13, w ∈ wsX10_where := fun _ h => List.mem_cons_of_mem _ (List.mem_append_right _ h)
theorem dX10_where_4 : decode cX10_where 4 = .ok (.ireturn, 1) := dw172 (n := 0) (i := 4) kc_cX10_where_0 (by decide +kernel)
theorem dX10_finding_0 : decode cX10_finding 0 = .ok (.aload_n 0, 1) := dw42 (n := 0) (i := 0) kc_cX10_finding_0 (by decide +kernel)
theorem dX10_finding_1 : decode cX10_finding 1 = .ok (.getfield 83, 3) := dw180 (n := 0) (i := 1) (a := 0) (b := 83) kc_cX10_finding_0 (by decide +kernel) (by decide)
theorem in_X10_finding_10 : ∀ w ∈ u_ws RX10 TX10 13, w ∈ wsX10_finding := fun _ h => List.mem_cons_of_mem _ (List.mem_append_right _ h)
theorem dX10_finding_4 : decode cX10_finding 4 = .ok (.ireturn, 1) := dw172 (n := 0) (i := 4) kc_cX10_finding_0 (by decide +kernel)
theorem dX10_findings_0 : decode cX10_findings 0 = .ok (.iload_n 1, 1) := dw27 (n := 0) (i := 0) kc_cX10_findings_0 (by decide +kernel)
theorem dX10_findings_1 : decode cX10_findings 1 = .ok (.iconst 1, 1) := dw4 (n := 0) (i := 1) kc_cX10_findings_0 (by decide +kernel)
theorem dX10_findings_2 : decode cX10_findings 2 = .ok (.if_icmp .lt 18, 3) := dw161 (n := 0) (i := 2) (a := 0) (b := 18) kc_cX10_findings_0 (by decide +kernel) (by decide)
theorem dX10_findings_20 : decode cX10_findings 20 = .ok (.iconst (-1), 1) := dw2 (n := 0) (i := 20) kc_cX10_findings_0 (by decide +kernel)
theorem dX10_findings_21 : decode cX10_findings 21 = .ok (.ireturn, 1) := dw172 (n := 0) (i := 21) kc_cX10_findings_0 (by decide +kernel)
theorem dX10_findings_5 : decode cX10_findings 5 = .ok (.iload_n 1, 1) := dw27 (n := 0) (i := 5) kc_cX10_findings_0 (by decide +kernel)
theorem dX10_findings_6 : decode cX10_findings 6 = .ok (.bipush 6, 2) := dw16 (n := 0) (i := 6) (a := 6) kc_cX10_findings_0 (by decide +kernel) (by decide)
theorem dX10_findings_8 : decode cX10_findings 8 = .ok (.if_icmp .gt 12, 3) := dw163 (n := 0) (i := 8) (a := 0) (b := 12) kc_cX10_findings_0 (by decide +kernel) (by decide)
theorem dX10_findings_11 : decode cX10_findings 11 = .ok (.aload_n 0, 1) := dw42 (n := 0) (i := 11) kc_cX10_findings_0 (by decide +kernel)
theorem dX10_findings_12 : decode cX10_findings 12 = .ok (.getfield 86, 3) := dw180 (n := 0) (i := 12) (a := 0) (b := 86) kc_cX10_findings_0 (by decide +kernel) (by decide)
theorem in_X10_findings_10 : ∀ w ∈ u_ws RX10 TX10 13, w ∈ wsX10_findings := fun _ h => List.mem_cons_of_mem _ (List.mem_append_right _ h)
theorem dX10_findings_15 : decode cX10_findings 15 = .ok (.iload_n 1, 1) := dw27 (n := 0) (i := 15) kc_cX10_findings_0 (by decide +kernel)
theorem dX10_findings_16 : decode cX10_findings 16 = .ok (.iaload, 1) := dw46 (n := 0) (i := 16) kc_cX10_findings_0 (by decide +kernel)
theorem dX10_findings_17 : decode cX10_findings 17 = .ok (.goto 4, 3) := dw167 (n := 0) (i := 17) (a := 0) (b := 4) kc_cX10_findings_0 (by decide +kernel) (by decide)
