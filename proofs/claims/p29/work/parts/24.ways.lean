theorem dX9_addBallot_0 : decode cX9_addBallot 0 = .ok (.aload_n 0, 1) := dw42 (n := 0) (i := 0) kc_cX9_addBallot_0 (by decide +kernel)
theorem dX9_addBallot_1 : decode cX9_addBallot 1 = .ok (.getfield 23, 3) := dw180 (n := 0) (i := 1) (a := 0) (b := 23) kc_cX9_addBallot_0 (by decide +kernel) (by decide)
theorem in_X9_addBallot_9 : ∀ w ∈ u_ws RX9 TX9 4, w ∈ wsX9_addBallot := fun _ h => List.mem_cons_of_mem _ (List.mem_append_left _ (List.mem_append_left _ (List.mem_append_left _ (List.mem_append_right _ h))))
theorem dX9_addBallot_4 : decode cX9_addBallot 4 = .ok (.getfield 77, 3) := dw180 (n := 0) (i := 4) (a := 0) (b := 77) kc_cX9_addBallot_0 (by decide +kernel) (by decide)
theorem in_X9_addBallot_6 : ∀ w ∈ u_ws RX6 TX6 8, w ∈ wsX9_addBallot := fun _ h => List.mem_cons_of_mem _ (List.mem_append_left _ (List.mem_append_left _ (List.mem_append_right _ h)))
theorem dX9_addBallot_7 : decode cX9_addBallot 7 = .ok (.getfield 81, 3) := dw180 (n := 0) (i := 7) (a := 0) (b := 81) kc_cX9_addBallot_0 (by decide +kernel) (by decide)
theorem in_X9_addBallot_2 : ∀ w ∈ u_ws RX2 TX2 2, w ∈ wsX9_addBallot := fun _ h => List.mem_cons_of_mem _ (List.mem_append_left _ (List.mem_append_right _ h))
theorem dX9_addBallot_10 : decode cX9_addBallot 10 = .ok (.istore_n 2, 1) := dw61 (n := 0) (i := 10) kc_cX9_addBallot_0 (by decide +kernel)
theorem dX9_addBallot_11 : decode cX9_addBallot 11 = .ok (.aload_n 0, 1) := dw42 (n := 0) (i := 11) kc_cX9_addBallot_0 (by decide +kernel)
theorem dX9_addBallot_12 : decode cX9_addBallot 12 = .ok (.getfield 23, 3) := dw180 (n := 0) (i := 12) (a := 0) (b := 23) kc_cX9_addBallot_0 (by decide +kernel) (by decide)
theorem dX9_addBallot_15 : decode cX9_addBallot 15 = .ok (.iload_n 1, 1) := dw27 (n := 0) (i := 15) kc_cX9_addBallot_0 (by decide +kernel)
theorem dX9_addBallot_16 : decode cX9_addBallot 16 = .ok (.invokevirtual 84, 3) := dw182 (n := 0) (i := 16) (a := 0) (b := 84) kc_cX9_addBallot_0 (by decide +kernel) (by decide)
set_option maxRecDepth 20000 in
theorem ggX9_addBallot_X6_papersOf : GoodIn wsX9_addBallot wsX6_papersOf := (gk_code 12 rfl (gk_fieldLink 13 rfl (gk_fieldLink 14 rfl (gk_fieldLink 15 rfl (gk_laysFinal 27 rfl (gk_laysFinal 28 rfl (gk_laysFinal 29 rfl (gk_lays 30 rfl (gk_lays 31 rfl (gk_laysFinal 32 rfl (gk_laysFinal 33 rfl (gk_laysFinal 34 rfl (gk_lays 37 rfl (gk_laysFinal 38 rfl (gk_laysFinal 39 rfl (gk_laysFinal 40 rfl (gk_laysFinal 41 rfl (gn))))))))))))))))))
set_option maxRecDepth 20000 in
theorem gX9_addBallot_X6_papersOf : GoodIn wsX9_addBallot (wsV RX9 84 RX6 yX6_papersOf wsX6_papersOf) := goodIn_app (gk_methodLink 8 rfl (gk_instanceMethod 9 rfl (gk_selects 10 rfl (gk_initialized 11 rfl (gn))))) ggX9_addBallot_X6_papersOf
theorem dX9_addBallot_19 : decode cX9_addBallot 19 = .ok (.istore_n 3, 1) := dw62 (n := 0) (i := 19) kc_cX9_addBallot_0 (by decide +kernel)
theorem dX9_addBallot_20 : decode cX9_addBallot 20 = .ok (.iconst 0, 1) := dw3 (n := 0) (i := 20) kc_cX9_addBallot_0 (by decide +kernel)
theorem dX9_addBallot_21 : decode cX9_addBallot 21 = .ok (.istore 4, 2) := dw54 (n := 0) (i := 21) (a := 4) kc_cX9_addBallot_0 (by decide +kernel) (by decide)
theorem dX9_addBallot_23 : decode cX9_addBallot 23 = .ok (.iload 4, 2) := dw21 (n := 0) (i := 23) (a := 4) kc_cX9_addBallot_0 (by decide +kernel) (by decide)
theorem dX9_addBallot_25 : decode cX9_addBallot 25 = .ok (.iload_n 2, 1) := dw28 (n := 0) (i := 25) kc_cX9_addBallot_0 (by decide +kernel)
theorem dX9_addBallot_26 : decode cX9_addBallot 26 = .ok (.if_icmp .ge 37, 3) := dw162 (n := 0) (i := 26) (a := 0) (b := 37) kc_cX9_addBallot_0 (by decide +kernel) (by decide)
theorem dX9_addBallot_63 : decode cX9_addBallot 63 = .ok (.iconst 0, 1) := dw3 (n := 32) (i := 31) kc_cX9_addBallot_1 (by decide +kernel)
theorem dX9_addBallot_64 : decode cX9_addBallot 64 = .ok (.istore 4, 2) := dw54 (n := 64) (i := 0) (a := 4) kc_cX9_addBallot_2 (by decide +kernel) (by decide)
theorem dX9_addBallot_66 : decode cX9_addBallot 66 = .ok (.iload 4, 2) := dw21 (n := 64) (i := 2) (a := 4) kc_cX9_addBallot_2 (by decide +kernel) (by decide)
theorem dX9_addBallot_68 : decode cX9_addBallot 68 = .ok (.iload_n 2, 1) := dw28 (n := 64) (i := 4) kc_cX9_addBallot_2 (by decide +kernel)
theorem dX9_addBallot_69 : decode cX9_addBallot 69 = .ok (.if_icmp .ge 59, 3) := dw162 (n := 64) (i := 5) (a := 0) (b := 59) kc_cX9_addBallot_2 (by decide +kernel) (by decide)
theorem dX9_addBallot_128 : decode cX9_addBallot 128 = .ok (.return_, 1) := dw177 (n := 128) (i := 0) kc_cX9_addBallot_4 (by decide +kernel)
theorem dX9_addBallot_72 : decode cX9_addBallot 72 = .ok (.iconst 0, 1) := dw3 (n := 64) (i := 8) kc_cX9_addBallot_2 (by decide +kernel)
theorem dX9_addBallot_73 : decode cX9_addBallot 73 = .ok (.istore 5, 2) := dw54 (n := 64) (i := 9) (a := 5) kc_cX9_addBallot_2 (by decide +kernel) (by decide)
theorem dX9_addBallot_75 : decode cX9_addBallot 75 = .ok (.iload 5, 2) := dw21 (n := 64) (i := 11) (a := 5) kc_cX9_addBallot_2 (by decide +kernel) (by decide)
theorem dX9_addBallot_77 : decode cX9_addBallot 77 = .ok (.iload_n 2, 1) := dw28 (n := 64) (i := 13) kc_cX9_addBallot_2 (by decide +kernel)
theorem dX9_addBallot_78 : decode cX9_addBallot 78 = .ok (.if_icmp .ge 44, 3) := dw162 (n := 64) (i := 14) (a := 0) (b := 44) kc_cX9_addBallot_2 (by decide +kernel) (by decide)
theorem dX9_addBallot_122 : decode cX9_addBallot 122 = .ok (.iinc 4 1, 3) := by decide +kernel
theorem dX9_addBallot_125 : decode cX9_addBallot 125 = .ok (.goto (-59), 3) := dw167 (n := 96) (i := 29) (a := 255) (b := 197) kc_cX9_addBallot_3 (by decide +kernel) (by decide)
theorem dX9_addBallot_81 : decode cX9_addBallot 81 = .ok (.aload_n 0, 1) := dw42 (n := 64) (i := 17) kc_cX9_addBallot_2 (by decide +kernel)
theorem dX9_addBallot_82 : decode cX9_addBallot 82 = .ok (.getfield 17, 3) := dw180 (n := 64) (i := 18) (a := 0) (b := 17) kc_cX9_addBallot_2 (by decide +kernel) (by decide)
theorem dX9_addBallot_85 : decode cX9_addBallot 85 = .ok (.iload 4, 2) := dw21 (n := 64) (i := 21) (a := 4) kc_cX9_addBallot_2 (by decide +kernel) (by decide)
theorem dX9_addBallot_87 : decode cX9_addBallot 87 = .ok (.aaload, 1) := dw50 (n := 64) (i := 23) kc_cX9_addBallot_2 (by decide +kernel)
theorem dX9_addBallot_88 : decode cX9_addBallot 88 = .ok (.iload 5, 2) := dw21 (n := 64) (i := 24) (a := 5) kc_cX9_addBallot_2 (by decide +kernel) (by decide)
theorem dX9_addBallot_90 : decode cX9_addBallot 90 = .ok (.dup2, 1) := dw92 (n := 64) (i := 26) kc_cX9_addBallot_2 (by decide +kernel)
theorem dX9_addBallot_91 : decode cX9_addBallot 91 = .ok (.iaload, 1) := dw46 (n := 64) (i := 27) kc_cX9_addBallot_2 (by decide +kernel)
theorem dX9_addBallot_92 : decode cX9_addBallot 92 = .ok (.aload_n 0, 1) := dw42 (n := 64) (i := 28) kc_cX9_addBallot_2 (by decide +kernel)
theorem dX9_addBallot_93 : decode cX9_addBallot 93 = .ok (.getfield 9, 3) := dw180 (n := 64) (i := 29) (a := 0) (b := 9) kc_cX9_addBallot_2 (by decide +kernel) (by decide)
theorem dX9_addBallot_96 : decode cX9_addBallot 96 = .ok (.iload 4, 2) := dw21 (n := 96) (i := 0) (a := 4) kc_cX9_addBallot_3 (by decide +kernel) (by decide)
theorem dX9_addBallot_98 : decode cX9_addBallot 98 = .ok (.iaload, 1) := dw46 (n := 96) (i := 2) kc_cX9_addBallot_3 (by decide +kernel)
theorem dX9_addBallot_99 : decode cX9_addBallot 99 = .ok (.aload_n 0, 1) := dw42 (n := 96) (i := 3) kc_cX9_addBallot_3 (by decide +kernel)
theorem dX9_addBallot_100 : decode cX9_addBallot 100 = .ok (.getfield 9, 3) := dw180 (n := 96) (i := 4) (a := 0) (b := 9) kc_cX9_addBallot_3 (by decide +kernel) (by decide)
theorem dX9_addBallot_103 : decode cX9_addBallot 103 = .ok (.iload 5, 2) := dw21 (n := 96) (i := 7) (a := 5) kc_cX9_addBallot_3 (by decide +kernel) (by decide)
theorem dX9_addBallot_105 : decode cX9_addBallot 105 = .ok (.iaload, 1) := dw46 (n := 96) (i := 9) kc_cX9_addBallot_3 (by decide +kernel)
theorem dX9_addBallot_106 : decode cX9_addBallot 106 = .ok (.if_icmp .ge 7, 3) := dw162 (n := 96) (i := 10) (a := 0) (b := 7) kc_cX9_addBallot_3 (by decide +kernel) (by decide)
theorem dX9_addBallot_113 : decode cX9_addBallot 113 = .ok (.iconst 0, 1) := dw3 (n := 96) (i := 17) kc_cX9_addBallot_3 (by decide +kernel)
theorem dX9_addBallot_114 : decode cX9_addBallot 114 = .ok (.iadd, 1) := dw96 (n := 96) (i := 18) kc_cX9_addBallot_3 (by decide +kernel)
theorem dX9_addBallot_115 : decode cX9_addBallot 115 = .ok (.iastore, 1) := dw79 (n := 96) (i := 19) kc_cX9_addBallot_3 (by decide +kernel)
theorem dX9_addBallot_116 : decode cX9_addBallot 116 = .ok (.iinc 5 1, 3) := by decide +kernel
theorem dX9_addBallot_119 : decode cX9_addBallot 119 = .ok (.goto (-44), 3) := dw167 (n := 96) (i := 23) (a := 255) (b := 212) kc_cX9_addBallot_3 (by decide +kernel) (by decide)
theorem dX9_addBallot_109 : decode cX9_addBallot 109 = .ok (.iload_n 3, 1) := dw29 (n := 96) (i := 13) kc_cX9_addBallot_3 (by decide +kernel)
theorem dX9_addBallot_110 : decode cX9_addBallot 110 = .ok (.goto 4, 3) := dw167 (n := 96) (i := 14) (a := 0) (b := 4) kc_cX9_addBallot_3 (by decide +kernel) (by decide)
theorem dX9_addBallot_29 : decode cX9_addBallot 29 = .ok (.aload_n 0, 1) := dw42 (n := 0) (i := 29) kc_cX9_addBallot_0 (by decide +kernel)
theorem dX9_addBallot_30 : decode cX9_addBallot 30 = .ok (.getfield 9, 3) := dw180 (n := 0) (i := 30) (a := 0) (b := 9) kc_cX9_addBallot_0 (by decide +kernel) (by decide)
theorem dX9_addBallot_33 : decode cX9_addBallot 33 = .ok (.iload 4, 2) := dw21 (n := 32) (i := 1) (a := 4) kc_cX9_addBallot_1 (by decide +kernel) (by decide)
theorem dX9_addBallot_35 : decode cX9_addBallot 35 = .ok (.aload_n 0, 1) := dw42 (n := 32) (i := 3) kc_cX9_addBallot_1 (by decide +kernel)
theorem dX9_addBallot_36 : decode cX9_addBallot 36 = .ok (.getfield 23, 3) := dw180 (n := 32) (i := 4) (a := 0) (b := 23) kc_cX9_addBallot_1 (by decide +kernel) (by decide)
theorem dX9_addBallot_39 : decode cX9_addBallot 39 = .ok (.getfield 87, 3) := dw180 (n := 32) (i := 7) (a := 0) (b := 87) kc_cX9_addBallot_1 (by decide +kernel) (by decide)
theorem dX9_addBallot_42 : decode cX9_addBallot 42 = .ok (.aload_n 0, 1) := dw42 (n := 32) (i := 10) kc_cX9_addBallot_1 (by decide +kernel)
theorem dX9_addBallot_43 : decode cX9_addBallot 43 = .ok (.getfield 23, 3) := dw180 (n := 32) (i := 11) (a := 0) (b := 23) kc_cX9_addBallot_1 (by decide +kernel) (by decide)
theorem dX9_addBallot_46 : decode cX9_addBallot 46 = .ok (.getfield 91, 3) := dw180 (n := 32) (i := 14) (a := 0) (b := 91) kc_cX9_addBallot_1 (by decide +kernel) (by decide)
theorem dX9_addBallot_49 : decode cX9_addBallot 49 = .ok (.iload_n 1, 1) := dw27 (n := 32) (i := 17) kc_cX9_addBallot_1 (by decide +kernel)
theorem dX9_addBallot_50 : decode cX9_addBallot 50 = .ok (.iaload, 1) := dw46 (n := 32) (i := 18) kc_cX9_addBallot_1 (by decide +kernel)
theorem dX9_addBallot_51 : decode cX9_addBallot 51 = .ok (.iload 4, 2) := dw21 (n := 32) (i := 19) (a := 4) kc_cX9_addBallot_1 (by decide +kernel) (by decide)
theorem dX9_addBallot_53 : decode cX9_addBallot 53 = .ok (.invokevirtual 94, 3) := dw182 (n := 32) (i := 21) (a := 0) (b := 94) kc_cX9_addBallot_1 (by decide +kernel) (by decide)
set_option maxRecDepth 20000 in
theorem ggX9_addBallot_X0_placeOf : GoodIn wsX9_addBallot wsX0_placeOf := (gk_code 20 rfl (gk_fieldLink 21 rfl (gk_fieldLink 22 rfl (gk_lays 37 rfl (gk_laysFinal 38 rfl (gk_laysFinal 39 rfl (gk_laysFinal 40 rfl (gk_laysFinal 41 rfl (gn)))))))))
set_option maxRecDepth 20000 in
theorem gX9_addBallot_X0_placeOf : GoodIn wsX9_addBallot (wsV RX9 94 RX0 yX0_placeOf wsX0_placeOf) := goodIn_app (gk_methodLink 16 rfl (gk_instanceMethod 17 rfl (gk_selects 18 rfl (gk_initialized 19 rfl (gn))))) ggX9_addBallot_X0_placeOf
theorem dX9_addBallot_56 : decode cX9_addBallot 56 = .ok (.iastore, 1) := dw79 (n := 32) (i := 24) kc_cX9_addBallot_1 (by decide +kernel)
theorem dX9_addBallot_57 : decode cX9_addBallot 57 = .ok (.iinc 4 1, 3) := by decide +kernel
theorem dX9_addBallot_60 : decode cX9_addBallot 60 = .ok (.goto (-37), 3) := dw167 (n := 32) (i := 28) (a := 255) (b := 219) kc_cX9_addBallot_1 (by decide +kernel) (by decide)
set_option maxHeartbeats 4000000 in
set_option maxRecDepth 100000 in
theorem s_X9_addBallot (l : Launch) (D : va_G) (ad : Nat → Nat) (cs : Nat → ClassId) (M : MI) (L : ML) (x : Int32) (hI : IC M) (hx : 0 ≤ x.toInt ∧ x.toInt < 40) : Cv l yX9_addBallot wsX9_addBallot ({ frames := 1, cells := 0, slots := 0, locals := 23 }) D ad cs [.ref (ad 96), .int x] M L (fun M1 L1 => IC M1 ∧ (∀ k, k ≠ 97 ∧ ¬ (100 ≤ k ∧ k < 120) → M1 k = M k) ∧ ∀ k, 258 ≤ k → L1 k = L k) := by
  refine enter_v RX9 rfl [(0, .ref (ad 96)), (1, .int x)] rfl (Nat.le_of_ble_eq_true rfl) (by decide +kernel) rfl ?_
  intro p e s m below meth c C hr
  have hF : ∀ k, k ≠ 97 ∧ ¬ (100 ≤ k ∧ k < 120) → M k = M k := fun _ _ => rfl
  have hG : ∀ k, 258 ≤ k → L k = L k := fun _ _ => rfl
  obtain ⟨hx1, hx2⟩ := hx
  refine g_aload_n C 0 dX9_addBallot_0 rfl ?_
  refine g_get C (.ref (ad 88)) 0 in_X9_addBallot_9 (List.mem_of_getElem? (i := 1) rfl) (by decide) (ce_ways ad cs _ _) rfl (by decide) rfl rfl dX9_addBallot_1 ?_
  refine g_get C (.ref (ad 1)) 0 in_X9_addBallot_6 (List.mem_of_getElem? (i := 2) rfl) (by decide) (ce_poll ad cs _ _) rfl (by decide) rfl rfl dX9_addBallot_4 ?_
  refine g_get C (.int (M 1 0)) 0 in_X9_addBallot_2 (List.mem_of_getElem? (i := 3) rfl) (by decide) (ce_cand ad cs _ _) rfl (by decide) rfl rfl dX9_addBallot_7 ?_
  refine g_ni (fun v1 ev1 => ?_)
  have tv1 := congrArg Int32.toInt ev1
  obtain ⟨bv1, dv1⟩ := (show rg 0 10 v1 from (by rw [ev1]; exact hI 1 0 rfl))
  refine g_istore_n C [(2, .int v1), (0, .ref (ad 96)), (1, .int x)] dX9_addBallot_10 (by decide) rfl ?_
  refine g_aload_n C 1 dX9_addBallot_11 rfl ?_
  refine g_get C (.ref (ad 88)) 0 in_X9_addBallot_9 (List.mem_of_getElem? (i := 1) rfl) (by decide) (ce_ways ad cs _ _) rfl (by decide) rfl rfl dX9_addBallot_12 ?_
  refine g_iload_n C 2 dX9_addBallot_15 rfl ?_
  refine g_callVi C (n := 1) (As := [.int x]) (st := []) (s_X6_papersOf l D ad cs _ _ x hI ⟨by omega, by omega⟩) gX9_addBallot_X6_papersOf rfl rfl rfl (by decide +kernel) ⟨Nat.le_of_ble_eq_true rfl, Nat.le_of_ble_eq_true rfl⟩ rfl (Nat.le_of_ble_eq_true rfl) ⟨Nat.zero_le _, Nat.zero_le _⟩ (by decide) (ce_poll ad cs _ _) rfl rfl dX9_addBallot_16 (fun r2 M3 L4 hr2 => ?_)
  obtain ⟨hq1, hq2, hr2⟩ := hr2
  obtain rfl := hq1.symm
  obtain rfl := hq2.symm
  refine g_istore_n C [(3, .int r2), (2, .int v1), (0, .ref (ad 96)), (1, .int x)] dX9_addBallot_19 (by decide) rfl ?_
  refine g_iconst C 0 dX9_addBallot_20 (by decide) ?_
  refine g_istore C [(4, .int 0), (3, .int r2), (2, .int v1), (0, .ref (ad 96)), (1, .int x)] dX9_addBallot_21 (by decide) rfl ?_
  have zy5 : (0 : Int32).toInt = 0 := by decide
  refine g_loop (α := Int32 × MI × ML) (fun a => (11 - a.1.toInt).toNat) (fun a => 0 ≤ a.1.toInt ∧ a.1.toInt ≤ 10 ∧ IC a.2.1 ∧ (∀ k, k ≠ 97 ∧ ¬ (100 ≤ k ∧ k < 120) → a.2.1 k = M k) ∧ (∀ k, 258 ≤ k → a.2.2 k = L k)) (fun a => a.2.1) (fun a => a.2.2) (fun a => [(4, .int a.1), (3, .int r2), (2, .int v1), (0, .ref (ad 96)), (1, .int x)]) (0, M, L) ⟨by show 0 ≤ (0 : Int32).toInt; omega, by show (0 : Int32).toInt ≤ 10; omega, hI, hF, hG⟩ rfl rfl rfl ?_
  rintro ⟨x4_23, M_23, L_23⟩ ⟨j23_0, j23_1, hI, hF, hG⟩ ih_23
  dsimp only at j23_0 j23_1 hI hF hG ih_23 ⊢
  refine g_iload C 0 dX9_addBallot_23 rfl ?_
  refine g_iload_n C 2 dX9_addBallot_25 rfl ?_
  refine g_icmp_ge C 63 dX9_addBallot_26 (by decide) (fun c6 => ?_) (fun c6 => ?_)
  ·
    have f7 := fle rfl rfl c6
    refine g_iconst C 0 dX9_addBallot_63 (by decide) ?_
    refine g_istore C [(4, .int 0), (3, .int r2), (2, .int v1), (0, .ref (ad 96)), (1, .int x)] dX9_addBallot_64 (by decide) rfl ?_
    have zy8 : (0 : Int32).toInt = 0 := by decide
    refine g_loop (α := Int32 × MI × ML) (fun a => (11 - a.1.toInt).toNat) (fun a => 0 ≤ a.1.toInt ∧ a.1.toInt ≤ 10 ∧ IC a.2.1 ∧ (∀ k, k ≠ 97 ∧ ¬ (100 ≤ k ∧ k < 120) → a.2.1 k = M k) ∧ (∀ k, 258 ≤ k → a.2.2 k = L k)) (fun a => a.2.1) (fun a => a.2.2) (fun a => [(4, .int a.1), (3, .int r2), (2, .int v1), (0, .ref (ad 96)), (1, .int x)]) (0, M_23, L_23) ⟨by show 0 ≤ (0 : Int32).toInt; omega, by show (0 : Int32).toInt ≤ 10; omega, hI, hF, hG⟩ rfl rfl rfl ?_
    rintro ⟨x4_66, M_66, L_66⟩ ⟨j66_0, j66_1, hI, hF, hG⟩ ih_66
    dsimp only at j66_0 j66_1 hI hF hG ih_66 ⊢
    refine g_iload C 0 dX9_addBallot_66 rfl ?_
    refine g_iload_n C 2 dX9_addBallot_68 rfl ?_
    refine g_icmp_ge C 128 dX9_addBallot_69 (by decide) (fun c9 => ?_) (fun c9 => ?_)
    ·
      have f10 := fle rfl rfl c9
      exact g_vret C hr ⟨hI, hF, hG⟩ dX9_addBallot_128
    ·
      have f11 := fnle rfl rfl c9
      refine g_iconst C 0 dX9_addBallot_72 (by decide) ?_
      refine g_istore C [(5, .int 0), (4, .int x4_66), (3, .int r2), (2, .int v1), (0, .ref (ad 96)), (1, .int x)] dX9_addBallot_73 (by decide) rfl ?_
      have zy12 : (0 : Int32).toInt = 0 := by decide
      refine g_loop (α := Int32 × MI × ML) (fun a => (11 - a.1.toInt).toNat) (fun a => 0 ≤ a.1.toInt ∧ a.1.toInt ≤ 10 ∧ IC a.2.1 ∧ (∀ k, k ≠ 97 ∧ ¬ (100 ≤ k ∧ k < 120) → a.2.1 k = M k) ∧ (∀ k, 258 ≤ k → a.2.2 k = L k)) (fun a => a.2.1) (fun a => a.2.2) (fun a => [(5, .int a.1), (4, .int x4_66), (3, .int r2), (2, .int v1), (0, .ref (ad 96)), (1, .int x)]) (0, M_66, L_66) ⟨by show 0 ≤ (0 : Int32).toInt; omega, by show (0 : Int32).toInt ≤ 10; omega, hI, hF, hG⟩ rfl rfl rfl ?_
      rintro ⟨x5_75, M_75, L_75⟩ ⟨j75_0, j75_1, hI, hF, hG⟩ ih_75
      dsimp only at j75_0 j75_1 hI hF hG ih_75 ⊢
      refine g_iload C 0 dX9_addBallot_75 rfl ?_
      refine g_iload_n C 3 dX9_addBallot_77 rfl ?_
      refine g_icmp_ge C 122 dX9_addBallot_78 (by decide) (fun c13 => ?_) (fun c13 => ?_)
      ·
        have f14 := fle rfl rfl c13
        obtain ⟨v15, ev15⟩ : ∃ y : Int32, y = x4_66 + 1 := ⟨_, rfl⟩
        try have fv15 := fadd rfl (by decide : (1 : Int32).toInt = 1) ev15 (by omega) (by omega)
        refine g_iinc C 1 v15 [(4, .int v15), (5, .int x5_75), (3, .int r2), (2, .int v1), (0, .ref (ad 96)), (1, .int x)] dX9_addBallot_122 rfl (by rw [ev15]; rfl) (by decide) rfl ?_
        refine g_goto C 66 dX9_addBallot_125 (by decide) ?_
        refine g_lv [0, 2, 3, 4, 5] [(4, .int v15), (3, .int r2), (2, .int v1), (0, .ref (ad 96)), (1, .int x)] rfl ?_
        exact ih_66 (v15, M_75, L_75) ⟨by show 0 ≤ v15.toInt; omega, by show v15.toInt ≤ 10; omega, hI, hF, hG⟩ (by show (11 - v15.toInt).toNat < (11 - x4_66.toInt).toNat; omega)
      ·
        have f16 := fnle rfl rfl c13
        refine g_aload_n C 4 dX9_addBallot_81 rfl ?_
        refine g_get C (.ref (ad 98)) 2 in_X9_addBallot_9 (List.mem_of_getElem? (i := 7) rfl) (by decide) (ce_ways ad cs _ _) rfl (by decide) rfl rfl dX9_addBallot_82 ?_
        refine g_iload C 1 dX9_addBallot_85 rfl ?_
        have hi17 : vp_in x4_66 10 := (fin' (n := 10) rfl (by omega) (by omega))
        have nhi17 := tn hi17
        refine g_aald C (by decide) (ce_waheadm ad cs _ _) rfl hi17 dX9_addBallot_87 ?_
        refine g_iload C 0 dX9_addBallot_88 rfl ?_
        refine g_dup2 C dX9_addBallot_90 rfl rfl ?_
        refine g_iald C (by omega) (ce_wahead ad cs _ _ nhi17) (fin' (n := 10) rfl (by omega) (by omega)) dX9_addBallot_91 ?_
        refine g_ni (fun v18 ev18 => ?_)
        have tv18 := congrArg Int32.toInt ev18
        refine g_aload_n C 4 dX9_addBallot_92 rfl ?_
        refine g_get C (.ref (ad 97)) 1 in_X9_addBallot_9 (List.mem_of_getElem? (i := 4) rfl) (by decide) (ce_ways ad cs _ _) rfl (by decide) rfl rfl dX9_addBallot_93 ?_
        refine g_iload C 1 dX9_addBallot_96 rfl ?_
        refine g_iald C (by decide) (ce_wplaces ad cs _ _) (fin' (n := 10) rfl (by omega) (by omega)) dX9_addBallot_98 ?_
        refine g_ni (fun v19 ev19 => ?_)
        have tv19 := congrArg Int32.toInt ev19
        refine g_aload_n C 4 dX9_addBallot_99 rfl ?_
        refine g_get C (.ref (ad 97)) 1 in_X9_addBallot_9 (List.mem_of_getElem? (i := 4) rfl) (by decide) (ce_ways ad cs _ _) rfl (by decide) rfl rfl dX9_addBallot_100 ?_
        refine g_iload C 0 dX9_addBallot_103 rfl ?_
        refine g_iald C (by decide) (ce_wplaces ad cs _ _) (fin' (n := 10) rfl (by omega) (by omega)) dX9_addBallot_105 ?_
        refine g_ni (fun v20 ev20 => ?_)
        have tv20 := congrArg Int32.toInt ev20
        refine g_icmp_ge C 113 dX9_addBallot_106 (by decide) (fun c21 => ?_) (fun c21 => ?_)
        ·
          have f22 := fle rfl rfl c21
          refine g_iconst C 0 dX9_addBallot_113 (by decide) ?_
          refine g_iadd C dX9_addBallot_114 ?_
          refine g_ni (fun v23 ev23 => ?_)
          try have fv23 := fadd rfl (by decide : (0 : Int32).toInt = 0) ev23 (by omega) (by omega)
          refine g_iast C (by omega) (ce_wahead ad cs _ _ nhi17) (by rw [sI_k]; exact (ce_wahead ad cs _ _ nhi17)) (fin' (n := 10) rfl (by omega) (by omega)) dX9_addBallot_115 ?_
          refine g_nm (fun M24 hM24 => ?_)
          have hI : IC M24 := by rw [hM24]; exact hI.st (bC_free (by omega) (by omega) (by omega) (by omega) (by omega) (by omega) (by omega))
          have hF : ∀ k, k ≠ 97 ∧ ¬ (100 ≤ k ∧ k < 120) → M24 k = M k := fun k hk => by (rw [hM24, sI_n _ _ _ (by omega)]; try exact hF k hk)
          obtain ⟨v25, ev25⟩ : ∃ y : Int32, y = x5_75 + 1 := ⟨_, rfl⟩
          try have fv25 := fadd rfl (by decide : (1 : Int32).toInt = 1) ev25 (by omega) (by omega)
          refine g_iinc C 0 v25 [(5, .int v25), (4, .int x4_66), (3, .int r2), (2, .int v1), (0, .ref (ad 96)), (1, .int x)] dX9_addBallot_116 rfl (by rw [ev25]; rfl) (by decide) rfl ?_
          refine g_goto C 75 dX9_addBallot_119 (by decide) ?_
          exact ih_75 (v25, M24, L_75) ⟨by show 0 ≤ v25.toInt; omega, by show v25.toInt ≤ 10; omega, hI, hF, hG⟩ (by show (11 - v25.toInt).toNat < (11 - x5_75.toInt).toNat; omega)
        ·
          have f26 := fnle rfl rfl c21
          refine g_iload_n C 2 dX9_addBallot_109 rfl ?_
          refine g_goto C 114 dX9_addBallot_110 (by decide) ?_
          refine g_iadd C dX9_addBallot_114 ?_
          refine g_ni (fun v27 ev27 => ?_)
          try have fv27 := fadd rfl rfl ev27 (by omega) (by omega)
          refine g_iast C (by omega) (ce_wahead ad cs _ _ nhi17) (by rw [sI_k]; exact (ce_wahead ad cs _ _ nhi17)) (fin' (n := 10) rfl (by omega) (by omega)) dX9_addBallot_115 ?_
          refine g_nm (fun M28 hM28 => ?_)
          have hI : IC M28 := by rw [hM28]; exact hI.st (bC_free (by omega) (by omega) (by omega) (by omega) (by omega) (by omega) (by omega))
          have hF : ∀ k, k ≠ 97 ∧ ¬ (100 ≤ k ∧ k < 120) → M28 k = M k := fun k hk => by (rw [hM28, sI_n _ _ _ (by omega)]; try exact hF k hk)
          obtain ⟨v29, ev29⟩ : ∃ y : Int32, y = x5_75 + 1 := ⟨_, rfl⟩
          try have fv29 := fadd rfl (by decide : (1 : Int32).toInt = 1) ev29 (by omega) (by omega)
          refine g_iinc C 0 v29 [(5, .int v29), (4, .int x4_66), (3, .int r2), (2, .int v1), (0, .ref (ad 96)), (1, .int x)] dX9_addBallot_116 rfl (by rw [ev29]; rfl) (by decide) rfl ?_
          refine g_goto C 75 dX9_addBallot_119 (by decide) ?_
          exact ih_75 (v29, M28, L_75) ⟨by show 0 ≤ v29.toInt; omega, by show v29.toInt ≤ 10; omega, hI, hF, hG⟩ (by show (11 - v29.toInt).toNat < (11 - x5_75.toInt).toNat; omega)
  ·
    have f30 := fnle rfl rfl c6
    refine g_aload_n C 3 dX9_addBallot_29 rfl ?_
    refine g_get C (.ref (ad 97)) 1 in_X9_addBallot_9 (List.mem_of_getElem? (i := 4) rfl) (by decide) (ce_ways ad cs _ _) rfl (by decide) rfl rfl dX9_addBallot_30 ?_
    refine g_iload C 0 dX9_addBallot_33 rfl ?_
    refine g_aload_n C 3 dX9_addBallot_35 rfl ?_
    refine g_get C (.ref (ad 88)) 0 in_X9_addBallot_9 (List.mem_of_getElem? (i := 1) rfl) (by decide) (ce_ways ad cs _ _) rfl (by decide) rfl rfl dX9_addBallot_36 ?_
    refine g_get C (.ref (ad 3)) 1 in_X9_addBallot_6 (List.mem_of_getElem? (i := 5) rfl) (by decide) (ce_poll ad cs _ _) rfl (by decide) rfl rfl dX9_addBallot_39 ?_
    refine g_aload_n C 3 dX9_addBallot_42 rfl ?_
    refine g_get C (.ref (ad 88)) 0 in_X9_addBallot_9 (List.mem_of_getElem? (i := 1) rfl) (by decide) (ce_ways ad cs _ _) rfl (by decide) rfl rfl dX9_addBallot_43 ?_
    refine g_get C (.ref (ad 89)) 2 in_X9_addBallot_6 (List.mem_of_getElem? (i := 6) rfl) (by decide) (ce_poll ad cs _ _) rfl (by decide) rfl rfl dX9_addBallot_46 ?_
    refine g_iload_n C 4 dX9_addBallot_49 rfl ?_
    refine g_iald C (by decide) (ce_plying ad cs _ _) (fin' (n := 40) rfl (by omega) (by omega)) dX9_addBallot_50 ?_
    refine g_ni (fun v31 ev31 => ?_)
    have tv31 := congrArg Int32.toInt ev31
    obtain ⟨bv31, dv31⟩ := (show rg 0 59 v31 from (by rw [ev31]; exact hI 89 _))
    refine g_iload C 0 dX9_addBallot_51 rfl ?_
    refine g_callVi C (n := 2) (As := [.int v31, .int x4_23]) (st := [.int x4_23, .ref (ad 97)]) (s_X0_placeOf l D ad cs _ _ v31 x4_23 hI ⟨by omega, by omega⟩) gX9_addBallot_X0_placeOf rfl rfl rfl (by decide +kernel) ⟨Nat.le_of_ble_eq_true rfl, Nat.le_of_ble_eq_true rfl⟩ rfl (Nat.le_of_ble_eq_true rfl) ⟨Nat.zero_le _, Nat.zero_le _⟩ (by decide) (ce_ball ad cs _ _) rfl rfl dX9_addBallot_53 (fun r32 M33 L34 hr32 => ?_)
    obtain ⟨hq1, hq2, hr32⟩ := hr32
    obtain rfl := hq1.symm
    obtain rfl := hq2.symm
    obtain ⟨br32, dr32⟩ := hr32
    refine g_iast C (by decide) (ce_wplaces ad cs _ _) (by rw [sI_k]; rfl) (fin' (n := 10) rfl (by omega) (by omega)) dX9_addBallot_56 ?_
    refine g_nm (fun M35 hM35 => ?_)
    have hI : IC M35 := by rw [hM35]; exact hI.st (bC_free (by decide) (by decide) (by decide) (by decide) (by decide) (by decide) (by decide))
    have hF : ∀ k, k ≠ 97 ∧ ¬ (100 ≤ k ∧ k < 120) → M35 k = M k := fun k hk => by (rw [hM35, sI_n _ _ _ (by omega)]; try exact hF k hk)
    obtain ⟨v36, ev36⟩ : ∃ y : Int32, y = x4_23 + 1 := ⟨_, rfl⟩
    try have fv36 := fadd rfl (by decide : (1 : Int32).toInt = 1) ev36 (by omega) (by omega)
    refine g_iinc C 0 v36 [(4, .int v36), (3, .int r2), (2, .int v1), (0, .ref (ad 96)), (1, .int x)] dX9_addBallot_57 rfl (by rw [ev36]; rfl) (by decide) rfl ?_
    refine g_goto C 23 dX9_addBallot_60 (by decide) ?_
    exact ih_23 (v36, M35, L_23) ⟨by show 0 ≤ v36.toInt; omega, by show v36.toInt ≤ 10; omega, hI, hF, hG⟩ (by show (11 - v36.toInt).toNat < (11 - x4_23.toInt).toNat; omega)
theorem dX9_compareAll_0 : decode cX9_compareAll 0 = .ok (.iconst 0, 1) := dw3 (n := 0) (i := 0) kc_cX9_compareAll_0 (by decide +kernel)
theorem dX9_compareAll_1 : decode cX9_compareAll 1 = .ok (.istore_n 1, 1) := dw60 (n := 0) (i := 1) kc_cX9_compareAll_0 (by decide +kernel)
theorem dX9_compareAll_2 : decode cX9_compareAll 2 = .ok (.iload_n 1, 1) := dw27 (n := 0) (i := 2) kc_cX9_compareAll_0 (by decide +kernel)
theorem dX9_compareAll_3 : decode cX9_compareAll 3 = .ok (.bipush 10, 2) := dw16 (n := 0) (i := 3) (a := 10) kc_cX9_compareAll_0 (by decide +kernel) (by decide)
theorem dX9_compareAll_5 : decode cX9_compareAll 5 = .ok (.if_icmp .ge 32, 3) := dw162 (n := 0) (i := 5) (a := 0) (b := 32) kc_cX9_compareAll_0 (by decide +kernel) (by decide)
theorem dX9_compareAll_37 : decode cX9_compareAll 37 = .ok (.iconst 0, 1) := dw3 (n := 32) (i := 5) kc_cX9_compareAll_1 (by decide +kernel)
theorem dX9_compareAll_38 : decode cX9_compareAll 38 = .ok (.istore_n 1, 1) := dw60 (n := 32) (i := 6) kc_cX9_compareAll_1 (by decide +kernel)
theorem dX9_compareAll_39 : decode cX9_compareAll 39 = .ok (.iload_n 1, 1) := dw27 (n := 32) (i := 7) kc_cX9_compareAll_1 (by decide +kernel)
theorem dX9_compareAll_40 : decode cX9_compareAll 40 = .ok (.aload_n 0, 1) := dw42 (n := 32) (i := 8) kc_cX9_compareAll_1 (by decide +kernel)
theorem dX9_compareAll_41 : decode cX9_compareAll 41 = .ok (.getfield 23, 3) := dw180 (n := 32) (i := 9) (a := 0) (b := 23) kc_cX9_compareAll_1 (by decide +kernel) (by decide)
theorem in_X9_compareAll_9 : ∀ w ∈ u_ws RX9 TX9 4, w ∈ wsX9_compareAll := fun _ h => List.mem_cons_of_mem _ (List.mem_append_left _ (List.mem_append_left _ (List.mem_append_left _ (List.mem_append_right _ h))))
theorem dX9_compareAll_44 : decode cX9_compareAll 44 = .ok (.getfield 71, 3) := dw180 (n := 32) (i := 12) (a := 0) (b := 71) kc_cX9_compareAll_1 (by decide +kernel) (by decide)
theorem in_X9_compareAll_6 : ∀ w ∈ u_ws RX6 TX6 8, w ∈ wsX9_compareAll := fun _ h => List.mem_cons_of_mem _ (List.mem_append_left _ (List.mem_append_left _ (List.mem_append_right _ h)))
theorem dX9_compareAll_47 : decode cX9_compareAll 47 = .ok (.if_icmp .ge 14, 3) := dw162 (n := 32) (i := 15) (a := 0) (b := 14) kc_cX9_compareAll_1 (by decide +kernel) (by decide)
theorem dX9_compareAll_61 : decode cX9_compareAll 61 = .ok (.return_, 1) := dw177 (n := 32) (i := 29) kc_cX9_compareAll_1 (by decide +kernel)
theorem dX9_compareAll_50 : decode cX9_compareAll 50 = .ok (.aload_n 0, 1) := dw42 (n := 32) (i := 18) kc_cX9_compareAll_1 (by decide +kernel)
theorem dX9_compareAll_51 : decode cX9_compareAll 51 = .ok (.iload_n 1, 1) := dw27 (n := 32) (i := 19) kc_cX9_compareAll_1 (by decide +kernel)
theorem dX9_compareAll_52 : decode cX9_compareAll 52 = .ok (.invokevirtual 74, 3) := dw182 (n := 32) (i := 20) (a := 0) (b := 74) kc_cX9_compareAll_1 (by decide +kernel) (by decide)
set_option maxRecDepth 20000 in
theorem ggX9_compareAll_X9_addBallot : GoodIn wsX9_compareAll wsX9_addBallot := (gk_code 8 rfl (gk_fieldLink 2 rfl (gk_fieldLink 9 rfl (gk_fieldLink 10 rfl (gk_fieldLink 11 rfl (gk_fieldLink 12 rfl (gk_fieldLink 13 rfl (gk_fieldLink 1 rfl (gk_methodLink 14 rfl (gk_instanceMethod 15 rfl (gk_selects 16 rfl (gk_initialized 17 rfl (gk_code 18 rfl (gk_fieldLink 19 rfl (gk_fieldLink 20 rfl (gk_fieldLink 21 rfl (gk_methodLink 22 rfl (gk_instanceMethod 23 rfl (gk_selects 24 rfl (gk_initialized 25 rfl (gk_code 26 rfl (gk_fieldLink 27 rfl (gk_fieldLink 28 rfl (gk_laysFinal 29 rfl (gk_laysFinal 30 rfl (gk_laysFinal 31 rfl (gk_laysFinal 32 rfl (gk_laysFinal 33 rfl (gk_laysFinal 34 rfl (gk_laysFinal 35 rfl (gk_lays 36 rfl (gk_lays 37 rfl (gk_laysFinal 38 rfl (gk_laysFinal 39 rfl (gk_laysFinal 40 rfl (gk_lays 41 rfl (gk_laysFinal 42 rfl (gk_lays 43 rfl (gk_laysFinal 44 rfl (gk_laysFinal 45 rfl (gk_laysFinal 46 rfl (gk_laysFinal 47 rfl (gn)))))))))))))))))))))))))))))))))))))))))))
set_option maxRecDepth 20000 in
theorem gX9_compareAll_X9_addBallot : GoodIn wsX9_compareAll (wsV RX9 74 RX9 yX9_addBallot wsX9_addBallot) := goodIn_app (gk_methodLink 4 rfl (gk_instanceMethod 5 rfl (gk_selects 6 rfl (gk_initialized 7 rfl (gn))))) ggX9_compareAll_X9_addBallot
theorem dX9_compareAll_55 : decode cX9_compareAll 55 = .ok (.iinc 1 1, 3) := by decide +kernel
theorem dX9_compareAll_58 : decode cX9_compareAll 58 = .ok (.goto (-19), 3) := dw167 (n := 32) (i := 26) (a := 255) (b := 237) kc_cX9_compareAll_1 (by decide +kernel) (by decide)
theorem dX9_compareAll_8 : decode cX9_compareAll 8 = .ok (.iconst 0, 1) := dw3 (n := 0) (i := 8) kc_cX9_compareAll_0 (by decide +kernel)
theorem dX9_compareAll_9 : decode cX9_compareAll 9 = .ok (.istore_n 2, 1) := dw61 (n := 0) (i := 9) kc_cX9_compareAll_0 (by decide +kernel)
theorem dX9_compareAll_10 : decode cX9_compareAll 10 = .ok (.iload_n 2, 1) := dw28 (n := 0) (i := 10) kc_cX9_compareAll_0 (by decide +kernel)
theorem dX9_compareAll_11 : decode cX9_compareAll 11 = .ok (.bipush 10, 2) := dw16 (n := 0) (i := 11) (a := 10) kc_cX9_compareAll_0 (by decide +kernel) (by decide)
theorem dX9_compareAll_13 : decode cX9_compareAll 13 = .ok (.if_icmp .ge 18, 3) := dw162 (n := 0) (i := 13) (a := 0) (b := 18) kc_cX9_compareAll_0 (by decide +kernel) (by decide)
theorem dX9_compareAll_31 : decode cX9_compareAll 31 = .ok (.iinc 1 1, 3) := by decide +kernel
theorem dX9_compareAll_34 : decode cX9_compareAll 34 = .ok (.goto (-32), 3) := dw167 (n := 32) (i := 2) (a := 255) (b := 224) kc_cX9_compareAll_1 (by decide +kernel) (by decide)
theorem dX9_compareAll_16 : decode cX9_compareAll 16 = .ok (.aload_n 0, 1) := dw42 (n := 0) (i := 16) kc_cX9_compareAll_0 (by decide +kernel)
theorem dX9_compareAll_17 : decode cX9_compareAll 17 = .ok (.getfield 17, 3) := dw180 (n := 0) (i := 17) (a := 0) (b := 17) kc_cX9_compareAll_0 (by decide +kernel) (by decide)
theorem dX9_compareAll_20 : decode cX9_compareAll 20 = .ok (.iload_n 1, 1) := dw27 (n := 0) (i := 20) kc_cX9_compareAll_0 (by decide +kernel)
theorem dX9_compareAll_21 : decode cX9_compareAll 21 = .ok (.aaload, 1) := dw50 (n := 0) (i := 21) kc_cX9_compareAll_0 (by decide +kernel)
theorem dX9_compareAll_22 : decode cX9_compareAll 22 = .ok (.iload_n 2, 1) := dw28 (n := 0) (i := 22) kc_cX9_compareAll_0 (by decide +kernel)
theorem dX9_compareAll_23 : decode cX9_compareAll 23 = .ok (.iconst 0, 1) := dw3 (n := 0) (i := 23) kc_cX9_compareAll_0 (by decide +kernel)
theorem dX9_compareAll_24 : decode cX9_compareAll 24 = .ok (.iastore, 1) := dw79 (n := 0) (i := 24) kc_cX9_compareAll_0 (by decide +kernel)
theorem dX9_compareAll_25 : decode cX9_compareAll 25 = .ok (.iinc 2 1, 3) := by decide +kernel
theorem dX9_compareAll_28 : decode cX9_compareAll 28 = .ok (.goto (-18), 3) := dw167 (n := 0) (i := 28) (a := 255) (b := 238) kc_cX9_compareAll_0 (by decide +kernel) (by decide)
set_option maxHeartbeats 4000000 in
set_option maxRecDepth 100000 in
theorem s_X9_compareAll (l : Launch) (D : va_G) (ad : Nat → Nat) (cs : Nat → ClassId) (M : MI) (L : ML)  (hI : IC M) : Cv l yX9_compareAll wsX9_compareAll ({ frames := 2, cells := 0, slots := 0, locals := 48 }) D ad cs [.ref (ad 96)] M L (fun M1 L1 => IC M1 ∧ (∀ k, k ≠ 97 ∧ ¬ (100 ≤ k ∧ k < 120) → M1 k = M k) ∧ ∀ k, 258 ≤ k → L1 k = L k) := by
  refine enter_v RX9 rfl [(0, .ref (ad 96))] rfl (Nat.le_of_ble_eq_true rfl) (by decide +kernel) rfl ?_
  intro p e s m below meth c C hr
  have hF : ∀ k, k ≠ 97 ∧ ¬ (100 ≤ k ∧ k < 120) → M k = M k := fun _ _ => rfl
  have hG : ∀ k, 258 ≤ k → L k = L k := fun _ _ => rfl
  refine g_iconst C 0 dX9_compareAll_0 (by decide) ?_
  refine g_istore_n C [(1, .int 0), (0, .ref (ad 96))] dX9_compareAll_1 (by decide) rfl ?_
  have zy1 : (0 : Int32).toInt = 0 := by decide
  refine g_loop (α := Int32 × MI × ML) (fun a => (11 - a.1.toInt).toNat) (fun a => 0 ≤ a.1.toInt ∧ a.1.toInt ≤ 10 ∧ IC a.2.1 ∧ (∀ k, k ≠ 97 ∧ ¬ (100 ≤ k ∧ k < 120) → a.2.1 k = M k) ∧ (∀ k, 258 ≤ k → a.2.2 k = L k)) (fun a => a.2.1) (fun a => a.2.2) (fun a => [(1, .int a.1), (0, .ref (ad 96))]) (0, M, L) ⟨by show 0 ≤ (0 : Int32).toInt; omega, by show (0 : Int32).toInt ≤ 10; omega, hI, hF, hG⟩ rfl rfl rfl ?_
  rintro ⟨x1_2, M_2, L_2⟩ ⟨j2_0, j2_1, hI, hF, hG⟩ ih_2
  dsimp only at j2_0 j2_1 hI hF hG ih_2 ⊢
  refine g_iload_n C 0 dX9_compareAll_2 rfl ?_
  refine g_bipush C 10 dX9_compareAll_3 (by decide) ?_
  refine g_icmp_ge C 37 dX9_compareAll_5 (by decide) (fun c2 => ?_) (fun c2 => ?_)
  ·
    have f3 := fle (by decide : (10 : Int32).toInt = 10) rfl c2
    refine g_iconst C 0 dX9_compareAll_37 (by decide) ?_
    refine g_istore_n C [(1, .int 0), (0, .ref (ad 96))] dX9_compareAll_38 (by decide) rfl ?_
    have zy4 : (0 : Int32).toInt = 0 := by decide
    refine g_loop (α := Int32 × MI × ML) (fun a => (41 - a.1.toInt).toNat) (fun a => 0 ≤ a.1.toInt ∧ a.1.toInt ≤ 40 ∧ IC a.2.1 ∧ (∀ k, k ≠ 97 ∧ ¬ (100 ≤ k ∧ k < 120) → a.2.1 k = M k) ∧ (∀ k, 258 ≤ k → a.2.2 k = L k)) (fun a => a.2.1) (fun a => a.2.2) (fun a => [(1, .int a.1), (0, .ref (ad 96))]) (0, M_2, L_2) ⟨by show 0 ≤ (0 : Int32).toInt; omega, by show (0 : Int32).toInt ≤ 40; omega, hI, hF, hG⟩ rfl rfl rfl ?_
    rintro ⟨x1_39, M_39, L_39⟩ ⟨j39_0, j39_1, hI, hF, hG⟩ ih_39
    dsimp only at j39_0 j39_1 hI hF hG ih_39 ⊢
    refine g_iload_n C 0 dX9_compareAll_39 rfl ?_
    refine g_aload_n C 1 dX9_compareAll_40 rfl ?_
    refine g_get C (.ref (ad 88)) 0 in_X9_compareAll_9 (List.mem_of_getElem? (i := 2) rfl) (by decide) (ce_ways ad cs _ _) rfl (by decide) rfl rfl dX9_compareAll_41 ?_
    refine g_get C (.int (M_39 88 3)) 3 in_X9_compareAll_6 (List.mem_of_getElem? (i := 3) rfl) (by decide) (ce_poll ad cs _ _) rfl (by decide) rfl rfl dX9_compareAll_44 ?_
    refine g_ni (fun v5 ev5 => ?_)
    have tv5 := congrArg Int32.toInt ev5
    obtain ⟨bv5, dv5⟩ := (show rg 0 40 v5 from (by rw [ev5]; exact (hI 88 3).1 rfl))
    refine g_icmp_ge C 61 dX9_compareAll_47 (by decide) (fun c6 => ?_) (fun c6 => ?_)
    ·
      have f7 := fle rfl rfl c6
      exact g_vret C hr ⟨hI, hF, hG⟩ dX9_compareAll_61
    ·
      have f8 := fnle rfl rfl c6
      refine g_aload_n C 1 dX9_compareAll_50 rfl ?_
      refine g_iload_n C 0 dX9_compareAll_51 rfl ?_
      refine g_callVv C (n := 1) (As := [.int x1_39]) (st := []) (s_X9_addBallot l D ad cs _ _ x1_39 hI ⟨by omega, by omega⟩) gX9_compareAll_X9_addBallot rfl rfl rfl (by decide +kernel) ⟨Nat.le_of_ble_eq_true rfl, Nat.le_of_ble_eq_true rfl⟩ rfl (Nat.le_of_ble_eq_true rfl) ⟨Nat.zero_le _, Nat.zero_le _⟩ (by decide) (ce_ways ad cs _ _) rfl rfl dX9_compareAll_52 (fun M10 L11 hr9 => ?_)
      obtain ⟨hI, hF1, hG1⟩ := hr9
      have hF : ∀ k, k ≠ 97 ∧ ¬ (100 ≤ k ∧ k < 120) → M10 k = M k := fun k hk => by (rw [hF1 k (by omega)]; try exact hF k hk)
      have hG : ∀ k, 258 ≤ k → L11 k = L k := fun k hk => by (rw [hG1 k hk]; try exact hG k hk)
      obtain ⟨v12, ev12⟩ : ∃ y : Int32, y = x1_39 + 1 := ⟨_, rfl⟩
      try have fv12 := fadd rfl (by decide : (1 : Int32).toInt = 1) ev12 (by omega) (by omega)
      refine g_iinc C 0 v12 [(1, .int v12), (0, .ref (ad 96))] dX9_compareAll_55 rfl (by rw [ev12]; rfl) (by decide) rfl ?_
      refine g_goto C 39 dX9_compareAll_58 (by decide) ?_
      exact ih_39 (v12, M10, L11) ⟨by show 0 ≤ v12.toInt; omega, by show v12.toInt ≤ 40; omega, hI, hF, hG⟩ (by show (41 - v12.toInt).toNat < (41 - x1_39.toInt).toNat; omega)
  ·
    have f13 := fnle (by decide : (10 : Int32).toInt = 10) rfl c2
    refine g_iconst C 0 dX9_compareAll_8 (by decide) ?_
    refine g_istore_n C [(2, .int 0), (1, .int x1_2), (0, .ref (ad 96))] dX9_compareAll_9 (by decide) rfl ?_
    have zy14 : (0 : Int32).toInt = 0 := by decide
    refine g_loop (α := Int32 × MI × ML) (fun a => (11 - a.1.toInt).toNat) (fun a => 0 ≤ a.1.toInt ∧ a.1.toInt ≤ 10 ∧ IC a.2.1 ∧ (∀ k, k ≠ 97 ∧ ¬ (100 ≤ k ∧ k < 120) → a.2.1 k = M k) ∧ (∀ k, 258 ≤ k → a.2.2 k = L k)) (fun a => a.2.1) (fun a => a.2.2) (fun a => [(2, .int a.1), (1, .int x1_2), (0, .ref (ad 96))]) (0, M_2, L_2) ⟨by show 0 ≤ (0 : Int32).toInt; omega, by show (0 : Int32).toInt ≤ 10; omega, hI, hF, hG⟩ rfl rfl rfl ?_
    rintro ⟨x2_10, M_10, L_10⟩ ⟨j10_0, j10_1, hI, hF, hG⟩ ih_10
    dsimp only at j10_0 j10_1 hI hF hG ih_10 ⊢
    refine g_iload_n C 0 dX9_compareAll_10 rfl ?_
    refine g_bipush C 10 dX9_compareAll_11 (by decide) ?_
    refine g_icmp_ge C 31 dX9_compareAll_13 (by decide) (fun c15 => ?_) (fun c15 => ?_)
    ·
      have f16 := fle (by decide : (10 : Int32).toInt = 10) rfl c15
      obtain ⟨v17, ev17⟩ : ∃ y : Int32, y = x1_2 + 1 := ⟨_, rfl⟩
      try have fv17 := fadd rfl (by decide : (1 : Int32).toInt = 1) ev17 (by omega) (by omega)
      refine g_iinc C 1 v17 [(1, .int v17), (2, .int x2_10), (0, .ref (ad 96))] dX9_compareAll_31 rfl (by rw [ev17]; rfl) (by decide) rfl ?_
      refine g_goto C 2 dX9_compareAll_34 (by decide) ?_
      refine g_lv [0, 2] [(1, .int v17), (0, .ref (ad 96))] rfl ?_
      exact ih_2 (v17, M_10, L_10) ⟨by show 0 ≤ v17.toInt; omega, by show v17.toInt ≤ 10; omega, hI, hF, hG⟩ (by show (11 - v17.toInt).toNat < (11 - x1_2.toInt).toNat; omega)
    ·
      have f18 := fnle (by decide : (10 : Int32).toInt = 10) rfl c15
      refine g_aload_n C 2 dX9_compareAll_16 rfl ?_
      refine g_get C (.ref (ad 98)) 2 in_X9_compareAll_9 (List.mem_of_getElem? (i := 1) rfl) (by decide) (ce_ways ad cs _ _) rfl (by decide) rfl rfl dX9_compareAll_17 ?_
      refine g_iload_n C 1 dX9_compareAll_20 rfl ?_
      have hi19 : vp_in x1_2 10 := (fin' (n := 10) rfl (by omega) (by omega))
      have nhi19 := tn hi19
      refine g_aald C (by decide) (ce_waheadm ad cs _ _) rfl hi19 dX9_compareAll_21 ?_
      refine g_iload_n C 0 dX9_compareAll_22 rfl ?_
      refine g_iconst C 0 dX9_compareAll_23 (by decide) ?_
      refine g_iast C (by omega) (ce_wahead ad cs _ _ nhi19) (by rw [sI_k]; exact (ce_wahead ad cs _ _ nhi19)) (fin' (n := 10) rfl (by omega) (by omega)) dX9_compareAll_24 ?_
      refine g_nm (fun M20 hM20 => ?_)
      have hI : IC M20 := by rw [hM20]; exact hI.st (bC_free (by omega) (by omega) (by omega) (by omega) (by omega) (by omega) (by omega))
      have hF : ∀ k, k ≠ 97 ∧ ¬ (100 ≤ k ∧ k < 120) → M20 k = M k := fun k hk => by (rw [hM20, sI_n _ _ _ (by omega)]; try exact hF k hk)
      obtain ⟨v21, ev21⟩ : ∃ y : Int32, y = x2_10 + 1 := ⟨_, rfl⟩
      try have fv21 := fadd rfl (by decide : (1 : Int32).toInt = 1) ev21 (by omega) (by omega)
      refine g_iinc C 0 v21 [(2, .int v21), (1, .int x1_2), (0, .ref (ad 96))] dX9_compareAll_25 rfl (by rw [ev21]; rfl) (by decide) rfl ?_
      refine g_goto C 10 dX9_compareAll_28 (by decide) ?_
      exact ih_10 (v21, M20, L_10) ⟨by show 0 ≤ v21.toInt; omega, by show v21.toInt ≤ 10; omega, hI, hF, hG⟩ (by show (11 - v21.toInt).toNat < (11 - x2_10.toInt).toNat; omega)
theorem dX9_beginWays_0 : decode cX9_beginWays 0 = .ok (.aload_n 0, 1) := dw42 (n := 0) (i := 0) kc_cX9_beginWays_0 (by decide +kernel)
theorem dX9_beginWays_1 : decode cX9_beginWays 1 = .ok (.getfield 23, 3) := dw180 (n := 0) (i := 1) (a := 0) (b := 23) kc_cX9_beginWays_0 (by decide +kernel) (by decide)
theorem in_X9_beginWays_9 : ∀ w ∈ u_ws RX9 TX9 4, w ∈ wsX9_beginWays := fun _ h => List.mem_cons_of_mem _ (List.mem_append_left _ (List.mem_append_left _ (List.mem_append_right _ h)))
theorem dX9_beginWays_4 : decode cX9_beginWays 4 = .ok (.getfield 77, 3) := dw180 (n := 0) (i := 4) (a := 0) (b := 77) kc_cX9_beginWays_0 (by decide +kernel) (by decide)
theorem in_X9_beginWays_6 : ∀ w ∈ u_ws RX6 TX6 8, w ∈ wsX9_beginWays := fun _ h => List.mem_cons_of_mem _ (List.mem_append_left _ (List.mem_append_right _ h))
theorem dX9_beginWays_7 : decode cX9_beginWays 7 = .ok (.getfield 81, 3) := dw180 (n := 0) (i := 7) (a := 0) (b := 81) kc_cX9_beginWays_0 (by decide +kernel) (by decide)
theorem in_X9_beginWays_2 : ∀ w ∈ u_ws RX2 TX2 2, w ∈ wsX9_beginWays := fun _ h => List.mem_cons_of_mem _ (List.mem_append_right _ h)
theorem dX9_beginWays_10 : decode cX9_beginWays 10 = .ok (.istore_n 1, 1) := dw60 (n := 0) (i := 10) kc_cX9_beginWays_0 (by decide +kernel)
theorem dX9_beginWays_11 : decode cX9_beginWays 11 = .ok (.iconst 0, 1) := dw3 (n := 0) (i := 11) kc_cX9_beginWays_0 (by decide +kernel)
theorem dX9_beginWays_12 : decode cX9_beginWays 12 = .ok (.istore_n 2, 1) := dw61 (n := 0) (i := 12) kc_cX9_beginWays_0 (by decide +kernel)
theorem dX9_beginWays_13 : decode cX9_beginWays 13 = .ok (.iload_n 2, 1) := dw28 (n := 0) (i := 13) kc_cX9_beginWays_0 (by decide +kernel)
theorem dX9_beginWays_14 : decode cX9_beginWays 14 = .ok (.iload_n 1, 1) := dw27 (n := 0) (i := 14) kc_cX9_beginWays_0 (by decide +kernel)
theorem dX9_beginWays_15 : decode cX9_beginWays 15 = .ok (.if_icmp .ge 61, 3) := dw162 (n := 0) (i := 15) (a := 0) (b := 61) kc_cX9_beginWays_0 (by decide +kernel) (by decide)
theorem dX9_beginWays_76 : decode cX9_beginWays 76 = .ok (.return_, 1) := dw177 (n := 64) (i := 12) kc_cX9_beginWays_2 (by decide +kernel)
theorem dX9_beginWays_18 : decode cX9_beginWays 18 = .ok (.iconst 0, 1) := dw3 (n := 0) (i := 18) kc_cX9_beginWays_0 (by decide +kernel)
theorem dX9_beginWays_19 : decode cX9_beginWays 19 = .ok (.istore_n 3, 1) := dw62 (n := 0) (i := 19) kc_cX9_beginWays_0 (by decide +kernel)
theorem dX9_beginWays_20 : decode cX9_beginWays 20 = .ok (.iload_n 3, 1) := dw29 (n := 0) (i := 20) kc_cX9_beginWays_0 (by decide +kernel)
theorem dX9_beginWays_21 : decode cX9_beginWays 21 = .ok (.iload_n 1, 1) := dw27 (n := 0) (i := 21) kc_cX9_beginWays_0 (by decide +kernel)
theorem dX9_beginWays_22 : decode cX9_beginWays 22 = .ok (.if_icmp .ge 48, 3) := dw162 (n := 0) (i := 22) (a := 0) (b := 48) kc_cX9_beginWays_0 (by decide +kernel) (by decide)
theorem dX9_beginWays_70 : decode cX9_beginWays 70 = .ok (.iinc 2 1, 3) := by decide +kernel
theorem dX9_beginWays_73 : decode cX9_beginWays 73 = .ok (.goto (-60), 3) := dw167 (n := 64) (i := 9) (a := 255) (b := 196) kc_cX9_beginWays_2 (by decide +kernel) (by decide)
theorem dX9_beginWays_25 : decode cX9_beginWays 25 = .ok (.aload_n 0, 1) := dw42 (n := 0) (i := 25) kc_cX9_beginWays_0 (by decide +kernel)
theorem dX9_beginWays_26 : decode cX9_beginWays 26 = .ok (.getfield 20, 3) := dw180 (n := 0) (i := 26) (a := 0) (b := 20) kc_cX9_beginWays_0 (by decide +kernel) (by decide)
theorem dX9_beginWays_29 : decode cX9_beginWays 29 = .ok (.iload_n 2, 1) := dw28 (n := 0) (i := 29) kc_cX9_beginWays_0 (by decide +kernel)
theorem dX9_beginWays_30 : decode cX9_beginWays 30 = .ok (.aaload, 1) := dw50 (n := 0) (i := 30) kc_cX9_beginWays_0 (by decide +kernel)
theorem dX9_beginWays_31 : decode cX9_beginWays 31 = .ok (.iload_n 3, 1) := dw29 (n := 0) (i := 31) kc_cX9_beginWays_0 (by decide +kernel)
theorem dX9_beginWays_32 : decode cX9_beginWays 32 = .ok (.aload_n 0, 1) := dw42 (n := 32) (i := 0) kc_cX9_beginWays_1 (by decide +kernel)
theorem dX9_beginWays_33 : decode cX9_beginWays 33 = .ok (.getfield 17, 3) := dw180 (n := 32) (i := 1) (a := 0) (b := 17) kc_cX9_beginWays_1 (by decide +kernel) (by decide)
theorem dX9_beginWays_36 : decode cX9_beginWays 36 = .ok (.iload_n 2, 1) := dw28 (n := 32) (i := 4) kc_cX9_beginWays_1 (by decide +kernel)
theorem dX9_beginWays_37 : decode cX9_beginWays 37 = .ok (.aaload, 1) := dw50 (n := 32) (i := 5) kc_cX9_beginWays_1 (by decide +kernel)
theorem dX9_beginWays_38 : decode cX9_beginWays 38 = .ok (.iload_n 3, 1) := dw29 (n := 32) (i := 6) kc_cX9_beginWays_1 (by decide +kernel)
theorem dX9_beginWays_39 : decode cX9_beginWays 39 = .ok (.iaload, 1) := dw46 (n := 32) (i := 7) kc_cX9_beginWays_1 (by decide +kernel)
theorem dX9_beginWays_40 : decode cX9_beginWays 40 = .ok (.aload_n 0, 1) := dw42 (n := 32) (i := 8) kc_cX9_beginWays_1 (by decide +kernel)
theorem dX9_beginWays_41 : decode cX9_beginWays 41 = .ok (.getfield 17, 3) := dw180 (n := 32) (i := 9) (a := 0) (b := 17) kc_cX9_beginWays_1 (by decide +kernel) (by decide)
theorem dX9_beginWays_44 : decode cX9_beginWays 44 = .ok (.iload_n 3, 1) := dw29 (n := 32) (i := 12) kc_cX9_beginWays_1 (by decide +kernel)
theorem dX9_beginWays_45 : decode cX9_beginWays 45 = .ok (.aaload, 1) := dw50 (n := 32) (i := 13) kc_cX9_beginWays_1 (by decide +kernel)
theorem dX9_beginWays_46 : decode cX9_beginWays 46 = .ok (.iload_n 2, 1) := dw28 (n := 32) (i := 14) kc_cX9_beginWays_1 (by decide +kernel)
theorem dX9_beginWays_47 : decode cX9_beginWays 47 = .ok (.iaload, 1) := dw46 (n := 32) (i := 15) kc_cX9_beginWays_1 (by decide +kernel)
theorem dX9_beginWays_48 : decode cX9_beginWays 48 = .ok (.if_icmp .le 14, 3) := dw164 (n := 32) (i := 16) (a := 0) (b := 14) kc_cX9_beginWays_1 (by decide +kernel) (by decide)
theorem dX9_beginWays_62 : decode cX9_beginWays 62 = .ok (.iconst 0, 1) := dw3 (n := 32) (i := 30) kc_cX9_beginWays_1 (by decide +kernel)
theorem dX9_beginWays_63 : decode cX9_beginWays 63 = .ok (.iastore, 1) := dw79 (n := 32) (i := 31) kc_cX9_beginWays_1 (by decide +kernel)
theorem dX9_beginWays_64 : decode cX9_beginWays 64 = .ok (.iinc 3 1, 3) := by decide +kernel
theorem dX9_beginWays_67 : decode cX9_beginWays 67 = .ok (.goto (-47), 3) := dw167 (n := 64) (i := 3) (a := 255) (b := 209) kc_cX9_beginWays_2 (by decide +kernel) (by decide)
theorem dX9_beginWays_51 : decode cX9_beginWays 51 = .ok (.aload_n 0, 1) := dw42 (n := 32) (i := 19) kc_cX9_beginWays_1 (by decide +kernel)
theorem dX9_beginWays_52 : decode cX9_beginWays 52 = .ok (.getfield 17, 3) := dw180 (n := 32) (i := 20) (a := 0) (b := 17) kc_cX9_beginWays_1 (by decide +kernel) (by decide)
theorem dX9_beginWays_55 : decode cX9_beginWays 55 = .ok (.iload_n 2, 1) := dw28 (n := 32) (i := 23) kc_cX9_beginWays_1 (by decide +kernel)
theorem dX9_beginWays_56 : decode cX9_beginWays 56 = .ok (.aaload, 1) := dw50 (n := 32) (i := 24) kc_cX9_beginWays_1 (by decide +kernel)
theorem dX9_beginWays_57 : decode cX9_beginWays 57 = .ok (.iload_n 3, 1) := dw29 (n := 32) (i := 25) kc_cX9_beginWays_1 (by decide +kernel)
theorem dX9_beginWays_58 : decode cX9_beginWays 58 = .ok (.iaload, 1) := dw46 (n := 32) (i := 26) kc_cX9_beginWays_1 (by decide +kernel)
theorem dX9_beginWays_59 : decode cX9_beginWays 59 = .ok (.goto 4, 3) := dw167 (n := 32) (i := 27) (a := 0) (b := 4) kc_cX9_beginWays_1 (by decide +kernel) (by decide)
set_option maxHeartbeats 4000000 in
set_option maxRecDepth 100000 in
theorem s_X9_beginWays (l : Launch) (D : va_G) (ad : Nat → Nat) (cs : Nat → ClassId) (M : MI) (L : ML)  (hI : IC M) : Cv l yX9_beginWays wsX9_beginWays ({ frames := 0, cells := 0, slots := 0, locals := 0 }) D ad cs [.ref (ad 96)] M L (fun M1 L1 => IC M1 ∧ (∀ k, k ≠ 97 ∧ ¬ (100 ≤ k ∧ k < 120) → M1 k = M k) ∧ ∀ k, 258 ≤ k → L1 k = L k) := by
  refine enter_v RX9 rfl [(0, .ref (ad 96))] rfl (Nat.le_of_ble_eq_true rfl) (by decide +kernel) rfl ?_
  intro p e s m below meth c C hr
  have hF : ∀ k, k ≠ 97 ∧ ¬ (100 ≤ k ∧ k < 120) → M k = M k := fun _ _ => rfl
  have hG : ∀ k, 258 ≤ k → L k = L k := fun _ _ => rfl
  refine g_aload_n C 0 dX9_beginWays_0 rfl ?_
  refine g_get C (.ref (ad 88)) 0 in_X9_beginWays_9 (List.mem_of_getElem? (i := 1) rfl) (by decide) (ce_ways ad cs _ _) rfl (by decide) rfl rfl dX9_beginWays_1 ?_
  refine g_get C (.ref (ad 1)) 0 in_X9_beginWays_6 (List.mem_of_getElem? (i := 2) rfl) (by decide) (ce_poll ad cs _ _) rfl (by decide) rfl rfl dX9_beginWays_4 ?_
  refine g_get C (.int (M 1 0)) 0 in_X9_beginWays_2 (List.mem_of_getElem? (i := 3) rfl) (by decide) (ce_cand ad cs _ _) rfl (by decide) rfl rfl dX9_beginWays_7 ?_
  refine g_ni (fun v1 ev1 => ?_)
  have tv1 := congrArg Int32.toInt ev1
  obtain ⟨bv1, dv1⟩ := (show rg 0 10 v1 from (by rw [ev1]; exact hI 1 0 rfl))
  refine g_istore_n C [(1, .int v1), (0, .ref (ad 96))] dX9_beginWays_10 (by decide) rfl ?_
  refine g_iconst C 0 dX9_beginWays_11 (by decide) ?_
  refine g_istore_n C [(2, .int 0), (1, .int v1), (0, .ref (ad 96))] dX9_beginWays_12 (by decide) rfl ?_
  have zy2 : (0 : Int32).toInt = 0 := by decide
  refine g_loop (α := Int32 × MI × ML) (fun a => (11 - a.1.toInt).toNat) (fun a => 0 ≤ a.1.toInt ∧ a.1.toInt ≤ 10 ∧ IC a.2.1 ∧ (∀ k, k ≠ 97 ∧ ¬ (100 ≤ k ∧ k < 120) → a.2.1 k = M k) ∧ (∀ k, 258 ≤ k → a.2.2 k = L k)) (fun a => a.2.1) (fun a => a.2.2) (fun a => [(2, .int a.1), (1, .int v1), (0, .ref (ad 96))]) (0, M, L) ⟨by show 0 ≤ (0 : Int32).toInt; omega, by show (0 : Int32).toInt ≤ 10; omega, hI, hF, hG⟩ rfl rfl rfl ?_
  rintro ⟨x2_13, M_13, L_13⟩ ⟨j13_0, j13_1, hI, hF, hG⟩ ih_13
  dsimp only at j13_0 j13_1 hI hF hG ih_13 ⊢
  refine g_iload_n C 0 dX9_beginWays_13 rfl ?_
  refine g_iload_n C 1 dX9_beginWays_14 rfl ?_
  refine g_icmp_ge C 76 dX9_beginWays_15 (by decide) (fun c3 => ?_) (fun c3 => ?_)
  ·
    have f4 := fle rfl rfl c3
    exact g_vret C hr ⟨hI, hF, hG⟩ dX9_beginWays_76
  ·
    have f5 := fnle rfl rfl c3
    refine g_iconst C 0 dX9_beginWays_18 (by decide) ?_
    refine g_istore_n C [(3, .int 0), (2, .int x2_13), (1, .int v1), (0, .ref (ad 96))] dX9_beginWays_19 (by decide) rfl ?_
    have zy6 : (0 : Int32).toInt = 0 := by decide
    refine g_loop (α := Int32 × MI × ML) (fun a => (11 - a.1.toInt).toNat) (fun a => 0 ≤ a.1.toInt ∧ a.1.toInt ≤ 10 ∧ IC a.2.1 ∧ (∀ k, k ≠ 97 ∧ ¬ (100 ≤ k ∧ k < 120) → a.2.1 k = M k) ∧ (∀ k, 258 ≤ k → a.2.2 k = L k)) (fun a => a.2.1) (fun a => a.2.2) (fun a => [(3, .int a.1), (2, .int x2_13), (1, .int v1), (0, .ref (ad 96))]) (0, M_13, L_13) ⟨by show 0 ≤ (0 : Int32).toInt; omega, by show (0 : Int32).toInt ≤ 10; omega, hI, hF, hG⟩ rfl rfl rfl ?_
    rintro ⟨x3_20, M_20, L_20⟩ ⟨j20_0, j20_1, hI, hF, hG⟩ ih_20
    dsimp only at j20_0 j20_1 hI hF hG ih_20 ⊢
    refine g_iload_n C 0 dX9_beginWays_20 rfl ?_
    refine g_iload_n C 2 dX9_beginWays_21 rfl ?_
    refine g_icmp_ge C 70 dX9_beginWays_22 (by decide) (fun c7 => ?_) (fun c7 => ?_)
    ·
      have f8 := fle rfl rfl c7
      obtain ⟨v9, ev9⟩ : ∃ y : Int32, y = x2_13 + 1 := ⟨_, rfl⟩
      try have fv9 := fadd rfl (by decide : (1 : Int32).toInt = 1) ev9 (by omega) (by omega)
      refine g_iinc C 1 v9 [(2, .int v9), (3, .int x3_20), (1, .int v1), (0, .ref (ad 96))] dX9_beginWays_70 rfl (by rw [ev9]; rfl) (by decide) rfl ?_
      refine g_goto C 13 dX9_beginWays_73 (by decide) ?_
      refine g_lv [0, 2, 3] [(2, .int v9), (1, .int v1), (0, .ref (ad 96))] rfl ?_
      exact ih_13 (v9, M_20, L_20) ⟨by show 0 ≤ v9.toInt; omega, by show v9.toInt ≤ 10; omega, hI, hF, hG⟩ (by show (11 - v9.toInt).toNat < (11 - x2_13.toInt).toNat; omega)
    ·
      have f10 := fnle rfl rfl c7
      refine g_aload_n C 3 dX9_beginWays_25 rfl ?_
      refine g_get C (.ref (ad 99)) 3 in_X9_beginWays_9 (List.mem_of_getElem? (i := 4) rfl) (by decide) (ce_ways ad cs _ _) rfl (by decide) rfl rfl dX9_beginWays_26 ?_
      refine g_iload_n C 1 dX9_beginWays_29 rfl ?_
      have hi11 : vp_in x2_13 10 := (fin' (n := 10) rfl (by omega) (by omega))
      have nhi11 := tn hi11
      refine g_aald C (by decide) (ce_wwaym ad cs _ _) rfl hi11 dX9_beginWays_30 ?_
      refine g_iload_n C 0 dX9_beginWays_31 rfl ?_
      refine g_aload_n C 3 dX9_beginWays_32 rfl ?_
      refine g_get C (.ref (ad 98)) 2 in_X9_beginWays_9 (List.mem_of_getElem? (i := 5) rfl) (by decide) (ce_ways ad cs _ _) rfl (by decide) rfl rfl dX9_beginWays_33 ?_
      refine g_iload_n C 1 dX9_beginWays_36 rfl ?_
      have hi12 : vp_in x2_13 10 := (fin' (n := 10) rfl (by omega) (by omega))
      have nhi12 := tn hi12
      refine g_aald C (by decide) (ce_waheadm ad cs _ _) rfl hi12 dX9_beginWays_37 ?_
      refine g_iload_n C 0 dX9_beginWays_38 rfl ?_
      refine g_iald C (by omega) (ce_wahead ad cs _ _ nhi12) (fin' (n := 10) rfl (by omega) (by omega)) dX9_beginWays_39 ?_
      refine g_ni (fun v13 ev13 => ?_)
      have tv13 := congrArg Int32.toInt ev13
      refine g_aload_n C 3 dX9_beginWays_40 rfl ?_
      refine g_get C (.ref (ad 98)) 2 in_X9_beginWays_9 (List.mem_of_getElem? (i := 5) rfl) (by decide) (ce_ways ad cs _ _) rfl (by decide) rfl rfl dX9_beginWays_41 ?_
      refine g_iload_n C 0 dX9_beginWays_44 rfl ?_
      have hi14 : vp_in x3_20 10 := (fin' (n := 10) rfl (by omega) (by omega))
      have nhi14 := tn hi14
      refine g_aald C (by decide) (ce_waheadm ad cs _ _) rfl hi14 dX9_beginWays_45 ?_
      refine g_iload_n C 1 dX9_beginWays_46 rfl ?_
      refine g_iald C (by omega) (ce_wahead ad cs _ _ nhi14) (fin' (n := 10) rfl (by omega) (by omega)) dX9_beginWays_47 ?_
      refine g_ni (fun v15 ev15 => ?_)
      have tv15 := congrArg Int32.toInt ev15
      refine g_icmp_le C 62 dX9_beginWays_48 (by decide) (fun c16 => ?_) (fun c16 => ?_)
      ·
        have f17 := fle rfl rfl c16
        refine g_iconst C 0 dX9_beginWays_62 (by decide) ?_
        refine g_iast C (by omega) (ce_wway ad cs _ _ nhi11) (by rw [sI_k]; exact (ce_wway ad cs _ _ nhi11)) (fin' (n := 10) rfl (by omega) (by omega)) dX9_beginWays_63 ?_
        refine g_nm (fun M18 hM18 => ?_)
        have hI : IC M18 := by rw [hM18]; exact hI.st (bC_free (by omega) (by omega) (by omega) (by omega) (by omega) (by omega) (by omega))
        have hF : ∀ k, k ≠ 97 ∧ ¬ (100 ≤ k ∧ k < 120) → M18 k = M k := fun k hk => by (rw [hM18, sI_n _ _ _ (by omega)]; try exact hF k hk)
        obtain ⟨v19, ev19⟩ : ∃ y : Int32, y = x3_20 + 1 := ⟨_, rfl⟩
        try have fv19 := fadd rfl (by decide : (1 : Int32).toInt = 1) ev19 (by omega) (by omega)
        refine g_iinc C 0 v19 [(3, .int v19), (2, .int x2_13), (1, .int v1), (0, .ref (ad 96))] dX9_beginWays_64 rfl (by rw [ev19]; rfl) (by decide) rfl ?_
        refine g_goto C 20 dX9_beginWays_67 (by decide) ?_
        exact ih_20 (v19, M18, L_20) ⟨by show 0 ≤ v19.toInt; omega, by show v19.toInt ≤ 10; omega, hI, hF, hG⟩ (by show (11 - v19.toInt).toNat < (11 - x3_20.toInt).toNat; omega)
      ·
        have f20 := fnle rfl rfl c16
        refine g_aload_n C 3 dX9_beginWays_51 rfl ?_
        refine g_get C (.ref (ad 98)) 2 in_X9_beginWays_9 (List.mem_of_getElem? (i := 5) rfl) (by decide) (ce_ways ad cs _ _) rfl (by decide) rfl rfl dX9_beginWays_52 ?_
        refine g_iload_n C 1 dX9_beginWays_55 rfl ?_
        have hi21 : vp_in x2_13 10 := (fin' (n := 10) rfl (by omega) (by omega))
        have nhi21 := tn hi21
        refine g_aald C (by decide) (ce_waheadm ad cs _ _) rfl hi21 dX9_beginWays_56 ?_
        refine g_iload_n C 0 dX9_beginWays_57 rfl ?_
        refine g_iald C (by omega) (ce_wahead ad cs _ _ nhi21) (fin' (n := 10) rfl (by omega) (by omega)) dX9_beginWays_58 ?_
        refine g_ni (fun v22 ev22 => ?_)
        have tv22 := congrArg Int32.toInt ev22
        have uv22 : v22 = v13 := by rw [ev22]; exact ev13.symm
        have wv22 := congrArg Int32.toInt uv22
        refine g_goto C 63 dX9_beginWays_59 (by decide) ?_
        refine g_iast C (by omega) (ce_wway ad cs _ _ nhi11) (by rw [sI_k]; exact (ce_wway ad cs _ _ nhi11)) (fin' (n := 10) rfl (by omega) (by omega)) dX9_beginWays_63 ?_
        refine g_nm (fun M23 hM23 => ?_)
        have hI : IC M23 := by rw [hM23]; exact hI.st (bC_free (by omega) (by omega) (by omega) (by omega) (by omega) (by omega) (by omega))
        have hF : ∀ k, k ≠ 97 ∧ ¬ (100 ≤ k ∧ k < 120) → M23 k = M k := fun k hk => by (rw [hM23, sI_n _ _ _ (by omega)]; try exact hF k hk)
        obtain ⟨v24, ev24⟩ : ∃ y : Int32, y = x3_20 + 1 := ⟨_, rfl⟩
        try have fv24 := fadd rfl (by decide : (1 : Int32).toInt = 1) ev24 (by omega) (by omega)
        refine g_iinc C 0 v24 [(3, .int v24), (2, .int x2_13), (1, .int v1), (0, .ref (ad 96))] dX9_beginWays_64 rfl (by rw [ev24]; rfl) (by decide) rfl ?_
        refine g_goto C 20 dX9_beginWays_67 (by decide) ?_
        exact ih_20 (v24, M23, L_20) ⟨by show 0 ≤ v24.toInt; omega, by show v24.toInt ≤ 10; omega, hI, hF, hG⟩ (by show (11 - v24.toInt).toNat < (11 - x3_20.toInt).toNat; omega)
theorem dX9_strengthenWays_0 : decode cX9_strengthenWays 0 = .ok (.aload_n 0, 1) := dw42 (n := 0) (i := 0) kc_cX9_strengthenWays_0 (by decide +kernel)
theorem dX9_strengthenWays_1 : decode cX9_strengthenWays 1 = .ok (.getfield 23, 3) := dw180 (n := 0) (i := 1) (a := 0) (b := 23) kc_cX9_strengthenWays_0 (by decide +kernel) (by decide)
theorem in_X9_strengthenWays_9 : ∀ w ∈ u_ws RX9 TX9 4, w ∈ wsX9_strengthenWays := fun _ h => List.mem_cons_of_mem _ (List.mem_append_left _ (List.mem_append_left _ (List.mem_append_right _ h)))
theorem dX9_strengthenWays_4 : decode cX9_strengthenWays 4 = .ok (.getfield 77, 3) := dw180 (n := 0) (i := 4) (a := 0) (b := 77) kc_cX9_strengthenWays_0 (by decide +kernel) (by decide)
theorem in_X9_strengthenWays_6 : ∀ w ∈ u_ws RX6 TX6 8, w ∈ wsX9_strengthenWays := fun _ h => List.mem_cons_of_mem _ (List.mem_append_left _ (List.mem_append_right _ h))
theorem dX9_strengthenWays_7 : decode cX9_strengthenWays 7 = .ok (.getfield 81, 3) := dw180 (n := 0) (i := 7) (a := 0) (b := 81) kc_cX9_strengthenWays_0 (by decide +kernel) (by decide)
theorem in_X9_strengthenWays_2 : ∀ w ∈ u_ws RX2 TX2 2, w ∈ wsX9_strengthenWays := fun _ h => List.mem_cons_of_mem _ (List.mem_append_right _ h)
theorem dX9_strengthenWays_10 : decode cX9_strengthenWays 10 = .ok (.istore_n 1, 1) := dw60 (n := 0) (i := 10) kc_cX9_strengthenWays_0 (by decide +kernel)
theorem dX9_strengthenWays_11 : decode cX9_strengthenWays 11 = .ok (.iconst 0, 1) := dw3 (n := 0) (i := 11) kc_cX9_strengthenWays_0 (by decide +kernel)
theorem dX9_strengthenWays_12 : decode cX9_strengthenWays 12 = .ok (.istore_n 2, 1) := dw61 (n := 0) (i := 12) kc_cX9_strengthenWays_0 (by decide +kernel)
theorem dX9_strengthenWays_13 : decode cX9_strengthenWays 13 = .ok (.iload_n 2, 1) := dw28 (n := 0) (i := 13) kc_cX9_strengthenWays_0 (by decide +kernel)
theorem dX9_strengthenWays_14 : decode cX9_strengthenWays 14 = .ok (.iload_n 1, 1) := dw27 (n := 0) (i := 14) kc_cX9_strengthenWays_0 (by decide +kernel)
theorem dX9_strengthenWays_15 : decode cX9_strengthenWays 15 = .ok (.if_icmp .ge 78, 3) := dw162 (n := 0) (i := 15) (a := 0) (b := 78) kc_cX9_strengthenWays_0 (by decide +kernel) (by decide)
theorem dX9_strengthenWays_93 : decode cX9_strengthenWays 93 = .ok (.return_, 1) := dw177 (n := 64) (i := 29) kc_cX9_strengthenWays_2 (by decide +kernel)
theorem dX9_strengthenWays_18 : decode cX9_strengthenWays 18 = .ok (.iconst 0, 1) := dw3 (n := 0) (i := 18) kc_cX9_strengthenWays_0 (by decide +kernel)
theorem dX9_strengthenWays_19 : decode cX9_strengthenWays 19 = .ok (.istore_n 3, 1) := dw62 (n := 0) (i := 19) kc_cX9_strengthenWays_0 (by decide +kernel)
theorem dX9_strengthenWays_20 : decode cX9_strengthenWays 20 = .ok (.iload_n 3, 1) := dw29 (n := 0) (i := 20) kc_cX9_strengthenWays_0 (by decide +kernel)
theorem dX9_strengthenWays_21 : decode cX9_strengthenWays 21 = .ok (.iload_n 1, 1) := dw27 (n := 0) (i := 21) kc_cX9_strengthenWays_0 (by decide +kernel)
theorem dX9_strengthenWays_22 : decode cX9_strengthenWays 22 = .ok (.if_icmp .ge 65, 3) := dw162 (n := 0) (i := 22) (a := 0) (b := 65) kc_cX9_strengthenWays_0 (by decide +kernel) (by decide)
theorem dX9_strengthenWays_87 : decode cX9_strengthenWays 87 = .ok (.iinc 2 1, 3) := by decide +kernel
theorem dX9_strengthenWays_90 : decode cX9_strengthenWays 90 = .ok (.goto (-77), 3) := dw167 (n := 64) (i := 26) (a := 255) (b := 179) kc_cX9_strengthenWays_2 (by decide +kernel) (by decide)
theorem dX9_strengthenWays_25 : decode cX9_strengthenWays 25 = .ok (.iconst 0, 1) := dw3 (n := 0) (i := 25) kc_cX9_strengthenWays_0 (by decide +kernel)
theorem dX9_strengthenWays_26 : decode cX9_strengthenWays 26 = .ok (.istore 4, 2) := dw54 (n := 0) (i := 26) (a := 4) kc_cX9_strengthenWays_0 (by decide +kernel) (by decide)
theorem dX9_strengthenWays_28 : decode cX9_strengthenWays 28 = .ok (.iload 4, 2) := dw21 (n := 0) (i := 28) (a := 4) kc_cX9_strengthenWays_0 (by decide +kernel) (by decide)
theorem dX9_strengthenWays_30 : decode cX9_strengthenWays 30 = .ok (.iload_n 1, 1) := dw27 (n := 0) (i := 30) kc_cX9_strengthenWays_0 (by decide +kernel)
theorem dX9_strengthenWays_31 : decode cX9_strengthenWays 31 = .ok (.if_icmp .ge 50, 3) := dw162 (n := 0) (i := 31) (a := 0) (b := 50) kc_cX9_strengthenWays_0 (by decide +kernel) (by decide)
theorem dX9_strengthenWays_81 : decode cX9_strengthenWays 81 = .ok (.iinc 3 1, 3) := by decide +kernel
theorem dX9_strengthenWays_84 : decode cX9_strengthenWays 84 = .ok (.goto (-64), 3) := dw167 (n := 64) (i := 20) (a := 255) (b := 192) kc_cX9_strengthenWays_2 (by decide +kernel) (by decide)
theorem dX9_strengthenWays_34 : decode cX9_strengthenWays 34 = .ok (.aload_n 0, 1) := dw42 (n := 32) (i := 2) kc_cX9_strengthenWays_1 (by decide +kernel)
theorem dX9_strengthenWays_35 : decode cX9_strengthenWays 35 = .ok (.getfield 20, 3) := dw180 (n := 32) (i := 3) (a := 0) (b := 20) kc_cX9_strengthenWays_1 (by decide +kernel) (by decide)
theorem dX9_strengthenWays_38 : decode cX9_strengthenWays 38 = .ok (.iload_n 3, 1) := dw29 (n := 32) (i := 6) kc_cX9_strengthenWays_1 (by decide +kernel)
theorem dX9_strengthenWays_39 : decode cX9_strengthenWays 39 = .ok (.aaload, 1) := dw50 (n := 32) (i := 7) kc_cX9_strengthenWays_1 (by decide +kernel)
theorem dX9_strengthenWays_40 : decode cX9_strengthenWays 40 = .ok (.iload 4, 2) := dw21 (n := 32) (i := 8) (a := 4) kc_cX9_strengthenWays_1 (by decide +kernel) (by decide)
theorem dX9_strengthenWays_42 : decode cX9_strengthenWays 42 = .ok (.aload_n 0, 1) := dw42 (n := 32) (i := 10) kc_cX9_strengthenWays_1 (by decide +kernel)
theorem dX9_strengthenWays_43 : decode cX9_strengthenWays 43 = .ok (.getfield 20, 3) := dw180 (n := 32) (i := 11) (a := 0) (b := 20) kc_cX9_strengthenWays_1 (by decide +kernel) (by decide)
theorem dX9_strengthenWays_46 : decode cX9_strengthenWays 46 = .ok (.iload_n 3, 1) := dw29 (n := 32) (i := 14) kc_cX9_strengthenWays_1 (by decide +kernel)
theorem dX9_strengthenWays_47 : decode cX9_strengthenWays 47 = .ok (.aaload, 1) := dw50 (n := 32) (i := 15) kc_cX9_strengthenWays_1 (by decide +kernel)
theorem dX9_strengthenWays_48 : decode cX9_strengthenWays 48 = .ok (.iload 4, 2) := dw21 (n := 32) (i := 16) (a := 4) kc_cX9_strengthenWays_1 (by decide +kernel) (by decide)
theorem dX9_strengthenWays_50 : decode cX9_strengthenWays 50 = .ok (.iaload, 1) := dw46 (n := 32) (i := 18) kc_cX9_strengthenWays_1 (by decide +kernel)
theorem dX9_strengthenWays_51 : decode cX9_strengthenWays 51 = .ok (.aload_n 0, 1) := dw42 (n := 32) (i := 19) kc_cX9_strengthenWays_1 (by decide +kernel)
theorem dX9_strengthenWays_52 : decode cX9_strengthenWays 52 = .ok (.getfield 20, 3) := dw180 (n := 32) (i := 20) (a := 0) (b := 20) kc_cX9_strengthenWays_1 (by decide +kernel) (by decide)
theorem dX9_strengthenWays_55 : decode cX9_strengthenWays 55 = .ok (.iload_n 3, 1) := dw29 (n := 32) (i := 23) kc_cX9_strengthenWays_1 (by decide +kernel)
theorem dX9_strengthenWays_56 : decode cX9_strengthenWays 56 = .ok (.aaload, 1) := dw50 (n := 32) (i := 24) kc_cX9_strengthenWays_1 (by decide +kernel)
theorem dX9_strengthenWays_57 : decode cX9_strengthenWays 57 = .ok (.iload_n 2, 1) := dw28 (n := 32) (i := 25) kc_cX9_strengthenWays_1 (by decide +kernel)
theorem dX9_strengthenWays_58 : decode cX9_strengthenWays 58 = .ok (.iaload, 1) := dw46 (n := 32) (i := 26) kc_cX9_strengthenWays_1 (by decide +kernel)
theorem dX9_strengthenWays_59 : decode cX9_strengthenWays 59 = .ok (.aload_n 0, 1) := dw42 (n := 32) (i := 27) kc_cX9_strengthenWays_1 (by decide +kernel)
theorem dX9_strengthenWays_60 : decode cX9_strengthenWays 60 = .ok (.getfield 20, 3) := dw180 (n := 32) (i := 28) (a := 0) (b := 20) kc_cX9_strengthenWays_1 (by decide +kernel) (by decide)
theorem dX9_strengthenWays_63 : decode cX9_strengthenWays 63 = .ok (.iload_n 2, 1) := dw28 (n := 32) (i := 31) kc_cX9_strengthenWays_1 (by decide +kernel)
theorem dX9_strengthenWays_64 : decode cX9_strengthenWays 64 = .ok (.aaload, 1) := dw50 (n := 64) (i := 0) kc_cX9_strengthenWays_2 (by decide +kernel)
theorem dX9_strengthenWays_65 : decode cX9_strengthenWays 65 = .ok (.iload 4, 2) := dw21 (n := 64) (i := 1) (a := 4) kc_cX9_strengthenWays_2 (by decide +kernel) (by decide)
theorem dX9_strengthenWays_67 : decode cX9_strengthenWays 67 = .ok (.iaload, 1) := dw46 (n := 64) (i := 3) kc_cX9_strengthenWays_2 (by decide +kernel)
theorem dX9_strengthenWays_68 : decode cX9_strengthenWays 68 = .ok (.invokestatic 100, 3) := dw184 (n := 64) (i := 4) (a := 0) (b := 100) kc_cX9_strengthenWays_2 (by decide +kernel) (by decide)
theorem dX9_strengthenWays_71 : decode cX9_strengthenWays 71 = .ok (.invokestatic 105, 3) := dw184 (n := 64) (i := 7) (a := 0) (b := 105) kc_cX9_strengthenWays_2 (by decide +kernel) (by decide)
theorem dX9_strengthenWays_74 : decode cX9_strengthenWays 74 = .ok (.iastore, 1) := dw79 (n := 64) (i := 10) kc_cX9_strengthenWays_2 (by decide +kernel)
theorem dX9_strengthenWays_75 : decode cX9_strengthenWays 75 = .ok (.iinc 4 1, 3) := by decide +kernel
theorem dX9_strengthenWays_78 : decode cX9_strengthenWays 78 = .ok (.goto (-50), 3) := dw167 (n := 64) (i := 14) (a := 255) (b := 206) kc_cX9_strengthenWays_2 (by decide +kernel) (by decide)
set_option maxHeartbeats 4000000 in
set_option maxRecDepth 100000 in
theorem s_X9_strengthenWays (l : Launch) (D : va_G) (ad : Nat → Nat) (cs : Nat → ClassId) (M : MI) (L : ML)  (hI : IC M) : Cv l yX9_strengthenWays wsX9_strengthenWays ({ frames := 1, cells := 0, slots := 0, locals := 40 }) D ad cs [.ref (ad 96)] M L (fun M1 L1 => IC M1 ∧ (∀ k, k ≠ 97 ∧ ¬ (100 ≤ k ∧ k < 120) → M1 k = M k) ∧ ∀ k, 258 ≤ k → L1 k = L k) := by
  refine enter_v RX9 rfl [(0, .ref (ad 96))] rfl (Nat.le_of_ble_eq_true rfl) (by decide +kernel) rfl ?_
  intro p e s m below meth c C hr
  have hF : ∀ k, k ≠ 97 ∧ ¬ (100 ≤ k ∧ k < 120) → M k = M k := fun _ _ => rfl
  have hG : ∀ k, 258 ≤ k → L k = L k := fun _ _ => rfl
  refine g_aload_n C 0 dX9_strengthenWays_0 rfl ?_
  refine g_get C (.ref (ad 88)) 0 in_X9_strengthenWays_9 (List.mem_of_getElem? (i := 1) rfl) (by decide) (ce_ways ad cs _ _) rfl (by decide) rfl rfl dX9_strengthenWays_1 ?_
  refine g_get C (.ref (ad 1)) 0 in_X9_strengthenWays_6 (List.mem_of_getElem? (i := 2) rfl) (by decide) (ce_poll ad cs _ _) rfl (by decide) rfl rfl dX9_strengthenWays_4 ?_
  refine g_get C (.int (M 1 0)) 0 in_X9_strengthenWays_2 (List.mem_of_getElem? (i := 3) rfl) (by decide) (ce_cand ad cs _ _) rfl (by decide) rfl rfl dX9_strengthenWays_7 ?_
  refine g_ni (fun v1 ev1 => ?_)
  have tv1 := congrArg Int32.toInt ev1
  obtain ⟨bv1, dv1⟩ := (show rg 0 10 v1 from (by rw [ev1]; exact hI 1 0 rfl))
  refine g_istore_n C [(1, .int v1), (0, .ref (ad 96))] dX9_strengthenWays_10 (by decide) rfl ?_
  refine g_iconst C 0 dX9_strengthenWays_11 (by decide) ?_
  refine g_istore_n C [(2, .int 0), (1, .int v1), (0, .ref (ad 96))] dX9_strengthenWays_12 (by decide) rfl ?_
  have zy2 : (0 : Int32).toInt = 0 := by decide
  refine g_loop (α := Int32 × MI × ML) (fun a => (11 - a.1.toInt).toNat) (fun a => 0 ≤ a.1.toInt ∧ a.1.toInt ≤ 10 ∧ IC a.2.1 ∧ (∀ k, k ≠ 97 ∧ ¬ (100 ≤ k ∧ k < 120) → a.2.1 k = M k) ∧ (∀ k, 258 ≤ k → a.2.2 k = L k)) (fun a => a.2.1) (fun a => a.2.2) (fun a => [(2, .int a.1), (1, .int v1), (0, .ref (ad 96))]) (0, M, L) ⟨by show 0 ≤ (0 : Int32).toInt; omega, by show (0 : Int32).toInt ≤ 10; omega, hI, hF, hG⟩ rfl rfl rfl ?_
  rintro ⟨x2_13, M_13, L_13⟩ ⟨j13_0, j13_1, hI, hF, hG⟩ ih_13
  dsimp only at j13_0 j13_1 hI hF hG ih_13 ⊢
  refine g_iload_n C 0 dX9_strengthenWays_13 rfl ?_
  refine g_iload_n C 1 dX9_strengthenWays_14 rfl ?_
  refine g_icmp_ge C 93 dX9_strengthenWays_15 (by decide) (fun c3 => ?_) (fun c3 => ?_)
  ·
    have f4 := fle rfl rfl c3
    exact g_vret C hr ⟨hI, hF, hG⟩ dX9_strengthenWays_93
  ·
    have f5 := fnle rfl rfl c3
    refine g_iconst C 0 dX9_strengthenWays_18 (by decide) ?_
    refine g_istore_n C [(3, .int 0), (2, .int x2_13), (1, .int v1), (0, .ref (ad 96))] dX9_strengthenWays_19 (by decide) rfl ?_
    have zy6 : (0 : Int32).toInt = 0 := by decide
    refine g_loop (α := Int32 × MI × ML) (fun a => (11 - a.1.toInt).toNat) (fun a => 0 ≤ a.1.toInt ∧ a.1.toInt ≤ 10 ∧ IC a.2.1 ∧ (∀ k, k ≠ 97 ∧ ¬ (100 ≤ k ∧ k < 120) → a.2.1 k = M k) ∧ (∀ k, 258 ≤ k → a.2.2 k = L k)) (fun a => a.2.1) (fun a => a.2.2) (fun a => [(3, .int a.1), (2, .int x2_13), (1, .int v1), (0, .ref (ad 96))]) (0, M_13, L_13) ⟨by show 0 ≤ (0 : Int32).toInt; omega, by show (0 : Int32).toInt ≤ 10; omega, hI, hF, hG⟩ rfl rfl rfl ?_
    rintro ⟨x3_20, M_20, L_20⟩ ⟨j20_0, j20_1, hI, hF, hG⟩ ih_20
    dsimp only at j20_0 j20_1 hI hF hG ih_20 ⊢
    refine g_iload_n C 0 dX9_strengthenWays_20 rfl ?_
    refine g_iload_n C 2 dX9_strengthenWays_21 rfl ?_
    refine g_icmp_ge C 87 dX9_strengthenWays_22 (by decide) (fun c7 => ?_) (fun c7 => ?_)
    ·
      have f8 := fle rfl rfl c7
      obtain ⟨v9, ev9⟩ : ∃ y : Int32, y = x2_13 + 1 := ⟨_, rfl⟩
      try have fv9 := fadd rfl (by decide : (1 : Int32).toInt = 1) ev9 (by omega) (by omega)
      refine g_iinc C 1 v9 [(2, .int v9), (3, .int x3_20), (1, .int v1), (0, .ref (ad 96))] dX9_strengthenWays_87 rfl (by rw [ev9]; rfl) (by decide) rfl ?_
      refine g_goto C 13 dX9_strengthenWays_90 (by decide) ?_
      refine g_lv [0, 2, 3] [(2, .int v9), (1, .int v1), (0, .ref (ad 96))] rfl ?_
      exact ih_13 (v9, M_20, L_20) ⟨by show 0 ≤ v9.toInt; omega, by show v9.toInt ≤ 10; omega, hI, hF, hG⟩ (by show (11 - v9.toInt).toNat < (11 - x2_13.toInt).toNat; omega)
    ·
      have f10 := fnle rfl rfl c7
      refine g_iconst C 0 dX9_strengthenWays_25 (by decide) ?_
      refine g_istore C [(4, .int 0), (3, .int x3_20), (2, .int x2_13), (1, .int v1), (0, .ref (ad 96))] dX9_strengthenWays_26 (by decide) rfl ?_
      have zy11 : (0 : Int32).toInt = 0 := by decide
      refine g_loop (α := Int32 × MI × ML) (fun a => (11 - a.1.toInt).toNat) (fun a => 0 ≤ a.1.toInt ∧ a.1.toInt ≤ 10 ∧ IC a.2.1 ∧ (∀ k, k ≠ 97 ∧ ¬ (100 ≤ k ∧ k < 120) → a.2.1 k = M k) ∧ (∀ k, 258 ≤ k → a.2.2 k = L k)) (fun a => a.2.1) (fun a => a.2.2) (fun a => [(4, .int a.1), (3, .int x3_20), (2, .int x2_13), (1, .int v1), (0, .ref (ad 96))]) (0, M_20, L_20) ⟨by show 0 ≤ (0 : Int32).toInt; omega, by show (0 : Int32).toInt ≤ 10; omega, hI, hF, hG⟩ rfl rfl rfl ?_
      rintro ⟨x4_28, M_28, L_28⟩ ⟨j28_0, j28_1, hI, hF, hG⟩ ih_28
      dsimp only at j28_0 j28_1 hI hF hG ih_28 ⊢
      refine g_iload C 0 dX9_strengthenWays_28 rfl ?_
      refine g_iload_n C 3 dX9_strengthenWays_30 rfl ?_
      refine g_icmp_ge C 81 dX9_strengthenWays_31 (by decide) (fun c12 => ?_) (fun c12 => ?_)
      ·
        have f13 := fle rfl rfl c12
        obtain ⟨v14, ev14⟩ : ∃ y : Int32, y = x3_20 + 1 := ⟨_, rfl⟩
        try have fv14 := fadd rfl (by decide : (1 : Int32).toInt = 1) ev14 (by omega) (by omega)
        refine g_iinc C 1 v14 [(3, .int v14), (4, .int x4_28), (2, .int x2_13), (1, .int v1), (0, .ref (ad 96))] dX9_strengthenWays_81 rfl (by rw [ev14]; rfl) (by decide) rfl ?_
        refine g_goto C 20 dX9_strengthenWays_84 (by decide) ?_
        refine g_lv [0, 2, 3, 4] [(3, .int v14), (2, .int x2_13), (1, .int v1), (0, .ref (ad 96))] rfl ?_
        exact ih_20 (v14, M_28, L_28) ⟨by show 0 ≤ v14.toInt; omega, by show v14.toInt ≤ 10; omega, hI, hF, hG⟩ (by show (11 - v14.toInt).toNat < (11 - x3_20.toInt).toNat; omega)
      ·
        have f15 := fnle rfl rfl c12
        refine g_aload_n C 4 dX9_strengthenWays_34 rfl ?_
        refine g_get C (.ref (ad 99)) 3 in_X9_strengthenWays_9 (List.mem_of_getElem? (i := 4) rfl) (by decide) (ce_ways ad cs _ _) rfl (by decide) rfl rfl dX9_strengthenWays_35 ?_
        refine g_iload_n C 1 dX9_strengthenWays_38 rfl ?_
        have hi16 : vp_in x3_20 10 := (fin' (n := 10) rfl (by omega) (by omega))
        have nhi16 := tn hi16
        refine g_aald C (by decide) (ce_wwaym ad cs _ _) rfl hi16 dX9_strengthenWays_39 ?_
        refine g_iload C 0 dX9_strengthenWays_40 rfl ?_
        refine g_aload_n C 4 dX9_strengthenWays_42 rfl ?_
        refine g_get C (.ref (ad 99)) 3 in_X9_strengthenWays_9 (List.mem_of_getElem? (i := 4) rfl) (by decide) (ce_ways ad cs _ _) rfl (by decide) rfl rfl dX9_strengthenWays_43 ?_
        refine g_iload_n C 1 dX9_strengthenWays_46 rfl ?_
        have hi17 : vp_in x3_20 10 := (fin' (n := 10) rfl (by omega) (by omega))
        have nhi17 := tn hi17
        refine g_aald C (by decide) (ce_wwaym ad cs _ _) rfl hi17 dX9_strengthenWays_47 ?_
        refine g_iload C 0 dX9_strengthenWays_48 rfl ?_
        refine g_iald C (by omega) (ce_wway ad cs _ _ nhi17) (fin' (n := 10) rfl (by omega) (by omega)) dX9_strengthenWays_50 ?_
        refine g_ni (fun v18 ev18 => ?_)
        have tv18 := congrArg Int32.toInt ev18
        refine g_aload_n C 4 dX9_strengthenWays_51 rfl ?_
        refine g_get C (.ref (ad 99)) 3 in_X9_strengthenWays_9 (List.mem_of_getElem? (i := 4) rfl) (by decide) (ce_ways ad cs _ _) rfl (by decide) rfl rfl dX9_strengthenWays_52 ?_
        refine g_iload_n C 1 dX9_strengthenWays_55 rfl ?_
        have hi19 : vp_in x3_20 10 := (fin' (n := 10) rfl (by omega) (by omega))
        have nhi19 := tn hi19
        refine g_aald C (by decide) (ce_wwaym ad cs _ _) rfl hi19 dX9_strengthenWays_56 ?_
        refine g_iload_n C 2 dX9_strengthenWays_57 rfl ?_
        refine g_iald C (by omega) (ce_wway ad cs _ _ nhi19) (fin' (n := 10) rfl (by omega) (by omega)) dX9_strengthenWays_58 ?_
        refine g_ni (fun v20 ev20 => ?_)
        have tv20 := congrArg Int32.toInt ev20
        refine g_aload_n C 4 dX9_strengthenWays_59 rfl ?_
        refine g_get C (.ref (ad 99)) 3 in_X9_strengthenWays_9 (List.mem_of_getElem? (i := 4) rfl) (by decide) (ce_ways ad cs _ _) rfl (by decide) rfl rfl dX9_strengthenWays_60 ?_
        refine g_iload_n C 2 dX9_strengthenWays_63 rfl ?_
        have hi21 : vp_in x2_13 10 := (fin' (n := 10) rfl (by omega) (by omega))
        have nhi21 := tn hi21
        refine g_aald C (by decide) (ce_wwaym ad cs _ _) rfl hi21 dX9_strengthenWays_64 ?_
        refine g_iload C 0 dX9_strengthenWays_65 rfl ?_
        refine g_iald C (by omega) (ce_wway ad cs _ _ nhi21) (fin' (n := 10) rfl (by omega) (by omega)) dX9_strengthenWays_67 ?_
        refine g_ni (fun v22 ev22 => ?_)
        have tv22 := congrArg Int32.toInt ev22
        refine g_mmin C (List.mem_of_getElem? (i := 5) rfl) (List.mem_of_getElem? (i := 6) rfl) (List.mem_of_getElem? (i := 7) rfl) (List.mem_of_getElem? (i := 8) rfl) (Nat.le_of_ble_eq_true rfl) (Nat.le_of_ble_eq_true rfl) ⟨Nat.zero_le _, Nat.zero_le _⟩ dX9_strengthenWays_68 ?_
        refine g_ni (fun v23 ev23 => ?_)
        refine g_mmax C (List.mem_of_getElem? (i := 9) rfl) (List.mem_of_getElem? (i := 10) rfl) (List.mem_of_getElem? (i := 7) rfl) (List.mem_of_getElem? (i := 11) rfl) (Nat.le_of_ble_eq_true rfl) (Nat.le_of_ble_eq_true rfl) ⟨Nat.zero_le _, Nat.zero_le _⟩ dX9_strengthenWays_71 ?_
        refine g_ni (fun v24 ev24 => ?_)
        refine g_iast C (by omega) (ce_wway ad cs _ _ nhi16) (by rw [sI_k]; exact (ce_wway ad cs _ _ nhi16)) (fin' (n := 10) rfl (by omega) (by omega)) dX9_strengthenWays_74 ?_
        refine g_nm (fun M25 hM25 => ?_)
        have hI : IC M25 := by rw [hM25]; exact hI.st (bC_free (by omega) (by omega) (by omega) (by omega) (by omega) (by omega) (by omega))
        have hF : ∀ k, k ≠ 97 ∧ ¬ (100 ≤ k ∧ k < 120) → M25 k = M k := fun k hk => by (rw [hM25, sI_n _ _ _ (by omega)]; try exact hF k hk)
        obtain ⟨v26, ev26⟩ : ∃ y : Int32, y = x4_28 + 1 := ⟨_, rfl⟩
        try have fv26 := fadd rfl (by decide : (1 : Int32).toInt = 1) ev26 (by omega) (by omega)
        refine g_iinc C 0 v26 [(4, .int v26), (3, .int x3_20), (2, .int x2_13), (1, .int v1), (0, .ref (ad 96))] dX9_strengthenWays_75 rfl (by rw [ev26]; rfl) (by decide) rfl ?_
        refine g_goto C 28 dX9_strengthenWays_78 (by decide) ?_
        exact ih_28 (v26, M25, L_28) ⟨by show 0 ≤ v26.toInt; omega, by show v26.toInt ≤ 10; omega, hI, hF, hG⟩ (by show (11 - v26.toInt).toNat < (11 - x4_28.toInt).toNat; omega)
theorem dX9_isUnbeaten_0 : decode cX9_isUnbeaten 0 = .ok (.iconst 0, 1) := dw3 (n := 0) (i := 0) kc_cX9_isUnbeaten_0 (by decide +kernel)
theorem dX9_isUnbeaten_1 : decode cX9_isUnbeaten 1 = .ok (.istore_n 2, 1) := dw61 (n := 0) (i := 1) kc_cX9_isUnbeaten_0 (by decide +kernel)
theorem dX9_isUnbeaten_2 : decode cX9_isUnbeaten 2 = .ok (.iload_n 2, 1) := dw28 (n := 0) (i := 2) kc_cX9_isUnbeaten_0 (by decide +kernel)
theorem dX9_isUnbeaten_3 : decode cX9_isUnbeaten 3 = .ok (.aload_n 0, 1) := dw42 (n := 0) (i := 3) kc_cX9_isUnbeaten_0 (by decide +kernel)
theorem dX9_isUnbeaten_4 : decode cX9_isUnbeaten 4 = .ok (.getfield 23, 3) := dw180 (n := 0) (i := 4) (a := 0) (b := 23) kc_cX9_isUnbeaten_0 (by decide +kernel) (by decide)
theorem in_X9_isUnbeaten_9 : ∀ w ∈ u_ws RX9 TX9 4, w ∈ wsX9_isUnbeaten := fun _ h => List.mem_cons_of_mem _ (List.mem_append_left _ (List.mem_append_left _ (List.mem_append_right _ h)))
theorem dX9_isUnbeaten_7 : decode cX9_isUnbeaten 7 = .ok (.getfield 77, 3) := dw180 (n := 0) (i := 7) (a := 0) (b := 77) kc_cX9_isUnbeaten_0 (by decide +kernel) (by decide)
theorem in_X9_isUnbeaten_6 : ∀ w ∈ u_ws RX6 TX6 8, w ∈ wsX9_isUnbeaten := fun _ h => List.mem_cons_of_mem _ (List.mem_append_left _ (List.mem_append_right _ h))
theorem dX9_isUnbeaten_10 : decode cX9_isUnbeaten 10 = .ok (.getfield 81, 3) := dw180 (n := 0) (i := 10) (a := 0) (b := 81) kc_cX9_isUnbeaten_0 (by decide +kernel) (by decide)
theorem in_X9_isUnbeaten_2 : ∀ w ∈ u_ws RX2 TX2 2, w ∈ wsX9_isUnbeaten := fun _ h => List.mem_cons_of_mem _ (List.mem_append_right _ h)
theorem dX9_isUnbeaten_13 : decode cX9_isUnbeaten 13 = .ok (.if_icmp .ge 42, 3) := dw162 (n := 0) (i := 13) (a := 0) (b := 42) kc_cX9_isUnbeaten_0 (by decide +kernel) (by decide)
theorem dX9_isUnbeaten_55 : decode cX9_isUnbeaten 55 = .ok (.iconst 1, 1) := dw4 (n := 32) (i := 23) kc_cX9_isUnbeaten_1 (by decide +kernel)
theorem dX9_isUnbeaten_56 : decode cX9_isUnbeaten 56 = .ok (.ireturn, 1) := dw172 (n := 32) (i := 24) kc_cX9_isUnbeaten_1 (by decide +kernel)
theorem dX9_isUnbeaten_16 : decode cX9_isUnbeaten 16 = .ok (.aload_n 0, 1) := dw42 (n := 0) (i := 16) kc_cX9_isUnbeaten_0 (by decide +kernel)
theorem dX9_isUnbeaten_17 : decode cX9_isUnbeaten 17 = .ok (.getfield 23, 3) := dw180 (n := 0) (i := 17) (a := 0) (b := 23) kc_cX9_isUnbeaten_0 (by decide +kernel) (by decide)
theorem dX9_isUnbeaten_20 : decode cX9_isUnbeaten 20 = .ok (.getfield 67, 3) := dw180 (n := 0) (i := 20) (a := 0) (b := 67) kc_cX9_isUnbeaten_0 (by decide +kernel) (by decide)
theorem dX9_isUnbeaten_23 : decode cX9_isUnbeaten 23 = .ok (.iload_n 2, 1) := dw28 (n := 0) (i := 23) kc_cX9_isUnbeaten_0 (by decide +kernel)
theorem dX9_isUnbeaten_24 : decode cX9_isUnbeaten 24 = .ok (.baload, 1) := dw51 (n := 0) (i := 24) kc_cX9_isUnbeaten_0 (by decide +kernel)
theorem dX9_isUnbeaten_25 : decode cX9_isUnbeaten 25 = .ok (.ifCond .eq 24, 3) := dw153 (n := 0) (i := 25) (a := 0) (b := 24) kc_cX9_isUnbeaten_0 (by decide +kernel) (by decide)
theorem dX9_isUnbeaten_49 : decode cX9_isUnbeaten 49 = .ok (.iinc 2 1, 3) := by decide +kernel
theorem dX9_isUnbeaten_52 : decode cX9_isUnbeaten 52 = .ok (.goto (-50), 3) := dw167 (n := 32) (i := 20) (a := 255) (b := 206) kc_cX9_isUnbeaten_1 (by decide +kernel) (by decide)
theorem dX9_isUnbeaten_28 : decode cX9_isUnbeaten 28 = .ok (.aload_n 0, 1) := dw42 (n := 0) (i := 28) kc_cX9_isUnbeaten_0 (by decide +kernel)
theorem dX9_isUnbeaten_29 : decode cX9_isUnbeaten 29 = .ok (.getfield 20, 3) := dw180 (n := 0) (i := 29) (a := 0) (b := 20) kc_cX9_isUnbeaten_0 (by decide +kernel) (by decide)
theorem dX9_isUnbeaten_32 : decode cX9_isUnbeaten 32 = .ok (.iload_n 2, 1) := dw28 (n := 32) (i := 0) kc_cX9_isUnbeaten_1 (by decide +kernel)
theorem dX9_isUnbeaten_33 : decode cX9_isUnbeaten 33 = .ok (.aaload, 1) := dw50 (n := 32) (i := 1) kc_cX9_isUnbeaten_1 (by decide +kernel)
theorem dX9_isUnbeaten_34 : decode cX9_isUnbeaten 34 = .ok (.iload_n 1, 1) := dw27 (n := 32) (i := 2) kc_cX9_isUnbeaten_1 (by decide +kernel)
theorem dX9_isUnbeaten_35 : decode cX9_isUnbeaten 35 = .ok (.iaload, 1) := dw46 (n := 32) (i := 3) kc_cX9_isUnbeaten_1 (by decide +kernel)
theorem dX9_isUnbeaten_36 : decode cX9_isUnbeaten 36 = .ok (.aload_n 0, 1) := dw42 (n := 32) (i := 4) kc_cX9_isUnbeaten_1 (by decide +kernel)
theorem dX9_isUnbeaten_37 : decode cX9_isUnbeaten 37 = .ok (.getfield 20, 3) := dw180 (n := 32) (i := 5) (a := 0) (b := 20) kc_cX9_isUnbeaten_1 (by decide +kernel) (by decide)
theorem dX9_isUnbeaten_40 : decode cX9_isUnbeaten 40 = .ok (.iload_n 1, 1) := dw27 (n := 32) (i := 8) kc_cX9_isUnbeaten_1 (by decide +kernel)
theorem dX9_isUnbeaten_41 : decode cX9_isUnbeaten 41 = .ok (.aaload, 1) := dw50 (n := 32) (i := 9) kc_cX9_isUnbeaten_1 (by decide +kernel)
theorem dX9_isUnbeaten_42 : decode cX9_isUnbeaten 42 = .ok (.iload_n 2, 1) := dw28 (n := 32) (i := 10) kc_cX9_isUnbeaten_1 (by decide +kernel)
theorem dX9_isUnbeaten_43 : decode cX9_isUnbeaten 43 = .ok (.iaload, 1) := dw46 (n := 32) (i := 11) kc_cX9_isUnbeaten_1 (by decide +kernel)
theorem dX9_isUnbeaten_44 : decode cX9_isUnbeaten 44 = .ok (.if_icmp .le 5, 3) := dw164 (n := 32) (i := 12) (a := 0) (b := 5) kc_cX9_isUnbeaten_1 (by decide +kernel) (by decide)
theorem dX9_isUnbeaten_47 : decode cX9_isUnbeaten 47 = .ok (.iconst 0, 1) := dw3 (n := 32) (i := 15) kc_cX9_isUnbeaten_1 (by decide +kernel)
theorem dX9_isUnbeaten_48 : decode cX9_isUnbeaten 48 = .ok (.ireturn, 1) := dw172 (n := 32) (i := 16) kc_cX9_isUnbeaten_1 (by decide +kernel)
set_option maxHeartbeats 4000000 in
set_option maxRecDepth 100000 in
theorem s_X9_isUnbeaten (l : Launch) (D : va_G) (ad : Nat → Nat) (cs : Nat → ClassId) (M : MI) (L : ML) (x : Int32) (hI : IC M) (hx : 0 ≤ x.toInt ∧ x.toInt < 10) : Ci l yX9_isUnbeaten wsX9_isUnbeaten ({ frames := 0, cells := 0, slots := 0, locals := 0 }) D ad cs [.ref (ad 96), .int x] M L (fun r M1 L1 => M1 = M ∧ L1 = L ∧ (r = 0 ∨ r = 1)) := by
  refine enter_i RX9 rfl [(0, .ref (ad 96)), (1, .int x)] rfl (Nat.le_of_ble_eq_true rfl) (by decide +kernel) rfl ?_
  intro p e s m below meth c C hr
  have hF : ∀ k, True → M k = M k := fun _ _ => rfl
  have hG : ∀ k, True → L k = L k := fun _ _ => rfl
  obtain ⟨hx1, hx2⟩ := hx
  refine g_iconst C 0 dX9_isUnbeaten_0 (by decide) ?_
  refine g_istore_n C [(2, .int 0), (0, .ref (ad 96)), (1, .int x)] dX9_isUnbeaten_1 (by decide) rfl ?_
  have zy1 : (0 : Int32).toInt = 0 := by decide
  refine g_loop (α := Int32 × MI × ML) (fun a => (11 - a.1.toInt).toNat) (fun a => 0 ≤ a.1.toInt ∧ a.1.toInt ≤ 10 ∧ IC a.2.1 ∧ (∀ k, True → a.2.1 k = M k) ∧ (∀ k, True → a.2.2 k = L k)) (fun a => a.2.1) (fun a => a.2.2) (fun a => [(2, .int a.1), (0, .ref (ad 96)), (1, .int x)]) (0, M, L) ⟨by show 0 ≤ (0 : Int32).toInt; omega, by show (0 : Int32).toInt ≤ 10; omega, hI, hF, hG⟩ rfl rfl rfl ?_
  rintro ⟨x2_2, M_2, L_2⟩ ⟨j2_0, j2_1, hI, hF, hG⟩ ih_2
  dsimp only at j2_0 j2_1 hI hF hG ih_2 ⊢
  refine g_iload_n C 0 dX9_isUnbeaten_2 rfl ?_
  refine g_aload_n C 1 dX9_isUnbeaten_3 rfl ?_
  refine g_get C (.ref (ad 88)) 0 in_X9_isUnbeaten_9 (List.mem_of_getElem? (i := 1) rfl) (by decide) (ce_ways ad cs _ _) rfl (by decide) rfl rfl dX9_isUnbeaten_4 ?_
  refine g_get C (.ref (ad 1)) 0 in_X9_isUnbeaten_6 (List.mem_of_getElem? (i := 2) rfl) (by decide) (ce_poll ad cs _ _) rfl (by decide) rfl rfl dX9_isUnbeaten_7 ?_
  refine g_get C (.int (M_2 1 0)) 0 in_X9_isUnbeaten_2 (List.mem_of_getElem? (i := 3) rfl) (by decide) (ce_cand ad cs _ _) rfl (by decide) rfl rfl dX9_isUnbeaten_10 ?_
  refine g_ni (fun v2 ev2 => ?_)
  have tv2 := congrArg Int32.toInt ev2
  obtain ⟨bv2, dv2⟩ := (show rg 0 10 v2 from (by rw [ev2]; exact hI 1 0 rfl))
  refine g_icmp_ge C 55 dX9_isUnbeaten_13 (by decide) (fun c3 => ?_) (fun c3 => ?_)
  ·
    have f4 := fle rfl rfl c3
    refine g_iconst C 1 dX9_isUnbeaten_55 (by decide) ?_
    exact g_zret C hr (by first | rfl | (rcases hz with rfl | rfl <;> rfl)) ⟨funext (fun k => hF k trivial), funext (fun k => hG k trivial), (by first | exact Or.inl rfl | exact Or.inr rfl | exact hz)⟩ dX9_isUnbeaten_56
  ·
    have f5 := fnle rfl rfl c3
    refine g_aload_n C 1 dX9_isUnbeaten_16 rfl ?_
    refine g_get C (.ref (ad 88)) 0 in_X9_isUnbeaten_9 (List.mem_of_getElem? (i := 1) rfl) (by decide) (ce_ways ad cs _ _) rfl (by decide) rfl rfl dX9_isUnbeaten_17 ?_
    refine g_get C (.ref (ad 90)) 5 in_X9_isUnbeaten_6 (List.mem_of_getElem? (i := 4) rfl) (by decide) (ce_poll ad cs _ _) rfl (by decide) rfl rfl dX9_isUnbeaten_20 ?_
    refine g_iload_n C 0 dX9_isUnbeaten_23 rfl ?_
    refine g_zald C (by decide) (ce_pin ad cs _ _) (fin' (n := 10) rfl (by omega) (by omega)) dX9_isUnbeaten_24 ?_
    refine g_ni (fun v6 ev6 => ?_)
    refine g_if_eq C 49 dX9_isUnbeaten_25 (by decide) (fun c7 => ?_) (fun c7 => ?_)
    ·
      have f8 := feq rfl (by decide : (0 : Int32).toInt = 0) c7
      obtain ⟨v9, ev9⟩ : ∃ y : Int32, y = x2_2 + 1 := ⟨_, rfl⟩
      try have fv9 := fadd rfl (by decide : (1 : Int32).toInt = 1) ev9 (by omega) (by omega)
      refine g_iinc C 0 v9 [(2, .int v9), (0, .ref (ad 96)), (1, .int x)] dX9_isUnbeaten_49 rfl (by rw [ev9]; rfl) (by decide) rfl ?_
      refine g_goto C 2 dX9_isUnbeaten_52 (by decide) ?_
      exact ih_2 (v9, M_2, L_2) ⟨by show 0 ≤ v9.toInt; omega, by show v9.toInt ≤ 10; omega, hI, hF, hG⟩ (by show (11 - v9.toInt).toNat < (11 - x2_2.toInt).toNat; omega)
    ·
      have f10 := fne rfl (by decide : (0 : Int32).toInt = 0) c7
      refine g_aload_n C 1 dX9_isUnbeaten_28 rfl ?_
      refine g_get C (.ref (ad 99)) 3 in_X9_isUnbeaten_9 (List.mem_of_getElem? (i := 5) rfl) (by decide) (ce_ways ad cs _ _) rfl (by decide) rfl rfl dX9_isUnbeaten_29 ?_
      refine g_iload_n C 0 dX9_isUnbeaten_32 rfl ?_
      have hi11 : vp_in x2_2 10 := (fin' (n := 10) rfl (by omega) (by omega))
      have nhi11 := tn hi11
      refine g_aald C (by decide) (ce_wwaym ad cs _ _) rfl hi11 dX9_isUnbeaten_33 ?_
      refine g_iload_n C 2 dX9_isUnbeaten_34 rfl ?_
      refine g_iald C (by omega) (ce_wway ad cs _ _ nhi11) (fin' (n := 10) rfl (by omega) (by omega)) dX9_isUnbeaten_35 ?_
      refine g_ni (fun v12 ev12 => ?_)
      have tv12 := congrArg Int32.toInt ev12
      refine g_aload_n C 1 dX9_isUnbeaten_36 rfl ?_
      refine g_get C (.ref (ad 99)) 3 in_X9_isUnbeaten_9 (List.mem_of_getElem? (i := 5) rfl) (by decide) (ce_ways ad cs _ _) rfl (by decide) rfl rfl dX9_isUnbeaten_37 ?_
      refine g_iload_n C 2 dX9_isUnbeaten_40 rfl ?_
      have hi13 : vp_in x 10 := (fin' (n := 10) rfl (by omega) (by omega))
      have nhi13 := tn hi13
      refine g_aald C (by decide) (ce_wwaym ad cs _ _) rfl hi13 dX9_isUnbeaten_41 ?_
      refine g_iload_n C 0 dX9_isUnbeaten_42 rfl ?_
      refine g_iald C (by omega) (ce_wway ad cs _ _ nhi13) (fin' (n := 10) rfl (by omega) (by omega)) dX9_isUnbeaten_43 ?_
      refine g_ni (fun v14 ev14 => ?_)
      have tv14 := congrArg Int32.toInt ev14
      refine g_icmp_le C 49 dX9_isUnbeaten_44 (by decide) (fun c15 => ?_) (fun c15 => ?_)
      ·
        have f16 := fle rfl rfl c15
        obtain ⟨v17, ev17⟩ : ∃ y : Int32, y = x2_2 + 1 := ⟨_, rfl⟩
        try have fv17 := fadd rfl (by decide : (1 : Int32).toInt = 1) ev17 (by omega) (by omega)
        refine g_iinc C 0 v17 [(2, .int v17), (0, .ref (ad 96)), (1, .int x)] dX9_isUnbeaten_49 rfl (by rw [ev17]; rfl) (by decide) rfl ?_
        refine g_goto C 2 dX9_isUnbeaten_52 (by decide) ?_
        exact ih_2 (v17, M_2, L_2) ⟨by show 0 ≤ v17.toInt; omega, by show v17.toInt ≤ 10; omega, hI, hF, hG⟩ (by show (11 - v17.toInt).toNat < (11 - x2_2.toInt).toNat; omega)
      ·
        have f18 := fnle rfl rfl c15
        refine g_iconst C 0 dX9_isUnbeaten_47 (by decide) ?_
        exact g_zret C hr (by first | rfl | (rcases hz with rfl | rfl <;> rfl)) ⟨funext (fun k => hF k trivial), funext (fun k => hG k trivial), (by first | exact Or.inl rfl | exact Or.inr rfl | exact hz)⟩ dX9_isUnbeaten_48
theorem dX9_firstUnbeaten_0 : decode cX9_firstUnbeaten 0 = .ok (.iconst 0, 1) := dw3 (n := 0) (i := 0) kc_cX9_firstUnbeaten_0 (by decide +kernel)
theorem dX9_firstUnbeaten_1 : decode cX9_firstUnbeaten 1 = .ok (.istore_n 1, 1) := dw60 (n := 0) (i := 1) kc_cX9_firstUnbeaten_0 (by decide +kernel)
theorem dX9_firstUnbeaten_2 : decode cX9_firstUnbeaten 2 = .ok (.iload_n 1, 1) := dw27 (n := 0) (i := 2) kc_cX9_firstUnbeaten_0 (by decide +kernel)
theorem dX9_firstUnbeaten_3 : decode cX9_firstUnbeaten 3 = .ok (.aload_n 0, 1) := dw42 (n := 0) (i := 3) kc_cX9_firstUnbeaten_0 (by decide +kernel)
theorem dX9_firstUnbeaten_4 : decode cX9_firstUnbeaten 4 = .ok (.getfield 23, 3) := dw180 (n := 0) (i := 4) (a := 0) (b := 23) kc_cX9_firstUnbeaten_0 (by decide +kernel) (by decide)
theorem in_X9_firstUnbeaten_9 : ∀ w ∈ u_ws RX9 TX9 4, w ∈ wsX9_firstUnbeaten := fun _ h => List.mem_cons_of_mem _ (List.mem_append_left _ (List.mem_append_left _ (List.mem_append_right _ h)))
theorem dX9_firstUnbeaten_7 : decode cX9_firstUnbeaten 7 = .ok (.getfield 77, 3) := dw180 (n := 0) (i := 7) (a := 0) (b := 77) kc_cX9_firstUnbeaten_0 (by decide +kernel) (by decide)
theorem in_X9_firstUnbeaten_6 : ∀ w ∈ u_ws RX6 TX6 8, w ∈ wsX9_firstUnbeaten := fun _ h => List.mem_cons_of_mem _ (List.mem_append_left _ (List.mem_append_right _ h))
theorem dX9_firstUnbeaten_10 : decode cX9_firstUnbeaten 10 = .ok (.getfield 81, 3) := dw180 (n := 0) (i := 10) (a := 0) (b := 81) kc_cX9_firstUnbeaten_0 (by decide +kernel) (by decide)
theorem in_X9_firstUnbeaten_2 : ∀ w ∈ u_ws RX2 TX2 2, w ∈ wsX9_firstUnbeaten := fun _ h => List.mem_cons_of_mem _ (List.mem_append_right _ h)
theorem dX9_firstUnbeaten_13 : decode cX9_firstUnbeaten 13 = .ok (.if_icmp .ge 44, 3) := dw162 (n := 0) (i := 13) (a := 0) (b := 44) kc_cX9_firstUnbeaten_0 (by decide +kernel) (by decide)
theorem dX9_firstUnbeaten_57 : decode cX9_firstUnbeaten 57 = .ok (.bipush (-9), 2) := dw16 (n := 32) (i := 25) (a := 247) kc_cX9_firstUnbeaten_1 (by decide +kernel) (by decide)
theorem dX9_firstUnbeaten_59 : decode cX9_firstUnbeaten 59 = .ok (.ireturn, 1) := dw172 (n := 32) (i := 27) kc_cX9_firstUnbeaten_1 (by decide +kernel)
theorem dX9_firstUnbeaten_16 : decode cX9_firstUnbeaten 16 = .ok (.aload_n 0, 1) := dw42 (n := 0) (i := 16) kc_cX9_firstUnbeaten_0 (by decide +kernel)
theorem dX9_firstUnbeaten_17 : decode cX9_firstUnbeaten 17 = .ok (.getfield 23, 3) := dw180 (n := 0) (i := 17) (a := 0) (b := 23) kc_cX9_firstUnbeaten_0 (by decide +kernel) (by decide)
theorem dX9_firstUnbeaten_20 : decode cX9_firstUnbeaten 20 = .ok (.getfield 77, 3) := dw180 (n := 0) (i := 20) (a := 0) (b := 77) kc_cX9_firstUnbeaten_0 (by decide +kernel) (by decide)
theorem dX9_firstUnbeaten_23 : decode cX9_firstUnbeaten 23 = .ok (.getfield 108, 3) := dw180 (n := 0) (i := 23) (a := 0) (b := 108) kc_cX9_firstUnbeaten_0 (by decide +kernel) (by decide)
theorem dX9_firstUnbeaten_26 : decode cX9_firstUnbeaten 26 = .ok (.iload_n 1, 1) := dw27 (n := 0) (i := 26) kc_cX9_firstUnbeaten_0 (by decide +kernel)
theorem dX9_firstUnbeaten_27 : decode cX9_firstUnbeaten 27 = .ok (.iaload, 1) := dw46 (n := 0) (i := 27) kc_cX9_firstUnbeaten_0 (by decide +kernel)
theorem dX9_firstUnbeaten_28 : decode cX9_firstUnbeaten 28 = .ok (.istore_n 2, 1) := dw61 (n := 0) (i := 28) kc_cX9_firstUnbeaten_0 (by decide +kernel)
theorem dX9_firstUnbeaten_29 : decode cX9_firstUnbeaten 29 = .ok (.aload_n 0, 1) := dw42 (n := 0) (i := 29) kc_cX9_firstUnbeaten_0 (by decide +kernel)
theorem dX9_firstUnbeaten_30 : decode cX9_firstUnbeaten 30 = .ok (.getfield 23, 3) := dw180 (n := 0) (i := 30) (a := 0) (b := 23) kc_cX9_firstUnbeaten_0 (by decide +kernel) (by decide)
theorem dX9_firstUnbeaten_33 : decode cX9_firstUnbeaten 33 = .ok (.getfield 67, 3) := dw180 (n := 32) (i := 1) (a := 0) (b := 67) kc_cX9_firstUnbeaten_1 (by decide +kernel) (by decide)
theorem dX9_firstUnbeaten_36 : decode cX9_firstUnbeaten 36 = .ok (.iload_n 2, 1) := dw28 (n := 32) (i := 4) kc_cX9_firstUnbeaten_1 (by decide +kernel)
theorem dX9_firstUnbeaten_37 : decode cX9_firstUnbeaten 37 = .ok (.baload, 1) := dw51 (n := 32) (i := 5) kc_cX9_firstUnbeaten_1 (by decide +kernel)
theorem dX9_firstUnbeaten_38 : decode cX9_firstUnbeaten 38 = .ok (.ifCond .eq 13, 3) := dw153 (n := 32) (i := 6) (a := 0) (b := 13) kc_cX9_firstUnbeaten_1 (by decide +kernel) (by decide)
theorem dX9_firstUnbeaten_51 : decode cX9_firstUnbeaten 51 = .ok (.iinc 1 1, 3) := by decide +kernel
theorem dX9_firstUnbeaten_54 : decode cX9_firstUnbeaten 54 = .ok (.goto (-52), 3) := dw167 (n := 32) (i := 22) (a := 255) (b := 204) kc_cX9_firstUnbeaten_1 (by decide +kernel) (by decide)
theorem dX9_firstUnbeaten_41 : decode cX9_firstUnbeaten 41 = .ok (.aload_n 0, 1) := dw42 (n := 32) (i := 9) kc_cX9_firstUnbeaten_1 (by decide +kernel)
theorem dX9_firstUnbeaten_42 : decode cX9_firstUnbeaten 42 = .ok (.iload_n 2, 1) := dw28 (n := 32) (i := 10) kc_cX9_firstUnbeaten_1 (by decide +kernel)
theorem dX9_firstUnbeaten_43 : decode cX9_firstUnbeaten 43 = .ok (.invokevirtual 111, 3) := dw182 (n := 32) (i := 11) (a := 0) (b := 111) kc_cX9_firstUnbeaten_1 (by decide +kernel) (by decide)
set_option maxRecDepth 20000 in
theorem ggX9_firstUnbeaten_X9_isUnbeaten : GoodIn wsX9_firstUnbeaten wsX9_isUnbeaten := (gk_code 10 rfl (gk_fieldLink 1 rfl (gk_fieldLink 2 rfl (gk_fieldLink 3 rfl (gk_fieldLink 5 rfl (gk_fieldLink 11 rfl (gk_laysFinal 12 rfl (gk_laysFinal 13 rfl (gk_laysFinal 14 rfl (gk_laysFinal 15 rfl (gk_laysFinal 16 rfl (gk_laysFinal 17 rfl (gk_laysFinal 18 rfl (gk_lays 19 rfl (gk_lays 20 rfl (gk_laysFinal 21 rfl (gk_laysFinal 22 rfl (gk_laysFinal 23 rfl (gk_lays 24 rfl (gk_laysFinal 25 rfl (gn)))))))))))))))))))))
set_option maxRecDepth 20000 in
theorem gX9_firstUnbeaten_X9_isUnbeaten : GoodIn wsX9_firstUnbeaten (wsV RX9 111 RX9 yX9_isUnbeaten wsX9_isUnbeaten) := goodIn_app (gk_methodLink 6 rfl (gk_instanceMethod 7 rfl (gk_selects 8 rfl (gk_initialized 9 rfl (gn))))) ggX9_firstUnbeaten_X9_isUnbeaten
theorem dX9_firstUnbeaten_46 : decode cX9_firstUnbeaten 46 = .ok (.ifCond .eq 5, 3) := dw153 (n := 32) (i := 14) (a := 0) (b := 5) kc_cX9_firstUnbeaten_1 (by decide +kernel) (by decide)
theorem dX9_firstUnbeaten_49 : decode cX9_firstUnbeaten 49 = .ok (.iload_n 2, 1) := dw28 (n := 32) (i := 17) kc_cX9_firstUnbeaten_1 (by decide +kernel)
theorem dX9_firstUnbeaten_50 : decode cX9_firstUnbeaten 50 = .ok (.ireturn, 1) := dw172 (n := 32) (i := 18) kc_cX9_firstUnbeaten_1 (by decide +kernel)
set_option maxHeartbeats 4000000 in
set_option maxRecDepth 100000 in
theorem s_X9_firstUnbeaten (l : Launch) (D : va_G) (ad : Nat → Nat) (cs : Nat → ClassId) (M : MI) (L : ML)  (hI : IC M) : Ci l yX9_firstUnbeaten wsX9_firstUnbeaten ({ frames := 1, cells := 0, slots := 0, locals := 22 }) D ad cs [.ref (ad 96)] M L (fun r M1 L1 => M1 = M ∧ L1 = L ∧ (r.toInt = -9 ∨ 0 ≤ r.toInt) ∧ r.toInt < 10) := by
  refine enter_i RX9 rfl [(0, .ref (ad 96))] rfl (Nat.le_of_ble_eq_true rfl) (by decide +kernel) rfl ?_
  intro p e s m below meth c C hr
  have hF : ∀ k, True → M k = M k := fun _ _ => rfl
  have hG : ∀ k, True → L k = L k := fun _ _ => rfl
  refine g_iconst C 0 dX9_firstUnbeaten_0 (by decide) ?_
  refine g_istore_n C [(1, .int 0), (0, .ref (ad 96))] dX9_firstUnbeaten_1 (by decide) rfl ?_
  have zy1 : (0 : Int32).toInt = 0 := by decide
  refine g_loop (α := Int32 × MI × ML) (fun a => (11 - a.1.toInt).toNat) (fun a => 0 ≤ a.1.toInt ∧ a.1.toInt ≤ 10 ∧ IC a.2.1 ∧ (∀ k, True → a.2.1 k = M k) ∧ (∀ k, True → a.2.2 k = L k)) (fun a => a.2.1) (fun a => a.2.2) (fun a => [(1, .int a.1), (0, .ref (ad 96))]) (0, M, L) ⟨by show 0 ≤ (0 : Int32).toInt; omega, by show (0 : Int32).toInt ≤ 10; omega, hI, hF, hG⟩ rfl rfl rfl ?_
  rintro ⟨x1_2, M_2, L_2⟩ ⟨j2_0, j2_1, hI, hF, hG⟩ ih_2
  dsimp only at j2_0 j2_1 hI hF hG ih_2 ⊢
  refine g_iload_n C 0 dX9_firstUnbeaten_2 rfl ?_
  refine g_aload_n C 1 dX9_firstUnbeaten_3 rfl ?_
  refine g_get C (.ref (ad 88)) 0 in_X9_firstUnbeaten_9 (List.mem_of_getElem? (i := 1) rfl) (by decide) (ce_ways ad cs _ _) rfl (by decide) rfl rfl dX9_firstUnbeaten_4 ?_
  refine g_get C (.ref (ad 1)) 0 in_X9_firstUnbeaten_6 (List.mem_of_getElem? (i := 2) rfl) (by decide) (ce_poll ad cs _ _) rfl (by decide) rfl rfl dX9_firstUnbeaten_7 ?_
  refine g_get C (.int (M_2 1 0)) 0 in_X9_firstUnbeaten_2 (List.mem_of_getElem? (i := 3) rfl) (by decide) (ce_cand ad cs _ _) rfl (by decide) rfl rfl dX9_firstUnbeaten_10 ?_
  refine g_ni (fun v2 ev2 => ?_)
  have tv2 := congrArg Int32.toInt ev2
  obtain ⟨bv2, dv2⟩ := (show rg 0 10 v2 from (by rw [ev2]; exact hI 1 0 rfl))
  refine g_icmp_ge C 57 dX9_firstUnbeaten_13 (by decide) (fun c3 => ?_) (fun c3 => ?_)
  ·
    have f4 := fle rfl rfl c3
    refine g_bipush C (-9) dX9_firstUnbeaten_57 (by decide) ?_
    have z9 : ((-9) : Int32).toInt = (-9) := by decide
    exact g_iret C hr ⟨funext (fun k => hF k trivial), funext (fun k => hG k trivial), by omega, by omega⟩ dX9_firstUnbeaten_59
  ·
    have f5 := fnle rfl rfl c3
    refine g_aload_n C 1 dX9_firstUnbeaten_16 rfl ?_
    refine g_get C (.ref (ad 88)) 0 in_X9_firstUnbeaten_9 (List.mem_of_getElem? (i := 1) rfl) (by decide) (ce_ways ad cs _ _) rfl (by decide) rfl rfl dX9_firstUnbeaten_17 ?_
    refine g_get C (.ref (ad 1)) 0 in_X9_firstUnbeaten_6 (List.mem_of_getElem? (i := 2) rfl) (by decide) (ce_poll ad cs _ _) rfl (by decide) rfl rfl dX9_firstUnbeaten_20 ?_
    refine g_get C (.ref (ad 2)) 1 in_X9_firstUnbeaten_2 (List.mem_of_getElem? (i := 4) rfl) (by decide) (ce_cand ad cs _ _) rfl (by decide) rfl rfl dX9_firstUnbeaten_23 ?_
    refine g_iload_n C 0 dX9_firstUnbeaten_26 rfl ?_
    refine g_iald C (by decide) (ce_crow ad cs _ _) (fin' (n := 10) rfl (by omega) (by omega)) dX9_firstUnbeaten_27 ?_
    refine g_ni (fun v6 ev6 => ?_)
    have tv6 := congrArg Int32.toInt ev6
    obtain ⟨bv6, dv6⟩ := (show rg 0 9 v6 from (by rw [ev6]; exact hI 2 _))
    refine g_istore_n C [(2, .int v6), (1, .int x1_2), (0, .ref (ad 96))] dX9_firstUnbeaten_28 (by decide) rfl ?_
    refine g_aload_n C 2 dX9_firstUnbeaten_29 rfl ?_
    refine g_get C (.ref (ad 88)) 0 in_X9_firstUnbeaten_9 (List.mem_of_getElem? (i := 1) rfl) (by decide) (ce_ways ad cs _ _) rfl (by decide) rfl rfl dX9_firstUnbeaten_30 ?_
    refine g_get C (.ref (ad 90)) 5 in_X9_firstUnbeaten_6 (List.mem_of_getElem? (i := 5) rfl) (by decide) (ce_poll ad cs _ _) rfl (by decide) rfl rfl dX9_firstUnbeaten_33 ?_
    refine g_iload_n C 0 dX9_firstUnbeaten_36 rfl ?_
    refine g_zald C (by decide) (ce_pin ad cs _ _) (fin' (n := 10) rfl (by omega) (by omega)) dX9_firstUnbeaten_37 ?_
    refine g_ni (fun v7 ev7 => ?_)
    refine g_if_eq C 51 dX9_firstUnbeaten_38 (by decide) (fun c8 => ?_) (fun c8 => ?_)
    ·
      have f9 := feq rfl (by decide : (0 : Int32).toInt = 0) c8
      obtain ⟨v10, ev10⟩ : ∃ y : Int32, y = x1_2 + 1 := ⟨_, rfl⟩
      try have fv10 := fadd rfl (by decide : (1 : Int32).toInt = 1) ev10 (by omega) (by omega)
      refine g_iinc C 1 v10 [(1, .int v10), (2, .int v6), (0, .ref (ad 96))] dX9_firstUnbeaten_51 rfl (by rw [ev10]; rfl) (by decide) rfl ?_
      refine g_goto C 2 dX9_firstUnbeaten_54 (by decide) ?_
      refine g_lv [0, 2] [(1, .int v10), (0, .ref (ad 96))] rfl ?_
      exact ih_2 (v10, M_2, L_2) ⟨by show 0 ≤ v10.toInt; omega, by show v10.toInt ≤ 10; omega, hI, hF, hG⟩ (by show (11 - v10.toInt).toNat < (11 - x1_2.toInt).toNat; omega)
    ·
      have f11 := fne rfl (by decide : (0 : Int32).toInt = 0) c8
      refine g_aload_n C 2 dX9_firstUnbeaten_41 rfl ?_
      refine g_iload_n C 0 dX9_firstUnbeaten_42 rfl ?_
      refine g_callVi C (n := 1) (As := [.int v6]) (st := []) (s_X9_isUnbeaten l D ad cs _ _ v6 hI ⟨by omega, by omega⟩) gX9_firstUnbeaten_X9_isUnbeaten rfl rfl rfl (by decide +kernel) ⟨Nat.le_of_ble_eq_true rfl, Nat.le_of_ble_eq_true rfl⟩ rfl (Nat.le_of_ble_eq_true rfl) ⟨Nat.zero_le _, Nat.zero_le _⟩ (by decide) (ce_ways ad cs _ _) rfl rfl dX9_firstUnbeaten_43 (fun r12 M13 L14 hr12 => ?_)
      obtain ⟨hq1, hq2, hr12⟩ := hr12
      obtain rfl := hq1.symm
      obtain rfl := hq2.symm
      have hz := hr12
      obtain ⟨zar12, zbr12⟩ := z_to hr12
      refine g_if_eq C 51 dX9_firstUnbeaten_46 (by decide) (fun c15 => ?_) (fun c15 => ?_)
      ·
        have f16 := feq rfl (by decide : (0 : Int32).toInt = 0) c15
        obtain ⟨v17, ev17⟩ : ∃ y : Int32, y = x1_2 + 1 := ⟨_, rfl⟩
        try have fv17 := fadd rfl (by decide : (1 : Int32).toInt = 1) ev17 (by omega) (by omega)
        refine g_iinc C 1 v17 [(1, .int v17), (2, .int v6), (0, .ref (ad 96))] dX9_firstUnbeaten_51 rfl (by rw [ev17]; rfl) (by decide) rfl ?_
        refine g_goto C 2 dX9_firstUnbeaten_54 (by decide) ?_
        refine g_lv [0, 2] [(1, .int v17), (0, .ref (ad 96))] rfl ?_
        exact ih_2 (v17, M_2, L_2) ⟨by show 0 ≤ v17.toInt; omega, by show v17.toInt ≤ 10; omega, hI, hF, hG⟩ (by show (11 - v17.toInt).toNat < (11 - x1_2.toInt).toNat; omega)
      ·
        have f18 := fne rfl (by decide : (0 : Int32).toInt = 0) c15
        refine g_iload_n C 0 dX9_firstUnbeaten_49 rfl ?_
        exact g_iret C hr ⟨funext (fun k => hF k trivial), funext (fun k => hG k trivial), by omega, by omega⟩ dX9_firstUnbeaten_50
theorem dX9_leastWay_0 : decode cX9_leastWay 0 = .ok (.bipush (-9), 2) := dw16 (n := 0) (i := 0) (a := 247) kc_cX9_leastWay_0 (by decide +kernel) (by decide)
theorem dX9_leastWay_2 : decode cX9_leastWay 2 = .ok (.istore_n 2, 1) := dw61 (n := 0) (i := 2) kc_cX9_leastWay_0 (by decide +kernel)
theorem dX9_leastWay_3 : decode cX9_leastWay 3 = .ok (.iconst 0, 1) := dw3 (n := 0) (i := 3) kc_cX9_leastWay_0 (by decide +kernel)
theorem dX9_leastWay_4 : decode cX9_leastWay 4 = .ok (.istore_n 3, 1) := dw62 (n := 0) (i := 4) kc_cX9_leastWay_0 (by decide +kernel)
theorem dX9_leastWay_5 : decode cX9_leastWay 5 = .ok (.iload_n 3, 1) := dw29 (n := 0) (i := 5) kc_cX9_leastWay_0 (by decide +kernel)
theorem dX9_leastWay_6 : decode cX9_leastWay 6 = .ok (.aload_n 0, 1) := dw42 (n := 0) (i := 6) kc_cX9_leastWay_0 (by decide +kernel)
theorem dX9_leastWay_7 : decode cX9_leastWay 7 = .ok (.getfield 23, 3) := dw180 (n := 0) (i := 7) (a := 0) (b := 23) kc_cX9_leastWay_0 (by decide +kernel) (by decide)
theorem in_X9_leastWay_9 : ∀ w ∈ u_ws RX9 TX9 4, w ∈ wsX9_leastWay := fun _ h => List.mem_cons_of_mem _ (List.mem_append_left _ (List.mem_append_left _ (List.mem_append_right _ h)))
theorem dX9_leastWay_10 : decode cX9_leastWay 10 = .ok (.getfield 77, 3) := dw180 (n := 0) (i := 10) (a := 0) (b := 77) kc_cX9_leastWay_0 (by decide +kernel) (by decide)
theorem in_X9_leastWay_6 : ∀ w ∈ u_ws RX6 TX6 8, w ∈ wsX9_leastWay := fun _ h => List.mem_cons_of_mem _ (List.mem_append_left _ (List.mem_append_right _ h))
theorem dX9_leastWay_13 : decode cX9_leastWay 13 = .ok (.getfield 81, 3) := dw180 (n := 0) (i := 13) (a := 0) (b := 81) kc_cX9_leastWay_0 (by decide +kernel) (by decide)
theorem in_X9_leastWay_2 : ∀ w ∈ u_ws RX2 TX2 2, w ∈ wsX9_leastWay := fun _ h => List.mem_cons_of_mem _ (List.mem_append_right _ h)
theorem dX9_leastWay_16 : decode cX9_leastWay 16 = .ok (.if_icmp .ge 65, 3) := dw162 (n := 0) (i := 16) (a := 0) (b := 65) kc_cX9_leastWay_0 (by decide +kernel) (by decide)
theorem dX9_leastWay_81 : decode cX9_leastWay 81 = .ok (.iload_n 2, 1) := dw28 (n := 64) (i := 17) kc_cX9_leastWay_2 (by decide +kernel)
theorem dX9_leastWay_82 : decode cX9_leastWay 82 = .ok (.bipush (-9), 2) := dw16 (n := 64) (i := 18) (a := 247) kc_cX9_leastWay_2 (by decide +kernel) (by decide)
theorem dX9_leastWay_84 : decode cX9_leastWay 84 = .ok (.if_icmp .ne 7, 3) := dw160 (n := 64) (i := 20) (a := 0) (b := 7) kc_cX9_leastWay_2 (by decide +kernel) (by decide)
theorem dX9_leastWay_91 : decode cX9_leastWay 91 = .ok (.iload_n 2, 1) := dw28 (n := 64) (i := 27) kc_cX9_leastWay_2 (by decide +kernel)
theorem dX9_leastWay_92 : decode cX9_leastWay 92 = .ok (.ireturn, 1) := dw172 (n := 64) (i := 28) kc_cX9_leastWay_2 (by decide +kernel)
theorem dX9_leastWay_87 : decode cX9_leastWay 87 = .ok (.iconst 0, 1) := dw3 (n := 64) (i := 23) kc_cX9_leastWay_2 (by decide +kernel)
theorem dX9_leastWay_88 : decode cX9_leastWay 88 = .ok (.goto 4, 3) := dw167 (n := 64) (i := 24) (a := 0) (b := 4) kc_cX9_leastWay_2 (by decide +kernel) (by decide)
theorem dX9_leastWay_19 : decode cX9_leastWay 19 = .ok (.iload_n 3, 1) := dw29 (n := 0) (i := 19) kc_cX9_leastWay_0 (by decide +kernel)
theorem dX9_leastWay_20 : decode cX9_leastWay 20 = .ok (.iload_n 1, 1) := dw27 (n := 0) (i := 20) kc_cX9_leastWay_0 (by decide +kernel)
theorem dX9_leastWay_21 : decode cX9_leastWay 21 = .ok (.if_icmp .eq 19, 3) := dw159 (n := 0) (i := 21) (a := 0) (b := 19) kc_cX9_leastWay_0 (by decide +kernel) (by decide)
theorem dX9_leastWay_40 : decode cX9_leastWay 40 = .ok (.iconst 0, 1) := dw3 (n := 32) (i := 8) kc_cX9_leastWay_1 (by decide +kernel)
theorem dX9_leastWay_41 : decode cX9_leastWay 41 = .ok (.istore 4, 2) := dw54 (n := 32) (i := 9) (a := 4) kc_cX9_leastWay_1 (by decide +kernel) (by decide)
theorem dX9_leastWay_43 : decode cX9_leastWay 43 = .ok (.iload 4, 2) := dw21 (n := 32) (i := 11) (a := 4) kc_cX9_leastWay_1 (by decide +kernel) (by decide)
theorem dX9_leastWay_45 : decode cX9_leastWay 45 = .ok (.ifCond .eq 30, 3) := dw153 (n := 32) (i := 13) (a := 0) (b := 30) kc_cX9_leastWay_1 (by decide +kernel) (by decide)
theorem dX9_leastWay_75 : decode cX9_leastWay 75 = .ok (.iinc 3 1, 3) := by decide +kernel
theorem dX9_leastWay_78 : decode cX9_leastWay 78 = .ok (.goto (-73), 3) := dw167 (n := 64) (i := 14) (a := 255) (b := 183) kc_cX9_leastWay_2 (by decide +kernel) (by decide)
theorem dX9_leastWay_24 : decode cX9_leastWay 24 = .ok (.aload_n 0, 1) := dw42 (n := 0) (i := 24) kc_cX9_leastWay_0 (by decide +kernel)
theorem dX9_leastWay_25 : decode cX9_leastWay 25 = .ok (.getfield 23, 3) := dw180 (n := 0) (i := 25) (a := 0) (b := 23) kc_cX9_leastWay_0 (by decide +kernel) (by decide)
theorem dX9_leastWay_28 : decode cX9_leastWay 28 = .ok (.getfield 67, 3) := dw180 (n := 0) (i := 28) (a := 0) (b := 67) kc_cX9_leastWay_0 (by decide +kernel) (by decide)
theorem dX9_leastWay_31 : decode cX9_leastWay 31 = .ok (.iload_n 3, 1) := dw29 (n := 0) (i := 31) kc_cX9_leastWay_0 (by decide +kernel)
theorem dX9_leastWay_32 : decode cX9_leastWay 32 = .ok (.baload, 1) := dw51 (n := 32) (i := 0) kc_cX9_leastWay_1 (by decide +kernel)
theorem dX9_leastWay_33 : decode cX9_leastWay 33 = .ok (.ifCond .eq 7, 3) := dw153 (n := 32) (i := 1) (a := 0) (b := 7) kc_cX9_leastWay_1 (by decide +kernel) (by decide)
theorem dX9_leastWay_36 : decode cX9_leastWay 36 = .ok (.iconst 1, 1) := dw4 (n := 32) (i := 4) kc_cX9_leastWay_1 (by decide +kernel)
theorem dX9_leastWay_37 : decode cX9_leastWay 37 = .ok (.goto 4, 3) := dw167 (n := 32) (i := 5) (a := 0) (b := 4) kc_cX9_leastWay_1 (by decide +kernel) (by decide)
theorem dX9_leastWay_48 : decode cX9_leastWay 48 = .ok (.iload_n 2, 1) := dw28 (n := 32) (i := 16) kc_cX9_leastWay_1 (by decide +kernel)
theorem dX9_leastWay_49 : decode cX9_leastWay 49 = .ok (.bipush (-9), 2) := dw16 (n := 32) (i := 17) (a := 247) kc_cX9_leastWay_1 (by decide +kernel) (by decide)
theorem dX9_leastWay_51 : decode cX9_leastWay 51 = .ok (.if_icmp .eq 15, 3) := dw159 (n := 32) (i := 19) (a := 0) (b := 15) kc_cX9_leastWay_1 (by decide +kernel) (by decide)
theorem dX9_leastWay_66 : decode cX9_leastWay 66 = .ok (.aload_n 0, 1) := dw42 (n := 64) (i := 2) kc_cX9_leastWay_2 (by decide +kernel)
theorem dX9_leastWay_67 : decode cX9_leastWay 67 = .ok (.getfield 20, 3) := dw180 (n := 64) (i := 3) (a := 0) (b := 20) kc_cX9_leastWay_2 (by decide +kernel) (by decide)
theorem dX9_leastWay_70 : decode cX9_leastWay 70 = .ok (.iload_n 1, 1) := dw27 (n := 64) (i := 6) kc_cX9_leastWay_2 (by decide +kernel)
theorem dX9_leastWay_71 : decode cX9_leastWay 71 = .ok (.aaload, 1) := dw50 (n := 64) (i := 7) kc_cX9_leastWay_2 (by decide +kernel)
theorem dX9_leastWay_72 : decode cX9_leastWay 72 = .ok (.iload_n 3, 1) := dw29 (n := 64) (i := 8) kc_cX9_leastWay_2 (by decide +kernel)
theorem dX9_leastWay_73 : decode cX9_leastWay 73 = .ok (.iaload, 1) := dw46 (n := 64) (i := 9) kc_cX9_leastWay_2 (by decide +kernel)
theorem dX9_leastWay_74 : decode cX9_leastWay 74 = .ok (.istore_n 2, 1) := dw61 (n := 64) (i := 10) kc_cX9_leastWay_2 (by decide +kernel)
theorem dX9_leastWay_54 : decode cX9_leastWay 54 = .ok (.aload_n 0, 1) := dw42 (n := 32) (i := 22) kc_cX9_leastWay_1 (by decide +kernel)
theorem dX9_leastWay_55 : decode cX9_leastWay 55 = .ok (.getfield 20, 3) := dw180 (n := 32) (i := 23) (a := 0) (b := 20) kc_cX9_leastWay_1 (by decide +kernel) (by decide)
theorem dX9_leastWay_58 : decode cX9_leastWay 58 = .ok (.iload_n 1, 1) := dw27 (n := 32) (i := 26) kc_cX9_leastWay_1 (by decide +kernel)
theorem dX9_leastWay_59 : decode cX9_leastWay 59 = .ok (.aaload, 1) := dw50 (n := 32) (i := 27) kc_cX9_leastWay_1 (by decide +kernel)
theorem dX9_leastWay_60 : decode cX9_leastWay 60 = .ok (.iload_n 3, 1) := dw29 (n := 32) (i := 28) kc_cX9_leastWay_1 (by decide +kernel)
theorem dX9_leastWay_61 : decode cX9_leastWay 61 = .ok (.iaload, 1) := dw46 (n := 32) (i := 29) kc_cX9_leastWay_1 (by decide +kernel)
theorem dX9_leastWay_62 : decode cX9_leastWay 62 = .ok (.iload_n 2, 1) := dw28 (n := 32) (i := 30) kc_cX9_leastWay_1 (by decide +kernel)
theorem dX9_leastWay_63 : decode cX9_leastWay 63 = .ok (.if_icmp .ge 12, 3) := dw162 (n := 32) (i := 31) (a := 0) (b := 12) kc_cX9_leastWay_1 (by decide +kernel) (by decide)
set_option maxHeartbeats 4000000 in
set_option maxRecDepth 100000 in
theorem s_X9_leastWay (l : Launch) (D : va_G) (ad : Nat → Nat) (cs : Nat → ClassId) (M : MI) (L : ML) (x : Int32) (hI : IC M) (hx : 0 ≤ x.toInt ∧ x.toInt < 10) : Ci l yX9_leastWay wsX9_leastWay ({ frames := 0, cells := 0, slots := 0, locals := 0 }) D ad cs [.ref (ad 96), .int x] M L (fun r M1 L1 => M1 = M ∧ L1 = L ∧ True) := by
  refine enter_i RX9 rfl [(0, .ref (ad 96)), (1, .int x)] rfl (Nat.le_of_ble_eq_true rfl) (by decide +kernel) rfl ?_
  intro p e s m below meth c C hr
  have hF : ∀ k, True → M k = M k := fun _ _ => rfl
  have hG : ∀ k, True → L k = L k := fun _ _ => rfl
  obtain ⟨hx1, hx2⟩ := hx
  refine g_bipush C (-9) dX9_leastWay_0 (by decide) ?_
  refine g_istore_n C [(2, .int ((-9))), (0, .ref (ad 96)), (1, .int x)] dX9_leastWay_2 (by decide) rfl ?_
  refine g_iconst C 0 dX9_leastWay_3 (by decide) ?_
  refine g_istore_n C [(3, .int 0), (2, .int ((-9))), (0, .ref (ad 96)), (1, .int x)] dX9_leastWay_4 (by decide) rfl ?_
  have zy1 : (0 : Int32).toInt = 0 := by decide
  have zy2 : ((-9) : Int32).toInt = (-9) := by decide
  refine g_loop (α := Int32 × Int32 × MI × ML) (fun a => (11 - a.1.toInt).toNat) (fun a => 0 ≤ a.1.toInt ∧ a.1.toInt ≤ 10 ∧ IC a.2.2.1 ∧ (∀ k, True → a.2.2.1 k = M k) ∧ (∀ k, True → a.2.2.2 k = L k)) (fun a => a.2.2.1) (fun a => a.2.2.2) (fun a => [(3, .int a.1), (2, .int a.2.1), (0, .ref (ad 96)), (1, .int x)]) (0, ((-9)), M, L) ⟨by show 0 ≤ (0 : Int32).toInt; omega, by show (0 : Int32).toInt ≤ 10; omega, hI, hF, hG⟩ rfl rfl rfl ?_
  rintro ⟨x3_5, x2_5, M_5, L_5⟩ ⟨j5_0, j5_1, hI, hF, hG⟩ ih_5
  dsimp only at j5_0 j5_1 hI hF hG ih_5 ⊢
  refine g_iload_n C 0 dX9_leastWay_5 rfl ?_
  refine g_aload_n C 2 dX9_leastWay_6 rfl ?_
  refine g_get C (.ref (ad 88)) 0 in_X9_leastWay_9 (List.mem_of_getElem? (i := 1) rfl) (by decide) (ce_ways ad cs _ _) rfl (by decide) rfl rfl dX9_leastWay_7 ?_
  refine g_get C (.ref (ad 1)) 0 in_X9_leastWay_6 (List.mem_of_getElem? (i := 2) rfl) (by decide) (ce_poll ad cs _ _) rfl (by decide) rfl rfl dX9_leastWay_10 ?_
  refine g_get C (.int (M_5 1 0)) 0 in_X9_leastWay_2 (List.mem_of_getElem? (i := 3) rfl) (by decide) (ce_cand ad cs _ _) rfl (by decide) rfl rfl dX9_leastWay_13 ?_
  refine g_ni (fun v3 ev3 => ?_)
  have tv3 := congrArg Int32.toInt ev3
  obtain ⟨bv3, dv3⟩ := (show rg 0 10 v3 from (by rw [ev3]; exact hI 1 0 rfl))
  refine g_icmp_ge C 81 dX9_leastWay_16 (by decide) (fun c4 => ?_) (fun c4 => ?_)
  ·
    have f5 := fle rfl rfl c4
    refine g_iload_n C 1 dX9_leastWay_81 rfl ?_
    refine g_bipush C (-9) dX9_leastWay_82 (by decide) ?_
    refine g_icmp_ne C 91 dX9_leastWay_84 (by decide) (fun c6 => ?_) (fun c6 => ?_)
    ·
      have f7 := fne rfl (by decide : ((-9) : Int32).toInt = (-9)) c6
      refine g_iload_n C 1 dX9_leastWay_91 rfl ?_
      exact g_iret C hr ⟨funext (fun k => hF k trivial), funext (fun k => hG k trivial), trivial⟩ dX9_leastWay_92
    ·
      have f8 := feq rfl (by decide : ((-9) : Int32).toInt = (-9)) c6
      refine g_iconst C 0 dX9_leastWay_87 (by decide) ?_
      refine g_goto C 92 dX9_leastWay_88 (by decide) ?_
      exact g_iret C hr ⟨funext (fun k => hF k trivial), funext (fun k => hG k trivial), trivial⟩ dX9_leastWay_92
  ·
    have f9 := fnle rfl rfl c4
    refine g_iload_n C 0 dX9_leastWay_19 rfl ?_
    refine g_iload_n C 3 dX9_leastWay_20 rfl ?_
    refine g_icmp_eq C 40 dX9_leastWay_21 (by decide) (fun c10 => ?_) (fun c10 => ?_)
    ·
      have f11 := feq rfl rfl c10
      refine g_iconst C 0 dX9_leastWay_40 (by decide) ?_
      refine g_istore C [(4, .int 0), (3, .int x3_5), (2, .int x2_5), (0, .ref (ad 96)), (1, .int x)] dX9_leastWay_41 (by decide) rfl ?_
      refine g_iload C 0 dX9_leastWay_43 rfl ?_
      refine g_if_eq C 75 dX9_leastWay_45 (by decide) (fun _ => ?_) (fun c12 => absurd c12 (by decide))
      obtain ⟨v13, ev13⟩ : ∃ y : Int32, y = x3_5 + 1 := ⟨_, rfl⟩
      try have fv13 := fadd rfl (by decide : (1 : Int32).toInt = 1) ev13 (by omega) (by omega)
      refine g_iinc C 1 v13 [(3, .int v13), (4, .int 0), (2, .int x2_5), (0, .ref (ad 96)), (1, .int x)] dX9_leastWay_75 rfl (by rw [ev13]; rfl) (by decide) rfl ?_
      refine g_goto C 5 dX9_leastWay_78 (by decide) ?_
      refine g_lv [0, 2, 3, 4] [(3, .int v13), (2, .int x2_5), (0, .ref (ad 96)), (1, .int x)] rfl ?_
      exact ih_5 (v13, x2_5, M_5, L_5) ⟨by show 0 ≤ v13.toInt; omega, by show v13.toInt ≤ 10; omega, hI, hF, hG⟩ (by show (11 - v13.toInt).toNat < (11 - x3_5.toInt).toNat; omega)
    ·
      have f14 := fne rfl rfl c10
      refine g_aload_n C 2 dX9_leastWay_24 rfl ?_
      refine g_get C (.ref (ad 88)) 0 in_X9_leastWay_9 (List.mem_of_getElem? (i := 1) rfl) (by decide) (ce_ways ad cs _ _) rfl (by decide) rfl rfl dX9_leastWay_25 ?_
      refine g_get C (.ref (ad 90)) 5 in_X9_leastWay_6 (List.mem_of_getElem? (i := 4) rfl) (by decide) (ce_poll ad cs _ _) rfl (by decide) rfl rfl dX9_leastWay_28 ?_
      refine g_iload_n C 0 dX9_leastWay_31 rfl ?_
      refine g_zald C (by decide) (ce_pin ad cs _ _) (fin' (n := 10) rfl (by omega) (by omega)) dX9_leastWay_32 ?_
      refine g_ni (fun v15 ev15 => ?_)
      refine g_if_eq C 40 dX9_leastWay_33 (by decide) (fun c16 => ?_) (fun c16 => ?_)
      ·
        have f17 := feq rfl (by decide : (0 : Int32).toInt = 0) c16
        refine g_iconst C 0 dX9_leastWay_40 (by decide) ?_
        refine g_istore C [(4, .int 0), (3, .int x3_5), (2, .int x2_5), (0, .ref (ad 96)), (1, .int x)] dX9_leastWay_41 (by decide) rfl ?_
        refine g_iload C 0 dX9_leastWay_43 rfl ?_
        refine g_if_eq C 75 dX9_leastWay_45 (by decide) (fun _ => ?_) (fun c18 => absurd c18 (by decide))
        obtain ⟨v19, ev19⟩ : ∃ y : Int32, y = x3_5 + 1 := ⟨_, rfl⟩
        try have fv19 := fadd rfl (by decide : (1 : Int32).toInt = 1) ev19 (by omega) (by omega)
        refine g_iinc C 1 v19 [(3, .int v19), (4, .int 0), (2, .int x2_5), (0, .ref (ad 96)), (1, .int x)] dX9_leastWay_75 rfl (by rw [ev19]; rfl) (by decide) rfl ?_
        refine g_goto C 5 dX9_leastWay_78 (by decide) ?_
        refine g_lv [0, 2, 3, 4] [(3, .int v19), (2, .int x2_5), (0, .ref (ad 96)), (1, .int x)] rfl ?_
        exact ih_5 (v19, x2_5, M_5, L_5) ⟨by show 0 ≤ v19.toInt; omega, by show v19.toInt ≤ 10; omega, hI, hF, hG⟩ (by show (11 - v19.toInt).toNat < (11 - x3_5.toInt).toNat; omega)
      ·
        have f20 := fne rfl (by decide : (0 : Int32).toInt = 0) c16
        refine g_iconst C 1 dX9_leastWay_36 (by decide) ?_
        refine g_goto C 41 dX9_leastWay_37 (by decide) ?_
        refine g_istore C [(4, .int 1), (3, .int x3_5), (2, .int x2_5), (0, .ref (ad 96)), (1, .int x)] dX9_leastWay_41 (by decide) rfl ?_
        refine g_iload C 0 dX9_leastWay_43 rfl ?_
        refine g_if_eq C 75 dX9_leastWay_45 (by decide) (fun c21 => absurd c21 (by decide)) (fun _ => ?_)
        refine g_iload_n C 2 dX9_leastWay_48 rfl ?_
        refine g_bipush C (-9) dX9_leastWay_49 (by decide) ?_
        refine g_icmp_eq C 66 dX9_leastWay_51 (by decide) (fun c22 => ?_) (fun c22 => ?_)
        ·
          have f23 := feq rfl (by decide : ((-9) : Int32).toInt = (-9)) c22
          refine g_aload_n C 3 dX9_leastWay_66 rfl ?_
          refine g_get C (.ref (ad 99)) 3 in_X9_leastWay_9 (List.mem_of_getElem? (i := 5) rfl) (by decide) (ce_ways ad cs _ _) rfl (by decide) rfl rfl dX9_leastWay_67 ?_
          refine g_iload_n C 4 dX9_leastWay_70 rfl ?_
          have hi24 : vp_in x 10 := (fin' (n := 10) rfl (by omega) (by omega))
          have nhi24 := tn hi24
          refine g_aald C (by decide) (ce_wwaym ad cs _ _) rfl hi24 dX9_leastWay_71 ?_
          refine g_iload_n C 1 dX9_leastWay_72 rfl ?_
          refine g_iald C (by omega) (ce_wway ad cs _ _ nhi24) (fin' (n := 10) rfl (by omega) (by omega)) dX9_leastWay_73 ?_
          refine g_ni (fun v25 ev25 => ?_)
          have tv25 := congrArg Int32.toInt ev25
          refine g_istore_n C [(2, .int v25), (4, .int 1), (3, .int x3_5), (0, .ref (ad 96)), (1, .int x)] dX9_leastWay_74 (by decide) rfl ?_
          obtain ⟨v26, ev26⟩ : ∃ y : Int32, y = x3_5 + 1 := ⟨_, rfl⟩
          try have fv26 := fadd rfl (by decide : (1 : Int32).toInt = 1) ev26 (by omega) (by omega)
          refine g_iinc C 2 v26 [(3, .int v26), (2, .int v25), (4, .int 1), (0, .ref (ad 96)), (1, .int x)] dX9_leastWay_75 rfl (by rw [ev26]; rfl) (by decide) rfl ?_
          refine g_goto C 5 dX9_leastWay_78 (by decide) ?_
          refine g_lv [0, 1, 3, 4] [(3, .int v26), (2, .int v25), (0, .ref (ad 96)), (1, .int x)] rfl ?_
          exact ih_5 (v26, v25, M_5, L_5) ⟨by show 0 ≤ v26.toInt; omega, by show v26.toInt ≤ 10; omega, hI, hF, hG⟩ (by show (11 - v26.toInt).toNat < (11 - x3_5.toInt).toNat; omega)
        ·
          have f27 := fne rfl (by decide : ((-9) : Int32).toInt = (-9)) c22
          refine g_aload_n C 3 dX9_leastWay_54 rfl ?_
          refine g_get C (.ref (ad 99)) 3 in_X9_leastWay_9 (List.mem_of_getElem? (i := 5) rfl) (by decide) (ce_ways ad cs _ _) rfl (by decide) rfl rfl dX9_leastWay_55 ?_
          refine g_iload_n C 4 dX9_leastWay_58 rfl ?_
          have hi28 : vp_in x 10 := (fin' (n := 10) rfl (by omega) (by omega))
          have nhi28 := tn hi28
          refine g_aald C (by decide) (ce_wwaym ad cs _ _) rfl hi28 dX9_leastWay_59 ?_
          refine g_iload_n C 1 dX9_leastWay_60 rfl ?_
          refine g_iald C (by omega) (ce_wway ad cs _ _ nhi28) (fin' (n := 10) rfl (by omega) (by omega)) dX9_leastWay_61 ?_
          refine g_ni (fun v29 ev29 => ?_)
          have tv29 := congrArg Int32.toInt ev29
          refine g_iload_n C 2 dX9_leastWay_62 rfl ?_
          refine g_icmp_ge C 75 dX9_leastWay_63 (by decide) (fun c30 => ?_) (fun c30 => ?_)
          ·
            have f31 := fle rfl rfl c30
            obtain ⟨v32, ev32⟩ : ∃ y : Int32, y = x3_5 + 1 := ⟨_, rfl⟩
            try have fv32 := fadd rfl (by decide : (1 : Int32).toInt = 1) ev32 (by omega) (by omega)
            refine g_iinc C 1 v32 [(3, .int v32), (4, .int 1), (2, .int x2_5), (0, .ref (ad 96)), (1, .int x)] dX9_leastWay_75 rfl (by rw [ev32]; rfl) (by decide) rfl ?_
            refine g_goto C 5 dX9_leastWay_78 (by decide) ?_
            refine g_lv [0, 2, 3, 4] [(3, .int v32), (2, .int x2_5), (0, .ref (ad 96)), (1, .int x)] rfl ?_
            exact ih_5 (v32, x2_5, M_5, L_5) ⟨by show 0 ≤ v32.toInt; omega, by show v32.toInt ≤ 10; omega, hI, hF, hG⟩ (by show (11 - v32.toInt).toNat < (11 - x3_5.toInt).toNat; omega)
          ·
            have f33 := fnle rfl rfl c30
            refine g_aload_n C 3 dX9_leastWay_66 rfl ?_
            refine g_get C (.ref (ad 99)) 3 in_X9_leastWay_9 (List.mem_of_getElem? (i := 5) rfl) (by decide) (ce_ways ad cs _ _) rfl (by decide) rfl rfl dX9_leastWay_67 ?_
            refine g_iload_n C 4 dX9_leastWay_70 rfl ?_
            have hi34 : vp_in x 10 := (fin' (n := 10) rfl (by omega) (by omega))
            have nhi34 := tn hi34
            refine g_aald C (by decide) (ce_wwaym ad cs _ _) rfl hi34 dX9_leastWay_71 ?_
            refine g_iload_n C 1 dX9_leastWay_72 rfl ?_
            refine g_iald C (by omega) (ce_wway ad cs _ _ nhi34) (fin' (n := 10) rfl (by omega) (by omega)) dX9_leastWay_73 ?_
            refine g_ni (fun v35 ev35 => ?_)
            have tv35 := congrArg Int32.toInt ev35
            have uv35 : v35 = v29 := by rw [ev35]; exact ev29.symm
            have wv35 := congrArg Int32.toInt uv35
            refine g_istore_n C [(2, .int v35), (4, .int 1), (3, .int x3_5), (0, .ref (ad 96)), (1, .int x)] dX9_leastWay_74 (by decide) rfl ?_
            obtain ⟨v36, ev36⟩ : ∃ y : Int32, y = x3_5 + 1 := ⟨_, rfl⟩
            try have fv36 := fadd rfl (by decide : (1 : Int32).toInt = 1) ev36 (by omega) (by omega)
            refine g_iinc C 2 v36 [(3, .int v36), (2, .int v35), (4, .int 1), (0, .ref (ad 96)), (1, .int x)] dX9_leastWay_75 rfl (by rw [ev36]; rfl) (by decide) rfl ?_
            refine g_goto C 5 dX9_leastWay_78 (by decide) ?_
            refine g_lv [0, 1, 3, 4] [(3, .int v36), (2, .int v35), (0, .ref (ad 96)), (1, .int x)] rfl ?_
            exact ih_5 (v36, v35, M_5, L_5) ⟨by show 0 ≤ v36.toInt; omega, by show v36.toInt ≤ 10; omega, hI, hF, hG⟩ (by show (11 - v36.toInt).toNat < (11 - x3_5.toInt).toNat; omega)
theorem dX3_become_0 : decode cX3_become 0 = .ok (.lload_n 1, 1) := dw31 (n := 0) (i := 0) kc_cX3_become_0 (by decide +kernel)
theorem dX3_become_1 : decode cX3_become 1 = .ok (.lstore 5, 2) := dw55 (n := 0) (i := 1) (a := 5) kc_cX3_become_0 (by decide +kernel) (by decide)
theorem dX3_become_3 : decode cX3_become 3 = .ok (.lload_n 3, 1) := dw33 (n := 0) (i := 3) kc_cX3_become_0 (by decide +kernel)
theorem dX3_become_4 : decode cX3_become 4 = .ok (.lstore 7, 2) := dw55 (n := 0) (i := 4) (a := 7) kc_cX3_become_0 (by decide +kernel) (by decide)
theorem dX3_become_6 : decode cX3_become 6 = .ok (.iconst 0, 1) := dw3 (n := 0) (i := 6) kc_cX3_become_0 (by decide +kernel)
theorem dX3_become_7 : decode cX3_become 7 = .ok (.istore 9, 2) := dw54 (n := 0) (i := 7) (a := 9) kc_cX3_become_0 (by decide +kernel) (by decide)
theorem dX3_become_9 : decode cX3_become 9 = .ok (.iload 9, 2) := dw21 (n := 0) (i := 9) (a := 9) kc_cX3_become_0 (by decide +kernel) (by decide)
theorem dX3_become_11 : decode cX3_become 11 = .ok (.sipush 1000, 3) := dw17 (n := 0) (i := 11) (a := 3) (b := 232) kc_cX3_become_0 (by decide +kernel) (by decide)
theorem dX3_become_14 : decode cX3_become 14 = .ok (.if_icmp .ge 31, 3) := dw162 (n := 0) (i := 14) (a := 0) (b := 31) kc_cX3_become_0 (by decide +kernel) (by decide)
theorem dX3_become_45 : decode cX3_become 45 = .ok (.aload_n 0, 1) := dw42 (n := 32) (i := 13) kc_cX3_become_1 (by decide +kernel)
theorem dX3_become_46 : decode cX3_become 46 = .ok (.lload 5, 2) := dw22 (n := 32) (i := 14) (a := 5) kc_cX3_become_1 (by decide +kernel) (by decide)
theorem dX3_become_48 : decode cX3_become 48 = .ok (.lconst 1, 1) := dw10 (n := 32) (i := 16) kc_cX3_become_1 (by decide +kernel)
theorem dX3_become_49 : decode cX3_become 49 = .ok (.lcmp, 1) := dw148 (n := 32) (i := 17) kc_cX3_become_1 (by decide +kernel)
theorem dX3_become_50 : decode cX3_become 50 = .ok (.ifCond .ge 7, 3) := dw156 (n := 32) (i := 18) (a := 0) (b := 7) kc_cX3_become_1 (by decide +kernel) (by decide)
theorem dX3_become_57 : decode cX3_become 57 = .ok (.lload_n 1, 1) := dw31 (n := 32) (i := 25) kc_cX3_become_1 (by decide +kernel)
theorem dX3_become_58 : decode cX3_become 58 = .ok (.lload 5, 2) := dw22 (n := 32) (i := 26) (a := 5) kc_cX3_become_1 (by decide +kernel) (by decide)
theorem dX3_become_60 : decode cX3_become 60 = .ok (.ldiv, 1) := dw109 (n := 32) (i := 28) kc_cX3_become_1 (by decide +kernel)
theorem dX3_become_61 : decode cX3_become 61 = .ok (.putfield 9, 3) := dw181 (n := 32) (i := 29) (a := 0) (b := 9) kc_cX3_become_1 (by decide +kernel) (by decide)
theorem in_X3_become_3 : ∀ w ∈ u_ws RX3 TX3 2, w ∈ wsX3_become := fun _ h => List.mem_cons_of_mem _ (List.mem_append_right _ h)
theorem dX3_become_64 : decode cX3_become 64 = .ok (.aload_n 0, 1) := dw42 (n := 64) (i := 0) kc_cX3_become_2 (by decide +kernel)
theorem dX3_become_65 : decode cX3_become 65 = .ok (.lload 5, 2) := dw22 (n := 64) (i := 1) (a := 5) kc_cX3_become_2 (by decide +kernel) (by decide)
theorem dX3_become_67 : decode cX3_become 67 = .ok (.lconst 1, 1) := dw10 (n := 64) (i := 3) kc_cX3_become_2 (by decide +kernel)
theorem dX3_become_68 : decode cX3_become 68 = .ok (.lcmp, 1) := dw148 (n := 64) (i := 4) kc_cX3_become_2 (by decide +kernel)
theorem dX3_become_69 : decode cX3_become 69 = .ok (.ifCond .ge 7, 3) := dw156 (n := 64) (i := 5) (a := 0) (b := 7) kc_cX3_become_2 (by decide +kernel) (by decide)
theorem dX3_become_76 : decode cX3_become 76 = .ok (.lload_n 3, 1) := dw33 (n := 64) (i := 12) kc_cX3_become_2 (by decide +kernel)
theorem dX3_become_77 : decode cX3_become 77 = .ok (.lload 5, 2) := dw22 (n := 64) (i := 13) (a := 5) kc_cX3_become_2 (by decide +kernel) (by decide)
theorem dX3_become_79 : decode cX3_become 79 = .ok (.ldiv, 1) := dw109 (n := 64) (i := 15) kc_cX3_become_2 (by decide +kernel)
theorem dX3_become_80 : decode cX3_become 80 = .ok (.putfield 15, 3) := dw181 (n := 64) (i := 16) (a := 0) (b := 15) kc_cX3_become_2 (by decide +kernel) (by decide)
theorem dX3_become_83 : decode cX3_become 83 = .ok (.return_, 1) := dw177 (n := 64) (i := 19) kc_cX3_become_2 (by decide +kernel)
theorem dX3_become_72 : decode cX3_become 72 = .ok (.lconst 1, 1) := dw10 (n := 64) (i := 8) kc_cX3_become_2 (by decide +kernel)
theorem dX3_become_73 : decode cX3_become 73 = .ok (.goto 7, 3) := dw167 (n := 64) (i := 9) (a := 0) (b := 7) kc_cX3_become_2 (by decide +kernel) (by decide)
theorem dX3_become_53 : decode cX3_become 53 = .ok (.lconst 0, 1) := dw9 (n := 32) (i := 21) kc_cX3_become_1 (by decide +kernel)
theorem dX3_become_54 : decode cX3_become 54 = .ok (.goto 7, 3) := dw167 (n := 32) (i := 22) (a := 0) (b := 7) kc_cX3_become_1 (by decide +kernel) (by decide)
theorem dX3_become_17 : decode cX3_become 17 = .ok (.lload 7, 2) := dw22 (n := 0) (i := 17) (a := 7) kc_cX3_become_0 (by decide +kernel) (by decide)
theorem dX3_become_19 : decode cX3_become 19 = .ok (.lconst 0, 1) := dw9 (n := 0) (i := 19) kc_cX3_become_0 (by decide +kernel)
theorem dX3_become_20 : decode cX3_become 20 = .ok (.lcmp, 1) := dw148 (n := 0) (i := 20) kc_cX3_become_0 (by decide +kernel)
theorem dX3_become_21 : decode cX3_become 21 = .ok (.ifCond .eq 24, 3) := dw153 (n := 0) (i := 21) (a := 0) (b := 24) kc_cX3_become_0 (by decide +kernel) (by decide)
theorem dX3_become_24 : decode cX3_become 24 = .ok (.lload 5, 2) := dw22 (n := 0) (i := 24) (a := 5) kc_cX3_become_0 (by decide +kernel) (by decide)
theorem dX3_become_26 : decode cX3_become 26 = .ok (.lload 7, 2) := dw22 (n := 0) (i := 26) (a := 7) kc_cX3_become_0 (by decide +kernel) (by decide)
theorem dX3_become_28 : decode cX3_become 28 = .ok (.lrem, 1) := dw113 (n := 0) (i := 28) kc_cX3_become_0 (by decide +kernel)
theorem dX3_become_29 : decode cX3_become 29 = .ok (.lstore 10, 2) := dw55 (n := 0) (i := 29) (a := 10) kc_cX3_become_0 (by decide +kernel) (by decide)
theorem dX3_become_31 : decode cX3_become 31 = .ok (.lload 7, 2) := dw22 (n := 0) (i := 31) (a := 7) kc_cX3_become_0 (by decide +kernel) (by decide)
theorem dX3_become_33 : decode cX3_become 33 = .ok (.lstore 5, 2) := dw55 (n := 32) (i := 1) (a := 5) kc_cX3_become_1 (by decide +kernel) (by decide)
theorem dX3_become_35 : decode cX3_become 35 = .ok (.lload 10, 2) := dw22 (n := 32) (i := 3) (a := 10) kc_cX3_become_1 (by decide +kernel) (by decide)
theorem dX3_become_37 : decode cX3_become 37 = .ok (.lstore 7, 2) := dw55 (n := 32) (i := 5) (a := 7) kc_cX3_become_1 (by decide +kernel) (by decide)
theorem dX3_become_39 : decode cX3_become 39 = .ok (.iinc 9 1, 3) := by decide +kernel
theorem dX3_become_42 : decode cX3_become 42 = .ok (.goto (-33), 3) := dw167 (n := 32) (i := 10) (a := 255) (b := 223) kc_cX3_become_1 (by decide +kernel) (by decide)
set_option maxHeartbeats 4000000 in
set_option maxRecDepth 100000 in
theorem s_X3_become (l : Launch) (D : va_G) (ad : Nat → Nat) (cs : Nat → ClassId) (M : MI) (L : ML) (x : Int64) (y : Int64) (hI : IC M) : Cv l yX3_become wsX3_become ({ frames := 0, cells := 0, slots := 0, locals := 0 }) D ad cs [.ref (ad 124), .long x, .long y] M L (fun M1 L1 => IC M1 ∧ (∀ k, k < 300 ∨ 300 ≤ k → M1 k = M k) ∧ ∀ k, 258 ≤ k → L1 k = L k) := by
  refine enter_v RX3 rfl [(0, .ref (ad 124)), (1, .long x), (3, .long y)] rfl (Nat.le_of_ble_eq_true rfl) (by decide +kernel) rfl ?_
  intro p e s m below meth c C hr
  have hF : ∀ k, k < 300 ∨ 300 ≤ k → M k = M k := fun _ _ => rfl
  have hG : ∀ k, 258 ≤ k → L k = L k := fun _ _ => rfl
  refine g_lload_n C 1 dX3_become_0 rfl ?_
  refine g_lstore C [(5, .long x), (0, .ref (ad 124)), (1, .long x), (3, .long y)] dX3_become_1 (by decide) rfl ?_
  refine g_lload_n C 3 dX3_become_3 rfl ?_
  refine g_lstore C [(7, .long y), (5, .long x), (0, .ref (ad 124)), (1, .long x), (3, .long y)] dX3_become_4 (by decide) rfl ?_
  refine g_iconst C 0 dX3_become_6 (by decide) ?_
  refine g_istore C [(9, .int 0), (7, .long y), (5, .long x), (0, .ref (ad 124)), (1, .long x), (3, .long y)] dX3_become_7 (by decide) rfl ?_
  have zy1 : (0 : Int32).toInt = 0 := by decide
  refine g_loop (α := Int32 × Int64 × Int64 × MI × ML) (fun a => (1001 - a.1.toInt).toNat) (fun a => 0 ≤ a.1.toInt ∧ a.1.toInt ≤ 1000 ∧ IC a.2.2.2.1 ∧ (∀ k, k < 300 ∨ 300 ≤ k → a.2.2.2.1 k = M k) ∧ (∀ k, 258 ≤ k → a.2.2.2.2 k = L k)) (fun a => a.2.2.2.1) (fun a => a.2.2.2.2) (fun a => [(9, .int a.1), (7, .long a.2.2.1), (5, .long a.2.1), (0, .ref (ad 124)), (1, .long x), (3, .long y)]) (0, x, y, M, L) ⟨by show 0 ≤ (0 : Int32).toInt; omega, by show (0 : Int32).toInt ≤ 1000; omega, hI, hF, hG⟩ rfl rfl rfl ?_
  rintro ⟨x9_9, x5_9, x7_9, M_9, L_9⟩ ⟨j9_0, j9_1, hI, hF, hG⟩ ih_9
  dsimp only at j9_0 j9_1 hI hF hG ih_9 ⊢
  refine g_iload C 0 dX3_become_9 rfl ?_
  refine g_sipush C 1000 dX3_become_11 (by decide) ?_
  refine g_icmp_ge C 45 dX3_become_14 (by decide) (fun c2 => ?_) (fun c2 => ?_)
  ·
    have f3 := fle (by decide : (1000 : Int32).toInt = 1000) rfl c2
    refine g_aload_n C 3 dX3_become_45 rfl ?_
    refine g_lload C 2 dX3_become_46 rfl ?_
    refine g_lconst C 1 dX3_become_48 (by decide) ?_
    refine g_lcmp C dX3_become_49 ?_
    refine g_ni (fun v4 ev4 => ?_)
    refine g_if_ge C 57 dX3_become_50 (by decide) (fun c5 => ?_) (fun c5 => ?_)
    ·
      have f6 := fle (by decide : (0 : Int32).toInt = 0) rfl c5
      refine g_lload_n C 4 dX3_become_57 rfl ?_
      refine g_lload C 2 dX3_become_58 rfl ?_
      refine g_ldiv C dX3_become_60 (by intro h9; first | exact absurd c5 (by rw [ev4, h9]; decide)) ?_
      refine g_nl (fun v7 ev7 => ?_)
      refine g_putJ C 0 in_X3_become_3 (List.mem_of_getElem? (i := 1) rfl) (by decide) (ce_frac ad cs _ _) rfl (by decide) rfl tyX3 tyX3_ok nmX3 rfl rfl rfl rfl (Nat.le_of_ble_eq_true rfl) (by rw [sJ_k]; rfl) dX3_become_61 ?_
      refine g_nmL (fun L8 hL8 => ?_)
      have hG : ∀ k, 258 ≤ k → L8 k = L k := fun k hk => by (rw [hL8, sJ_n _ _ _ (by omega)]; try exact hG k hk)
      refine g_aload_n C 3 dX3_become_64 rfl ?_
      refine g_lload C 2 dX3_become_65 rfl ?_
      refine g_lconst C 1 dX3_become_67 (by decide) ?_
      refine g_lcmp C dX3_become_68 ?_
      refine g_ni (fun v9 ev9 => ?_)
      refine g_if_ge C 76 dX3_become_69 (by decide) (fun c10 => ?_) (fun c10 => ?_)
      ·
        have f11 := fle (by decide : (0 : Int32).toInt = 0) rfl c10
        refine g_lload_n C 5 dX3_become_76 rfl ?_
        refine g_lload C 2 dX3_become_77 rfl ?_
        refine g_ldiv C dX3_become_79 (by intro h9; first | exact absurd c10 (by rw [ev9, h9]; decide) | exact absurd c5 (by rw [ev4, h9]; decide)) ?_
        refine g_nl (fun v12 ev12 => ?_)
        refine g_putJ C 1 in_X3_become_3 (List.mem_of_getElem? (i := 2) rfl) (by decide) (ce_frac ad cs _ _) rfl (by decide) rfl tyX3 tyX3_ok nmX3 rfl rfl rfl rfl (Nat.le_of_ble_eq_true rfl) (by rw [sJ_k]; rfl) dX3_become_80 ?_
        refine g_nmL (fun L13 hL13 => ?_)
        have hG : ∀ k, 258 ≤ k → L13 k = L k := fun k hk => by (rw [hL13, sJ_n _ _ _ (by omega)]; try exact hG k hk)
        exact g_vret C hr ⟨hI, hF, hG⟩ dX3_become_83
      ·
        have f14 := fnle (by decide : (0 : Int32).toInt = 0) rfl c10
        refine g_lconst C 1 dX3_become_72 (by decide) ?_
        refine g_goto C 80 dX3_become_73 (by decide) ?_
        refine g_putJ C 1 in_X3_become_3 (List.mem_of_getElem? (i := 2) rfl) (by decide) (ce_frac ad cs _ _) rfl (by decide) rfl tyX3 tyX3_ok nmX3 rfl rfl rfl rfl (Nat.le_of_ble_eq_true rfl) (by rw [sJ_k]; rfl) dX3_become_80 ?_
        refine g_nmL (fun L15 hL15 => ?_)
        have hG : ∀ k, 258 ≤ k → L15 k = L k := fun k hk => by (rw [hL15, sJ_n _ _ _ (by omega)]; try exact hG k hk)
        exact g_vret C hr ⟨hI, hF, hG⟩ dX3_become_83
    ·
      have f16 := fnle (by decide : (0 : Int32).toInt = 0) rfl c5
      refine g_lconst C 0 dX3_become_53 (by decide) ?_
      refine g_goto C 61 dX3_become_54 (by decide) ?_
      refine g_putJ C 0 in_X3_become_3 (List.mem_of_getElem? (i := 1) rfl) (by decide) (ce_frac ad cs _ _) rfl (by decide) rfl tyX3 tyX3_ok nmX3 rfl rfl rfl rfl (Nat.le_of_ble_eq_true rfl) (by rw [sJ_k]; rfl) dX3_become_61 ?_
      refine g_nmL (fun L17 hL17 => ?_)
      have hG : ∀ k, 258 ≤ k → L17 k = L k := fun k hk => by (rw [hL17, sJ_n _ _ _ (by omega)]; try exact hG k hk)
      refine g_aload_n C 3 dX3_become_64 rfl ?_
      refine g_lload C 2 dX3_become_65 rfl ?_
      refine g_lconst C 1 dX3_become_67 (by decide) ?_
      refine g_lcmp C dX3_become_68 ?_
      refine g_ni (fun v18 ev18 => ?_)
      refine g_if_ge C 76 dX3_become_69 (by decide) (fun c19 => ?_) (fun c19 => ?_)
      ·
        have f20 := fle (by decide : (0 : Int32).toInt = 0) rfl c19
        refine g_lload_n C 5 dX3_become_76 rfl ?_
        refine g_lload C 2 dX3_become_77 rfl ?_
        refine g_ldiv C dX3_become_79 (by intro h9; first | exact absurd c19 (by rw [ev18, h9]; decide) | exact absurd c5 (by rw [ev4, h9]; decide)) ?_
        refine g_nl (fun v21 ev21 => ?_)
        refine g_putJ C 1 in_X3_become_3 (List.mem_of_getElem? (i := 2) rfl) (by decide) (ce_frac ad cs _ _) rfl (by decide) rfl tyX3 tyX3_ok nmX3 rfl rfl rfl rfl (Nat.le_of_ble_eq_true rfl) (by rw [sJ_k]; rfl) dX3_become_80 ?_
        refine g_nmL (fun L22 hL22 => ?_)
        have hG : ∀ k, 258 ≤ k → L22 k = L k := fun k hk => by (rw [hL22, sJ_n _ _ _ (by omega)]; try exact hG k hk)
        exact g_vret C hr ⟨hI, hF, hG⟩ dX3_become_83
      ·
        have f23 := fnle (by decide : (0 : Int32).toInt = 0) rfl c19
        refine g_lconst C 1 dX3_become_72 (by decide) ?_
        refine g_goto C 80 dX3_become_73 (by decide) ?_
        refine g_putJ C 1 in_X3_become_3 (List.mem_of_getElem? (i := 2) rfl) (by decide) (ce_frac ad cs _ _) rfl (by decide) rfl tyX3 tyX3_ok nmX3 rfl rfl rfl rfl (Nat.le_of_ble_eq_true rfl) (by rw [sJ_k]; rfl) dX3_become_80 ?_
        refine g_nmL (fun L24 hL24 => ?_)
        have hG : ∀ k, 258 ≤ k → L24 k = L k := fun k hk => by (rw [hL24, sJ_n _ _ _ (by omega)]; try exact hG k hk)
        exact g_vret C hr ⟨hI, hF, hG⟩ dX3_become_83
  ·
    have f25 := fnle (by decide : (1000 : Int32).toInt = 1000) rfl c2
    refine g_lload C 1 dX3_become_17 rfl ?_
    refine g_lconst C 0 dX3_become_19 (by decide) ?_
    refine g_lcmp C dX3_become_20 ?_
    refine g_ni (fun v26 ev26 => ?_)
    refine g_if_eq C 45 dX3_become_21 (by decide) (fun c27 => ?_) (fun c27 => ?_)
    ·
      have f28 := feq rfl (by decide : (0 : Int32).toInt = 0) c27
      refine g_aload_n C 3 dX3_become_45 rfl ?_
      refine g_lload C 2 dX3_become_46 rfl ?_
      refine g_lconst C 1 dX3_become_48 (by decide) ?_
      refine g_lcmp C dX3_become_49 ?_
      refine g_ni (fun v29 ev29 => ?_)
      refine g_if_ge C 57 dX3_become_50 (by decide) (fun c30 => ?_) (fun c30 => ?_)
      ·
        have f31 := fle (by decide : (0 : Int32).toInt = 0) rfl c30
        refine g_lload_n C 4 dX3_become_57 rfl ?_
        refine g_lload C 2 dX3_become_58 rfl ?_
        refine g_ldiv C dX3_become_60 (by intro h9; first | exact absurd c30 (by rw [ev29, h9]; decide) | exact absurd c27 (by rw [ev26, h9]; decide)) ?_
        refine g_nl (fun v32 ev32 => ?_)
        refine g_putJ C 0 in_X3_become_3 (List.mem_of_getElem? (i := 1) rfl) (by decide) (ce_frac ad cs _ _) rfl (by decide) rfl tyX3 tyX3_ok nmX3 rfl rfl rfl rfl (Nat.le_of_ble_eq_true rfl) (by rw [sJ_k]; rfl) dX3_become_61 ?_
        refine g_nmL (fun L33 hL33 => ?_)
        have hG : ∀ k, 258 ≤ k → L33 k = L k := fun k hk => by (rw [hL33, sJ_n _ _ _ (by omega)]; try exact hG k hk)
        refine g_aload_n C 3 dX3_become_64 rfl ?_
        refine g_lload C 2 dX3_become_65 rfl ?_
        refine g_lconst C 1 dX3_become_67 (by decide) ?_
        refine g_lcmp C dX3_become_68 ?_
        refine g_ni (fun v34 ev34 => ?_)
        refine g_if_ge C 76 dX3_become_69 (by decide) (fun c35 => ?_) (fun c35 => ?_)
        ·
          have f36 := fle (by decide : (0 : Int32).toInt = 0) rfl c35
          refine g_lload_n C 5 dX3_become_76 rfl ?_
          refine g_lload C 2 dX3_become_77 rfl ?_
          refine g_ldiv C dX3_become_79 (by intro h9; first | exact absurd c35 (by rw [ev34, h9]; decide) | exact absurd c30 (by rw [ev29, h9]; decide) | exact absurd c27 (by rw [ev26, h9]; decide)) ?_
          refine g_nl (fun v37 ev37 => ?_)
          refine g_putJ C 1 in_X3_become_3 (List.mem_of_getElem? (i := 2) rfl) (by decide) (ce_frac ad cs _ _) rfl (by decide) rfl tyX3 tyX3_ok nmX3 rfl rfl rfl rfl (Nat.le_of_ble_eq_true rfl) (by rw [sJ_k]; rfl) dX3_become_80 ?_
          refine g_nmL (fun L38 hL38 => ?_)
          have hG : ∀ k, 258 ≤ k → L38 k = L k := fun k hk => by (rw [hL38, sJ_n _ _ _ (by omega)]; try exact hG k hk)
          exact g_vret C hr ⟨hI, hF, hG⟩ dX3_become_83
        ·
          have f39 := fnle (by decide : (0 : Int32).toInt = 0) rfl c35
          refine g_lconst C 1 dX3_become_72 (by decide) ?_
          refine g_goto C 80 dX3_become_73 (by decide) ?_
          refine g_putJ C 1 in_X3_become_3 (List.mem_of_getElem? (i := 2) rfl) (by decide) (ce_frac ad cs _ _) rfl (by decide) rfl tyX3 tyX3_ok nmX3 rfl rfl rfl rfl (Nat.le_of_ble_eq_true rfl) (by rw [sJ_k]; rfl) dX3_become_80 ?_
          refine g_nmL (fun L40 hL40 => ?_)
          have hG : ∀ k, 258 ≤ k → L40 k = L k := fun k hk => by (rw [hL40, sJ_n _ _ _ (by omega)]; try exact hG k hk)
          exact g_vret C hr ⟨hI, hF, hG⟩ dX3_become_83
      ·
        have f41 := fnle (by decide : (0 : Int32).toInt = 0) rfl c30
        refine g_lconst C 0 dX3_become_53 (by decide) ?_
        refine g_goto C 61 dX3_become_54 (by decide) ?_
        refine g_putJ C 0 in_X3_become_3 (List.mem_of_getElem? (i := 1) rfl) (by decide) (ce_frac ad cs _ _) rfl (by decide) rfl tyX3 tyX3_ok nmX3 rfl rfl rfl rfl (Nat.le_of_ble_eq_true rfl) (by rw [sJ_k]; rfl) dX3_become_61 ?_
        refine g_nmL (fun L42 hL42 => ?_)
        have hG : ∀ k, 258 ≤ k → L42 k = L k := fun k hk => by (rw [hL42, sJ_n _ _ _ (by omega)]; try exact hG k hk)
        refine g_aload_n C 3 dX3_become_64 rfl ?_
        refine g_lload C 2 dX3_become_65 rfl ?_
        refine g_lconst C 1 dX3_become_67 (by decide) ?_
        refine g_lcmp C dX3_become_68 ?_
        refine g_ni (fun v43 ev43 => ?_)
        refine g_if_ge C 76 dX3_become_69 (by decide) (fun c44 => ?_) (fun c44 => ?_)
        ·
          have f45 := fle (by decide : (0 : Int32).toInt = 0) rfl c44
          refine g_lload_n C 5 dX3_become_76 rfl ?_
          refine g_lload C 2 dX3_become_77 rfl ?_
          refine g_ldiv C dX3_become_79 (by intro h9; first | exact absurd c44 (by rw [ev43, h9]; decide) | exact absurd c30 (by rw [ev29, h9]; decide) | exact absurd c27 (by rw [ev26, h9]; decide)) ?_
          refine g_nl (fun v46 ev46 => ?_)
          refine g_putJ C 1 in_X3_become_3 (List.mem_of_getElem? (i := 2) rfl) (by decide) (ce_frac ad cs _ _) rfl (by decide) rfl tyX3 tyX3_ok nmX3 rfl rfl rfl rfl (Nat.le_of_ble_eq_true rfl) (by rw [sJ_k]; rfl) dX3_become_80 ?_
          refine g_nmL (fun L47 hL47 => ?_)
          have hG : ∀ k, 258 ≤ k → L47 k = L k := fun k hk => by (rw [hL47, sJ_n _ _ _ (by omega)]; try exact hG k hk)
          exact g_vret C hr ⟨hI, hF, hG⟩ dX3_become_83
        ·
          have f48 := fnle (by decide : (0 : Int32).toInt = 0) rfl c44
          refine g_lconst C 1 dX3_become_72 (by decide) ?_
          refine g_goto C 80 dX3_become_73 (by decide) ?_
          refine g_putJ C 1 in_X3_become_3 (List.mem_of_getElem? (i := 2) rfl) (by decide) (ce_frac ad cs _ _) rfl (by decide) rfl tyX3 tyX3_ok nmX3 rfl rfl rfl rfl (Nat.le_of_ble_eq_true rfl) (by rw [sJ_k]; rfl) dX3_become_80 ?_
          refine g_nmL (fun L49 hL49 => ?_)
          have hG : ∀ k, 258 ≤ k → L49 k = L k := fun k hk => by (rw [hL49, sJ_n _ _ _ (by omega)]; try exact hG k hk)
          exact g_vret C hr ⟨hI, hF, hG⟩ dX3_become_83
    ·
      have f50 := fne rfl (by decide : (0 : Int32).toInt = 0) c27
      refine g_lload C 2 dX3_become_24 rfl ?_
      refine g_lload C 1 dX3_become_26 rfl ?_
      refine g_lrem C dX3_become_28 (by intro h9; first | exact absurd c27 (by rw [ev26, h9]; decide)) ?_
      refine g_nl (fun v51 ev51 => ?_)
      refine g_lstore C [(10, .long v51), (9, .int x9_9), (7, .long x7_9), (5, .long x5_9), (0, .ref (ad 124)), (1, .long x), (3, .long y)] dX3_become_29 (by decide) rfl ?_
      refine g_lload C 2 dX3_become_31 rfl ?_
      refine g_lstore C [(5, .long x7_9), (10, .long v51), (9, .int x9_9), (7, .long x7_9), (0, .ref (ad 124)), (1, .long x), (3, .long y)] dX3_become_33 (by decide) rfl ?_
      refine g_lload C 1 dX3_become_35 rfl ?_
      refine g_lstore C [(7, .long v51), (5, .long x7_9), (10, .long v51), (9, .int x9_9), (0, .ref (ad 124)), (1, .long x), (3, .long y)] dX3_become_37 (by decide) rfl ?_
      obtain ⟨v52, ev52⟩ : ∃ y : Int32, y = x9_9 + 1 := ⟨_, rfl⟩
      try have fv52 := fadd rfl (by decide : (1 : Int32).toInt = 1) ev52 (by omega) (by omega)
      refine g_iinc C 3 v52 [(9, .int v52), (7, .long v51), (5, .long x7_9), (10, .long v51), (0, .ref (ad 124)), (1, .long x), (3, .long y)] dX3_become_39 rfl (by rw [ev52]; rfl) (by decide) rfl ?_
      refine g_goto C 9 dX3_become_42 (by decide) ?_
      refine g_lv [0, 1, 2, 4, 5, 6] [(9, .int v52), (7, .long v51), (5, .long x7_9), (0, .ref (ad 124)), (1, .long x), (3, .long y)] rfl ?_
      exact ih_9 (v52, x7_9, v51, M_9, L_9) ⟨by show 0 ≤ v52.toInt; omega, by show v52.toInt ≤ 1000; omega, hI, hF, hG⟩ (by show (1001 - v52.toInt).toNat < (1001 - x9_9.toInt).toNat; omega)
theorem dX3_add_0 : decode cX3_add 0 = .ok (.aload_n 0, 1) := dw42 (n := 0) (i := 0) kc_cX3_add_0 (by decide +kernel)
theorem dX3_add_1 : decode cX3_add 1 = .ok (.aload_n 0, 1) := dw42 (n := 0) (i := 1) kc_cX3_add_0 (by decide +kernel)
theorem dX3_add_2 : decode cX3_add 2 = .ok (.getfield 9, 3) := dw180 (n := 0) (i := 2) (a := 0) (b := 9) kc_cX3_add_0 (by decide +kernel) (by decide)
theorem in_X3_add_3 : ∀ w ∈ u_ws RX3 TX3 2, w ∈ wsX3_add := fun _ h => List.mem_cons_of_mem _ (List.mem_append_right _ h)
theorem dX3_add_5 : decode cX3_add 5 = .ok (.lload_n 3, 1) := dw33 (n := 0) (i := 5) kc_cX3_add_0 (by decide +kernel)
theorem dX3_add_6 : decode cX3_add 6 = .ok (.lmul, 1) := dw105 (n := 0) (i := 6) kc_cX3_add_0 (by decide +kernel)
theorem dX3_add_7 : decode cX3_add 7 = .ok (.lload_n 1, 1) := dw31 (n := 0) (i := 7) kc_cX3_add_0 (by decide +kernel)
theorem dX3_add_8 : decode cX3_add 8 = .ok (.aload_n 0, 1) := dw42 (n := 0) (i := 8) kc_cX3_add_0 (by decide +kernel)
theorem dX3_add_9 : decode cX3_add 9 = .ok (.getfield 15, 3) := dw180 (n := 0) (i := 9) (a := 0) (b := 15) kc_cX3_add_0 (by decide +kernel) (by decide)
theorem dX3_add_12 : decode cX3_add 12 = .ok (.lmul, 1) := dw105 (n := 0) (i := 12) kc_cX3_add_0 (by decide +kernel)
theorem dX3_add_13 : decode cX3_add 13 = .ok (.ladd, 1) := dw97 (n := 0) (i := 13) kc_cX3_add_0 (by decide +kernel)
theorem dX3_add_14 : decode cX3_add 14 = .ok (.aload_n 0, 1) := dw42 (n := 0) (i := 14) kc_cX3_add_0 (by decide +kernel)
theorem dX3_add_15 : decode cX3_add 15 = .ok (.getfield 15, 3) := dw180 (n := 0) (i := 15) (a := 0) (b := 15) kc_cX3_add_0 (by decide +kernel) (by decide)
theorem dX3_add_18 : decode cX3_add 18 = .ok (.lload_n 3, 1) := dw33 (n := 0) (i := 18) kc_cX3_add_0 (by decide +kernel)
theorem dX3_add_19 : decode cX3_add 19 = .ok (.lmul, 1) := dw105 (n := 0) (i := 19) kc_cX3_add_0 (by decide +kernel)
theorem dX3_add_20 : decode cX3_add 20 = .ok (.invokevirtual 18, 3) := dw182 (n := 0) (i := 20) (a := 0) (b := 18) kc_cX3_add_0 (by decide +kernel) (by decide)
set_option maxRecDepth 20000 in
theorem ggX3_add_X3_become : GoodIn wsX3_add wsX3_become := (gk_code 7 rfl (gk_fieldLink 1 rfl (gk_fieldLink 2 rfl (gk_lays 8 rfl (gk_lays 9 rfl (gn))))))
set_option maxRecDepth 20000 in
theorem gX3_add_X3_become : GoodIn wsX3_add (wsV RX3 18 RX3 yX3_become wsX3_become) := goodIn_app (gk_methodLink 3 rfl (gk_instanceMethod 4 rfl (gk_selects 5 rfl (gk_initialized 6 rfl (gn))))) ggX3_add_X3_become
theorem dX3_add_23 : decode cX3_add 23 = .ok (.return_, 1) := dw177 (n := 0) (i := 23) kc_cX3_add_0 (by decide +kernel)
set_option maxHeartbeats 4000000 in
set_option maxRecDepth 100000 in
theorem s_X3_add (l : Launch) (D : va_G) (ad : Nat → Nat) (cs : Nat → ClassId) (M : MI) (L : ML) (x : Int64) (y : Int64) (hI : IC M) : Cv l yX3_add wsX3_add ({ frames := 1, cells := 0, slots := 0, locals := 31 }) D ad cs [.ref (ad 124), .long x, .long y] M L (fun M1 L1 => IC M1 ∧ (∀ k, k < 300 ∨ 300 ≤ k → M1 k = M k) ∧ ∀ k, 258 ≤ k → L1 k = L k) := by
  refine enter_v RX3 rfl [(0, .ref (ad 124)), (1, .long x), (3, .long y)] rfl (Nat.le_of_ble_eq_true rfl) (by decide +kernel) rfl ?_
  intro p e s m below meth c C hr
  have hF : ∀ k, k < 300 ∨ 300 ≤ k → M k = M k := fun _ _ => rfl
  have hG : ∀ k, 258 ≤ k → L k = L k := fun _ _ => rfl
  refine g_aload_n C 0 dX3_add_0 rfl ?_
  refine g_aload_n C 0 dX3_add_1 rfl ?_
  refine g_get C (.long (L 124 0)) 0 in_X3_add_3 (List.mem_of_getElem? (i := 1) rfl) (by decide) (ce_frac ad cs _ _) rfl (by decide) rfl rfl dX3_add_2 ?_
  refine g_nl (fun v1 ev1 => ?_)
  refine g_lload_n C 2 dX3_add_5 rfl ?_
  refine g_lmul C dX3_add_6 ?_
  refine g_nl (fun v2 ev2 => ?_)
  refine g_lload_n C 1 dX3_add_7 rfl ?_
  refine g_aload_n C 0 dX3_add_8 rfl ?_
  refine g_get C (.long (L 124 1)) 1 in_X3_add_3 (List.mem_of_getElem? (i := 2) rfl) (by decide) (ce_frac ad cs _ _) rfl (by decide) rfl rfl dX3_add_9 ?_
  refine g_nl (fun v3 ev3 => ?_)
  refine g_lmul C dX3_add_12 ?_
  refine g_nl (fun v4 ev4 => ?_)
  refine g_ladd C dX3_add_13 ?_
  refine g_nl (fun v5 ev5 => ?_)
  refine g_aload_n C 0 dX3_add_14 rfl ?_
  refine g_get C (.long (L 124 1)) 1 in_X3_add_3 (List.mem_of_getElem? (i := 2) rfl) (by decide) (ce_frac ad cs _ _) rfl (by decide) rfl rfl dX3_add_15 ?_
  refine g_nl (fun v6 ev6 => ?_)
  refine g_lload_n C 2 dX3_add_18 rfl ?_
  refine g_lmul C dX3_add_19 ?_
  refine g_nl (fun v7 ev7 => ?_)
  refine g_callVv C (n := 2) (As := [.long v5, .long v7]) (st := []) (s_X3_become l D ad cs _ _ v5 v7 hI) gX3_add_X3_become rfl rfl rfl (by decide +kernel) ⟨Nat.le_of_ble_eq_true rfl, Nat.le_of_ble_eq_true rfl⟩ rfl (Nat.le_of_ble_eq_true rfl) ⟨Nat.zero_le _, Nat.zero_le _⟩ (by decide) (ce_frac ad cs _ _) rfl rfl dX3_add_20 (fun M9 L10 hr8 => ?_)
  obtain ⟨hI, hF1, hG1⟩ := hr8
  have hF : ∀ k, k < 300 ∨ 300 ≤ k → M9 k = M k := fun k hk => by (rw [hF1 k (by omega)]; try exact hF k hk)
  have hG : ∀ k, 258 ≤ k → L10 k = L k := fun k hk => by (rw [hG1 k hk]; try exact hG k hk)
  exact g_vret C hr ⟨hI, hF, hG⟩ dX3_add_23
theorem dX3_multiply_0 : decode cX3_multiply 0 = .ok (.aload_n 0, 1) := dw42 (n := 0) (i := 0) kc_cX3_multiply_0 (by decide +kernel)
theorem dX3_multiply_1 : decode cX3_multiply 1 = .ok (.aload_n 0, 1) := dw42 (n := 0) (i := 1) kc_cX3_multiply_0 (by decide +kernel)
theorem dX3_multiply_2 : decode cX3_multiply 2 = .ok (.getfield 9, 3) := dw180 (n := 0) (i := 2) (a := 0) (b := 9) kc_cX3_multiply_0 (by decide +kernel) (by decide)
theorem in_X3_multiply_3 : ∀ w ∈ u_ws RX3 TX3 2, w ∈ wsX3_multiply := fun _ h => List.mem_cons_of_mem _ (List.mem_append_right _ h)
theorem dX3_multiply_5 : decode cX3_multiply 5 = .ok (.lload_n 1, 1) := dw31 (n := 0) (i := 5) kc_cX3_multiply_0 (by decide +kernel)
theorem dX3_multiply_6 : decode cX3_multiply 6 = .ok (.lmul, 1) := dw105 (n := 0) (i := 6) kc_cX3_multiply_0 (by decide +kernel)
theorem dX3_multiply_7 : decode cX3_multiply 7 = .ok (.aload_n 0, 1) := dw42 (n := 0) (i := 7) kc_cX3_multiply_0 (by decide +kernel)
theorem dX3_multiply_8 : decode cX3_multiply 8 = .ok (.getfield 15, 3) := dw180 (n := 0) (i := 8) (a := 0) (b := 15) kc_cX3_multiply_0 (by decide +kernel) (by decide)
theorem dX3_multiply_11 : decode cX3_multiply 11 = .ok (.lload_n 3, 1) := dw33 (n := 0) (i := 11) kc_cX3_multiply_0 (by decide +kernel)
theorem dX3_multiply_12 : decode cX3_multiply 12 = .ok (.lmul, 1) := dw105 (n := 0) (i := 12) kc_cX3_multiply_0 (by decide +kernel)
theorem dX3_multiply_13 : decode cX3_multiply 13 = .ok (.invokevirtual 18, 3) := dw182 (n := 0) (i := 13) (a := 0) (b := 18) kc_cX3_multiply_0 (by decide +kernel) (by decide)
set_option maxRecDepth 20000 in
theorem ggX3_multiply_X3_become : GoodIn wsX3_multiply wsX3_become := (gk_code 7 rfl (gk_fieldLink 1 rfl (gk_fieldLink 2 rfl (gk_lays 8 rfl (gk_lays 9 rfl (gn))))))
set_option maxRecDepth 20000 in
theorem gX3_multiply_X3_become : GoodIn wsX3_multiply (wsV RX3 18 RX3 yX3_become wsX3_become) := goodIn_app (gk_methodLink 3 rfl (gk_instanceMethod 4 rfl (gk_selects 5 rfl (gk_initialized 6 rfl (gn))))) ggX3_multiply_X3_become
theorem dX3_multiply_16 : decode cX3_multiply 16 = .ok (.return_, 1) := dw177 (n := 0) (i := 16) kc_cX3_multiply_0 (by decide +kernel)
set_option maxHeartbeats 4000000 in
set_option maxRecDepth 100000 in
theorem s_X3_multiply (l : Launch) (D : va_G) (ad : Nat → Nat) (cs : Nat → ClassId) (M : MI) (L : ML) (x : Int64) (y : Int64) (hI : IC M) : Cv l yX3_multiply wsX3_multiply ({ frames := 1, cells := 0, slots := 0, locals := 31 }) D ad cs [.ref (ad 124), .long x, .long y] M L (fun M1 L1 => IC M1 ∧ (∀ k, k < 300 ∨ 300 ≤ k → M1 k = M k) ∧ ∀ k, 258 ≤ k → L1 k = L k) := by
  refine enter_v RX3 rfl [(0, .ref (ad 124)), (1, .long x), (3, .long y)] rfl (Nat.le_of_ble_eq_true rfl) (by decide +kernel) rfl ?_
  intro p e s m below meth c C hr
  have hF : ∀ k, k < 300 ∨ 300 ≤ k → M k = M k := fun _ _ => rfl
  have hG : ∀ k, 258 ≤ k → L k = L k := fun _ _ => rfl
  refine g_aload_n C 0 dX3_multiply_0 rfl ?_
  refine g_aload_n C 0 dX3_multiply_1 rfl ?_
  refine g_get C (.long (L 124 0)) 0 in_X3_multiply_3 (List.mem_of_getElem? (i := 1) rfl) (by decide) (ce_frac ad cs _ _) rfl (by decide) rfl rfl dX3_multiply_2 ?_
  refine g_nl (fun v1 ev1 => ?_)
  refine g_lload_n C 1 dX3_multiply_5 rfl ?_
  refine g_lmul C dX3_multiply_6 ?_
  refine g_nl (fun v2 ev2 => ?_)
  refine g_aload_n C 0 dX3_multiply_7 rfl ?_
  refine g_get C (.long (L 124 1)) 1 in_X3_multiply_3 (List.mem_of_getElem? (i := 2) rfl) (by decide) (ce_frac ad cs _ _) rfl (by decide) rfl rfl dX3_multiply_8 ?_
  refine g_nl (fun v3 ev3 => ?_)
  refine g_lload_n C 2 dX3_multiply_11 rfl ?_
  refine g_lmul C dX3_multiply_12 ?_
  refine g_nl (fun v4 ev4 => ?_)
  refine g_callVv C (n := 2) (As := [.long v2, .long v4]) (st := []) (s_X3_become l D ad cs _ _ v2 v4 hI) gX3_multiply_X3_become rfl rfl rfl (by decide +kernel) ⟨Nat.le_of_ble_eq_true rfl, Nat.le_of_ble_eq_true rfl⟩ rfl (Nat.le_of_ble_eq_true rfl) ⟨Nat.zero_le _, Nat.zero_le _⟩ (by decide) (ce_frac ad cs _ _) rfl rfl dX3_multiply_13 (fun M6 L7 hr5 => ?_)
  obtain ⟨hI, hF1, hG1⟩ := hr5
  have hF : ∀ k, k < 300 ∨ 300 ≤ k → M6 k = M k := fun k hk => by (rw [hF1 k (by omega)]; try exact hF k hk)
  have hG : ∀ k, 258 ≤ k → L7 k = L k := fun k hk => by (rw [hG1 k hk]; try exact hG k hk)
  exact g_vret C hr ⟨hI, hF, hG⟩ dX3_multiply_16
theorem dX3_fits_0 : decode cX3_fits 0 = .ok (.aload_n 0, 1) := dw42 (n := 0) (i := 0) kc_cX3_fits_0 (by decide +kernel)
theorem dX3_fits_1 : decode cX3_fits 1 = .ok (.getfield 9, 3) := dw180 (n := 0) (i := 1) (a := 0) (b := 9) kc_cX3_fits_0 (by decide +kernel) (by decide)
theorem in_X3_fits_3 : ∀ w ∈ u_ws RX3 TX3 2, w ∈ wsX3_fits := fun _ h => List.mem_cons_of_mem _ (List.mem_append_right _ h)
theorem dX3_fits_4 : decode cX3_fits 4 = .ok (.ldc2_w 22, 3) := dw20 (n := 0) (i := 4) (a := 0) (b := 22) kc_cX3_fits_0 (by decide +kernel) (by decide)
theorem dX3_fits_7 : decode cX3_fits 7 = .ok (.lcmp, 1) := dw148 (n := 0) (i := 7) kc_cX3_fits_0 (by decide +kernel)
theorem dX3_fits_8 : decode cX3_fits 8 = .ok (.ifCond .gt 18, 3) := dw157 (n := 0) (i := 8) (a := 0) (b := 18) kc_cX3_fits_0 (by decide +kernel) (by decide)
theorem dX3_fits_26 : decode cX3_fits 26 = .ok (.iconst 0, 1) := dw3 (n := 0) (i := 26) kc_cX3_fits_0 (by decide +kernel)
theorem dX3_fits_27 : decode cX3_fits 27 = .ok (.ireturn, 1) := dw172 (n := 0) (i := 27) kc_cX3_fits_0 (by decide +kernel)
theorem dX3_fits_11 : decode cX3_fits 11 = .ok (.aload_n 0, 1) := dw42 (n := 0) (i := 11) kc_cX3_fits_0 (by decide +kernel)
theorem dX3_fits_12 : decode cX3_fits 12 = .ok (.getfield 15, 3) := dw180 (n := 0) (i := 12) (a := 0) (b := 15) kc_cX3_fits_0 (by decide +kernel) (by decide)
theorem dX3_fits_15 : decode cX3_fits 15 = .ok (.ldc2_w 22, 3) := dw20 (n := 0) (i := 15) (a := 0) (b := 22) kc_cX3_fits_0 (by decide +kernel) (by decide)
theorem dX3_fits_18 : decode cX3_fits 18 = .ok (.lcmp, 1) := dw148 (n := 0) (i := 18) kc_cX3_fits_0 (by decide +kernel)
theorem dX3_fits_19 : decode cX3_fits 19 = .ok (.ifCond .gt 7, 3) := dw157 (n := 0) (i := 19) (a := 0) (b := 7) kc_cX3_fits_0 (by decide +kernel) (by decide)
theorem dX3_fits_22 : decode cX3_fits 22 = .ok (.iconst 1, 1) := dw4 (n := 0) (i := 22) kc_cX3_fits_0 (by decide +kernel)
theorem dX3_fits_23 : decode cX3_fits 23 = .ok (.goto 4, 3) := dw167 (n := 0) (i := 23) (a := 0) (b := 4) kc_cX3_fits_0 (by decide +kernel) (by decide)
set_option maxHeartbeats 4000000 in
set_option maxRecDepth 100000 in
theorem s_X3_fits (l : Launch) (D : va_G) (ad : Nat → Nat) (cs : Nat → ClassId) (M : MI) (L : ML)  (hI : IC M) : Ci l yX3_fits wsX3_fits ({ frames := 0, cells := 0, slots := 0, locals := 0 }) D ad cs [.ref (ad 124)] M L (fun r M1 L1 => M1 = M ∧ L1 = L ∧ (r = 0 ∨ r = 1)) := by
  refine enter_i RX3 rfl [(0, .ref (ad 124))] rfl (Nat.le_of_ble_eq_true rfl) (by decide +kernel) rfl ?_
  intro p e s m below meth c C hr
  have hF : ∀ k, True → M k = M k := fun _ _ => rfl
  have hG : ∀ k, True → L k = L k := fun _ _ => rfl
  refine g_aload_n C 0 dX3_fits_0 rfl ?_
  refine g_get C (.long (L 124 0)) 0 in_X3_fits_3 (List.mem_of_getElem? (i := 1) rfl) (by decide) (ce_frac ad cs _ _) rfl (by decide) rfl rfl dX3_fits_1 ?_
  refine g_nl (fun v1 ev1 => ?_)
  refine g_ldc2 C 1000000000 (List.mem_of_getElem? (i := 2) rfl) dX3_fits_4 ?_
  refine g_lcmp C dX3_fits_7 ?_
  refine g_ni (fun v2 ev2 => ?_)
  refine g_if_gt C 26 dX3_fits_8 (by decide) (fun c3 => ?_) (fun c3 => ?_)
  ·
    have f4 := fl (by decide : (0 : Int32).toInt = 0) rfl c3
    refine g_iconst C 0 dX3_fits_26 (by decide) ?_
    exact g_zret C hr (by first | rfl | (rcases hz with rfl | rfl <;> rfl)) ⟨rfl, rfl, (by first | exact Or.inl rfl | exact Or.inr rfl | exact hz)⟩ dX3_fits_27
  ·
    have f5 := fnl (by decide : (0 : Int32).toInt = 0) rfl c3
    refine g_aload_n C 0 dX3_fits_11 rfl ?_
    refine g_get C (.long (L 124 1)) 1 in_X3_fits_3 (List.mem_of_getElem? (i := 3) rfl) (by decide) (ce_frac ad cs _ _) rfl (by decide) rfl rfl dX3_fits_12 ?_
    refine g_nl (fun v6 ev6 => ?_)
    refine g_ldc2 C 1000000000 (List.mem_of_getElem? (i := 2) rfl) dX3_fits_15 ?_
    refine g_lcmp C dX3_fits_18 ?_
    refine g_ni (fun v7 ev7 => ?_)
    refine g_if_gt C 26 dX3_fits_19 (by decide) (fun c8 => ?_) (fun c8 => ?_)
    ·
      have f9 := fl (by decide : (0 : Int32).toInt = 0) rfl c8
      refine g_iconst C 0 dX3_fits_26 (by decide) ?_
      exact g_zret C hr (by first | rfl | (rcases hz with rfl | rfl <;> rfl)) ⟨rfl, rfl, (by first | exact Or.inl rfl | exact Or.inr rfl | exact hz)⟩ dX3_fits_27
    ·
      have f10 := fnl (by decide : (0 : Int32).toInt = 0) rfl c8
      refine g_iconst C 1 dX3_fits_22 (by decide) ?_
      refine g_goto C 27 dX3_fits_23 (by decide) ?_
      exact g_zret C hr (by first | rfl | (rcases hz with rfl | rfl <;> rfl)) ⟨rfl, rfl, (by first | exact Or.inl rfl | exact Or.inr rfl | exact hz)⟩ dX3_fits_27
theorem dX8_addWeight_0 : decode cX8_addWeight 0 = .ok (.aload_n 0, 1) := dw42 (n := 0) (i := 0) kc_cX8_addWeight_0 (by decide +kernel)
theorem dX8_addWeight_1 : decode cX8_addWeight 1 = .ok (.getfield 25, 3) := dw180 (n := 0) (i := 1) (a := 0) (b := 25) kc_cX8_addWeight_0 (by decide +kernel) (by decide)
theorem in_X8_addWeight_8 : ∀ w ∈ u_ws RX8 TX8 5, w ∈ wsX8_addWeight := fun _ h => List.mem_cons_of_mem _ (List.mem_append_left _ (List.mem_append_left _ (List.mem_append_right _ h)))
theorem dX8_addWeight_4 : decode cX8_addWeight 4 = .ok (.aload_n 0, 1) := dw42 (n := 0) (i := 4) kc_cX8_addWeight_0 (by decide +kernel)
theorem dX8_addWeight_5 : decode cX8_addWeight 5 = .ok (.getfield 29, 3) := dw180 (n := 0) (i := 5) (a := 0) (b := 29) kc_cX8_addWeight_0 (by decide +kernel) (by decide)
theorem dX8_addWeight_8 : decode cX8_addWeight 8 = .ok (.getfield 74, 3) := dw180 (n := 0) (i := 8) (a := 0) (b := 74) kc_cX8_addWeight_0 (by decide +kernel) (by decide)
theorem in_X8_addWeight_6 : ∀ w ∈ u_ws RX6 TX6 8, w ∈ wsX8_addWeight := fun _ h => List.mem_cons_of_mem _ (List.mem_append_left _ (List.mem_append_right _ h))
theorem dX8_addWeight_11 : decode cX8_addWeight 11 = .ok (.iload_n 2, 1) := dw28 (n := 0) (i := 11) kc_cX8_addWeight_0 (by decide +kernel)
theorem dX8_addWeight_12 : decode cX8_addWeight 12 = .ok (.laload, 1) := dw47 (n := 0) (i := 12) kc_cX8_addWeight_0 (by decide +kernel)
theorem dX8_addWeight_13 : decode cX8_addWeight 13 = .ok (.aload_n 0, 1) := dw42 (n := 0) (i := 13) kc_cX8_addWeight_0 (by decide +kernel)
theorem dX8_addWeight_14 : decode cX8_addWeight 14 = .ok (.getfield 29, 3) := dw180 (n := 0) (i := 14) (a := 0) (b := 29) kc_cX8_addWeight_0 (by decide +kernel) (by decide)
theorem dX8_addWeight_17 : decode cX8_addWeight 17 = .ok (.getfield 77, 3) := dw180 (n := 0) (i := 17) (a := 0) (b := 77) kc_cX8_addWeight_0 (by decide +kernel) (by decide)
theorem dX8_addWeight_20 : decode cX8_addWeight 20 = .ok (.iload_n 2, 1) := dw28 (n := 0) (i := 20) kc_cX8_addWeight_0 (by decide +kernel)
theorem dX8_addWeight_21 : decode cX8_addWeight 21 = .ok (.laload, 1) := dw47 (n := 0) (i := 21) kc_cX8_addWeight_0 (by decide +kernel)
theorem dX8_addWeight_22 : decode cX8_addWeight 22 = .ok (.invokevirtual 80, 3) := dw182 (n := 0) (i := 22) (a := 0) (b := 80) kc_cX8_addWeight_0 (by decide +kernel) (by decide)
set_option maxRecDepth 20000 in
theorem ggX8_addWeight_X3_become : GoodIn wsX8_addWeight wsX3_become := (gk_code 13 rfl (gk_fieldLink 14 rfl (gk_fieldLink 15 rfl (gk_lays 39 rfl (gk_lays 40 rfl (gn))))))
set_option maxRecDepth 20000 in
theorem gX8_addWeight_X3_become : GoodIn wsX8_addWeight (wsV RX8 80 RX3 yX3_become wsX3_become) := goodIn_app (gk_methodLink 9 rfl (gk_instanceMethod 10 rfl (gk_selects 11 rfl (gk_initialized 12 rfl (gn))))) ggX8_addWeight_X3_become
theorem dX8_addWeight_25 : decode cX8_addWeight 25 = .ok (.aload_n 0, 1) := dw42 (n := 0) (i := 25) kc_cX8_addWeight_0 (by decide +kernel)
theorem dX8_addWeight_26 : decode cX8_addWeight 26 = .ok (.getfield 25, 3) := dw180 (n := 0) (i := 26) (a := 0) (b := 25) kc_cX8_addWeight_0 (by decide +kernel) (by decide)
theorem dX8_addWeight_29 : decode cX8_addWeight 29 = .ok (.aload_n 0, 1) := dw42 (n := 0) (i := 29) kc_cX8_addWeight_0 (by decide +kernel)
theorem dX8_addWeight_30 : decode cX8_addWeight 30 = .ok (.getfield 9, 3) := dw180 (n := 0) (i := 30) (a := 0) (b := 9) kc_cX8_addWeight_0 (by decide +kernel) (by decide)
theorem dX8_addWeight_33 : decode cX8_addWeight 33 = .ok (.iload_n 1, 1) := dw27 (n := 32) (i := 1) kc_cX8_addWeight_1 (by decide +kernel)
theorem dX8_addWeight_34 : decode cX8_addWeight 34 = .ok (.laload, 1) := dw47 (n := 32) (i := 2) kc_cX8_addWeight_1 (by decide +kernel)
theorem dX8_addWeight_35 : decode cX8_addWeight 35 = .ok (.aload_n 0, 1) := dw42 (n := 32) (i := 3) kc_cX8_addWeight_1 (by decide +kernel)
theorem dX8_addWeight_36 : decode cX8_addWeight 36 = .ok (.getfield 15, 3) := dw180 (n := 32) (i := 4) (a := 0) (b := 15) kc_cX8_addWeight_1 (by decide +kernel) (by decide)
theorem dX8_addWeight_39 : decode cX8_addWeight 39 = .ok (.iload_n 1, 1) := dw27 (n := 32) (i := 7) kc_cX8_addWeight_1 (by decide +kernel)
theorem dX8_addWeight_40 : decode cX8_addWeight 40 = .ok (.laload, 1) := dw47 (n := 32) (i := 8) kc_cX8_addWeight_1 (by decide +kernel)
theorem dX8_addWeight_41 : decode cX8_addWeight 41 = .ok (.invokevirtual 84, 3) := dw182 (n := 32) (i := 9) (a := 0) (b := 84) kc_cX8_addWeight_1 (by decide +kernel) (by decide)
set_option maxRecDepth 20000 in
theorem ggX8_addWeight_X3_add : GoodIn wsX8_addWeight wsX3_add := (gk_code 19 rfl (gk_fieldLink 14 rfl (gk_fieldLink 15 rfl (gk_methodLink 20 rfl (gk_instanceMethod 10 rfl (gk_selects 11 rfl (gk_initialized 12 rfl (gk_code 13 rfl (gk_lays 39 rfl (gk_lays 40 rfl (gn)))))))))))
set_option maxRecDepth 20000 in
theorem gX8_addWeight_X3_add : GoodIn wsX8_addWeight (wsV RX8 84 RX3 yX3_add wsX3_add) := goodIn_app (gk_methodLink 16 rfl (gk_instanceMethod 17 rfl (gk_selects 18 rfl (gk_initialized 12 rfl (gn))))) ggX8_addWeight_X3_add
theorem dX8_addWeight_44 : decode cX8_addWeight 44 = .ok (.aload_n 0, 1) := dw42 (n := 32) (i := 12) kc_cX8_addWeight_1 (by decide +kernel)
theorem dX8_addWeight_45 : decode cX8_addWeight 45 = .ok (.getfield 29, 3) := dw180 (n := 32) (i := 13) (a := 0) (b := 29) kc_cX8_addWeight_1 (by decide +kernel) (by decide)
theorem dX8_addWeight_48 : decode cX8_addWeight 48 = .ok (.getfield 74, 3) := dw180 (n := 32) (i := 16) (a := 0) (b := 74) kc_cX8_addWeight_1 (by decide +kernel) (by decide)
theorem dX8_addWeight_51 : decode cX8_addWeight 51 = .ok (.iload_n 2, 1) := dw28 (n := 32) (i := 19) kc_cX8_addWeight_1 (by decide +kernel)
theorem dX8_addWeight_52 : decode cX8_addWeight 52 = .ok (.aload_n 0, 1) := dw42 (n := 32) (i := 20) kc_cX8_addWeight_1 (by decide +kernel)
theorem dX8_addWeight_53 : decode cX8_addWeight 53 = .ok (.getfield 25, 3) := dw180 (n := 32) (i := 21) (a := 0) (b := 25) kc_cX8_addWeight_1 (by decide +kernel) (by decide)
theorem dX8_addWeight_56 : decode cX8_addWeight 56 = .ok (.getfield 87, 3) := dw180 (n := 32) (i := 24) (a := 0) (b := 87) kc_cX8_addWeight_1 (by decide +kernel) (by decide)
theorem in_X8_addWeight_3 : ∀ w ∈ u_ws RX3 TX3 2, w ∈ wsX8_addWeight := fun _ h => List.mem_cons_of_mem _ (List.mem_append_right _ h)
theorem dX8_addWeight_59 : decode cX8_addWeight 59 = .ok (.lastore, 1) := dw80 (n := 32) (i := 27) kc_cX8_addWeight_1 (by decide +kernel)
theorem dX8_addWeight_60 : decode cX8_addWeight 60 = .ok (.aload_n 0, 1) := dw42 (n := 32) (i := 28) kc_cX8_addWeight_1 (by decide +kernel)
theorem dX8_addWeight_61 : decode cX8_addWeight 61 = .ok (.getfield 29, 3) := dw180 (n := 32) (i := 29) (a := 0) (b := 29) kc_cX8_addWeight_1 (by decide +kernel) (by decide)
theorem dX8_addWeight_64 : decode cX8_addWeight 64 = .ok (.getfield 77, 3) := dw180 (n := 64) (i := 0) (a := 0) (b := 77) kc_cX8_addWeight_2 (by decide +kernel) (by decide)
theorem dX8_addWeight_67 : decode cX8_addWeight 67 = .ok (.iload_n 2, 1) := dw28 (n := 64) (i := 3) kc_cX8_addWeight_2 (by decide +kernel)
theorem dX8_addWeight_68 : decode cX8_addWeight 68 = .ok (.aload_n 0, 1) := dw42 (n := 64) (i := 4) kc_cX8_addWeight_2 (by decide +kernel)
theorem dX8_addWeight_69 : decode cX8_addWeight 69 = .ok (.getfield 25, 3) := dw180 (n := 64) (i := 5) (a := 0) (b := 25) kc_cX8_addWeight_2 (by decide +kernel) (by decide)
theorem dX8_addWeight_72 : decode cX8_addWeight 72 = .ok (.getfield 90, 3) := dw180 (n := 64) (i := 8) (a := 0) (b := 90) kc_cX8_addWeight_2 (by decide +kernel) (by decide)
theorem dX8_addWeight_75 : decode cX8_addWeight 75 = .ok (.lastore, 1) := dw80 (n := 64) (i := 11) kc_cX8_addWeight_2 (by decide +kernel)
theorem dX8_addWeight_76 : decode cX8_addWeight 76 = .ok (.aload_n 0, 1) := dw42 (n := 64) (i := 12) kc_cX8_addWeight_2 (by decide +kernel)
theorem dX8_addWeight_77 : decode cX8_addWeight 77 = .ok (.getfield 25, 3) := dw180 (n := 64) (i := 13) (a := 0) (b := 25) kc_cX8_addWeight_2 (by decide +kernel) (by decide)
theorem dX8_addWeight_80 : decode cX8_addWeight 80 = .ok (.invokevirtual 92, 3) := dw182 (n := 64) (i := 16) (a := 0) (b := 92) kc_cX8_addWeight_2 (by decide +kernel) (by decide)
set_option maxRecDepth 20000 in
theorem ggX8_addWeight_X3_fits : GoodIn wsX8_addWeight wsX3_fits := (gk_code 24 rfl (gk_fieldLink 14 rfl (gk_constantLong 25 rfl (gk_fieldLink 15 rfl (gk_lays 39 rfl (gk_lays 40 rfl (gn)))))))
set_option maxRecDepth 20000 in
theorem gX8_addWeight_X3_fits : GoodIn wsX8_addWeight (wsV RX8 92 RX3 yX3_fits wsX3_fits) := goodIn_app (gk_methodLink 21 rfl (gk_instanceMethod 22 rfl (gk_selects 23 rfl (gk_initialized 12 rfl (gn))))) ggX8_addWeight_X3_fits
theorem dX8_addWeight_83 : decode cX8_addWeight 83 = .ok (.ireturn, 1) := dw172 (n := 64) (i := 19) kc_cX8_addWeight_2 (by decide +kernel)
set_option maxHeartbeats 4000000 in
set_option maxRecDepth 100000 in
theorem s_X8_addWeight (l : Launch) (D : va_G) (ad : Nat → Nat) (cs : Nat → ClassId) (M : MI) (L : ML) (x : Int32) (y : Int32) (hI : IC M) (hx : 0 ≤ x.toInt ∧ x.toInt < 40) (hy : 0 ≤ y.toInt ∧ y.toInt < 10) : Ci l yX8_addWeight wsX8_addWeight ({ frames := 2, cells := 0, slots := 0, locals := 55 }) D ad cs [.ref (ad 120), .int x, .int y] M L (fun r M1 L1 => (r = 0 ∨ r = 1) ∧ IC M1 ∧ (∀ k, k < 300 ∨ 300 ≤ k → M1 k = M k) ∧ ∀ k, 258 ≤ k → L1 k = L k) := by
  refine enter_i RX8 rfl [(0, .ref (ad 120)), (1, .int x), (2, .int y)] rfl (Nat.le_of_ble_eq_true rfl) (by decide +kernel) rfl ?_
  intro p e s m below meth c C hr
  have hF : ∀ k, k < 300 ∨ 300 ≤ k → M k = M k := fun _ _ => rfl
  have hG : ∀ k, 258 ≤ k → L k = L k := fun _ _ => rfl
  obtain ⟨hx1, hx2⟩ := hx
  obtain ⟨hy1, hy2⟩ := hy
  refine g_aload_n C 0 dX8_addWeight_0 rfl ?_
  refine g_get C (.ref (ad 124)) 4 in_X8_addWeight_8 (List.mem_of_getElem? (i := 1) rfl) (by decide) (ce_trans ad cs _ _) rfl (by decide) rfl rfl dX8_addWeight_1 ?_
  refine g_aload_n C 0 dX8_addWeight_4 rfl ?_
  refine g_get C (.ref (ad 88)) 0 in_X8_addWeight_8 (List.mem_of_getElem? (i := 2) rfl) (by decide) (ce_trans ad cs _ _) rfl (by decide) rfl rfl dX8_addWeight_5 ?_
  refine g_get C (.ref (ad 91)) 6 in_X8_addWeight_6 (List.mem_of_getElem? (i := 3) rfl) (by decide) (ce_poll ad cs _ _) rfl (by decide) rfl rfl dX8_addWeight_8 ?_
  refine g_iload_n C 2 dX8_addWeight_11 rfl ?_
  refine g_lald C (by decide) (ce_pupper ad cs _ _) (fin' (n := 10) rfl (by omega) (by omega)) dX8_addWeight_12 ?_
  refine g_nl (fun v1 ev1 => ?_)
  refine g_aload_n C 0 dX8_addWeight_13 rfl ?_
  refine g_get C (.ref (ad 88)) 0 in_X8_addWeight_8 (List.mem_of_getElem? (i := 2) rfl) (by decide) (ce_trans ad cs _ _) rfl (by decide) rfl rfl dX8_addWeight_14 ?_
  refine g_get C (.ref (ad 92)) 7 in_X8_addWeight_6 (List.mem_of_getElem? (i := 4) rfl) (by decide) (ce_poll ad cs _ _) rfl (by decide) rfl rfl dX8_addWeight_17 ?_
  refine g_iload_n C 2 dX8_addWeight_20 rfl ?_
  refine g_lald C (by decide) (ce_plower ad cs _ _) (fin' (n := 10) rfl (by omega) (by omega)) dX8_addWeight_21 ?_
  refine g_nl (fun v2 ev2 => ?_)
  refine g_callVv C (n := 2) (As := [.long v1, .long v2]) (st := []) (s_X3_become l D ad cs _ _ v1 v2 hI) gX8_addWeight_X3_become rfl rfl rfl (by decide +kernel) ⟨Nat.le_of_ble_eq_true rfl, Nat.le_of_ble_eq_true rfl⟩ rfl (Nat.le_of_ble_eq_true rfl) ⟨Nat.zero_le _, Nat.zero_le _⟩ (by decide) (ce_frac ad cs _ _) rfl rfl dX8_addWeight_22 (fun M4 L5 hr3 => ?_)
  obtain ⟨hI, hF1, hG1⟩ := hr3
  have hF : ∀ k, k < 300 ∨ 300 ≤ k → M4 k = M k := fun k hk => by (rw [hF1 k (by omega)]; try exact hF k hk)
  have hG : ∀ k, 258 ≤ k → L5 k = L k := fun k hk => by (rw [hG1 k hk]; try exact hG k hk)
  refine g_aload_n C 0 dX8_addWeight_25 rfl ?_
  refine g_get C (.ref (ad 124)) 4 in_X8_addWeight_8 (List.mem_of_getElem? (i := 1) rfl) (by decide) (ce_trans ad cs _ _) rfl (by decide) rfl rfl dX8_addWeight_26 ?_
  refine g_aload_n C 0 dX8_addWeight_29 rfl ?_
  refine g_get C (.ref (ad 121)) 1 in_X8_addWeight_8 (List.mem_of_getElem? (i := 5) rfl) (by decide) (ce_trans ad cs _ _) rfl (by decide) rfl rfl dX8_addWeight_30 ?_
  refine g_iload_n C 1 dX8_addWeight_33 rfl ?_
  refine g_lald C (by decide) (ce_tup ad cs _ _) (fin' (n := 40) rfl (by omega) (by omega)) dX8_addWeight_34 ?_
  refine g_nl (fun v6 ev6 => ?_)
  refine g_aload_n C 0 dX8_addWeight_35 rfl ?_
  refine g_get C (.ref (ad 122)) 2 in_X8_addWeight_8 (List.mem_of_getElem? (i := 6) rfl) (by decide) (ce_trans ad cs _ _) rfl (by decide) rfl rfl dX8_addWeight_36 ?_
  refine g_iload_n C 1 dX8_addWeight_39 rfl ?_
  refine g_lald C (by decide) (ce_tlow ad cs _ _) (fin' (n := 40) rfl (by omega) (by omega)) dX8_addWeight_40 ?_
  refine g_nl (fun v7 ev7 => ?_)
  refine g_callVv C (n := 2) (As := [.long v6, .long v7]) (st := []) (s_X3_add l D ad cs _ _ v6 v7 hI) gX8_addWeight_X3_add rfl rfl rfl (by decide +kernel) ⟨Nat.le_of_ble_eq_true rfl, Nat.le_of_ble_eq_true rfl⟩ rfl (Nat.le_of_ble_eq_true rfl) ⟨Nat.zero_le _, Nat.zero_le _⟩ (by decide) (ce_frac ad cs _ _) rfl rfl dX8_addWeight_41 (fun M9 L10 hr8 => ?_)
  obtain ⟨hI, hF1, hG1⟩ := hr8
  have hF : ∀ k, k < 300 ∨ 300 ≤ k → M9 k = M k := fun k hk => by (rw [hF1 k (by omega)]; try exact hF k hk)
  have hG : ∀ k, 258 ≤ k → L10 k = L k := fun k hk => by (rw [hG1 k hk]; try exact hG k hk)
  refine g_aload_n C 0 dX8_addWeight_44 rfl ?_
  refine g_get C (.ref (ad 88)) 0 in_X8_addWeight_8 (List.mem_of_getElem? (i := 2) rfl) (by decide) (ce_trans ad cs _ _) rfl (by decide) rfl rfl dX8_addWeight_45 ?_
  refine g_get C (.ref (ad 91)) 6 in_X8_addWeight_6 (List.mem_of_getElem? (i := 3) rfl) (by decide) (ce_poll ad cs _ _) rfl (by decide) rfl rfl dX8_addWeight_48 ?_
  refine g_iload_n C 2 dX8_addWeight_51 rfl ?_
  refine g_aload_n C 0 dX8_addWeight_52 rfl ?_
  refine g_get C (.ref (ad 124)) 4 in_X8_addWeight_8 (List.mem_of_getElem? (i := 1) rfl) (by decide) (ce_trans ad cs _ _) rfl (by decide) rfl rfl dX8_addWeight_53 ?_
  refine g_get C (.long (L10 124 0)) 0 in_X8_addWeight_3 (List.mem_of_getElem? (i := 7) rfl) (by decide) (ce_frac ad cs _ _) rfl (by decide) rfl rfl dX8_addWeight_56 ?_
  refine g_nl (fun v11 ev11 => ?_)
  refine g_last C (by decide) (ce_pupper ad cs _ _) (by rw [sJ_k]; rfl) (fin' (n := 10) rfl (by omega) (by omega)) dX8_addWeight_59 ?_
  refine g_nmL (fun L12 hL12 => ?_)
  have hG : ∀ k, 258 ≤ k → L12 k = L k := fun k hk => by (rw [hL12, sJ_n _ _ _ (by omega)]; try exact hG k hk)
  refine g_aload_n C 0 dX8_addWeight_60 rfl ?_
  refine g_get C (.ref (ad 88)) 0 in_X8_addWeight_8 (List.mem_of_getElem? (i := 2) rfl) (by decide) (ce_trans ad cs _ _) rfl (by decide) rfl rfl dX8_addWeight_61 ?_
  refine g_get C (.ref (ad 92)) 7 in_X8_addWeight_6 (List.mem_of_getElem? (i := 4) rfl) (by decide) (ce_poll ad cs _ _) rfl (by decide) rfl rfl dX8_addWeight_64 ?_
  refine g_iload_n C 2 dX8_addWeight_67 rfl ?_
  refine g_aload_n C 0 dX8_addWeight_68 rfl ?_
  refine g_get C (.ref (ad 124)) 4 in_X8_addWeight_8 (List.mem_of_getElem? (i := 1) rfl) (by decide) (ce_trans ad cs _ _) rfl (by decide) rfl rfl dX8_addWeight_69 ?_
  refine g_get C (.long (L12 124 1)) 1 in_X8_addWeight_3 (List.mem_of_getElem? (i := 8) rfl) (by decide) (ce_frac ad cs _ _) rfl (by decide) rfl rfl dX8_addWeight_72 ?_
  refine g_nl (fun v13 ev13 => ?_)
  refine g_last C (by decide) (ce_plower ad cs _ _) (by rw [sJ_k]; rfl) (fin' (n := 10) rfl (by omega) (by omega)) dX8_addWeight_75 ?_
  refine g_nmL (fun L14 hL14 => ?_)
  have hG : ∀ k, 258 ≤ k → L14 k = L k := fun k hk => by (rw [hL14, sJ_n _ _ _ (by omega)]; try exact hG k hk)
  refine g_aload_n C 0 dX8_addWeight_76 rfl ?_
  refine g_get C (.ref (ad 124)) 4 in_X8_addWeight_8 (List.mem_of_getElem? (i := 1) rfl) (by decide) (ce_trans ad cs _ _) rfl (by decide) rfl rfl dX8_addWeight_77 ?_
  refine g_callVi C (n := 0) (As := []) (st := []) (s_X3_fits l D ad cs _ _ hI) gX8_addWeight_X3_fits rfl rfl rfl (by decide +kernel) ⟨Nat.le_of_ble_eq_true rfl, Nat.le_of_ble_eq_true rfl⟩ rfl (Nat.le_of_ble_eq_true rfl) ⟨Nat.zero_le _, Nat.zero_le _⟩ (by decide) (ce_frac ad cs _ _) rfl rfl dX8_addWeight_80 (fun r15 M16 L17 hr15 => ?_)
  obtain ⟨hq1, hq2, hr15⟩ := hr15
  obtain rfl := hq1.symm
  obtain rfl := hq2.symm
  have hz := hr15
  obtain ⟨zar15, zbr15⟩ := z_to hr15
  have hz := z_of (r := r15) (by omega) (by omega)
  exact g_zret C hr (by first | rfl | (rcases hz with rfl | rfl <;> rfl)) ⟨(by first | exact Or.inl rfl | exact Or.inr rfl | exact hz), hI, hF, hG⟩ dX8_addWeight_83
theorem dX8_tallyWeights_0 : decode cX8_tallyWeights 0 = .ok (.aload_n 0, 1) := dw42 (n := 0) (i := 0) kc_cX8_tallyWeights_0 (by decide +kernel)
theorem dX8_tallyWeights_1 : decode cX8_tallyWeights 1 = .ok (.getfield 29, 3) := dw180 (n := 0) (i := 1) (a := 0) (b := 29) kc_cX8_tallyWeights_0 (by decide +kernel) (by decide)
theorem in_X8_tallyWeights_8 : ∀ w ∈ u_ws RX8 TX8 5, w ∈ wsX8_tallyWeights := fun _ h => List.mem_cons_of_mem _ (List.mem_append_left _ (List.mem_append_left _ (List.mem_append_left _ (List.mem_append_right _ h))))
theorem dX8_tallyWeights_4 : decode cX8_tallyWeights 4 = .ok (.invokevirtual 64, 3) := dw182 (n := 0) (i := 4) (a := 0) (b := 64) kc_cX8_tallyWeights_0 (by decide +kernel) (by decide)
set_option maxRecDepth 20000 in
theorem ggX8_tallyWeights_X6_clearTallies : GoodIn wsX8_tallyWeights wsX6_clearTallies := (gk_code 8 rfl (gk_fieldLink 9 rfl (gk_fieldLink 10 rfl (gk_laysFinal 54 rfl (gk_laysFinal 55 rfl (gk_laysFinal 56 rfl (gk_lays 57 rfl (gk_lays 58 rfl (gk_laysFinal 59 rfl (gk_laysFinal 60 rfl (gk_laysFinal 61 rfl (gn))))))))))))
set_option maxRecDepth 20000 in
theorem gX8_tallyWeights_X6_clearTallies : GoodIn wsX8_tallyWeights (wsV RX8 64 RX6 yX6_clearTallies wsX6_clearTallies) := goodIn_app (gk_methodLink 4 rfl (gk_instanceMethod 5 rfl (gk_selects 6 rfl (gk_initialized 7 rfl (gn))))) ggX8_tallyWeights_X6_clearTallies
theorem dX8_tallyWeights_7 : decode cX8_tallyWeights 7 = .ok (.iconst 0, 1) := dw3 (n := 0) (i := 7) kc_cX8_tallyWeights_0 (by decide +kernel)
theorem dX8_tallyWeights_8 : decode cX8_tallyWeights 8 = .ok (.istore_n 1, 1) := dw60 (n := 0) (i := 8) kc_cX8_tallyWeights_0 (by decide +kernel)
theorem dX8_tallyWeights_9 : decode cX8_tallyWeights 9 = .ok (.iload_n 1, 1) := dw27 (n := 0) (i := 9) kc_cX8_tallyWeights_0 (by decide +kernel)
theorem dX8_tallyWeights_10 : decode cX8_tallyWeights 10 = .ok (.aload_n 0, 1) := dw42 (n := 0) (i := 10) kc_cX8_tallyWeights_0 (by decide +kernel)
theorem dX8_tallyWeights_11 : decode cX8_tallyWeights 11 = .ok (.getfield 29, 3) := dw180 (n := 0) (i := 11) (a := 0) (b := 29) kc_cX8_tallyWeights_0 (by decide +kernel) (by decide)
theorem dX8_tallyWeights_14 : decode cX8_tallyWeights 14 = .ok (.getfield 33, 3) := dw180 (n := 0) (i := 14) (a := 0) (b := 33) kc_cX8_tallyWeights_0 (by decide +kernel) (by decide)
theorem in_X8_tallyWeights_6 : ∀ w ∈ u_ws RX6 TX6 8, w ∈ wsX8_tallyWeights := fun _ h => List.mem_cons_of_mem _ (List.mem_append_left _ (List.mem_append_left _ (List.mem_append_right _ h)))
theorem dX8_tallyWeights_17 : decode cX8_tallyWeights 17 = .ok (.if_icmp .ge 42, 3) := dw162 (n := 0) (i := 17) (a := 0) (b := 42) kc_cX8_tallyWeights_0 (by decide +kernel) (by decide)
theorem dX8_tallyWeights_59 : decode cX8_tallyWeights 59 = .ok (.iconst 1, 1) := dw4 (n := 32) (i := 27) kc_cX8_tallyWeights_1 (by decide +kernel)
theorem dX8_tallyWeights_60 : decode cX8_tallyWeights 60 = .ok (.ireturn, 1) := dw172 (n := 32) (i := 28) kc_cX8_tallyWeights_1 (by decide +kernel)
theorem dX8_tallyWeights_20 : decode cX8_tallyWeights 20 = .ok (.aload_n 0, 1) := dw42 (n := 0) (i := 20) kc_cX8_tallyWeights_0 (by decide +kernel)
theorem dX8_tallyWeights_21 : decode cX8_tallyWeights 21 = .ok (.getfield 29, 3) := dw180 (n := 0) (i := 21) (a := 0) (b := 29) kc_cX8_tallyWeights_0 (by decide +kernel) (by decide)
theorem dX8_tallyWeights_24 : decode cX8_tallyWeights 24 = .ok (.iload_n 1, 1) := dw27 (n := 0) (i := 24) kc_cX8_tallyWeights_0 (by decide +kernel)
theorem dX8_tallyWeights_25 : decode cX8_tallyWeights 25 = .ok (.invokevirtual 67, 3) := dw182 (n := 0) (i := 25) (a := 0) (b := 67) kc_cX8_tallyWeights_0 (by decide +kernel) (by decide)
set_option maxRecDepth 20000 in
theorem ggX8_tallyWeights_X6_firstIn : GoodIn wsX8_tallyWeights wsX6_firstIn := (gk_code 14 rfl (gk_fieldLink 15 rfl (gk_fieldLink 16 rfl (gk_fieldLink 17 rfl (gk_fieldLink 18 rfl (gk_fieldLink 19 rfl (gk_laysFinal 54 rfl (gk_laysFinal 55 rfl (gk_laysFinal 56 rfl (gk_lays 57 rfl (gk_lays 58 rfl (gk_laysFinal 59 rfl (gk_laysFinal 60 rfl (gk_laysFinal 61 rfl (gk_lays 62 rfl (gk_laysFinal 63 rfl (gk_laysFinal 64 rfl (gk_laysFinal 65 rfl (gk_laysFinal 66 rfl (gn))))))))))))))))))))
set_option maxRecDepth 20000 in
theorem gX8_tallyWeights_X6_firstIn : GoodIn wsX8_tallyWeights (wsV RX8 67 RX6 yX6_firstIn wsX6_firstIn) := goodIn_app (gk_methodLink 11 rfl (gk_instanceMethod 12 rfl (gk_selects 13 rfl (gk_initialized 7 rfl (gn))))) ggX8_tallyWeights_X6_firstIn
theorem dX8_tallyWeights_28 : decode cX8_tallyWeights 28 = .ok (.istore_n 2, 1) := dw61 (n := 0) (i := 28) kc_cX8_tallyWeights_0 (by decide +kernel)
theorem dX8_tallyWeights_29 : decode cX8_tallyWeights 29 = .ok (.aload_n 0, 1) := dw42 (n := 0) (i := 29) kc_cX8_tallyWeights_0 (by decide +kernel)
theorem dX8_tallyWeights_30 : decode cX8_tallyWeights 30 = .ok (.getfield 18, 3) := dw180 (n := 0) (i := 30) (a := 0) (b := 18) kc_cX8_tallyWeights_0 (by decide +kernel) (by decide)
theorem dX8_tallyWeights_33 : decode cX8_tallyWeights 33 = .ok (.iload_n 1, 1) := dw27 (n := 32) (i := 1) kc_cX8_tallyWeights_1 (by decide +kernel)
theorem dX8_tallyWeights_34 : decode cX8_tallyWeights 34 = .ok (.iload_n 2, 1) := dw28 (n := 32) (i := 2) kc_cX8_tallyWeights_1 (by decide +kernel)
theorem dX8_tallyWeights_35 : decode cX8_tallyWeights 35 = .ok (.iastore, 1) := dw79 (n := 32) (i := 3) kc_cX8_tallyWeights_1 (by decide +kernel)
theorem dX8_tallyWeights_36 : decode cX8_tallyWeights 36 = .ok (.iload_n 2, 1) := dw28 (n := 32) (i := 4) kc_cX8_tallyWeights_1 (by decide +kernel)
theorem dX8_tallyWeights_37 : decode cX8_tallyWeights 37 = .ok (.bipush (-9), 2) := dw16 (n := 32) (i := 5) (a := 247) kc_cX8_tallyWeights_1 (by decide +kernel) (by decide)
theorem dX8_tallyWeights_39 : decode cX8_tallyWeights 39 = .ok (.if_icmp .eq 14, 3) := dw159 (n := 32) (i := 7) (a := 0) (b := 14) kc_cX8_tallyWeights_1 (by decide +kernel) (by decide)
theorem dX8_tallyWeights_53 : decode cX8_tallyWeights 53 = .ok (.iinc 1 1, 3) := by decide +kernel
theorem dX8_tallyWeights_56 : decode cX8_tallyWeights 56 = .ok (.goto (-47), 3) := dw167 (n := 32) (i := 24) (a := 255) (b := 209) kc_cX8_tallyWeights_1 (by decide +kernel) (by decide)
theorem dX8_tallyWeights_42 : decode cX8_tallyWeights 42 = .ok (.aload_n 0, 1) := dw42 (n := 32) (i := 10) kc_cX8_tallyWeights_1 (by decide +kernel)
theorem dX8_tallyWeights_43 : decode cX8_tallyWeights 43 = .ok (.iload_n 1, 1) := dw27 (n := 32) (i := 11) kc_cX8_tallyWeights_1 (by decide +kernel)
theorem dX8_tallyWeights_44 : decode cX8_tallyWeights 44 = .ok (.iload_n 2, 1) := dw28 (n := 32) (i := 12) kc_cX8_tallyWeights_1 (by decide +kernel)
theorem dX8_tallyWeights_45 : decode cX8_tallyWeights 45 = .ok (.invokevirtual 70, 3) := dw182 (n := 32) (i := 13) (a := 0) (b := 70) kc_cX8_tallyWeights_1 (by decide +kernel) (by decide)
set_option maxRecDepth 20000 in
theorem ggX8_tallyWeights_X8_addWeight : GoodIn wsX8_tallyWeights wsX8_addWeight := (gk_code 24 rfl (gk_fieldLink 25 rfl (gk_fieldLink 1 rfl (gk_fieldLink 26 rfl (gk_fieldLink 27 rfl (gk_fieldLink 28 rfl (gk_fieldLink 29 rfl (gk_fieldLink 30 rfl (gk_fieldLink 31 rfl (gk_methodLink 32 rfl (gk_instanceMethod 33 rfl (gk_selects 34 rfl (gk_initialized 35 rfl (gk_code 36 rfl (gk_fieldLink 37 rfl (gk_fieldLink 38 rfl (gk_methodLink 39 rfl (gk_instanceMethod 40 rfl (gk_selects 41 rfl (gk_code 42 rfl (gk_methodLink 43 rfl (gk_methodLink 44 rfl (gk_instanceMethod 45 rfl (gk_selects 46 rfl (gk_code 47 rfl (gk_constantLong 48 rfl (gk_laysFinal 49 rfl (gk_laysFinal 50 rfl (gk_laysFinal 51 rfl (gk_laysFinal 52 rfl (gk_laysFinal 53 rfl (gk_laysFinal 54 rfl (gk_laysFinal 55 rfl (gk_laysFinal 56 rfl (gk_lays 57 rfl (gk_lays 58 rfl (gk_laysFinal 59 rfl (gk_laysFinal 60 rfl (gk_laysFinal 61 rfl (gk_lays 67 rfl (gk_lays 68 rfl (gn))))))))))))))))))))))))))))))))))))))))))
set_option maxRecDepth 20000 in
theorem gX8_tallyWeights_X8_addWeight : GoodIn wsX8_tallyWeights (wsV RX8 70 RX8 yX8_addWeight wsX8_addWeight) := goodIn_app (gk_methodLink 20 rfl (gk_instanceMethod 21 rfl (gk_selects 22 rfl (gk_initialized 23 rfl (gn))))) ggX8_tallyWeights_X8_addWeight
theorem dX8_tallyWeights_48 : decode cX8_tallyWeights 48 = .ok (.ifCond .ne 5, 3) := dw154 (n := 32) (i := 16) (a := 0) (b := 5) kc_cX8_tallyWeights_1 (by decide +kernel) (by decide)
theorem dX8_tallyWeights_51 : decode cX8_tallyWeights 51 = .ok (.iconst 0, 1) := dw3 (n := 32) (i := 19) kc_cX8_tallyWeights_1 (by decide +kernel)
theorem dX8_tallyWeights_52 : decode cX8_tallyWeights 52 = .ok (.ireturn, 1) := dw172 (n := 32) (i := 20) kc_cX8_tallyWeights_1 (by decide +kernel)
set_option maxHeartbeats 4000000 in
set_option maxRecDepth 100000 in
theorem s_X8_tallyWeights (l : Launch) (D : va_G) (ad : Nat → Nat) (cs : Nat → ClassId) (M : MI) (L : ML)  (hI : IC M) : Ci l yX8_tallyWeights wsX8_tallyWeights ({ frames := 3, cells := 0, slots := 0, locals := 77 }) D ad cs [.ref (ad 120)] M L (fun r M1 L1 => (r = 0 ∨ r = 1) ∧ IC M1 ∧ (∀ k, k ≠ 123 → M1 k = M k) ∧ ∀ k, 258 ≤ k → L1 k = L k) := by
  refine enter_i RX8 rfl [(0, .ref (ad 120))] rfl (Nat.le_of_ble_eq_true rfl) (by decide +kernel) rfl ?_
  intro p e s m below meth c C hr
  have hF : ∀ k, k ≠ 123 → M k = M k := fun _ _ => rfl
  have hG : ∀ k, 258 ≤ k → L k = L k := fun _ _ => rfl
  refine g_aload_n C 0 dX8_tallyWeights_0 rfl ?_
  refine g_get C (.ref (ad 88)) 0 in_X8_tallyWeights_8 (List.mem_of_getElem? (i := 1) rfl) (by decide) (ce_trans ad cs _ _) rfl (by decide) rfl rfl dX8_tallyWeights_1 ?_
  refine g_callVv C (n := 0) (As := []) (st := []) (s_X6_clearTallies l D ad cs _ _ hI) gX8_tallyWeights_X6_clearTallies rfl rfl rfl (by decide +kernel) ⟨Nat.le_of_ble_eq_true rfl, Nat.le_of_ble_eq_true rfl⟩ rfl (Nat.le_of_ble_eq_true rfl) ⟨Nat.zero_le _, Nat.zero_le _⟩ (by decide) (ce_poll ad cs _ _) rfl rfl dX8_tallyWeights_4 (fun M2 L3 hr1 => ?_)
  obtain ⟨hI, hF1, hG1⟩ := hr1
  have hF : ∀ k, k ≠ 123 → M2 k = M k := fun k hk => by (rw [hF1 k (by omega)]; try exact hF k hk)
  have hG : ∀ k, 258 ≤ k → L3 k = L k := fun k hk => by (rw [hG1 k hk]; try exact hG k hk)
  refine g_iconst C 0 dX8_tallyWeights_7 (by decide) ?_
  refine g_istore_n C [(1, .int 0), (0, .ref (ad 120))] dX8_tallyWeights_8 (by decide) rfl ?_
  have zy4 : (0 : Int32).toInt = 0 := by decide
  refine g_loop (α := Int32 × MI × ML) (fun a => (41 - a.1.toInt).toNat) (fun a => 0 ≤ a.1.toInt ∧ a.1.toInt ≤ 40 ∧ IC a.2.1 ∧ (∀ k, k ≠ 123 → a.2.1 k = M k) ∧ (∀ k, 258 ≤ k → a.2.2 k = L k)) (fun a => a.2.1) (fun a => a.2.2) (fun a => [(1, .int a.1), (0, .ref (ad 120))]) (0, M2, L3) ⟨by show 0 ≤ (0 : Int32).toInt; omega, by show (0 : Int32).toInt ≤ 40; omega, hI, hF, hG⟩ rfl rfl rfl ?_
  rintro ⟨x1_9, M_9, L_9⟩ ⟨j9_0, j9_1, hI, hF, hG⟩ ih_9
  dsimp only at j9_0 j9_1 hI hF hG ih_9 ⊢
  refine g_iload_n C 0 dX8_tallyWeights_9 rfl ?_
  refine g_aload_n C 1 dX8_tallyWeights_10 rfl ?_
  refine g_get C (.ref (ad 88)) 0 in_X8_tallyWeights_8 (List.mem_of_getElem? (i := 1) rfl) (by decide) (ce_trans ad cs _ _) rfl (by decide) rfl rfl dX8_tallyWeights_11 ?_
  refine g_get C (.int (M_9 88 3)) 3 in_X8_tallyWeights_6 (List.mem_of_getElem? (i := 2) rfl) (by decide) (ce_poll ad cs _ _) rfl (by decide) rfl rfl dX8_tallyWeights_14 ?_
  refine g_ni (fun v5 ev5 => ?_)
  have tv5 := congrArg Int32.toInt ev5
  obtain ⟨bv5, dv5⟩ := (show rg 0 40 v5 from (by rw [ev5]; exact (hI 88 3).1 rfl))
  refine g_icmp_ge C 59 dX8_tallyWeights_17 (by decide) (fun c6 => ?_) (fun c6 => ?_)
  ·
    have f7 := fle rfl rfl c6
    refine g_iconst C 1 dX8_tallyWeights_59 (by decide) ?_
    exact g_zret C hr (by first | rfl | (rcases hz with rfl | rfl <;> rfl)) ⟨(by first | exact Or.inl rfl | exact Or.inr rfl | exact hz), hI, hF, hG⟩ dX8_tallyWeights_60
  ·
    have f8 := fnle rfl rfl c6
    refine g_aload_n C 1 dX8_tallyWeights_20 rfl ?_
    refine g_get C (.ref (ad 88)) 0 in_X8_tallyWeights_8 (List.mem_of_getElem? (i := 1) rfl) (by decide) (ce_trans ad cs _ _) rfl (by decide) rfl rfl dX8_tallyWeights_21 ?_
    refine g_iload_n C 0 dX8_tallyWeights_24 rfl ?_
    refine g_callVi C (n := 1) (As := [.int x1_9]) (st := []) (s_X6_firstIn l D ad cs _ _ x1_9 hI ⟨by omega, by omega⟩) gX8_tallyWeights_X6_firstIn rfl rfl rfl (by decide +kernel) ⟨Nat.le_of_ble_eq_true rfl, Nat.le_of_ble_eq_true rfl⟩ rfl (Nat.le_of_ble_eq_true rfl) ⟨Nat.zero_le _, Nat.zero_le _⟩ (by decide) (ce_poll ad cs _ _) rfl rfl dX8_tallyWeights_25 (fun r9 M10 L11 hr9 => ?_)
    obtain ⟨hq1, hq2, hr9⟩ := hr9
    obtain rfl := hq1.symm
    obtain rfl := hq2.symm
    obtain ⟨br9, dr9⟩ := hr9
    refine g_istore_n C [(2, .int r9), (1, .int x1_9), (0, .ref (ad 120))] dX8_tallyWeights_28 (by decide) rfl ?_
    refine g_aload_n C 2 dX8_tallyWeights_29 rfl ?_
    refine g_get C (.ref (ad 123)) 3 in_X8_tallyWeights_8 (List.mem_of_getElem? (i := 3) rfl) (by decide) (ce_trans ad cs _ _) rfl (by decide) rfl rfl dX8_tallyWeights_30 ?_
    refine g_iload_n C 1 dX8_tallyWeights_33 rfl ?_
    refine g_iload_n C 0 dX8_tallyWeights_34 rfl ?_
    refine g_iast C (by decide) (ce_towner ad cs _ _) (by rw [sI_k]; rfl) (fin' (n := 40) rfl (by omega) (by omega)) dX8_tallyWeights_35 ?_
    refine g_nm (fun M12 hM12 => ?_)
    have hI : IC M12 := by rw [hM12]; exact hI.st (bC_free (by decide) (by decide) (by decide) (by decide) (by decide) (by decide) (by decide))
    have hF : ∀ k, k ≠ 123 → M12 k = M k := fun k hk => by (rw [hM12, sI_n _ _ _ (by omega)]; try exact hF k hk)
    refine g_iload_n C 0 dX8_tallyWeights_36 rfl ?_
    refine g_bipush C (-9) dX8_tallyWeights_37 (by decide) ?_
    refine g_icmp_eq C 53 dX8_tallyWeights_39 (by decide) (fun c13 => ?_) (fun c13 => ?_)
    ·
      have f14 := feq rfl (by decide : ((-9) : Int32).toInt = (-9)) c13
      obtain ⟨v15, ev15⟩ : ∃ y : Int32, y = x1_9 + 1 := ⟨_, rfl⟩
      try have fv15 := fadd rfl (by decide : (1 : Int32).toInt = 1) ev15 (by omega) (by omega)
      refine g_iinc C 1 v15 [(1, .int v15), (2, .int r9), (0, .ref (ad 120))] dX8_tallyWeights_53 rfl (by rw [ev15]; rfl) (by decide) rfl ?_
      refine g_goto C 9 dX8_tallyWeights_56 (by decide) ?_
      refine g_lv [0, 2] [(1, .int v15), (0, .ref (ad 120))] rfl ?_
      exact ih_9 (v15, M12, L_9) ⟨by show 0 ≤ v15.toInt; omega, by show v15.toInt ≤ 40; omega, hI, hF, hG⟩ (by show (41 - v15.toInt).toNat < (41 - x1_9.toInt).toNat; omega)
    ·
      have f16 := fne rfl (by decide : ((-9) : Int32).toInt = (-9)) c13
      refine g_aload_n C 2 dX8_tallyWeights_42 rfl ?_
      refine g_iload_n C 1 dX8_tallyWeights_43 rfl ?_
      refine g_iload_n C 0 dX8_tallyWeights_44 rfl ?_
      refine g_callVi C (n := 2) (As := [.int x1_9, .int r9]) (st := []) (s_X8_addWeight l D ad cs _ _ x1_9 r9 hI ⟨by omega, by omega⟩ ⟨by omega, by omega⟩) gX8_tallyWeights_X8_addWeight rfl rfl rfl (by decide +kernel) ⟨Nat.le_of_ble_eq_true rfl, Nat.le_of_ble_eq_true rfl⟩ rfl (Nat.le_of_ble_eq_true rfl) ⟨Nat.zero_le _, Nat.zero_le _⟩ (by decide) (ce_trans ad cs _ _) rfl rfl dX8_tallyWeights_45 (fun r17 M18 L19 hr17 => ?_)
      obtain ⟨hr17, hI, hF1, hG1⟩ := hr17
      have hF : ∀ k, k ≠ 123 → M18 k = M k := fun k hk => by (rw [hF1 k (by omega)]; try exact hF k hk)
      have hG : ∀ k, 258 ≤ k → L19 k = L k := fun k hk => by (rw [hG1 k hk]; try exact hG k hk)
      have hz := hr17
      obtain ⟨zar17, zbr17⟩ := z_to hr17
      refine g_if_ne C 53 dX8_tallyWeights_48 (by decide) (fun c20 => ?_) (fun c20 => ?_)
      ·
        have f21 := fne rfl (by decide : (0 : Int32).toInt = 0) c20
        obtain ⟨v22, ev22⟩ : ∃ y : Int32, y = x1_9 + 1 := ⟨_, rfl⟩
        try have fv22 := fadd rfl (by decide : (1 : Int32).toInt = 1) ev22 (by omega) (by omega)
        refine g_iinc C 1 v22 [(1, .int v22), (2, .int r9), (0, .ref (ad 120))] dX8_tallyWeights_53 rfl (by rw [ev22]; rfl) (by decide) rfl ?_
        refine g_goto C 9 dX8_tallyWeights_56 (by decide) ?_
        refine g_lv [0, 2] [(1, .int v22), (0, .ref (ad 120))] rfl ?_
        exact ih_9 (v22, M18, L19) ⟨by show 0 ≤ v22.toInt; omega, by show v22.toInt ≤ 40; omega, hI, hF, hG⟩ (by show (41 - v22.toInt).toNat < (41 - x1_9.toInt).toNat; omega)
      ·
        have f23 := feq rfl (by decide : (0 : Int32).toInt = 0) c20
        refine g_iconst C 0 dX8_tallyWeights_51 (by decide) ?_
        exact g_zret C hr (by first | rfl | (rcases hz with rfl | rfl <;> rfl)) ⟨(by first | exact Or.inl rfl | exact Or.inr rfl | exact hz), hI, hF, hG⟩ dX8_tallyWeights_52
theorem dX8_passOn_0 : decode cX8_passOn 0 = .ok (.aload_n 0, 1) := dw42 (n := 0) (i := 0) kc_cX8_passOn_0 (by decide +kernel)
theorem dX8_passOn_1 : decode cX8_passOn 1 = .ok (.getfield 29, 3) := dw180 (n := 0) (i := 1) (a := 0) (b := 29) kc_cX8_passOn_0 (by decide +kernel) (by decide)
theorem in_X8_passOn_8 : ∀ w ∈ u_ws RX8 TX8 5, w ∈ wsX8_passOn := fun _ h => List.mem_cons_of_mem _ (List.mem_append_left _ (List.mem_append_left _ (List.mem_append_right _ h)))
theorem dX8_passOn_4 : decode cX8_passOn 4 = .ok (.getfield 74, 3) := dw180 (n := 0) (i := 4) (a := 0) (b := 74) kc_cX8_passOn_0 (by decide +kernel) (by decide)
theorem in_X8_passOn_6 : ∀ w ∈ u_ws RX6 TX6 8, w ∈ wsX8_passOn := fun _ h => List.mem_cons_of_mem _ (List.mem_append_left _ (List.mem_append_right _ h))
theorem dX8_passOn_7 : decode cX8_passOn 7 = .ok (.iload_n 1, 1) := dw27 (n := 0) (i := 7) kc_cX8_passOn_0 (by decide +kernel)
theorem dX8_passOn_8 : decode cX8_passOn 8 = .ok (.laload, 1) := dw47 (n := 0) (i := 8) kc_cX8_passOn_0 (by decide +kernel)
theorem dX8_passOn_9 : decode cX8_passOn 9 = .ok (.lstore 4, 2) := dw55 (n := 0) (i := 9) (a := 4) kc_cX8_passOn_0 (by decide +kernel) (by decide)
theorem dX8_passOn_11 : decode cX8_passOn 11 = .ok (.aload_n 0, 1) := dw42 (n := 0) (i := 11) kc_cX8_passOn_0 (by decide +kernel)
theorem dX8_passOn_12 : decode cX8_passOn 12 = .ok (.getfield 29, 3) := dw180 (n := 0) (i := 12) (a := 0) (b := 29) kc_cX8_passOn_0 (by decide +kernel) (by decide)
theorem dX8_passOn_15 : decode cX8_passOn 15 = .ok (.getfield 77, 3) := dw180 (n := 0) (i := 15) (a := 0) (b := 77) kc_cX8_passOn_0 (by decide +kernel) (by decide)
theorem dX8_passOn_18 : decode cX8_passOn 18 = .ok (.iload_n 1, 1) := dw27 (n := 0) (i := 18) kc_cX8_passOn_0 (by decide +kernel)
theorem dX8_passOn_19 : decode cX8_passOn 19 = .ok (.laload, 1) := dw47 (n := 0) (i := 19) kc_cX8_passOn_0 (by decide +kernel)
theorem dX8_passOn_20 : decode cX8_passOn 20 = .ok (.lstore 6, 2) := dw55 (n := 0) (i := 20) (a := 6) kc_cX8_passOn_0 (by decide +kernel) (by decide)
theorem dX8_passOn_22 : decode cX8_passOn 22 = .ok (.aload_n 0, 1) := dw42 (n := 0) (i := 22) kc_cX8_passOn_0 (by decide +kernel)
theorem dX8_passOn_23 : decode cX8_passOn 23 = .ok (.getfield 25, 3) := dw180 (n := 0) (i := 23) (a := 0) (b := 25) kc_cX8_passOn_0 (by decide +kernel) (by decide)
theorem dX8_passOn_26 : decode cX8_passOn 26 = .ok (.lload 4, 2) := dw22 (n := 0) (i := 26) (a := 4) kc_cX8_passOn_0 (by decide +kernel) (by decide)
theorem dX8_passOn_28 : decode cX8_passOn 28 = .ok (.lload_n 2, 1) := dw32 (n := 0) (i := 28) kc_cX8_passOn_0 (by decide +kernel)
theorem dX8_passOn_29 : decode cX8_passOn 29 = .ok (.lload 6, 2) := dw22 (n := 0) (i := 29) (a := 6) kc_cX8_passOn_0 (by decide +kernel) (by decide)
theorem dX8_passOn_31 : decode cX8_passOn 31 = .ok (.lmul, 1) := dw105 (n := 0) (i := 31) kc_cX8_passOn_0 (by decide +kernel)
theorem dX8_passOn_32 : decode cX8_passOn 32 = .ok (.lsub, 1) := dw101 (n := 32) (i := 0) kc_cX8_passOn_1 (by decide +kernel)
theorem dX8_passOn_33 : decode cX8_passOn 33 = .ok (.lload 6, 2) := dw22 (n := 32) (i := 1) (a := 6) kc_cX8_passOn_1 (by decide +kernel) (by decide)
theorem dX8_passOn_35 : decode cX8_passOn 35 = .ok (.invokevirtual 80, 3) := dw182 (n := 32) (i := 3) (a := 0) (b := 80) kc_cX8_passOn_1 (by decide +kernel) (by decide)
set_option maxRecDepth 20000 in
theorem ggX8_passOn_X3_become : GoodIn wsX8_passOn wsX3_become := (gk_code 15 rfl (gk_fieldLink 16 rfl (gk_fieldLink 17 rfl (gk_lays 41 rfl (gk_lays 42 rfl (gn))))))
set_option maxRecDepth 20000 in
theorem gX8_passOn_X3_become : GoodIn wsX8_passOn (wsV RX8 80 RX3 yX3_become wsX3_become) := goodIn_app (gk_methodLink 11 rfl (gk_instanceMethod 12 rfl (gk_selects 13 rfl (gk_initialized 14 rfl (gn))))) ggX8_passOn_X3_become
theorem dX8_passOn_38 : decode cX8_passOn 38 = .ok (.aload_n 0, 1) := dw42 (n := 32) (i := 6) kc_cX8_passOn_1 (by decide +kernel)
theorem dX8_passOn_39 : decode cX8_passOn 39 = .ok (.getfield 25, 3) := dw180 (n := 32) (i := 7) (a := 0) (b := 25) kc_cX8_passOn_1 (by decide +kernel) (by decide)
theorem dX8_passOn_42 : decode cX8_passOn 42 = .ok (.invokevirtual 92, 3) := dw182 (n := 32) (i := 10) (a := 0) (b := 92) kc_cX8_passOn_1 (by decide +kernel) (by decide)
set_option maxRecDepth 20000 in
theorem ggX8_passOn_X3_fits : GoodIn wsX8_passOn wsX3_fits := (gk_code 21 rfl (gk_fieldLink 16 rfl (gk_constantLong 22 rfl (gk_fieldLink 17 rfl (gk_lays 41 rfl (gk_lays 42 rfl (gn)))))))
set_option maxRecDepth 20000 in
theorem gX8_passOn_X3_fits : GoodIn wsX8_passOn (wsV RX8 92 RX3 yX3_fits wsX3_fits) := goodIn_app (gk_methodLink 18 rfl (gk_instanceMethod 19 rfl (gk_selects 20 rfl (gk_initialized 14 rfl (gn))))) ggX8_passOn_X3_fits
theorem dX8_passOn_45 : decode cX8_passOn 45 = .ok (.ifCond .ne 5, 3) := dw154 (n := 32) (i := 13) (a := 0) (b := 5) kc_cX8_passOn_1 (by decide +kernel) (by decide)
theorem dX8_passOn_50 : decode cX8_passOn 50 = .ok (.aload_n 0, 1) := dw42 (n := 32) (i := 18) kc_cX8_passOn_1 (by decide +kernel)
theorem dX8_passOn_51 : decode cX8_passOn 51 = .ok (.getfield 25, 3) := dw180 (n := 32) (i := 19) (a := 0) (b := 25) kc_cX8_passOn_1 (by decide +kernel) (by decide)
theorem dX8_passOn_54 : decode cX8_passOn 54 = .ok (.lload 6, 2) := dw22 (n := 32) (i := 22) (a := 6) kc_cX8_passOn_1 (by decide +kernel) (by decide)
theorem dX8_passOn_56 : decode cX8_passOn 56 = .ok (.lload 4, 2) := dw22 (n := 32) (i := 24) (a := 4) kc_cX8_passOn_1 (by decide +kernel) (by decide)
theorem dX8_passOn_58 : decode cX8_passOn 58 = .ok (.invokevirtual 121, 3) := dw182 (n := 32) (i := 26) (a := 0) (b := 121) kc_cX8_passOn_1 (by decide +kernel) (by decide)
set_option maxRecDepth 20000 in
theorem ggX8_passOn_X3_multiply : GoodIn wsX8_passOn wsX3_multiply := (gk_code 26 rfl (gk_fieldLink 16 rfl (gk_fieldLink 17 rfl (gk_methodLink 27 rfl (gk_instanceMethod 12 rfl (gk_selects 13 rfl (gk_initialized 14 rfl (gk_code 15 rfl (gk_lays 41 rfl (gk_lays 42 rfl (gn)))))))))))
set_option maxRecDepth 20000 in
theorem gX8_passOn_X3_multiply : GoodIn wsX8_passOn (wsV RX8 121 RX3 yX3_multiply wsX3_multiply) := goodIn_app (gk_methodLink 23 rfl (gk_instanceMethod 24 rfl (gk_selects 25 rfl (gk_initialized 14 rfl (gn))))) ggX8_passOn_X3_multiply
theorem dX8_passOn_61 : decode cX8_passOn 61 = .ok (.aload_n 0, 1) := dw42 (n := 32) (i := 29) kc_cX8_passOn_1 (by decide +kernel)
theorem dX8_passOn_62 : decode cX8_passOn 62 = .ok (.getfield 25, 3) := dw180 (n := 32) (i := 30) (a := 0) (b := 25) kc_cX8_passOn_1 (by decide +kernel) (by decide)
theorem dX8_passOn_65 : decode cX8_passOn 65 = .ok (.invokevirtual 92, 3) := dw182 (n := 64) (i := 1) (a := 0) (b := 92) kc_cX8_passOn_2 (by decide +kernel) (by decide)
theorem dX8_passOn_68 : decode cX8_passOn 68 = .ok (.ifCond .ne 5, 3) := dw154 (n := 64) (i := 4) (a := 0) (b := 5) kc_cX8_passOn_2 (by decide +kernel) (by decide)
theorem dX8_passOn_73 : decode cX8_passOn 73 = .ok (.aload_n 0, 1) := dw42 (n := 64) (i := 9) kc_cX8_passOn_2 (by decide +kernel)
theorem dX8_passOn_74 : decode cX8_passOn 74 = .ok (.getfield 25, 3) := dw180 (n := 64) (i := 10) (a := 0) (b := 25) kc_cX8_passOn_2 (by decide +kernel) (by decide)
theorem dX8_passOn_77 : decode cX8_passOn 77 = .ok (.getfield 87, 3) := dw180 (n := 64) (i := 13) (a := 0) (b := 87) kc_cX8_passOn_2 (by decide +kernel) (by decide)
theorem in_X8_passOn_3 : ∀ w ∈ u_ws RX3 TX3 2, w ∈ wsX8_passOn := fun _ h => List.mem_cons_of_mem _ (List.mem_append_right _ h)
theorem dX8_passOn_80 : decode cX8_passOn 80 = .ok (.lstore 8, 2) := dw55 (n := 64) (i := 16) (a := 8) kc_cX8_passOn_2 (by decide +kernel) (by decide)
theorem dX8_passOn_82 : decode cX8_passOn 82 = .ok (.aload_n 0, 1) := dw42 (n := 64) (i := 18) kc_cX8_passOn_2 (by decide +kernel)
theorem dX8_passOn_83 : decode cX8_passOn 83 = .ok (.getfield 25, 3) := dw180 (n := 64) (i := 19) (a := 0) (b := 25) kc_cX8_passOn_2 (by decide +kernel) (by decide)
theorem dX8_passOn_86 : decode cX8_passOn 86 = .ok (.getfield 90, 3) := dw180 (n := 64) (i := 22) (a := 0) (b := 90) kc_cX8_passOn_2 (by decide +kernel) (by decide)
theorem dX8_passOn_89 : decode cX8_passOn 89 = .ok (.lstore 10, 2) := dw55 (n := 64) (i := 25) (a := 10) kc_cX8_passOn_2 (by decide +kernel) (by decide)
theorem dX8_passOn_91 : decode cX8_passOn 91 = .ok (.iconst 1, 1) := dw4 (n := 64) (i := 27) kc_cX8_passOn_2 (by decide +kernel)
theorem dX8_passOn_92 : decode cX8_passOn 92 = .ok (.istore 12, 2) := dw54 (n := 64) (i := 28) (a := 12) kc_cX8_passOn_2 (by decide +kernel) (by decide)
theorem dX8_passOn_94 : decode cX8_passOn 94 = .ok (.iconst 0, 1) := dw3 (n := 64) (i := 30) kc_cX8_passOn_2 (by decide +kernel)
theorem dX8_passOn_95 : decode cX8_passOn 95 = .ok (.istore 13, 2) := dw54 (n := 64) (i := 31) (a := 13) kc_cX8_passOn_2 (by decide +kernel) (by decide)
theorem dX8_passOn_97 : decode cX8_passOn 97 = .ok (.iload 13, 2) := dw21 (n := 96) (i := 1) (a := 13) kc_cX8_passOn_3 (by decide +kernel) (by decide)
theorem dX8_passOn_99 : decode cX8_passOn 99 = .ok (.aload_n 0, 1) := dw42 (n := 96) (i := 3) kc_cX8_passOn_3 (by decide +kernel)
theorem dX8_passOn_100 : decode cX8_passOn 100 = .ok (.getfield 29, 3) := dw180 (n := 96) (i := 4) (a := 0) (b := 29) kc_cX8_passOn_3 (by decide +kernel) (by decide)
theorem dX8_passOn_103 : decode cX8_passOn 103 = .ok (.getfield 33, 3) := dw180 (n := 96) (i := 7) (a := 0) (b := 33) kc_cX8_passOn_3 (by decide +kernel) (by decide)
theorem dX8_passOn_106 : decode cX8_passOn 106 = .ok (.if_icmp .ge 94, 3) := dw162 (n := 96) (i := 10) (a := 0) (b := 94) kc_cX8_passOn_3 (by decide +kernel) (by decide)
theorem dX8_passOn_200 : decode cX8_passOn 200 = .ok (.iload 12, 2) := dw21 (n := 192) (i := 8) (a := 12) kc_cX8_passOn_6 (by decide +kernel) (by decide)
theorem dX8_passOn_202 : decode cX8_passOn 202 = .ok (.ireturn, 1) := dw172 (n := 192) (i := 10) kc_cX8_passOn_6 (by decide +kernel)
theorem dX8_passOn_109 : decode cX8_passOn 109 = .ok (.iload 12, 2) := dw21 (n := 96) (i := 13) (a := 12) kc_cX8_passOn_3 (by decide +kernel) (by decide)
theorem dX8_passOn_111 : decode cX8_passOn 111 = .ok (.ifCond .eq 89, 3) := dw153 (n := 96) (i := 15) (a := 0) (b := 89) kc_cX8_passOn_3 (by decide +kernel) (by decide)
theorem dX8_passOn_114 : decode cX8_passOn 114 = .ok (.aload_n 0, 1) := dw42 (n := 96) (i := 18) kc_cX8_passOn_3 (by decide +kernel)
theorem dX8_passOn_115 : decode cX8_passOn 115 = .ok (.getfield 18, 3) := dw180 (n := 96) (i := 19) (a := 0) (b := 18) kc_cX8_passOn_3 (by decide +kernel) (by decide)
theorem dX8_passOn_118 : decode cX8_passOn 118 = .ok (.iload 13, 2) := dw21 (n := 96) (i := 22) (a := 13) kc_cX8_passOn_3 (by decide +kernel) (by decide)
theorem dX8_passOn_120 : decode cX8_passOn 120 = .ok (.iaload, 1) := dw46 (n := 96) (i := 24) kc_cX8_passOn_3 (by decide +kernel)
theorem dX8_passOn_121 : decode cX8_passOn 121 = .ok (.iload_n 1, 1) := dw27 (n := 96) (i := 25) kc_cX8_passOn_3 (by decide +kernel)
theorem dX8_passOn_122 : decode cX8_passOn 122 = .ok (.if_icmp .ne 72, 3) := dw160 (n := 96) (i := 26) (a := 0) (b := 72) kc_cX8_passOn_3 (by decide +kernel) (by decide)
theorem dX8_passOn_194 : decode cX8_passOn 194 = .ok (.iinc 13 1, 3) := by decide +kernel
theorem dX8_passOn_197 : decode cX8_passOn 197 = .ok (.goto (-100), 3) := dw167 (n := 192) (i := 5) (a := 255) (b := 156) kc_cX8_passOn_6 (by decide +kernel) (by decide)
theorem dX8_passOn_125 : decode cX8_passOn 125 = .ok (.aload_n 0, 1) := dw42 (n := 96) (i := 29) kc_cX8_passOn_3 (by decide +kernel)
theorem dX8_passOn_126 : decode cX8_passOn 126 = .ok (.getfield 25, 3) := dw180 (n := 96) (i := 30) (a := 0) (b := 25) kc_cX8_passOn_3 (by decide +kernel) (by decide)
theorem dX8_passOn_129 : decode cX8_passOn 129 = .ok (.aload_n 0, 1) := dw42 (n := 128) (i := 1) kc_cX8_passOn_4 (by decide +kernel)
theorem dX8_passOn_130 : decode cX8_passOn 130 = .ok (.getfield 9, 3) := dw180 (n := 128) (i := 2) (a := 0) (b := 9) kc_cX8_passOn_4 (by decide +kernel) (by decide)
theorem dX8_passOn_133 : decode cX8_passOn 133 = .ok (.iload 13, 2) := dw21 (n := 128) (i := 5) (a := 13) kc_cX8_passOn_4 (by decide +kernel) (by decide)
theorem dX8_passOn_135 : decode cX8_passOn 135 = .ok (.laload, 1) := dw47 (n := 128) (i := 7) kc_cX8_passOn_4 (by decide +kernel)
theorem dX8_passOn_136 : decode cX8_passOn 136 = .ok (.aload_n 0, 1) := dw42 (n := 128) (i := 8) kc_cX8_passOn_4 (by decide +kernel)
theorem dX8_passOn_137 : decode cX8_passOn 137 = .ok (.getfield 15, 3) := dw180 (n := 128) (i := 9) (a := 0) (b := 15) kc_cX8_passOn_4 (by decide +kernel) (by decide)
theorem dX8_passOn_140 : decode cX8_passOn 140 = .ok (.iload 13, 2) := dw21 (n := 128) (i := 12) (a := 13) kc_cX8_passOn_4 (by decide +kernel) (by decide)
theorem dX8_passOn_142 : decode cX8_passOn 142 = .ok (.laload, 1) := dw47 (n := 128) (i := 14) kc_cX8_passOn_4 (by decide +kernel)
theorem dX8_passOn_143 : decode cX8_passOn 143 = .ok (.invokevirtual 80, 3) := dw182 (n := 128) (i := 15) (a := 0) (b := 80) kc_cX8_passOn_4 (by decide +kernel) (by decide)
theorem dX8_passOn_146 : decode cX8_passOn 146 = .ok (.aload_n 0, 1) := dw42 (n := 128) (i := 18) kc_cX8_passOn_4 (by decide +kernel)
theorem dX8_passOn_147 : decode cX8_passOn 147 = .ok (.getfield 25, 3) := dw180 (n := 128) (i := 19) (a := 0) (b := 25) kc_cX8_passOn_4 (by decide +kernel) (by decide)
theorem dX8_passOn_150 : decode cX8_passOn 150 = .ok (.lload 8, 2) := dw22 (n := 128) (i := 22) (a := 8) kc_cX8_passOn_4 (by decide +kernel) (by decide)
theorem dX8_passOn_152 : decode cX8_passOn 152 = .ok (.lload 10, 2) := dw22 (n := 128) (i := 24) (a := 10) kc_cX8_passOn_4 (by decide +kernel) (by decide)
theorem dX8_passOn_154 : decode cX8_passOn 154 = .ok (.invokevirtual 121, 3) := dw182 (n := 128) (i := 26) (a := 0) (b := 121) kc_cX8_passOn_4 (by decide +kernel) (by decide)
theorem dX8_passOn_157 : decode cX8_passOn 157 = .ok (.aload_n 0, 1) := dw42 (n := 128) (i := 29) kc_cX8_passOn_4 (by decide +kernel)
theorem dX8_passOn_158 : decode cX8_passOn 158 = .ok (.getfield 9, 3) := dw180 (n := 128) (i := 30) (a := 0) (b := 9) kc_cX8_passOn_4 (by decide +kernel) (by decide)
theorem dX8_passOn_161 : decode cX8_passOn 161 = .ok (.iload 13, 2) := dw21 (n := 160) (i := 1) (a := 13) kc_cX8_passOn_5 (by decide +kernel) (by decide)
theorem dX8_passOn_163 : decode cX8_passOn 163 = .ok (.aload_n 0, 1) := dw42 (n := 160) (i := 3) kc_cX8_passOn_5 (by decide +kernel)
theorem dX8_passOn_164 : decode cX8_passOn 164 = .ok (.getfield 25, 3) := dw180 (n := 160) (i := 4) (a := 0) (b := 25) kc_cX8_passOn_5 (by decide +kernel) (by decide)
theorem dX8_passOn_167 : decode cX8_passOn 167 = .ok (.getfield 87, 3) := dw180 (n := 160) (i := 7) (a := 0) (b := 87) kc_cX8_passOn_5 (by decide +kernel) (by decide)
theorem dX8_passOn_170 : decode cX8_passOn 170 = .ok (.lastore, 1) := dw80 (n := 160) (i := 10) kc_cX8_passOn_5 (by decide +kernel)
theorem dX8_passOn_171 : decode cX8_passOn 171 = .ok (.aload_n 0, 1) := dw42 (n := 160) (i := 11) kc_cX8_passOn_5 (by decide +kernel)
theorem dX8_passOn_172 : decode cX8_passOn 172 = .ok (.getfield 15, 3) := dw180 (n := 160) (i := 12) (a := 0) (b := 15) kc_cX8_passOn_5 (by decide +kernel) (by decide)
theorem dX8_passOn_175 : decode cX8_passOn 175 = .ok (.iload 13, 2) := dw21 (n := 160) (i := 15) (a := 13) kc_cX8_passOn_5 (by decide +kernel) (by decide)
theorem dX8_passOn_177 : decode cX8_passOn 177 = .ok (.aload_n 0, 1) := dw42 (n := 160) (i := 17) kc_cX8_passOn_5 (by decide +kernel)
theorem dX8_passOn_178 : decode cX8_passOn 178 = .ok (.getfield 25, 3) := dw180 (n := 160) (i := 18) (a := 0) (b := 25) kc_cX8_passOn_5 (by decide +kernel) (by decide)
theorem dX8_passOn_181 : decode cX8_passOn 181 = .ok (.getfield 90, 3) := dw180 (n := 160) (i := 21) (a := 0) (b := 90) kc_cX8_passOn_5 (by decide +kernel) (by decide)
theorem dX8_passOn_184 : decode cX8_passOn 184 = .ok (.lastore, 1) := dw80 (n := 160) (i := 24) kc_cX8_passOn_5 (by decide +kernel)
theorem dX8_passOn_185 : decode cX8_passOn 185 = .ok (.aload_n 0, 1) := dw42 (n := 160) (i := 25) kc_cX8_passOn_5 (by decide +kernel)
theorem dX8_passOn_186 : decode cX8_passOn 186 = .ok (.getfield 25, 3) := dw180 (n := 160) (i := 26) (a := 0) (b := 25) kc_cX8_passOn_5 (by decide +kernel) (by decide)
theorem dX8_passOn_189 : decode cX8_passOn 189 = .ok (.invokevirtual 92, 3) := dw182 (n := 160) (i := 29) (a := 0) (b := 92) kc_cX8_passOn_5 (by decide +kernel) (by decide)
theorem dX8_passOn_192 : decode cX8_passOn 192 = .ok (.istore 12, 2) := dw54 (n := 192) (i := 0) (a := 12) kc_cX8_passOn_6 (by decide +kernel) (by decide)
theorem dX8_passOn_71 : decode cX8_passOn 71 = .ok (.iconst 0, 1) := dw3 (n := 64) (i := 7) kc_cX8_passOn_2 (by decide +kernel)
theorem dX8_passOn_72 : decode cX8_passOn 72 = .ok (.ireturn, 1) := dw172 (n := 64) (i := 8) kc_cX8_passOn_2 (by decide +kernel)
theorem dX8_passOn_48 : decode cX8_passOn 48 = .ok (.iconst 0, 1) := dw3 (n := 32) (i := 16) kc_cX8_passOn_1 (by decide +kernel)
theorem dX8_passOn_49 : decode cX8_passOn 49 = .ok (.ireturn, 1) := dw172 (n := 32) (i := 17) kc_cX8_passOn_1 (by decide +kernel)
set_option maxHeartbeats 4000000 in
set_option maxRecDepth 100000 in
theorem s_X8_passOn (l : Launch) (D : va_G) (ad : Nat → Nat) (cs : Nat → ClassId) (M : MI) (L : ML) (x : Int32) (y : Int64) (hI : IC M) (hx : 0 ≤ x.toInt ∧ x.toInt < 10) : Ci l yX8_passOn wsX8_passOn ({ frames := 2, cells := 0, slots := 0, locals := 55 }) D ad cs [.ref (ad 120), .int x, .long y] M L (fun r M1 L1 => (r = 0 ∨ r = 1) ∧ IC M1 ∧ (∀ k, k < 300 ∨ 300 ≤ k → M1 k = M k) ∧ ∀ k, 258 ≤ k → L1 k = L k) := by
  refine enter_i RX8 rfl [(0, .ref (ad 120)), (1, .int x), (2, .long y)] rfl (Nat.le_of_ble_eq_true rfl) (by decide +kernel) rfl ?_
  intro p e s m below meth c C hr
  have hF : ∀ k, k < 300 ∨ 300 ≤ k → M k = M k := fun _ _ => rfl
  have hG : ∀ k, 258 ≤ k → L k = L k := fun _ _ => rfl
  obtain ⟨hx1, hx2⟩ := hx
  refine g_aload_n C 0 dX8_passOn_0 rfl ?_
  refine g_get C (.ref (ad 88)) 0 in_X8_passOn_8 (List.mem_of_getElem? (i := 1) rfl) (by decide) (ce_trans ad cs _ _) rfl (by decide) rfl rfl dX8_passOn_1 ?_
  refine g_get C (.ref (ad 91)) 6 in_X8_passOn_6 (List.mem_of_getElem? (i := 2) rfl) (by decide) (ce_poll ad cs _ _) rfl (by decide) rfl rfl dX8_passOn_4 ?_
  refine g_iload_n C 1 dX8_passOn_7 rfl ?_
  refine g_lald C (by decide) (ce_pupper ad cs _ _) (fin' (n := 10) rfl (by omega) (by omega)) dX8_passOn_8 ?_
  refine g_nl (fun v1 ev1 => ?_)
  refine g_lstore C [(4, .long v1), (0, .ref (ad 120)), (1, .int x), (2, .long y)] dX8_passOn_9 (by decide) rfl ?_
  refine g_aload_n C 1 dX8_passOn_11 rfl ?_
  refine g_get C (.ref (ad 88)) 0 in_X8_passOn_8 (List.mem_of_getElem? (i := 1) rfl) (by decide) (ce_trans ad cs _ _) rfl (by decide) rfl rfl dX8_passOn_12 ?_
  refine g_get C (.ref (ad 92)) 7 in_X8_passOn_6 (List.mem_of_getElem? (i := 3) rfl) (by decide) (ce_poll ad cs _ _) rfl (by decide) rfl rfl dX8_passOn_15 ?_
  refine g_iload_n C 2 dX8_passOn_18 rfl ?_
  refine g_lald C (by decide) (ce_plower ad cs _ _) (fin' (n := 10) rfl (by omega) (by omega)) dX8_passOn_19 ?_
  refine g_nl (fun v2 ev2 => ?_)
  refine g_lstore C [(6, .long v2), (4, .long v1), (0, .ref (ad 120)), (1, .int x), (2, .long y)] dX8_passOn_20 (by decide) rfl ?_
  refine g_aload_n C 2 dX8_passOn_22 rfl ?_
  refine g_get C (.ref (ad 124)) 4 in_X8_passOn_8 (List.mem_of_getElem? (i := 4) rfl) (by decide) (ce_trans ad cs _ _) rfl (by decide) rfl rfl dX8_passOn_23 ?_
  refine g_lload C 1 dX8_passOn_26 rfl ?_
  refine g_lload_n C 4 dX8_passOn_28 rfl ?_
  refine g_lload C 0 dX8_passOn_29 rfl ?_
  refine g_lmul C dX8_passOn_31 ?_
  refine g_nl (fun v3 ev3 => ?_)
  refine g_lsub C dX8_passOn_32 ?_
  refine g_nl (fun v4 ev4 => ?_)
  refine g_lload C 0 dX8_passOn_33 rfl ?_
  refine g_callVv C (n := 2) (As := [.long v4, .long v2]) (st := []) (s_X3_become l D ad cs _ _ v4 v2 hI) gX8_passOn_X3_become rfl rfl rfl (by decide +kernel) ⟨Nat.le_of_ble_eq_true rfl, Nat.le_of_ble_eq_true rfl⟩ rfl (Nat.le_of_ble_eq_true rfl) ⟨Nat.zero_le _, Nat.zero_le _⟩ (by decide) (ce_frac ad cs _ _) rfl rfl dX8_passOn_35 (fun M6 L7 hr5 => ?_)
  obtain ⟨hI, hF1, hG1⟩ := hr5
  have hF : ∀ k, k < 300 ∨ 300 ≤ k → M6 k = M k := fun k hk => by (rw [hF1 k (by omega)]; try exact hF k hk)
  have hG : ∀ k, 258 ≤ k → L7 k = L k := fun k hk => by (rw [hG1 k hk]; try exact hG k hk)
  refine g_aload_n C 2 dX8_passOn_38 rfl ?_
  refine g_get C (.ref (ad 124)) 4 in_X8_passOn_8 (List.mem_of_getElem? (i := 4) rfl) (by decide) (ce_trans ad cs _ _) rfl (by decide) rfl rfl dX8_passOn_39 ?_
  refine g_callVi C (n := 0) (As := []) (st := []) (s_X3_fits l D ad cs _ _ hI) gX8_passOn_X3_fits rfl rfl rfl (by decide +kernel) ⟨Nat.le_of_ble_eq_true rfl, Nat.le_of_ble_eq_true rfl⟩ rfl (Nat.le_of_ble_eq_true rfl) ⟨Nat.zero_le _, Nat.zero_le _⟩ (by decide) (ce_frac ad cs _ _) rfl rfl dX8_passOn_42 (fun r8 M9 L10 hr8 => ?_)
  obtain ⟨hq1, hq2, hr8⟩ := hr8
  obtain rfl := hq1.symm
  obtain rfl := hq2.symm
  have hz := hr8
  obtain ⟨zar8, zbr8⟩ := z_to hr8
  refine g_if_ne C 50 dX8_passOn_45 (by decide) (fun c11 => ?_) (fun c11 => ?_)
  ·
    have f12 := fne rfl (by decide : (0 : Int32).toInt = 0) c11
    refine g_aload_n C 2 dX8_passOn_50 rfl ?_
    refine g_get C (.ref (ad 124)) 4 in_X8_passOn_8 (List.mem_of_getElem? (i := 4) rfl) (by decide) (ce_trans ad cs _ _) rfl (by decide) rfl rfl dX8_passOn_51 ?_
    refine g_lload C 0 dX8_passOn_54 rfl ?_
    refine g_lload C 1 dX8_passOn_56 rfl ?_
    refine g_callVv C (n := 2) (As := [.long v2, .long v1]) (st := []) (s_X3_multiply l D ad cs _ _ v2 v1 hI) gX8_passOn_X3_multiply rfl rfl rfl (by decide +kernel) ⟨Nat.le_of_ble_eq_true rfl, Nat.le_of_ble_eq_true rfl⟩ rfl (Nat.le_of_ble_eq_true rfl) ⟨Nat.zero_le _, Nat.zero_le _⟩ (by decide) (ce_frac ad cs _ _) rfl rfl dX8_passOn_58 (fun M14 L15 hr13 => ?_)
    obtain ⟨hI, hF1, hG1⟩ := hr13
    have hF : ∀ k, k < 300 ∨ 300 ≤ k → M14 k = M k := fun k hk => by (rw [hF1 k (by omega)]; try exact hF k hk)
    have hG : ∀ k, 258 ≤ k → L15 k = L k := fun k hk => by (rw [hG1 k hk]; try exact hG k hk)
    refine g_aload_n C 2 dX8_passOn_61 rfl ?_
    refine g_get C (.ref (ad 124)) 4 in_X8_passOn_8 (List.mem_of_getElem? (i := 4) rfl) (by decide) (ce_trans ad cs _ _) rfl (by decide) rfl rfl dX8_passOn_62 ?_
    refine g_callVi C (n := 0) (As := []) (st := []) (s_X3_fits l D ad cs _ _ hI) gX8_passOn_X3_fits rfl rfl rfl (by decide +kernel) ⟨Nat.le_of_ble_eq_true rfl, Nat.le_of_ble_eq_true rfl⟩ rfl (Nat.le_of_ble_eq_true rfl) ⟨Nat.zero_le _, Nat.zero_le _⟩ (by decide) (ce_frac ad cs _ _) rfl rfl dX8_passOn_65 (fun r16 M17 L18 hr16 => ?_)
    obtain ⟨hq1, hq2, hr16⟩ := hr16
    obtain rfl := hq1.symm
    obtain rfl := hq2.symm
    have hz := hr16
    obtain ⟨zar16, zbr16⟩ := z_to hr16
    refine g_if_ne C 73 dX8_passOn_68 (by decide) (fun c19 => ?_) (fun c19 => ?_)
    ·
      have f20 := fne rfl (by decide : (0 : Int32).toInt = 0) c19
      refine g_aload_n C 2 dX8_passOn_73 rfl ?_
      refine g_get C (.ref (ad 124)) 4 in_X8_passOn_8 (List.mem_of_getElem? (i := 4) rfl) (by decide) (ce_trans ad cs _ _) rfl (by decide) rfl rfl dX8_passOn_74 ?_
      refine g_get C (.long (L15 124 0)) 0 in_X8_passOn_3 (List.mem_of_getElem? (i := 5) rfl) (by decide) (ce_frac ad cs _ _) rfl (by decide) rfl rfl dX8_passOn_77 ?_
      refine g_nl (fun v21 ev21 => ?_)
      refine g_lstore C [(8, .long v21), (6, .long v2), (4, .long v1), (0, .ref (ad 120)), (1, .int x), (2, .long y)] dX8_passOn_80 (by decide) rfl ?_
      refine g_aload_n C 3 dX8_passOn_82 rfl ?_
      refine g_get C (.ref (ad 124)) 4 in_X8_passOn_8 (List.mem_of_getElem? (i := 4) rfl) (by decide) (ce_trans ad cs _ _) rfl (by decide) rfl rfl dX8_passOn_83 ?_
      refine g_get C (.long (L15 124 1)) 1 in_X8_passOn_3 (List.mem_of_getElem? (i := 6) rfl) (by decide) (ce_frac ad cs _ _) rfl (by decide) rfl rfl dX8_passOn_86 ?_
      refine g_nl (fun v22 ev22 => ?_)
      refine g_lstore C [(10, .long v22), (8, .long v21), (6, .long v2), (4, .long v1), (0, .ref (ad 120)), (1, .int x), (2, .long y)] dX8_passOn_89 (by decide) rfl ?_
      refine g_iconst C 1 dX8_passOn_91 (by decide) ?_
      refine g_istore C [(12, .int 1), (10, .long v22), (8, .long v21), (6, .long v2), (4, .long v1), (0, .ref (ad 120)), (1, .int x), (2, .long y)] dX8_passOn_92 (by decide) rfl ?_
      refine g_iconst C 0 dX8_passOn_94 (by decide) ?_
      refine g_istore C [(13, .int 0), (12, .int 1), (10, .long v22), (8, .long v21), (6, .long v2), (4, .long v1), (0, .ref (ad 120)), (1, .int x), (2, .long y)] dX8_passOn_95 (by decide) rfl ?_
      have zy23 : (0 : Int32).toInt = 0 := by decide
      have zy24 : (1 : Int32).toInt = 1 := by decide
      refine g_loop (α := Int32 × Int32 × MI × ML) (fun a => (41 - a.1.toInt).toNat) (fun a => 0 ≤ a.1.toInt ∧ a.1.toInt ≤ 40 ∧ 0 ≤ a.2.1.toInt ∧ a.2.1.toInt ≤ 1 ∧ IC a.2.2.1 ∧ (∀ k, k < 300 ∨ 300 ≤ k → a.2.2.1 k = M k) ∧ (∀ k, 258 ≤ k → a.2.2.2 k = L k)) (fun a => a.2.2.1) (fun a => a.2.2.2) (fun a => [(13, .int a.1), (12, .int a.2.1), (10, .long v22), (8, .long v21), (6, .long v2), (4, .long v1), (0, .ref (ad 120)), (1, .int x), (2, .long y)]) (0, 1, M14, L15) ⟨by show 0 ≤ (0 : Int32).toInt; omega, by show (0 : Int32).toInt ≤ 40; omega, by show 0 ≤ (1 : Int32).toInt; omega, by show (1 : Int32).toInt ≤ 1; omega, hI, hF, hG⟩ rfl rfl rfl ?_
      rintro ⟨x13_97, x12_97, M_97, L_97⟩ ⟨j97_0, j97_1, j97_2, j97_3, hI, hF, hG⟩ ih_97
      dsimp only at j97_0 j97_1 j97_2 j97_3 hI hF hG ih_97 ⊢
      refine g_iload C 0 dX8_passOn_97 rfl ?_
      refine g_aload_n C 6 dX8_passOn_99 rfl ?_
      refine g_get C (.ref (ad 88)) 0 in_X8_passOn_8 (List.mem_of_getElem? (i := 1) rfl) (by decide) (ce_trans ad cs _ _) rfl (by decide) rfl rfl dX8_passOn_100 ?_
      refine g_get C (.int (M_97 88 3)) 3 in_X8_passOn_6 (List.mem_of_getElem? (i := 7) rfl) (by decide) (ce_poll ad cs _ _) rfl (by decide) rfl rfl dX8_passOn_103 ?_
      refine g_ni (fun v25 ev25 => ?_)
      have tv25 := congrArg Int32.toInt ev25
      obtain ⟨bv25, dv25⟩ := (show rg 0 40 v25 from (by rw [ev25]; exact (hI 88 3).1 rfl))
      refine g_icmp_ge C 200 dX8_passOn_106 (by decide) (fun c26 => ?_) (fun c26 => ?_)
      ·
        have f27 := fle rfl rfl c26
        refine g_iload C 1 dX8_passOn_200 rfl ?_
        have hz := z_of (r := x12_97) (by omega) (by omega)
        exact g_zret C hr (by first | rfl | (rcases hz with rfl | rfl <;> rfl)) ⟨(by first | exact Or.inl rfl | exact Or.inr rfl | exact hz), hI, hF, hG⟩ dX8_passOn_202
      ·
        have f28 := fnle rfl rfl c26
        refine g_iload C 1 dX8_passOn_109 rfl ?_
        refine g_if_eq C 200 dX8_passOn_111 (by decide) (fun c29 => ?_) (fun c29 => ?_)
        ·
          have f30 := feq rfl (by decide : (0 : Int32).toInt = 0) c29
          refine g_iload C 1 dX8_passOn_200 rfl ?_
          have hz := z_of (r := x12_97) (by omega) (by omega)
          exact g_zret C hr (by first | rfl | (rcases hz with rfl | rfl <;> rfl)) ⟨(by first | exact Or.inl rfl | exact Or.inr rfl | exact hz), hI, hF, hG⟩ dX8_passOn_202
        ·
          have f31 := fne rfl (by decide : (0 : Int32).toInt = 0) c29
          refine g_aload_n C 6 dX8_passOn_114 rfl ?_
          refine g_get C (.ref (ad 123)) 3 in_X8_passOn_8 (List.mem_of_getElem? (i := 8) rfl) (by decide) (ce_trans ad cs _ _) rfl (by decide) rfl rfl dX8_passOn_115 ?_
          refine g_iload C 0 dX8_passOn_118 rfl ?_
          refine g_iald C (by decide) (ce_towner ad cs _ _) (fin' (n := 40) rfl (by omega) (by omega)) dX8_passOn_120 ?_
          refine g_ni (fun v32 ev32 => ?_)
          have tv32 := congrArg Int32.toInt ev32
          refine g_iload_n C 7 dX8_passOn_121 rfl ?_
          refine g_icmp_ne C 194 dX8_passOn_122 (by decide) (fun c33 => ?_) (fun c33 => ?_)
          ·
            have f34 := fne rfl rfl c33
            obtain ⟨v35, ev35⟩ : ∃ y : Int32, y = x13_97 + 1 := ⟨_, rfl⟩
            try have fv35 := fadd rfl (by decide : (1 : Int32).toInt = 1) ev35 (by omega) (by omega)
            refine g_iinc C 0 v35 [(13, .int v35), (12, .int x12_97), (10, .long v22), (8, .long v21), (6, .long v2), (4, .long v1), (0, .ref (ad 120)), (1, .int x), (2, .long y)] dX8_passOn_194 rfl (by rw [ev35]; rfl) (by decide) rfl ?_
            refine g_goto C 97 dX8_passOn_197 (by decide) ?_
            exact ih_97 (v35, x12_97, M_97, L_97) ⟨by show 0 ≤ v35.toInt; omega, by show v35.toInt ≤ 40; omega, by show 0 ≤ x12_97.toInt; omega, by show x12_97.toInt ≤ 1; omega, hI, hF, hG⟩ (by show (41 - v35.toInt).toNat < (41 - x13_97.toInt).toNat; omega)
          ·
            have f36 := feq rfl rfl c33
            refine g_aload_n C 6 dX8_passOn_125 rfl ?_
            refine g_get C (.ref (ad 124)) 4 in_X8_passOn_8 (List.mem_of_getElem? (i := 4) rfl) (by decide) (ce_trans ad cs _ _) rfl (by decide) rfl rfl dX8_passOn_126 ?_
            refine g_aload_n C 6 dX8_passOn_129 rfl ?_
            refine g_get C (.ref (ad 121)) 1 in_X8_passOn_8 (List.mem_of_getElem? (i := 9) rfl) (by decide) (ce_trans ad cs _ _) rfl (by decide) rfl rfl dX8_passOn_130 ?_
            refine g_iload C 0 dX8_passOn_133 rfl ?_
            refine g_lald C (by decide) (ce_tup ad cs _ _) (fin' (n := 40) rfl (by omega) (by omega)) dX8_passOn_135 ?_
            refine g_nl (fun v37 ev37 => ?_)
            refine g_aload_n C 6 dX8_passOn_136 rfl ?_
            refine g_get C (.ref (ad 122)) 2 in_X8_passOn_8 (List.mem_of_getElem? (i := 10) rfl) (by decide) (ce_trans ad cs _ _) rfl (by decide) rfl rfl dX8_passOn_137 ?_
            refine g_iload C 0 dX8_passOn_140 rfl ?_
            refine g_lald C (by decide) (ce_tlow ad cs _ _) (fin' (n := 40) rfl (by omega) (by omega)) dX8_passOn_142 ?_
            refine g_nl (fun v38 ev38 => ?_)
            refine g_callVv C (n := 2) (As := [.long v37, .long v38]) (st := []) (s_X3_become l D ad cs _ _ v37 v38 hI) gX8_passOn_X3_become rfl rfl rfl (by decide +kernel) ⟨Nat.le_of_ble_eq_true rfl, Nat.le_of_ble_eq_true rfl⟩ rfl (Nat.le_of_ble_eq_true rfl) ⟨Nat.zero_le _, Nat.zero_le _⟩ (by decide) (ce_frac ad cs _ _) rfl rfl dX8_passOn_143 (fun M40 L41 hr39 => ?_)
            obtain ⟨hI, hF1, hG1⟩ := hr39
            have hF : ∀ k, k < 300 ∨ 300 ≤ k → M40 k = M k := fun k hk => by (rw [hF1 k (by omega)]; try exact hF k hk)
            have hG : ∀ k, 258 ≤ k → L41 k = L k := fun k hk => by (rw [hG1 k hk]; try exact hG k hk)
            refine g_aload_n C 6 dX8_passOn_146 rfl ?_
            refine g_get C (.ref (ad 124)) 4 in_X8_passOn_8 (List.mem_of_getElem? (i := 4) rfl) (by decide) (ce_trans ad cs _ _) rfl (by decide) rfl rfl dX8_passOn_147 ?_
            refine g_lload C 3 dX8_passOn_150 rfl ?_
            refine g_lload C 2 dX8_passOn_152 rfl ?_
            refine g_callVv C (n := 2) (As := [.long v21, .long v22]) (st := []) (s_X3_multiply l D ad cs _ _ v21 v22 hI) gX8_passOn_X3_multiply rfl rfl rfl (by decide +kernel) ⟨Nat.le_of_ble_eq_true rfl, Nat.le_of_ble_eq_true rfl⟩ rfl (Nat.le_of_ble_eq_true rfl) ⟨Nat.zero_le _, Nat.zero_le _⟩ (by decide) (ce_frac ad cs _ _) rfl rfl dX8_passOn_154 (fun M43 L44 hr42 => ?_)
            obtain ⟨hI, hF1, hG1⟩ := hr42
            have hF : ∀ k, k < 300 ∨ 300 ≤ k → M43 k = M k := fun k hk => by (rw [hF1 k (by omega)]; try exact hF k hk)
            have hG : ∀ k, 258 ≤ k → L44 k = L k := fun k hk => by (rw [hG1 k hk]; try exact hG k hk)
            refine g_aload_n C 6 dX8_passOn_157 rfl ?_
            refine g_get C (.ref (ad 121)) 1 in_X8_passOn_8 (List.mem_of_getElem? (i := 9) rfl) (by decide) (ce_trans ad cs _ _) rfl (by decide) rfl rfl dX8_passOn_158 ?_
            refine g_iload C 0 dX8_passOn_161 rfl ?_
            refine g_aload_n C 6 dX8_passOn_163 rfl ?_
            refine g_get C (.ref (ad 124)) 4 in_X8_passOn_8 (List.mem_of_getElem? (i := 4) rfl) (by decide) (ce_trans ad cs _ _) rfl (by decide) rfl rfl dX8_passOn_164 ?_
            refine g_get C (.long (L44 124 0)) 0 in_X8_passOn_3 (List.mem_of_getElem? (i := 5) rfl) (by decide) (ce_frac ad cs _ _) rfl (by decide) rfl rfl dX8_passOn_167 ?_
            refine g_nl (fun v45 ev45 => ?_)
            refine g_last C (by decide) (ce_tup ad cs _ _) (by rw [sJ_k]; rfl) (fin' (n := 40) rfl (by omega) (by omega)) dX8_passOn_170 ?_
            refine g_nmL (fun L46 hL46 => ?_)
            have hG : ∀ k, 258 ≤ k → L46 k = L k := fun k hk => by (rw [hL46, sJ_n _ _ _ (by omega)]; try exact hG k hk)
            refine g_aload_n C 6 dX8_passOn_171 rfl ?_
            refine g_get C (.ref (ad 122)) 2 in_X8_passOn_8 (List.mem_of_getElem? (i := 10) rfl) (by decide) (ce_trans ad cs _ _) rfl (by decide) rfl rfl dX8_passOn_172 ?_
            refine g_iload C 0 dX8_passOn_175 rfl ?_
            refine g_aload_n C 6 dX8_passOn_177 rfl ?_
            refine g_get C (.ref (ad 124)) 4 in_X8_passOn_8 (List.mem_of_getElem? (i := 4) rfl) (by decide) (ce_trans ad cs _ _) rfl (by decide) rfl rfl dX8_passOn_178 ?_
            refine g_get C (.long (L46 124 1)) 1 in_X8_passOn_3 (List.mem_of_getElem? (i := 6) rfl) (by decide) (ce_frac ad cs _ _) rfl (by decide) rfl rfl dX8_passOn_181 ?_
            refine g_nl (fun v47 ev47 => ?_)
            refine g_last C (by decide) (ce_tlow ad cs _ _) (by rw [sJ_k]; rfl) (fin' (n := 40) rfl (by omega) (by omega)) dX8_passOn_184 ?_
            refine g_nmL (fun L48 hL48 => ?_)
            have hG : ∀ k, 258 ≤ k → L48 k = L k := fun k hk => by (rw [hL48, sJ_n _ _ _ (by omega)]; try exact hG k hk)
            refine g_aload_n C 6 dX8_passOn_185 rfl ?_
            refine g_get C (.ref (ad 124)) 4 in_X8_passOn_8 (List.mem_of_getElem? (i := 4) rfl) (by decide) (ce_trans ad cs _ _) rfl (by decide) rfl rfl dX8_passOn_186 ?_
            refine g_callVi C (n := 0) (As := []) (st := []) (s_X3_fits l D ad cs _ _ hI) gX8_passOn_X3_fits rfl rfl rfl (by decide +kernel) ⟨Nat.le_of_ble_eq_true rfl, Nat.le_of_ble_eq_true rfl⟩ rfl (Nat.le_of_ble_eq_true rfl) ⟨Nat.zero_le _, Nat.zero_le _⟩ (by decide) (ce_frac ad cs _ _) rfl rfl dX8_passOn_189 (fun r49 M50 L51 hr49 => ?_)
            obtain ⟨hq1, hq2, hr49⟩ := hr49
            obtain rfl := hq1.symm
            obtain rfl := hq2.symm
            have hz := hr49
            obtain ⟨zar49, zbr49⟩ := z_to hr49
            refine g_istore C [(12, .int r49), (13, .int x13_97), (10, .long v22), (8, .long v21), (6, .long v2), (4, .long v1), (0, .ref (ad 120)), (1, .int x), (2, .long y)] dX8_passOn_192 (by decide) rfl ?_
            obtain ⟨v52, ev52⟩ : ∃ y : Int32, y = x13_97 + 1 := ⟨_, rfl⟩
            try have fv52 := fadd rfl (by decide : (1 : Int32).toInt = 1) ev52 (by omega) (by omega)
            refine g_iinc C 1 v52 [(13, .int v52), (12, .int r49), (10, .long v22), (8, .long v21), (6, .long v2), (4, .long v1), (0, .ref (ad 120)), (1, .int x), (2, .long y)] dX8_passOn_194 rfl (by rw [ev52]; rfl) (by decide) rfl ?_
            refine g_goto C 97 dX8_passOn_197 (by decide) ?_
            exact ih_97 (v52, r49, M43, L48) ⟨by show 0 ≤ v52.toInt; omega, by show v52.toInt ≤ 40; omega, by show 0 ≤ r49.toInt; omega, by show r49.toInt ≤ 1; omega, hI, hF, hG⟩ (by show (41 - v52.toInt).toNat < (41 - x13_97.toInt).toNat; omega)
    ·
      have f53 := feq rfl (by decide : (0 : Int32).toInt = 0) c19
      refine g_iconst C 0 dX8_passOn_71 (by decide) ?_
      exact g_zret C hr (by first | rfl | (rcases hz with rfl | rfl <;> rfl)) ⟨(by first | exact Or.inl rfl | exact Or.inr rfl | exact hz), hI, hF, hG⟩ dX8_passOn_72
  ·
    have f54 := feq rfl (by decide : (0 : Int32).toInt = 0) c11
    refine g_iconst C 0 dX8_passOn_48 (by decide) ?_
    exact g_zret C hr (by first | rfl | (rcases hz with rfl | rfl <;> rfl)) ⟨(by first | exact Or.inl rfl | exact Or.inr rfl | exact hz), hI, hF, hG⟩ dX8_passOn_49
