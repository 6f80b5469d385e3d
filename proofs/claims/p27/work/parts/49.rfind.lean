theorem dX11_find_0 : decode cX11_find 0 = .ok (.iload_n 1, 1) := dw27 (n := 0) (i := 0) kc_cX11_find_0 (by decide +kernel)
theorem dX11_find_1 : decode cX11_find 1 = .ok (.iconst 0, 1) := dw3 (n := 0) (i := 1) kc_cX11_find_0 (by decide +kernel)
theorem dX11_find_2 : decode cX11_find 2 = .ok (.bipush 7, 2) := dw16 (n := 0) (i := 2) (a := 7) kc_cX11_find_0 (by decide +kernel) (by decide)
theorem dX11_find_4 : decode cX11_find 4 = .ok (.invokestatic 133, 3) := dw184 (n := 0) (i := 4) (a := 0) (b := 133) kc_cX11_find_0 (by decide +kernel) (by decide)
set_option maxRecDepth 20000 in
theorem ggX11_find_X11_in : GoodIn wsX11_find wsX11_in := (gk_code 8 rfl (gn))
set_option maxRecDepth 20000 in
theorem gX11_find_X11_in : GoodIn wsX11_find (va_wsS RX11 133 yX11_in wsX11_in) := goodIn_app (gk_methodLink 5 rfl (gk_static 6 rfl (gk_initialized 7 rfl (gn)))) ggX11_find_X11_in
theorem dX11_find_7 : decode cX11_find 7 = .ok (.ifCond .ne 5, 3) := dw154 (n := 0) (i := 7) (a := 0) (b := 5) kc_cX11_find_0 (by decide +kernel) (by decide)
theorem dX11_find_12 : decode cX11_find 12 = .ok (.iconst 0, 1) := dw3 (n := 0) (i := 12) kc_cX11_find_0 (by decide +kernel)
theorem dX11_find_13 : decode cX11_find 13 = .ok (.istore_n 2, 1) := dw61 (n := 0) (i := 13) kc_cX11_find_0 (by decide +kernel)
theorem dX11_find_14 : decode cX11_find 14 = .ok (.iload_n 2, 1) := dw28 (n := 0) (i := 14) kc_cX11_find_0 (by decide +kernel)
theorem dX11_find_15 : decode cX11_find 15 = .ok (.aload_n 0, 1) := dw42 (n := 0) (i := 15) kc_cX11_find_0 (by decide +kernel)
theorem dX11_find_16 : decode cX11_find 16 = .ok (.getfield 175, 3) := dw180 (n := 0) (i := 16) (a := 0) (b := 175) kc_cX11_find_0 (by decide +kernel) (by decide)
theorem in_X11_find_11 : ∀ w ∈ u_ws RX11 TX11 53, w ∈ wsX11_find := fun _ h => List.mem_cons_of_mem _ (List.mem_append_right _ h)
theorem dX11_find_19 : decode cX11_find 19 = .ok (.if_icmp .ge 33, 3) := dw162 (n := 0) (i := 19) (a := 0) (b := 33) kc_cX11_find_0 (by decide +kernel) (by decide)
theorem dX11_find_52 : decode cX11_find 52 = .ok (.iconst 1, 1) := dw4 (n := 32) (i := 20) kc_cX11_find_1 (by decide +kernel)
theorem dX11_find_53 : decode cX11_find 53 = .ok (.istore_n 2, 1) := dw61 (n := 32) (i := 21) kc_cX11_find_1 (by decide +kernel)
theorem dX11_find_54 : decode cX11_find 54 = .ok (.iload_n 2, 1) := dw28 (n := 32) (i := 22) kc_cX11_find_1 (by decide +kernel)
theorem dX11_find_55 : decode cX11_find 55 = .ok (.ifCond .eq 100, 3) := dw153 (n := 32) (i := 23) (a := 0) (b := 100) kc_cX11_find_1 (by decide +kernel) (by decide)
theorem dX11_find_155 : decode cX11_find 155 = .ok (.bipush (-9), 2) := dw16 (n := 128) (i := 27) (a := 247) kc_cX11_find_4 (by decide +kernel) (by decide)
theorem dX11_find_157 : decode cX11_find 157 = .ok (.ireturn, 1) := dw172 (n := 128) (i := 29) kc_cX11_find_4 (by decide +kernel)
theorem dX11_find_58 : decode cX11_find 58 = .ok (.bipush (-9), 2) := dw16 (n := 32) (i := 26) (a := 247) kc_cX11_find_1 (by decide +kernel) (by decide)
theorem dX11_find_60 : decode cX11_find 60 = .ok (.istore_n 3, 1) := dw62 (n := 32) (i := 28) kc_cX11_find_1 (by decide +kernel)
theorem dX11_find_61 : decode cX11_find 61 = .ok (.iconst 0, 1) := dw3 (n := 32) (i := 29) kc_cX11_find_1 (by decide +kernel)
theorem dX11_find_62 : decode cX11_find 62 = .ok (.istore 4, 2) := dw54 (n := 32) (i := 30) (a := 4) kc_cX11_find_1 (by decide +kernel) (by decide)
theorem dX11_find_64 : decode cX11_find 64 = .ok (.iload 4, 2) := dw21 (n := 64) (i := 0) (a := 4) kc_cX11_find_2 (by decide +kernel) (by decide)
theorem dX11_find_66 : decode cX11_find 66 = .ok (.aload_n 0, 1) := dw42 (n := 64) (i := 2) kc_cX11_find_2 (by decide +kernel)
theorem dX11_find_67 : decode cX11_find 67 = .ok (.getfield 175, 3) := dw180 (n := 64) (i := 3) (a := 0) (b := 175) kc_cX11_find_2 (by decide +kernel) (by decide)
theorem dX11_find_70 : decode cX11_find 70 = .ok (.if_icmp .ge 48, 3) := dw162 (n := 64) (i := 6) (a := 0) (b := 48) kc_cX11_find_2 (by decide +kernel) (by decide)
theorem dX11_find_118 : decode cX11_find 118 = .ok (.iload_n 3, 1) := dw29 (n := 96) (i := 22) kc_cX11_find_3 (by decide +kernel)
theorem dX11_find_119 : decode cX11_find 119 = .ok (.bipush (-9), 2) := dw16 (n := 96) (i := 23) (a := 247) kc_cX11_find_3 (by decide +kernel) (by decide)
theorem dX11_find_121 : decode cX11_find 121 = .ok (.if_icmp .eq 7, 3) := dw159 (n := 96) (i := 25) (a := 0) (b := 7) kc_cX11_find_3 (by decide +kernel) (by decide)
theorem dX11_find_128 : decode cX11_find 128 = .ok (.iconst 0, 1) := dw3 (n := 128) (i := 0) kc_cX11_find_4 (by decide +kernel)
theorem dX11_find_129 : decode cX11_find 129 = .ok (.istore_n 2, 1) := dw61 (n := 128) (i := 1) kc_cX11_find_4 (by decide +kernel)
theorem dX11_find_130 : decode cX11_find 130 = .ok (.iload_n 2, 1) := dw28 (n := 128) (i := 2) kc_cX11_find_4 (by decide +kernel)
theorem dX11_find_131 : decode cX11_find 131 = .ok (.ifCond .eq 21, 3) := dw153 (n := 128) (i := 3) (a := 0) (b := 21) kc_cX11_find_4 (by decide +kernel) (by decide)
theorem dX11_find_152 : decode cX11_find 152 = .ok (.goto (-98), 3) := dw167 (n := 128) (i := 24) (a := 255) (b := 158) kc_cX11_find_4 (by decide +kernel) (by decide)
theorem dX11_find_124 : decode cX11_find 124 = .ok (.iconst 1, 1) := dw4 (n := 96) (i := 28) kc_cX11_find_3 (by decide +kernel)
theorem dX11_find_125 : decode cX11_find 125 = .ok (.goto 4, 3) := dw167 (n := 96) (i := 29) (a := 0) (b := 4) kc_cX11_find_3 (by decide +kernel) (by decide)
theorem dX11_find_134 : decode cX11_find 134 = .ok (.aload_n 0, 1) := dw42 (n := 128) (i := 6) kc_cX11_find_4 (by decide +kernel)
theorem dX11_find_135 : decode cX11_find 135 = .ok (.getfield 61, 3) := dw180 (n := 128) (i := 7) (a := 0) (b := 61) kc_cX11_find_4 (by decide +kernel) (by decide)
theorem dX11_find_138 : decode cX11_find 138 = .ok (.iload_n 3, 1) := dw29 (n := 128) (i := 10) kc_cX11_find_4 (by decide +kernel)
theorem dX11_find_139 : decode cX11_find 139 = .ok (.iconst 1, 1) := dw4 (n := 128) (i := 11) kc_cX11_find_4 (by decide +kernel)
theorem dX11_find_140 : decode cX11_find 140 = .ok (.bastore, 1) := dw84 (n := 128) (i := 12) kc_cX11_find_4 (by decide +kernel)
theorem dX11_find_141 : decode cX11_find 141 = .ok (.aload_n 0, 1) := dw42 (n := 128) (i := 13) kc_cX11_find_4 (by decide +kernel)
theorem dX11_find_142 : decode cX11_find 142 = .ok (.iload_n 3, 1) := dw29 (n := 128) (i := 14) kc_cX11_find_4 (by decide +kernel)
theorem dX11_find_143 : decode cX11_find 143 = .ok (.invokevirtual 181, 3) := dw182 (n := 128) (i := 15) (a := 0) (b := 181) kc_cX11_find_4 (by decide +kernel) (by decide)
set_option maxRecDepth 20000 in
theorem ggX11_find_X11_started : GoodIn wsX11_find wsX11_started := (gk_code 12 rfl (gk_fieldLink 13 rfl (gk_fieldLink 14 rfl (gk_fieldLink 15 rfl (gk_fieldLink 16 rfl (gk_fieldLink 17 rfl (gk_lays 18 rfl (gk_laysFinal 19 rfl (gk_lays 20 rfl (gk_laysFinal 21 rfl (gk_lays 22 rfl (gk_laysFinal 23 rfl (gk_laysFinal 24 rfl (gk_laysFinal 25 rfl (gk_laysFinal 26 rfl (gk_lays 27 rfl (gk_laysFinal 28 rfl (gk_laysFinal 29 rfl (gk_laysFinal 30 rfl (gk_laysFinal 31 rfl (gk_lays 32 rfl (gk_laysFinal 33 rfl (gk_laysFinal 34 rfl (gk_laysFinal 35 rfl (gk_laysFinal 36 rfl (gk_laysFinal 37 rfl (gk_laysFinal 38 rfl (gk_laysFinal 39 rfl (gk_laysFinal 40 rfl (gk_lays 41 rfl (gk_lays 42 rfl (gk_lays 43 rfl (gk_lays 44 rfl (gk_lays 45 rfl (gk_lays 46 rfl (gk_lays 47 rfl (gk_laysFinal 48 rfl (gk_lays 49 rfl (gk_laysFinal 50 rfl (gk_laysFinal 51 rfl (gk_laysFinal 52 rfl (gk_laysFinal 53 rfl (gk_laysFinal 54 rfl (gk_laysFinal 55 rfl (gk_laysFinal 56 rfl (gk_laysFinal 57 rfl (gk_laysFinal 58 rfl (gk_laysFinal 59 rfl (gk_lays 60 rfl (gk_laysFinal 61 rfl (gk_lays 62 rfl (gk_laysFinal 63 rfl (gk_laysFinal 64 rfl (gk_laysFinal 65 rfl (gk_laysFinal 66 rfl (gk_laysFinal 67 rfl (gk_laysFinal 68 rfl (gk_laysFinal 69 rfl (gk_laysFinal 70 rfl (gn))))))))))))))))))))))))))))))))))))))))))))))))))))))))))))
set_option maxRecDepth 20000 in
theorem gX11_find_X11_started : GoodIn wsX11_find (wsV RX11 181 RX11 yX11_started wsX11_started) := goodIn_app (gk_methodLink 9 rfl (gk_instanceMethod 10 rfl (gk_selects 11 rfl (gk_initialized 7 rfl (gn))))) ggX11_find_X11_started
theorem dX11_find_146 : decode cX11_find 146 = .ok (.iconst 1, 1) := dw4 (n := 128) (i := 18) kc_cX11_find_4 (by decide +kernel)
theorem dX11_find_147 : decode cX11_find 147 = .ok (.if_icmp .ne 5, 3) := dw160 (n := 128) (i := 19) (a := 0) (b := 5) kc_cX11_find_4 (by decide +kernel) (by decide)
theorem dX11_find_150 : decode cX11_find 150 = .ok (.iload_n 3, 1) := dw29 (n := 128) (i := 22) kc_cX11_find_4 (by decide +kernel)
theorem dX11_find_151 : decode cX11_find 151 = .ok (.ireturn, 1) := dw172 (n := 128) (i := 23) kc_cX11_find_4 (by decide +kernel)
theorem dX11_find_73 : decode cX11_find 73 = .ok (.aload_n 0, 1) := dw42 (n := 64) (i := 9) kc_cX11_find_2 (by decide +kernel)
theorem dX11_find_74 : decode cX11_find 74 = .ok (.getfield 61, 3) := dw180 (n := 64) (i := 10) (a := 0) (b := 61) kc_cX11_find_2 (by decide +kernel) (by decide)
theorem dX11_find_77 : decode cX11_find 77 = .ok (.iload 4, 2) := dw21 (n := 64) (i := 13) (a := 4) kc_cX11_find_2 (by decide +kernel) (by decide)
theorem dX11_find_79 : decode cX11_find 79 = .ok (.baload, 1) := dw51 (n := 64) (i := 15) kc_cX11_find_2 (by decide +kernel)
theorem dX11_find_80 : decode cX11_find 80 = .ok (.ifCond .ne 30, 3) := dw154 (n := 64) (i := 16) (a := 0) (b := 30) kc_cX11_find_2 (by decide +kernel) (by decide)
theorem dX11_find_110 : decode cX11_find 110 = .ok (.iload_n 3, 1) := dw29 (n := 96) (i := 14) kc_cX11_find_3 (by decide +kernel)
theorem dX11_find_111 : decode cX11_find 111 = .ok (.istore_n 3, 1) := dw62 (n := 96) (i := 15) kc_cX11_find_3 (by decide +kernel)
theorem dX11_find_112 : decode cX11_find 112 = .ok (.iinc 4 1, 3) := by decide +kernel
theorem dX11_find_115 : decode cX11_find 115 = .ok (.goto (-51), 3) := dw167 (n := 96) (i := 19) (a := 255) (b := 205) kc_cX11_find_3 (by decide +kernel) (by decide)
theorem dX11_find_83 : decode cX11_find 83 = .ok (.iload_n 3, 1) := dw29 (n := 64) (i := 19) kc_cX11_find_2 (by decide +kernel)
theorem dX11_find_84 : decode cX11_find 84 = .ok (.bipush (-9), 2) := dw16 (n := 64) (i := 20) (a := 247) kc_cX11_find_2 (by decide +kernel) (by decide)
theorem dX11_find_86 : decode cX11_find 86 = .ok (.if_icmp .eq 19, 3) := dw159 (n := 64) (i := 22) (a := 0) (b := 19) kc_cX11_find_2 (by decide +kernel) (by decide)
theorem dX11_find_105 : decode cX11_find 105 = .ok (.iload 4, 2) := dw21 (n := 96) (i := 9) (a := 4) kc_cX11_find_3 (by decide +kernel) (by decide)
theorem dX11_find_107 : decode cX11_find 107 = .ok (.goto 4, 3) := dw167 (n := 96) (i := 11) (a := 0) (b := 4) kc_cX11_find_3 (by decide +kernel) (by decide)
theorem dX11_find_89 : decode cX11_find 89 = .ok (.aload_n 0, 1) := dw42 (n := 64) (i := 25) kc_cX11_find_2 (by decide +kernel)
theorem dX11_find_90 : decode cX11_find 90 = .ok (.getfield 43, 3) := dw180 (n := 64) (i := 26) (a := 0) (b := 43) kc_cX11_find_2 (by decide +kernel) (by decide)
theorem dX11_find_93 : decode cX11_find 93 = .ok (.iload 4, 2) := dw21 (n := 64) (i := 29) (a := 4) kc_cX11_find_2 (by decide +kernel) (by decide)
theorem dX11_find_95 : decode cX11_find 95 = .ok (.iaload, 1) := dw46 (n := 64) (i := 31) kc_cX11_find_2 (by decide +kernel)
theorem dX11_find_96 : decode cX11_find 96 = .ok (.aload_n 0, 1) := dw42 (n := 96) (i := 0) kc_cX11_find_3 (by decide +kernel)
theorem dX11_find_97 : decode cX11_find 97 = .ok (.getfield 43, 3) := dw180 (n := 96) (i := 1) (a := 0) (b := 43) kc_cX11_find_3 (by decide +kernel) (by decide)
theorem dX11_find_100 : decode cX11_find 100 = .ok (.iload_n 3, 1) := dw29 (n := 96) (i := 4) kc_cX11_find_3 (by decide +kernel)
theorem dX11_find_101 : decode cX11_find 101 = .ok (.iaload, 1) := dw46 (n := 96) (i := 5) kc_cX11_find_3 (by decide +kernel)
theorem dX11_find_102 : decode cX11_find 102 = .ok (.if_icmp .le 8, 3) := dw164 (n := 96) (i := 6) (a := 0) (b := 8) kc_cX11_find_3 (by decide +kernel) (by decide)
theorem dX11_find_22 : decode cX11_find 22 = .ok (.aload_n 0, 1) := dw42 (n := 0) (i := 22) kc_cX11_find_0 (by decide +kernel)
theorem dX11_find_23 : decode cX11_find 23 = .ok (.getfield 61, 3) := dw180 (n := 0) (i := 23) (a := 0) (b := 61) kc_cX11_find_0 (by decide +kernel) (by decide)
theorem dX11_find_26 : decode cX11_find 26 = .ok (.iload_n 2, 1) := dw28 (n := 0) (i := 26) kc_cX11_find_0 (by decide +kernel)
theorem dX11_find_27 : decode cX11_find 27 = .ok (.aload_n 0, 1) := dw42 (n := 0) (i := 27) kc_cX11_find_0 (by decide +kernel)
theorem dX11_find_28 : decode cX11_find 28 = .ok (.getfield 46, 3) := dw180 (n := 0) (i := 28) (a := 0) (b := 46) kc_cX11_find_0 (by decide +kernel) (by decide)
theorem dX11_find_31 : decode cX11_find 31 = .ok (.iload_n 2, 1) := dw28 (n := 0) (i := 31) kc_cX11_find_0 (by decide +kernel)
theorem dX11_find_32 : decode cX11_find 32 = .ok (.iaload, 1) := dw46 (n := 32) (i := 0) kc_cX11_find_1 (by decide +kernel)
theorem dX11_find_33 : decode cX11_find 33 = .ok (.iload_n 1, 1) := dw27 (n := 32) (i := 1) kc_cX11_find_1 (by decide +kernel)
theorem dX11_find_34 : decode cX11_find 34 = .ok (.ishr, 1) := dw122 (n := 32) (i := 2) kc_cX11_find_1 (by decide +kernel)
theorem dX11_find_35 : decode cX11_find 35 = .ok (.iconst 1, 1) := dw4 (n := 32) (i := 3) kc_cX11_find_1 (by decide +kernel)
theorem dX11_find_36 : decode cX11_find 36 = .ok (.iand, 1) := dw126 (n := 32) (i := 4) kc_cX11_find_1 (by decide +kernel)
theorem dX11_find_37 : decode cX11_find 37 = .ok (.ifCond .ne 7, 3) := dw154 (n := 32) (i := 5) (a := 0) (b := 7) kc_cX11_find_1 (by decide +kernel) (by decide)
theorem dX11_find_44 : decode cX11_find 44 = .ok (.iconst 0, 1) := dw3 (n := 32) (i := 12) kc_cX11_find_1 (by decide +kernel)
theorem dX11_find_45 : decode cX11_find 45 = .ok (.bastore, 1) := dw84 (n := 32) (i := 13) kc_cX11_find_1 (by decide +kernel)
theorem dX11_find_46 : decode cX11_find 46 = .ok (.iinc 2 1, 3) := by decide +kernel
theorem dX11_find_49 : decode cX11_find 49 = .ok (.goto (-35), 3) := dw167 (n := 32) (i := 17) (a := 255) (b := 221) kc_cX11_find_1 (by decide +kernel) (by decide)
theorem dX11_find_40 : decode cX11_find 40 = .ok (.iconst 1, 1) := dw4 (n := 32) (i := 8) kc_cX11_find_1 (by decide +kernel)
theorem dX11_find_41 : decode cX11_find 41 = .ok (.goto 4, 3) := dw167 (n := 32) (i := 9) (a := 0) (b := 4) kc_cX11_find_1 (by decide +kernel) (by decide)
theorem dX11_find_10 : decode cX11_find 10 = .ok (.iconst (-1), 1) := dw2 (n := 0) (i := 10) kc_cX11_find_0 (by decide +kernel)
theorem dX11_find_11 : decode cX11_find 11 = .ok (.ireturn, 1) := dw172 (n := 0) (i := 11) kc_cX11_find_0 (by decide +kernel)
set_option maxHeartbeats 4000000 in
set_option maxRecDepth 100000 in
theorem s_X11_find (l : Launch) (D : va_G) (ad : Nat → Nat) (cs : Nat → ClassId) (M : MI) (L : ML) (x : Int32) (hI : IR M) (hN : NOv (vR M)) (hT : tr01 (vR M 13) (M 274)) (hB : b012 (vR M 13)) : Ci l yX11_find wsX11_find ({ frames := 1, cells := 0, slots := 0, locals := 26 }) D ad cs [.ref (ad 258), .int x] M L (fun r M1 L1 => (A_find (vR M) x = (r, vR M1) ∧ tr01 (vR M1 13) (M1 274)) ∧ IR M1 ∧ (∀ k i, k ≠ 273 ∧ k ≠ 274 ∧ k ≠ 275 ∧ k ≠ 276 → M1 k i = M k i) ∧ ∀ k i, True → L1 k i = L k i) := by
  refine enter_i RX11 rfl [(0, .ref (ad 258)), (1, .int x)] rfl (Nat.le_of_ble_eq_true rfl) (by decide +kernel) rfl ?_
  intro p e s m below meth c C hr
  have hF : ∀ k i, k ≠ 273 ∧ k ≠ 274 ∧ k ≠ 275 ∧ k ≠ 276 → M k i = M k i := fun _ _ _ => rfl
  have hG : ∀ k i, True → L k i = L k i := fun _ _ _ => rfl
  have w0 : (vR M 0 0).toInt = (M 258 2).toInt := rfl
  have w1 : (vR M 0 1).toInt = (M 258 4).toInt := rfl
  have w2 : (vR M 0 2).toInt = (M 258 9).toInt := rfl
  have w3 : (vR M 0 3).toInt = (M 258 14).toInt := rfl
  obtain ⟨y0a, y0b⟩ := (show rg 0 10 (M 258 2) from hI 258 2)
  obtain ⟨y1a, y1b⟩ := (show rg 0 60 (M 258 4) from hI 258 4)
  obtain ⟨y2a, y2b⟩ := (show rg 0 8 (M 258 9) from hI 258 9)
  obtain ⟨y3a, y3b⟩ := (show rg 0 20 (M 258 14) from hI 258 14)
  have q273 : M 273 = M 273 := rfl
  have q274 : M 274 = M 274 := rfl
  have q275 : M 275 = M 275 := rfl
  have q276 : M 276 = M 276 := rfl
  have hV : vR M = vR M := rfl
  refine g_iload_n C 1 dX11_find_0 rfl ?_
  refine g_iconst C 0 dX11_find_1 (by decide) ?_
  refine g_bipush C 7 dX11_find_2 (by decide) ?_
  refine g_callSi C (n := 3) (As := [.int x, .int 0, .int 7]) (st := []) (c_X11_in l D ad cs _ _ x 0 7 ) gX11_find_X11_in rfl rfl rfl (by decide +kernel) ⟨Nat.le_of_ble_eq_true rfl, Nat.le_of_ble_eq_true rfl⟩ rfl (Nat.le_of_ble_eq_true rfl) ⟨Nat.zero_le _, Nat.zero_le _⟩ rfl dX11_find_4 (fun r1 M2 L3 hr1 => ?_)
  obtain ⟨hq1, hq2, hr1⟩ := hr1
  obtain rfl := hq1.symm
  obtain rfl := hq2.symm
  have hr1 := zo_in hr1 (by decide : (0 : Int32).toInt = 0) (by decide : (7 : Int32).toInt = 7)
  obtain ⟨bar1, bbr1⟩ := zo_b hr1
  refine g_if_ne C 12 dX11_find_7 (by decide) (fun c4 => ?_) (fun c4 => ?_)
  ·
    have f5 := fne rfl (by decide : (0 : Int32).toInt = 0) c4
    have pr1 := zo_t hr1 c4
    try dsimp only [hasC, hasB, hasX, hasM, ofS, ofK, bt] at pr1
    refine g_iconst C 0 dX11_find_12 (by decide) ?_
    refine g_istore_n C [(2, .int 0), (0, .ref (ad 258)), (1, .int x)] dX11_find_13 (by decide) rfl ?_
    have zy6 : (0 : Int32).toInt = 0 := by decide
    refine g_loop (α := Int32 × MI × ML) (fun a => (21 - a.1.toInt).toNat) (fun a => (0 ≤ a.1.toInt) ∧ (a.1.toInt ≤ (vR M 0 3).toInt) ∧ (∀ i : Nat, i < a.1.toNatClampNeg → ((a.2.1 276 i).toInt = 0 ↔ mkd (vR M) x i) ∧ bt 0 1 (a.2.1 276 i)) ∧ (a.2.1 274 = M 274) ∧ (vR a.2.1 = vR M) ∧ IR a.2.1 ∧ (∀ k i, k ≠ 273 ∧ k ≠ 274 ∧ k ≠ 275 ∧ k ≠ 276 → a.2.1 k i = M k i) ∧ (∀ k i, True → a.2.2 k i = L k i)) (fun a => a.2.1) (fun a => a.2.2) (fun a => [(2, .int a.1), (0, .ref (ad 258)), (1, .int x)]) ((0 : Int32), M, L) ⟨by show 0 ≤ (0 : Int32).toInt; omega, by show (0 : Int32).toInt ≤ (vR M 0 3).toInt; omega, by show ∀ i : Nat, i < (0 : Int32).toNatClampNeg → ((M 276 i).toInt = 0 ↔ mkd (vR M) x i) ∧ bt 0 1 (M 276 i); intro j hj; exact absurd hj (by show ¬ j < 0; omega), by show M 274 = M 274; exact q274, by show vR M = vR M; exact hV, hI, hF, hG⟩ rfl rfl rfl ?_
    rintro ⟨x2_14, M_14, L_14⟩ ⟨j14_0, j14_1, j14_2, j14_3, j14_4, hI, hF, hG⟩ ih_14
    dsimp only at j14_0 j14_1 j14_2 j14_3 j14_4 hI hF hG ih_14 ⊢
    have hV := j14_4
    have q273 : M_14 273 = M_14 273 := rfl
    have q274 : M_14 274 = M_14 274 := rfl
    have q275 : M_14 275 = M_14 275 := rfl
    have q276 : M_14 276 = M_14 276 := rfl
    have n2 := ixn (x := x2_14) (by omega)
    have n03 := ixn (x := vR M 0 3) (by omega)
    refine g_iload_n C 0 dX11_find_14 rfl ?_
    refine g_aload_n C 1 dX11_find_15 rfl ?_
    refine g_get C (.int (M_14 258 14)) 14 in_X11_find_11 (List.mem_of_getElem? (i := 1) rfl) (by decide) (ce_model ad cs _ _) rfl (by decide) rfl rfl dX11_find_16 ?_
    refine g_ni (fun v7 ev7 => ?_)
    have gv7 : v7 = vR M 0 3 := ev7.trans (hF 258 14 (by omega))
    have tv7 := congrArg Int32.toInt gv7
    obtain ⟨bv7, dv7⟩ := (show rg 0 20 v7 from (by rw [ev7]; exact hI 258 14))
    refine g_icmp_ge C 52 dX11_find_19 (by decide) (fun c8 => ?_) (fun c8 => ?_)
    ·
      have f9 := fle rfl rfl c8
      refine g_iconst C 1 dX11_find_52 (by decide) ?_
      refine g_istore_n C [(2, .int 1), (0, .ref (ad 258)), (1, .int x)] dX11_find_53 (by decide) rfl ?_
      have zy10 : (1 : Int32).toInt = 1 := by decide
      have q274 := q274.trans j14_3
      refine g_loop (α := Int32 × MI × ML) (fun a => cT (a.2.1 276) (vR M 0 3).toNatClampNeg * 2 + a.1.toInt.toNat) (fun a => (a.1.toInt = 0 ∨ a.1.toInt = 1) ∧ (∀ c, c ≠ 13 → vR a.2.1 c = vR M c) ∧ (b012 (vR a.2.1 13)) ∧ (tr01 (vR a.2.1 13) (a.2.1 274)) ∧ (∀ i : Nat, i < (vR M 0 3).toNatClampNeg → ((a.2.1 276 i).toInt = 0 → mkd (vR M) x i) ∧ (mkd (vR M) x i → ¬ (a.2.1 276 i).toInt = 0 → (a.2.1 273 i).toInt = 2) ∧ bt 0 1 (a.2.1 276 i)) ∧ ((a.1.toInt = 1 → findF (vR M) x (vR M 0 3).toNatClampNeg (vR a.2.1 13) = findF (vR M) x (vR M 0 3).toNatClampNeg (vR M 13)) ∧ (a.1.toInt = 0 → findF (vR M) x (vR M 0 3).toNatClampNeg (vR M 13) = (-9, vR a.2.1 13))) ∧ IR a.2.1 ∧ (∀ k i, k ≠ 273 ∧ k ≠ 274 ∧ k ≠ 275 ∧ k ≠ 276 → a.2.1 k i = M k i) ∧ (∀ k i, True → a.2.2 k i = L k i)) (fun a => a.2.1) (fun a => a.2.2) (fun a => [(2, .int a.1), (0, .ref (ad 258)), (1, .int x)]) ((1 : Int32), M_14, L_14) ⟨by show (1 : Int32).toInt = 0 ∨ (1 : Int32).toInt = 1; omega, by show ∀ c, c ≠ 13 → vR M_14 c = vR M c; intro c hc; rw [hV], by show b012 (vR M_14 13); rw [hV]; exact hB, by show tr01 (vR M_14 13) (M_14 274); rw [hV, q274]; exact hT, by show ∀ i : Nat, i < (vR M 0 3).toNatClampNeg → ((M_14 276 i).toInt = 0 → mkd (vR M) x i) ∧ (mkd (vR M) x i → ¬ (M_14 276 i).toInt = 0 → (M_14 273 i).toInt = 2) ∧ bt 0 1 (M_14 276 i); intro i hi; have w := j14_2 i (by omega); exact ⟨w.1.mp, fun h1 h2 => absurd (w.1.mpr h1) h2, w.2⟩, by show ((1 : Int32).toInt = 1 → findF (vR M) x (vR M 0 3).toNatClampNeg (vR M_14 13) = findF (vR M) x (vR M 0 3).toNatClampNeg (vR M 13)) ∧ ((1 : Int32).toInt = 0 → findF (vR M) x (vR M 0 3).toNatClampNeg (vR M 13) = (-9, vR M_14 13)); rw [hV]; exact ⟨fun _ => rfl, fun h => absurd h (by decide)⟩, hI, hF, hG⟩ rfl rfl rfl ?_
      rintro ⟨x2_54, M_54, L_54⟩ ⟨j54_0, j54_1, j54_2, j54_3, j54_4, j54_5, hI, hF, hG⟩ ih_54
      dsimp only at j54_0 j54_1 j54_2 j54_3 j54_4 j54_5 hI hF hG ih_54 ⊢
      have hV : vR M_54 = vR M_54 := rfl
      have q273 : M_54 273 = M_54 273 := rfl
      have q274 : M_54 274 = M_54 274 := rfl
      have q275 : M_54 275 = M_54 275 := rfl
      have q276 : M_54 276 = M_54 276 := rfl
      have hv0 : ∀ c, c ≠ 13 → vR M_54 c = vR M c := j54_1
      have hN5 : NOv (vR M_54) := by (unfold NOv; rw [hv0 0 (by decide), hv0 12 (by decide)]; exact hN)
      have hst9 : ∀ f m B, stB (vR M_54) f m B = stB (vR M) f m B := fun f m B => stB_ext (hv0 12 (by decide)) (hv0 9 (by decide)) f m B
      refine g_iload_n C 0 dX11_find_54 rfl ?_
      refine g_if_eq C 155 dX11_find_55 (by decide) (fun c11 => ?_) (fun c11 => ?_)
      ·
        have f12 := feq rfl (by decide : (0 : Int32).toInt = 0) c11
        refine g_bipush C (-9) dX11_find_155 (by decide) ?_
        have zr9 : ((-9) : Int32).toInt = (-9) := by decide
        exact g_iret C hr ⟨⟨by (dsimp only [A_find, bt]; rw [if_pos (by omega), j54_5.2 (by omega)]; congr 1; funext c; by_cases e9 : c = 13; (rw [if_pos e9, e9]); (rw [if_neg e9, j54_1 c e9])), j54_3⟩, hI, hF, hG⟩ dX11_find_157
      ·
        have f13 := fne rfl (by decide : (0 : Int32).toInt = 0) c11
        refine g_bipush C (-9) dX11_find_58 (by decide) ?_
        refine g_istore_n C [(3, .int ((-9))), (2, .int x2_54), (0, .ref (ad 258)), (1, .int x)] dX11_find_60 (by decide) rfl ?_
        refine g_iconst C 0 dX11_find_61 (by decide) ?_
        refine g_istore C [(4, .int 0), (3, .int ((-9))), (2, .int x2_54), (0, .ref (ad 258)), (1, .int x)] dX11_find_62 (by decide) rfl ?_
        have zy14 : ((-9) : Int32).toInt = (-9) := by decide
        have zy15 : (0 : Int32).toInt = 0 := by decide
        refine g_loop (α := Int32 × Int32 × MI × ML) (fun a => (21 - a.2.1.toInt).toNat) (fun a => (0 ≤ a.2.1.toInt) ∧ (a.2.1.toInt ≤ (vR M 0 3).toInt) ∧ (a.1 = bG (fun i => (M_54 276 i).toInt = 0) (vR M 10) a.2.1.toNatClampNeg) ∧ (a.2.2.1 = M_54) ∧ IR a.2.2.1 ∧ (∀ k i, k ≠ 273 ∧ k ≠ 274 ∧ k ≠ 275 ∧ k ≠ 276 → a.2.2.1 k i = M k i) ∧ (∀ k i, True → a.2.2.2 k i = L k i)) (fun a => a.2.2.1) (fun a => a.2.2.2) (fun a => [(4, .int a.2.1), (3, .int a.1), (2, .int x2_54), (0, .ref (ad 258)), (1, .int x)]) ((-9 : Int32), (0 : Int32), M_54, L_54) ⟨by show 0 ≤ (0 : Int32).toInt; omega, by show (0 : Int32).toInt ≤ (vR M 0 3).toInt; omega, by show (-9 : Int32) = bG (fun i => (M_54 276 i).toInt = 0) (vR M 10) (0 : Int32).toNatClampNeg; rfl, by show M_54 = M_54; rfl, hI, hF, hG⟩ rfl rfl rfl ?_
        rintro ⟨x3_64, x4_64, M_64, L_64⟩ ⟨j64_0, j64_1, j64_2, j64_3, hI, hF, hG⟩ ih_64
        dsimp only at j64_0 j64_1 j64_2 j64_3 hI hF hG ih_64 ⊢
        have hV : vR M_64 = vR M_64 := rfl
        have q273 : M_64 273 = M_64 273 := rfl
        have q274 : M_64 274 = M_64 274 := rfl
        have q275 : M_64 275 = M_64 275 := rfl
        have q276 : M_64 276 = M_64 276 := rfl
        have n4 := ixn (x := x4_64) (by omega)
        have hG6 := bG_all (fun i => (M_54 276 i).toInt = 0) (vR M 10) x4_64.toNatClampNeg (by omega)
        rw [← j64_2] at hG6
        have r6 : (x3_64.toInt = -9 ∨ (0 ≤ x3_64.toInt ∧ x3_64.toInt < x4_64.toInt)) := by rcases hG6 with h | h <;> omega
        have q273 : M_64 273 = M_54 273 := by rw [j64_3]
        have q274 : M_64 274 = M_54 274 := by rw [j64_3]
        have q275 : M_64 275 = M_54 275 := by rw [j64_3]
        have q276 : M_64 276 = M_54 276 := by rw [j64_3]
        refine g_iload C 0 dX11_find_64 rfl ?_
        refine g_aload_n C 3 dX11_find_66 rfl ?_
        refine g_get C (.int (M_64 258 14)) 14 in_X11_find_11 (List.mem_of_getElem? (i := 1) rfl) (by decide) (ce_model ad cs _ _) rfl (by decide) rfl rfl dX11_find_67 ?_
        refine g_ni (fun v16 ev16 => ?_)
        have gv16 : v16 = vR M 0 3 := ev16.trans (hF 258 14 (by omega))
        have tv16 := congrArg Int32.toInt gv16
        obtain ⟨bv16, dv16⟩ := (show rg 0 20 v16 from (by rw [ev16]; exact hI 258 14))
        refine g_icmp_ge C 118 dX11_find_70 (by decide) (fun c17 => ?_) (fun c17 => ?_)
        ·
          have f18 := fle rfl rfl c17
          have e4 : x4_64.toNatClampNeg = (vR M 0 3).toNatClampNeg := by omega
          rw [e4] at hG6
          have hbest := j64_2
          rw [e4] at hbest
          refine g_iload_n C 1 dX11_find_118 rfl ?_
          refine g_bipush C (-9) dX11_find_119 (by decide) ?_
          refine g_icmp_eq C 128 dX11_find_121 (by decide) (fun c19 => ?_) (fun c19 => ?_)
          ·
            have f20 := feq rfl (by decide : ((-9) : Int32).toInt = (-9)) c19
            refine g_iconst C 0 dX11_find_128 (by decide) ?_
            refine g_istore_n C [(2, .int 0), (4, .int x4_64), (3, .int x3_64), (0, .ref (ad 258)), (1, .int x)] dX11_find_129 (by decide) rfl ?_
            refine g_iload_n C 0 dX11_find_130 rfl ?_
            refine g_if_eq C 152 dX11_find_131 (by decide) (fun _ => ?_) (fun c21 => absurd c21 (by decide))
            refine g_goto C 54 dX11_find_152 (by decide) ?_
            refine g_lv [0, 3, 4] [(2, .int 0), (0, .ref (ad 258)), (1, .int x)] rfl ?_
            have zy22 : (0 : Int32).toInt = 0 := by decide
            have hend : findF (vR M) x (vR M 0 3).toNatClampNeg (vR M 13) = (-9, vR M_64 13) := by rw [← j54_5.1 (by omega), hV, j64_3]; exact find_none (by omega) (fun i hi q9 => by rcases hG6 with h | h; (exact q9.2 ((j54_4 i hi).2.1 q9.1 (h.2 i hi))); (exact absurd h.1 (by omega)))
            exact ih_54 (0, M_64, L_64) ⟨by show (0 : Int32).toInt = 0 ∨ (0 : Int32).toInt = 1; omega, by show ∀ c, c ≠ 13 → vR M_64 c = vR M c; first | exact hc1 | (intro c hc; rw [hV, j64_3]; exact hv0 c hc), by show b012 (vR M_64 13); first | (rw [hB1]; exact stB_b j54_2 20 _) | (rw [hV, j64_3]; exact j54_2), by show tr01 (vR M_64 13) (M_64 274); first | exact ht | (rw [hV, j64_3]; exact j54_3), by show ∀ i : Nat, i < (vR M 0 3).toNatClampNeg → ((M_64 276 i).toInt = 0 → mkd (vR M) x i) ∧ (mkd (vR M) x i → ¬ (M_64 276 i).toInt = 0 → (M_64 273 i).toInt = 2) ∧ bt 0 1 (M_64 276 i); first | (rw [j64_3]; exact j54_4) | (intro i hi; have w := j54_4 i hi; have w3 : M_64 273 i = stB (vR M) 20 x3_64 (vR M_54 13) i := congrFun hB1 i; rw [hT1, w3]; by_cases e9 : i = x3_64.toNatClampNeg; (rw [show upd (M_54 276) x3_64.toNatClampNeg 1 i = 1 from if_pos e9, e9]; exact ⟨fun h => absurd h (by decide), fun _ _ => hr2, by decide, by decide⟩); (rw [show upd (M_54 276) x3_64.toNatClampNeg 1 i = M_54 276 i from if_neg e9]; exact ⟨w.1, fun h1 h2 => (by have w4 := w.2.1 h1 h2; have w5 : (vR M_54 13 i).toInt = 2 := w4; rw [stB_keep (by omega)]; exact w5), w.2.2⟩)), by show ((0 : Int32).toInt = 1 → findF (vR M) x (vR M 0 3).toNatClampNeg (vR M_64 13) = findF (vR M) x (vR M 0 3).toNatClampNeg (vR M 13)) ∧ ((0 : Int32).toInt = 0 → findF (vR M) x (vR M 0 3).toNatClampNeg (vR M 13) = (-9, vR M_64 13)); first | exact ⟨fun _ => hfin, fun h => absurd h (by decide)⟩ | exact ⟨fun h => absurd h (by decide), fun _ => hend⟩, hI, hF, hG⟩ (by show cT (M_64 276) (vR M 0 3).toNatClampNeg * 2 + (0 : Int32).toInt.toNat < cT (M_54 276) (vR M 0 3).toNatClampNeg * 2 + x2_54.toInt.toNat; first | omega | (rw [j64_3]; omega))
          ·
            have f23 := fne rfl (by decide : ((-9) : Int32).toInt = (-9)) c19
            refine g_iconst C 1 dX11_find_124 (by decide) ?_
            refine g_goto C 129 dX11_find_125 (by decide) ?_
            refine g_istore_n C [(2, .int 1), (4, .int x4_64), (3, .int x3_64), (0, .ref (ad 258)), (1, .int x)] dX11_find_129 (by decide) rfl ?_
            refine g_iload_n C 0 dX11_find_130 rfl ?_
            refine g_if_eq C 152 dX11_find_131 (by decide) (fun c24 => absurd c24 (by decide)) (fun _ => ?_)
            refine g_aload_n C 3 dX11_find_134 rfl ?_
            refine g_get C (.ref (ad 276)) 22 in_X11_find_11 (List.mem_of_getElem? (i := 2) rfl) (by decide) (ce_model ad cs _ _) rfl (by decide) rfl rfl dX11_find_135 ?_
            refine g_iload_n C 2 dX11_find_138 rfl ?_
            refine g_iconst C 1 dX11_find_139 (by decide) ?_
            refine g_zast C (by decide) (ce_m_isTried ad cs _ _) (by rw [sI_k]; rfl) (fin' (n := 20) rfl (by omega) (by omega)) dX11_find_140 ?_
            refine g_nm (fun M25 hM25 => ?_)
            have zy26 : (1 : Int32).toInt = 1 := by decide
            have hI : IR M25 := by rw [hM25]; exact hI.st (show bR 276 _ _ from trivial)
            have hF : ∀ k i, k ≠ 273 ∧ k ≠ 274 ∧ k ≠ 275 ∧ k ≠ 276 → M25 k i = M k i := fun k i hk => by (rw [hM25, sI_at, if_neg (by omega)]; try exact hF k i hk)
            have q273 : M25 273 = M_54 273 := by rw [hM25, sI_n _ _ _ (by decide)]; try exact q273
            have q274 : M25 274 = M_54 274 := by rw [hM25, sI_n _ _ _ (by decide)]; try exact q274
            have q275 : M25 275 = M_54 275 := by rw [hM25, sI_n _ _ _ (by decide)]; try exact q275
            have hV : vR M25 = vR M_64 := by rw [hM25, vR_z (by decide), hV]
            refine g_aload_n C 3 dX11_find_141 rfl ?_
            have hVc : vR M25 = vR M_54 := by rw [hV, j64_3]
            have hNc : NOv (vR M25) := by rw [hVc]; exact hN5
            have hTc : tr01 (vR M25 13) (M25 274) := by rw [hVc, q274]; exact j54_3
            have nb := ixn (x := x3_64) (by omega)
            have hmc : hasM (vR M25) x3_64 := by show 0 ≤ x3_64.toInt ∧ x3_64.toInt < (vR M25 0 3).toInt; rw [hVc, hv0 0 (by decide)]; exact ⟨by omega, by omega⟩
            have hT276 : M25 276 = upd (M_54 276) x3_64.toNatClampNeg 1 := by rw [hM25, sI_k, j64_3]; rfl
            refine g_iload_n C 2 dX11_find_142 rfl ?_
            refine g_callVi C (n := 1) (As := [.int x3_64]) (st := []) (s_X11_started l D ad cs _ _ x3_64 hI hmc hNc hTc) gX11_find_X11_started rfl rfl rfl (by decide +kernel) ⟨Nat.le_of_ble_eq_true rfl, Nat.le_of_ble_eq_true rfl⟩ rfl (Nat.le_of_ble_eq_true rfl) ⟨Nat.zero_le _, Nat.zero_le _⟩ (by decide) (ce_model ad cs _ _) rfl rfl dX11_find_143 (fun r27 M28 L29 hr27 => ?_)
            obtain ⟨hr27, hI, hFr27, hGr27⟩ := hr27
            have hF : ∀ k i, k ≠ 273 ∧ k ≠ 274 ∧ k ≠ 275 ∧ k ≠ 276 → M28 k i = M k i := fun k i hk => by (rw [hFr27 k i (by omega)]; try exact hF k i hk)
            have hG : ∀ k i, True → L29 k i = L k i := fun k i hk => by (rw [hGr27 k i trivial]; try exact hG k i hk)
            have hV : vR M28 = startV (vR M_64) x3_64 := by rw [hr27.1, hV]
            have q273 : M28 273 = M28 273 := rfl
            have q274 : M28 274 = M28 274 := rfl
            have q275 : M28 275 = M28 275 := rfl
            have q276 : M28 276 = M28 276 := rfl
            obtain ⟨hr27v, hr27, hr27t⟩ := hr27
            have hB1 : vR M28 13 = stB (vR M) 20 x3_64 (vR M_54 13) := by rw [hr27v, hVc]; show stB (vR M_54) 20 x3_64 (vR M_54 13) = _; rw [hst9]
            have hr1 : r27.toInt = (stB (vR M) 20 x3_64 (vR M_54 13) x3_64.toNatClampNeg).toInt := by rw [hr27, hVc]; show (stB (vR M_54) 20 x3_64 (vR M_54 13) x3_64.toNatClampNeg).toInt = _; rw [hst9]
            have hc1 : ∀ c, c ≠ 13 → vR M28 c = vR M c := fun c hc => by rw [hr27v, hVc]; unfold startV; rw [if_neg hc, hv0 c hc]
            have hT1 : M28 276 = upd (M_54 276) x3_64.toNatClampNeg 1 := (funext (fun i => hFr27 276 i (by omega))).trans hT276
            have hb0 : (M_54 276 x3_64.toNatClampNeg).toInt = 0 := by rcases hG6 with h | h; (exact absurd h.1 (by omega)); exact h.2.2.1
            have hmk := (j54_4 x3_64.toNatClampNeg (by omega)).1 hb0
            have hbs : ¬ (vR M_54 13 x3_64.toNatClampNeg).toInt = 2 → bestF (vR M) (vR M_54 13) x (vR M 0 3).toNatClampNeg = x3_64 := fun h2 => best_of (T := M_54 276) (by omega) hbest (fun i hi => (j54_4 i hi).2.1) (by omega) hmk h2
            refine g_iconst C 1 dX11_find_146 (by decide) ?_
            refine g_icmp_ne C 152 dX11_find_147 (by decide) (fun c30 => ?_) (fun c30 => ?_)
            ·
              have f31 := fne rfl (by decide : (1 : Int32).toInt = 1) c30
              refine g_goto C 54 dX11_find_152 (by decide) ?_
              refine g_lv [0, 3, 4] [(2, .int 1), (0, .ref (ad 258)), (1, .int x)] rfl ?_
              have zy32 : (1 : Int32).toInt = 1 := by decide
              have hr2 : (stB (vR M) 20 x3_64 (vR M_54 13) x3_64.toNatClampNeg).toInt = 2 := by (have w1 := stB_at (V := vR M) (B := vR M_54 13) (m := x3_64) (by omega); have w2 := stB_b (V := vR M) j54_2 20 x3_64 x3_64.toNatClampNeg; omega)
              have hfin : findF (vR M) x (vR M 0 3).toNatClampNeg (vR M28 13) = findF (vR M) x (vR M 0 3).toNatClampNeg (vR M 13) := by
                rw [← j54_5.1 (by omega), hB1]
                by_cases h2 : (vR M_54 13 x3_64.toNatClampNeg).toInt = 2
                · rw [stB_stop (Or.inr (by omega))]
                · exact find_go (by omega) j54_2 (hbs h2) (by omega) (by omega) (by omega)
              have hcT := cT_upd (T := M_54 276) (b := x3_64.toNatClampNeg) (y := 1) (by decide) hb0 (vR M 0 3).toNatClampNeg
              rw [if_pos (by omega), ← hT1] at hcT
              exact ih_54 (1, M28, L29) ⟨by show (1 : Int32).toInt = 0 ∨ (1 : Int32).toInt = 1; omega, by show ∀ c, c ≠ 13 → vR M28 c = vR M c; first | exact hc1 | (intro c hc; rw [hV, j64_3]; exact hv0 c hc), by show b012 (vR M28 13); first | (rw [hB1]; exact stB_b j54_2 20 _) | (rw [hV, j64_3]; exact j54_2), by show tr01 (vR M28 13) (M28 274); first | exact hr27t | (rw [hV, j64_3]; exact j54_3), by show ∀ i : Nat, i < (vR M 0 3).toNatClampNeg → ((M28 276 i).toInt = 0 → mkd (vR M) x i) ∧ (mkd (vR M) x i → ¬ (M28 276 i).toInt = 0 → (M28 273 i).toInt = 2) ∧ bt 0 1 (M28 276 i); first | (rw [j64_3]; exact j54_4) | (intro i hi; have w := j54_4 i hi; have w3 : M28 273 i = stB (vR M) 20 x3_64 (vR M_54 13) i := congrFun hB1 i; rw [hT1, w3]; by_cases e9 : i = x3_64.toNatClampNeg; (rw [show upd (M_54 276) x3_64.toNatClampNeg 1 i = 1 from if_pos e9, e9]; exact ⟨fun h => absurd h (by decide), fun _ _ => hr2, by decide, by decide⟩); (rw [show upd (M_54 276) x3_64.toNatClampNeg 1 i = M_54 276 i from if_neg e9]; exact ⟨w.1, fun h1 h2 => (by have w4 := w.2.1 h1 h2; have w5 : (vR M_54 13 i).toInt = 2 := w4; rw [stB_keep (by omega)]; exact w5), w.2.2⟩)), by show ((1 : Int32).toInt = 1 → findF (vR M) x (vR M 0 3).toNatClampNeg (vR M28 13) = findF (vR M) x (vR M 0 3).toNatClampNeg (vR M 13)) ∧ ((1 : Int32).toInt = 0 → findF (vR M) x (vR M 0 3).toNatClampNeg (vR M 13) = (-9, vR M28 13)); first | exact ⟨fun _ => hfin, fun h => absurd h (by decide)⟩ | exact ⟨fun h => absurd h (by decide), fun _ => hend⟩, hI, hF, hG⟩ (by show cT (M28 276) (vR M 0 3).toNatClampNeg * 2 + (1 : Int32).toInt.toNat < cT (M_54 276) (vR M 0 3).toNatClampNeg * 2 + x2_54.toInt.toNat; first | omega | (rw [j64_3]; omega))
            ·
              have f33 := feq rfl (by decide : (1 : Int32).toInt = 1) c30
              refine g_iload_n C 2 dX11_find_150 rfl ?_
              exact g_iret C hr ⟨⟨by (have h2 : ¬ (vR M_54 13 x3_64.toNatClampNeg).toInt = 2 := fun h2 => (by have h3 := stB_keep (V := vR M) (show (vR M_54 13 x3_64.toNatClampNeg).toInt ≠ 0 by omega) 20 x3_64; rw [h3] at hr1; omega); have hf := find_hit (hbs h2) (by omega) (by omega) (by omega); rw [j54_5.1 (by omega)] at hf; dsimp only [A_find, bt]; rw [if_pos (by omega), hf]; congr 1; funext c; by_cases e9 : c = 13; (rw [if_pos e9, e9, hB1]); (rw [if_neg e9, hc1 c e9])), hr27t⟩, hI, hF, hG⟩ dX11_find_151
        ·
          have f34 := fnle rfl rfl c17
          refine g_aload_n C 3 dX11_find_73 rfl ?_
          refine g_get C (.ref (ad 276)) 22 in_X11_find_11 (List.mem_of_getElem? (i := 2) rfl) (by decide) (ce_model ad cs _ _) rfl (by decide) rfl rfl dX11_find_74 ?_
          refine g_iload C 0 dX11_find_77 rfl ?_
          refine g_zald C (by decide) (ce_m_isTried ad cs _ _) (fin' (n := 20) rfl (by omega) (by omega)) dX11_find_79 ?_
          refine g_ni (fun v35 ev35 => ?_)
          have gv35 : v35 = M_54 276 x4_64.toNatClampNeg := ev35.trans (congrFun q276 _)
          have tv35 := congrArg Int32.toInt gv35
          refine g_if_ne C 110 dX11_find_80 (by decide) (fun c36 => ?_) (fun c36 => ?_)
          ·
            have f37 := fne rfl (by decide : (0 : Int32).toInt = 0) c36
            refine g_iload_n C 1 dX11_find_110 rfl ?_
            refine g_istore_n C [(3, .int x3_64), (4, .int x4_64), (2, .int x2_54), (0, .ref (ad 258)), (1, .int x)] dX11_find_111 (by decide) rfl ?_
            obtain ⟨v38, ev38⟩ : ∃ y : Int32, y = x4_64 + 1 := ⟨_, rfl⟩
            try have fv38 := fadd rfl (by decide : (1 : Int32).toInt = 1) ev38 (by omega) (by omega)
            refine g_iinc C 1 v38 [(4, .int v38), (3, .int x3_64), (2, .int x2_54), (0, .ref (ad 258)), (1, .int x)] dX11_find_112 rfl (by rw [ev38]; rfl) (by decide) rfl ?_
            refine g_goto C 64 dX11_find_115 (by decide) ?_
            have nv := ixn (x := v38) (by omega)
            have iv : v38.toNatClampNeg = x4_64.toNatClampNeg + 1 := by omega
            exact ih_64 (x3_64, v38, M_64, L_64) ⟨by show 0 ≤ v38.toInt; omega, by show v38.toInt ≤ (vR M 0 3).toInt; omega, by show x3_64 = bG (fun i => (M_54 276 i).toInt = 0) (vR M 10) v38.toNatClampNeg; rw [iv]; show _ = (if (M_54 276 x4_64.toNatClampNeg).toInt = 0 ∧ ((bG (fun i => (M_54 276 i).toInt = 0) (vR M 10) x4_64.toNatClampNeg).toInt = -9 ∨ (vR M 10 (bG (fun i => (M_54 276 i).toInt = 0) (vR M 10) x4_64.toNatClampNeg).toNatClampNeg).toInt < (vR M 10 x4_64.toNatClampNeg).toInt) then Int32.ofNat x4_64.toNatClampNeg else bG (fun i => (M_54 276 i).toInt = 0) (vR M 10) x4_64.toNatClampNeg); rw [← j64_2]; first | rw [if_pos (by omega), of_ix (by omega)] | rw [if_neg (by omega)], by show M_64 = M_54; exact j64_3, hI, hF, hG⟩ (by show (21 - v38.toInt).toNat < (21 - x4_64.toInt).toNat; omega)
          ·
            have f39 := feq rfl (by decide : (0 : Int32).toInt = 0) c36
            refine g_iload_n C 1 dX11_find_83 rfl ?_
            refine g_bipush C (-9) dX11_find_84 (by decide) ?_
            refine g_icmp_eq C 105 dX11_find_86 (by decide) (fun c40 => ?_) (fun c40 => ?_)
            ·
              have f41 := feq rfl (by decide : ((-9) : Int32).toInt = (-9)) c40
              refine g_iload C 0 dX11_find_105 rfl ?_
              refine g_goto C 111 dX11_find_107 (by decide) ?_
              refine g_istore_n C [(3, .int x4_64), (4, .int x4_64), (2, .int x2_54), (0, .ref (ad 258)), (1, .int x)] dX11_find_111 (by decide) rfl ?_
              obtain ⟨v42, ev42⟩ : ∃ y : Int32, y = x4_64 + 1 := ⟨_, rfl⟩
              try have fv42 := fadd rfl (by decide : (1 : Int32).toInt = 1) ev42 (by omega) (by omega)
              refine g_iinc C 1 v42 [(4, .int v42), (3, .int x4_64), (2, .int x2_54), (0, .ref (ad 258)), (1, .int x)] dX11_find_112 rfl (by rw [ev42]; rfl) (by decide) rfl ?_
              refine g_goto C 64 dX11_find_115 (by decide) ?_
              have nv := ixn (x := v42) (by omega)
              have iv : v42.toNatClampNeg = x4_64.toNatClampNeg + 1 := by omega
              exact ih_64 (x4_64, v42, M_64, L_64) ⟨by show 0 ≤ v42.toInt; omega, by show v42.toInt ≤ (vR M 0 3).toInt; omega, by show x4_64 = bG (fun i => (M_54 276 i).toInt = 0) (vR M 10) v42.toNatClampNeg; rw [iv]; show _ = (if (M_54 276 x4_64.toNatClampNeg).toInt = 0 ∧ ((bG (fun i => (M_54 276 i).toInt = 0) (vR M 10) x4_64.toNatClampNeg).toInt = -9 ∨ (vR M 10 (bG (fun i => (M_54 276 i).toInt = 0) (vR M 10) x4_64.toNatClampNeg).toNatClampNeg).toInt < (vR M 10 x4_64.toNatClampNeg).toInt) then Int32.ofNat x4_64.toNatClampNeg else bG (fun i => (M_54 276 i).toInt = 0) (vR M 10) x4_64.toNatClampNeg); rw [← j64_2]; first | rw [if_pos (by omega), of_ix (by omega)] | rw [if_neg (by omega)], by show M_64 = M_54; exact j64_3, hI, hF, hG⟩ (by show (21 - v42.toInt).toNat < (21 - x4_64.toInt).toNat; omega)
            ·
              have f43 := fne rfl (by decide : ((-9) : Int32).toInt = (-9)) c40
              refine g_aload_n C 3 dX11_find_89 rfl ?_
              refine g_get C (.ref (ad 270)) 16 in_X11_find_11 (List.mem_of_getElem? (i := 4) rfl) (by decide) (ce_model ad cs _ _) rfl (by decide) rfl rfl dX11_find_90 ?_
              refine g_iload C 0 dX11_find_93 rfl ?_
              refine g_iald C (by decide) (ce_m_rankOf ad cs _ _) (fin' (n := 20) rfl (by omega) (by omega)) dX11_find_95 ?_
              refine g_ni (fun v44 ev44 => ?_)
              have gv44 : v44 = vR M 10 x4_64.toNatClampNeg := ev44.trans (hF 270 x4_64.toNatClampNeg (by omega))
              have tv44 := congrArg Int32.toInt gv44
              refine g_aload_n C 3 dX11_find_96 rfl ?_
              refine g_get C (.ref (ad 270)) 16 in_X11_find_11 (List.mem_of_getElem? (i := 4) rfl) (by decide) (ce_model ad cs _ _) rfl (by decide) rfl rfl dX11_find_97 ?_
              refine g_iload_n C 1 dX11_find_100 rfl ?_
              refine g_iald C (by decide) (ce_m_rankOf ad cs _ _) (fin' (n := 20) rfl (by omega) (by omega)) dX11_find_101 ?_
              refine g_ni (fun v45 ev45 => ?_)
              have gv45 : v45 = vR M 10 x3_64.toNatClampNeg := ev45.trans (hF 270 x3_64.toNatClampNeg (by omega))
              have tv45 := congrArg Int32.toInt gv45
              refine g_icmp_le C 110 dX11_find_102 (by decide) (fun c46 => ?_) (fun c46 => ?_)
              ·
                have f47 := fle rfl rfl c46
                refine g_iload_n C 1 dX11_find_110 rfl ?_
                refine g_istore_n C [(3, .int x3_64), (4, .int x4_64), (2, .int x2_54), (0, .ref (ad 258)), (1, .int x)] dX11_find_111 (by decide) rfl ?_
                obtain ⟨v48, ev48⟩ : ∃ y : Int32, y = x4_64 + 1 := ⟨_, rfl⟩
                try have fv48 := fadd rfl (by decide : (1 : Int32).toInt = 1) ev48 (by omega) (by omega)
                refine g_iinc C 1 v48 [(4, .int v48), (3, .int x3_64), (2, .int x2_54), (0, .ref (ad 258)), (1, .int x)] dX11_find_112 rfl (by rw [ev48]; rfl) (by decide) rfl ?_
                refine g_goto C 64 dX11_find_115 (by decide) ?_
                have nv := ixn (x := v48) (by omega)
                have iv : v48.toNatClampNeg = x4_64.toNatClampNeg + 1 := by omega
                exact ih_64 (x3_64, v48, M_64, L_64) ⟨by show 0 ≤ v48.toInt; omega, by show v48.toInt ≤ (vR M 0 3).toInt; omega, by show x3_64 = bG (fun i => (M_54 276 i).toInt = 0) (vR M 10) v48.toNatClampNeg; rw [iv]; show _ = (if (M_54 276 x4_64.toNatClampNeg).toInt = 0 ∧ ((bG (fun i => (M_54 276 i).toInt = 0) (vR M 10) x4_64.toNatClampNeg).toInt = -9 ∨ (vR M 10 (bG (fun i => (M_54 276 i).toInt = 0) (vR M 10) x4_64.toNatClampNeg).toNatClampNeg).toInt < (vR M 10 x4_64.toNatClampNeg).toInt) then Int32.ofNat x4_64.toNatClampNeg else bG (fun i => (M_54 276 i).toInt = 0) (vR M 10) x4_64.toNatClampNeg); rw [← j64_2]; first | rw [if_pos (by omega), of_ix (by omega)] | rw [if_neg (by omega)], by show M_64 = M_54; exact j64_3, hI, hF, hG⟩ (by show (21 - v48.toInt).toNat < (21 - x4_64.toInt).toNat; omega)
              ·
                have f49 := fnle rfl rfl c46
                refine g_iload C 0 dX11_find_105 rfl ?_
                refine g_goto C 111 dX11_find_107 (by decide) ?_
                refine g_istore_n C [(3, .int x4_64), (4, .int x4_64), (2, .int x2_54), (0, .ref (ad 258)), (1, .int x)] dX11_find_111 (by decide) rfl ?_
                obtain ⟨v50, ev50⟩ : ∃ y : Int32, y = x4_64 + 1 := ⟨_, rfl⟩
                try have fv50 := fadd rfl (by decide : (1 : Int32).toInt = 1) ev50 (by omega) (by omega)
                refine g_iinc C 1 v50 [(4, .int v50), (3, .int x4_64), (2, .int x2_54), (0, .ref (ad 258)), (1, .int x)] dX11_find_112 rfl (by rw [ev50]; rfl) (by decide) rfl ?_
                refine g_goto C 64 dX11_find_115 (by decide) ?_
                have nv := ixn (x := v50) (by omega)
                have iv : v50.toNatClampNeg = x4_64.toNatClampNeg + 1 := by omega
                exact ih_64 (x4_64, v50, M_64, L_64) ⟨by show 0 ≤ v50.toInt; omega, by show v50.toInt ≤ (vR M 0 3).toInt; omega, by show x4_64 = bG (fun i => (M_54 276 i).toInt = 0) (vR M 10) v50.toNatClampNeg; rw [iv]; show _ = (if (M_54 276 x4_64.toNatClampNeg).toInt = 0 ∧ ((bG (fun i => (M_54 276 i).toInt = 0) (vR M 10) x4_64.toNatClampNeg).toInt = -9 ∨ (vR M 10 (bG (fun i => (M_54 276 i).toInt = 0) (vR M 10) x4_64.toNatClampNeg).toNatClampNeg).toInt < (vR M 10 x4_64.toNatClampNeg).toInt) then Int32.ofNat x4_64.toNatClampNeg else bG (fun i => (M_54 276 i).toInt = 0) (vR M 10) x4_64.toNatClampNeg); rw [← j64_2]; first | rw [if_pos (by omega), of_ix (by omega)] | rw [if_neg (by omega)], by show M_64 = M_54; exact j64_3, hI, hF, hG⟩ (by show (21 - v50.toInt).toNat < (21 - x4_64.toInt).toNat; omega)
    ·
      have f51 := fnle rfl rfl c8
      refine g_aload_n C 1 dX11_find_22 rfl ?_
      refine g_get C (.ref (ad 276)) 22 in_X11_find_11 (List.mem_of_getElem? (i := 2) rfl) (by decide) (ce_model ad cs _ _) rfl (by decide) rfl rfl dX11_find_23 ?_
      refine g_iload_n C 0 dX11_find_26 rfl ?_
      refine g_aload_n C 1 dX11_find_27 rfl ?_
      refine g_get C (.ref (ad 271)) 17 in_X11_find_11 (List.mem_of_getElem? (i := 3) rfl) (by decide) (ce_model ad cs _ _) rfl (by decide) rfl rfl dX11_find_28 ?_
      refine g_iload_n C 0 dX11_find_31 rfl ?_
      refine g_iald C (by decide) (ce_m_marksOf ad cs _ _) (fin' (n := 20) rfl (by omega) (by omega)) dX11_find_32 ?_
      refine g_ni (fun v52 ev52 => ?_)
      have gv52 : v52 = vR M 11 x2_14.toNatClampNeg := ev52.trans (hF 271 x2_14.toNatClampNeg (by omega))
      have tv52 := congrArg Int32.toInt gv52
      refine g_iload_n C 2 dX11_find_33 rfl ?_
      refine g_ishr C dX11_find_34 ?_
      refine g_ni (fun v53 ev53 => ?_)
      refine g_iconst C 1 dX11_find_35 (by decide) ?_
      refine g_iand C dX11_find_36 ?_
      refine g_ni (fun v54 ev54 => ?_)
      have hbit : mkd (vR M) x x2_14.toNatClampNeg ↔ ¬ v54.toInt = 0 := by
        have e9 : v54 = (vR M 11 x2_14.toNatClampNeg >>> (x &&& 31)) &&& 1 := by simp only [ev54, ev53, gv52, gv7]
        have e8 := and1 (vR M 11 x2_14.toNatClampNeg >>> (x &&& 31))
        rw [← e9] at e8
        show ((vR M 11 x2_14.toNatClampNeg >>> (x &&& 31)) &&& 1).toInt = 1 ↔ _
        rw [← e9]
        omega
      have hb01 : 0 ≤ v54.toInt ∧ v54.toInt ≤ 1 := by
        have e9 : v54 = (vR M 11 x2_14.toNatClampNeg >>> (x &&& 31)) &&& 1 := by simp only [ev54, ev53, gv52, gv7]
        have e8 := and1 (vR M 11 x2_14.toNatClampNeg >>> (x &&& 31))
        rw [← e9] at e8
        omega
      refine g_if_ne C 44 dX11_find_37 (by decide) (fun c55 => ?_) (fun c55 => ?_)
      ·
        have f56 := fne rfl (by decide : (0 : Int32).toInt = 0) c55
        refine g_iconst C 0 dX11_find_44 (by decide) ?_
        refine g_zast C (by decide) (ce_m_isTried ad cs _ _) (by rw [sI_k]; rfl) (fin' (n := 20) rfl (by omega) (by omega)) dX11_find_45 ?_
        refine g_nm (fun M57 hM57 => ?_)
        have zy58 : (0 : Int32).toInt = 0 := by decide
        have hI : IR M57 := by rw [hM57]; exact hI.st (show bR 276 _ _ from trivial)
        have hF : ∀ k i, k ≠ 273 ∧ k ≠ 274 ∧ k ≠ 275 ∧ k ≠ 276 → M57 k i = M k i := fun k i hk => by (rw [hM57, sI_at, if_neg (by omega)]; try exact hF k i hk)
        have q273 : M57 273 = M_14 273 := by rw [hM57, sI_n _ _ _ (by decide)]; try exact q273
        have q274 : M57 274 = M_14 274 := by rw [hM57, sI_n _ _ _ (by decide)]; try exact q274
        have q275 : M57 275 = M_14 275 := by rw [hM57, sI_n _ _ _ (by decide)]; try exact q275
        have hV : vR M57 = vR M := by rw [hM57, vR_z (by decide), hV]
        obtain ⟨v59, ev59⟩ : ∃ y : Int32, y = x2_14 + 1 := ⟨_, rfl⟩
        try have fv59 := fadd rfl (by decide : (1 : Int32).toInt = 1) ev59 (by omega) (by omega)
        refine g_iinc C 0 v59 [(2, .int v59), (0, .ref (ad 258)), (1, .int x)] dX11_find_46 rfl (by rw [ev59]; rfl) (by decide) rfl ?_
        refine g_goto C 14 dX11_find_49 (by decide) ?_
        have nv := ixn (x := v59) (by omega)
        have hall : ∀ i : Nat, i < v59.toNatClampNeg → ((M57 276 i).toInt = 0 ↔ mkd (vR M) x i) ∧ bt 0 1 (M57 276 i) := by
          intro i hi
          rw [hM57, sI_at]
          by_cases e9 : i = x2_14.toNatClampNeg
          · rw [if_pos ⟨rfl, e9⟩, e9]
            have em : mkd (vR M) x x2_14.toNatClampNeg ↔ ¬ v54.toInt = 0 := hbit
            first | exact ⟨⟨fun h => absurd h (by decide), fun h => absurd (em.mp h) (by omega)⟩, by decide, by decide⟩ | exact ⟨⟨fun _ => em.mpr (by omega), fun _ => by decide⟩, by decide, by decide⟩
          · rw [if_neg (fun h => e9 h.2)]; exact j14_2 i (by omega)
        exact ih_14 (v59, M57, L_14) ⟨by show 0 ≤ v59.toInt; omega, by show v59.toInt ≤ (vR M 0 3).toInt; omega, by show ∀ i : Nat, i < v59.toNatClampNeg → ((M57 276 i).toInt = 0 ↔ mkd (vR M) x i) ∧ bt 0 1 (M57 276 i); exact hall, by show M57 274 = M 274; exact q274.trans j14_3, by show vR M57 = vR M; exact hV, hI, hF, hG⟩ (by show (21 - v59.toInt).toNat < (21 - x2_14.toInt).toNat; omega)
      ·
        have f60 := feq rfl (by decide : (0 : Int32).toInt = 0) c55
        refine g_iconst C 1 dX11_find_40 (by decide) ?_
        refine g_goto C 45 dX11_find_41 (by decide) ?_
        refine g_zast C (by decide) (ce_m_isTried ad cs _ _) (by rw [sI_k]; rfl) (fin' (n := 20) rfl (by omega) (by omega)) dX11_find_45 ?_
        refine g_nm (fun M61 hM61 => ?_)
        have zy62 : (1 : Int32).toInt = 1 := by decide
        have hI : IR M61 := by rw [hM61]; exact hI.st (show bR 276 _ _ from trivial)
        have hF : ∀ k i, k ≠ 273 ∧ k ≠ 274 ∧ k ≠ 275 ∧ k ≠ 276 → M61 k i = M k i := fun k i hk => by (rw [hM61, sI_at, if_neg (by omega)]; try exact hF k i hk)
        have q273 : M61 273 = M_14 273 := by rw [hM61, sI_n _ _ _ (by decide)]; try exact q273
        have q274 : M61 274 = M_14 274 := by rw [hM61, sI_n _ _ _ (by decide)]; try exact q274
        have q275 : M61 275 = M_14 275 := by rw [hM61, sI_n _ _ _ (by decide)]; try exact q275
        have hV : vR M61 = vR M := by rw [hM61, vR_z (by decide), hV]
        obtain ⟨v63, ev63⟩ : ∃ y : Int32, y = x2_14 + 1 := ⟨_, rfl⟩
        try have fv63 := fadd rfl (by decide : (1 : Int32).toInt = 1) ev63 (by omega) (by omega)
        refine g_iinc C 0 v63 [(2, .int v63), (0, .ref (ad 258)), (1, .int x)] dX11_find_46 rfl (by rw [ev63]; rfl) (by decide) rfl ?_
        refine g_goto C 14 dX11_find_49 (by decide) ?_
        have nv := ixn (x := v63) (by omega)
        have hall : ∀ i : Nat, i < v63.toNatClampNeg → ((M61 276 i).toInt = 0 ↔ mkd (vR M) x i) ∧ bt 0 1 (M61 276 i) := by
          intro i hi
          rw [hM61, sI_at]
          by_cases e9 : i = x2_14.toNatClampNeg
          · rw [if_pos ⟨rfl, e9⟩, e9]
            have em : mkd (vR M) x x2_14.toNatClampNeg ↔ ¬ v54.toInt = 0 := hbit
            first | exact ⟨⟨fun h => absurd h (by decide), fun h => absurd (em.mp h) (by omega)⟩, by decide, by decide⟩ | exact ⟨⟨fun _ => em.mpr (by omega), fun _ => by decide⟩, by decide, by decide⟩
          · rw [if_neg (fun h => e9 h.2)]; exact j14_2 i (by omega)
        exact ih_14 (v63, M61, L_14) ⟨by show 0 ≤ v63.toInt; omega, by show v63.toInt ≤ (vR M 0 3).toInt; omega, by show ∀ i : Nat, i < v63.toNatClampNeg → ((M61 276 i).toInt = 0 ↔ mkd (vR M) x i) ∧ bt 0 1 (M61 276 i); exact hall, by show M61 274 = M 274; exact q274.trans j14_3, by show vR M61 = vR M; exact hV, hI, hF, hG⟩ (by show (21 - v63.toInt).toNat < (21 - x2_14.toInt).toNat; omega)
  ·
    have f64 := feq rfl (by decide : (0 : Int32).toInt = 0) c4
    have pr1 := zo_f hr1 c4
    try dsimp only [hasC, hasB, hasX, hasM, ofS, ofK, bt] at pr1
    refine g_iconst C (-1) dX11_find_10 (by decide) ?_
    have zr9 : ((-1) : Int32).toInt = (-1) := by decide
    exact g_iret C hr ⟨⟨(by dsimp only [A_find, hasC, hasB, hasX, hasM, ofS, ofK, bt, ix]; (repeat (first | rw [if_pos (by omega)] | rw [if_neg (by omega)])); first | done | rfl | (simp only [ix]; done) | (simp only [ix]; rfl) | (subst_vars; first | rfl | grind)), hT⟩, hI, hF, hG⟩ dX11_find_11
