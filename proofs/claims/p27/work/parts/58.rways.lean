theorem dX11_isAheadOn_0 : decode cX11_isAheadOn 0 = .ok (.aload_n 0, 1) := dw42 (n := 0) (i := 0) kc_cX11_isAheadOn_0 (by decide +kernel)
theorem dX11_isAheadOn_1 : decode cX11_isAheadOn 1 = .ok (.iload_n 1, 1) := dw27 (n := 0) (i := 1) kc_cX11_isAheadOn_0 (by decide +kernel)
theorem dX11_isAheadOn_2 : decode cX11_isAheadOn 2 = .ok (.iload_n 2, 1) := dw28 (n := 0) (i := 2) kc_cX11_isAheadOn_0 (by decide +kernel)
theorem dX11_isAheadOn_3 : decode cX11_isAheadOn 3 = .ok (.invokevirtual 159, 3) := dw182 (n := 0) (i := 3) (a := 0) (b := 159) kc_cX11_isAheadOn_0 (by decide +kernel) (by decide)
set_option maxRecDepth 20000 in
theorem ggX11_isAheadOn_X11_placeOn : GoodIn wsX11_isAheadOn wsX11_placeOn := (gk_code 5 rfl (gk_fieldLink 6 rfl (gk_fieldLink 7 rfl (gk_lays 8 rfl (gk_laysFinal 9 rfl (gk_lays 10 rfl (gk_laysFinal 11 rfl (gk_lays 12 rfl (gk_laysFinal 13 rfl (gk_laysFinal 14 rfl (gk_laysFinal 15 rfl (gk_laysFinal 16 rfl (gk_lays 17 rfl (gk_laysFinal 18 rfl (gk_laysFinal 19 rfl (gk_laysFinal 20 rfl (gk_laysFinal 21 rfl (gk_lays 22 rfl (gk_laysFinal 23 rfl (gk_laysFinal 24 rfl (gk_laysFinal 25 rfl (gk_laysFinal 26 rfl (gk_laysFinal 27 rfl (gk_laysFinal 28 rfl (gk_laysFinal 29 rfl (gk_laysFinal 30 rfl (gk_lays 31 rfl (gk_lays 32 rfl (gk_lays 33 rfl (gk_lays 34 rfl (gk_lays 35 rfl (gk_lays 36 rfl (gk_lays 37 rfl (gk_laysFinal 38 rfl (gk_lays 39 rfl (gk_laysFinal 40 rfl (gk_laysFinal 41 rfl (gk_laysFinal 42 rfl (gk_laysFinal 43 rfl (gk_laysFinal 44 rfl (gk_laysFinal 45 rfl (gk_laysFinal 46 rfl (gk_laysFinal 47 rfl (gk_laysFinal 48 rfl (gk_laysFinal 49 rfl (gk_lays 50 rfl (gk_laysFinal 51 rfl (gk_lays 52 rfl (gk_laysFinal 53 rfl (gk_laysFinal 54 rfl (gk_laysFinal 55 rfl (gk_laysFinal 56 rfl (gk_laysFinal 57 rfl (gk_laysFinal 58 rfl (gk_laysFinal 59 rfl (gk_laysFinal 60 rfl (gn)))))))))))))))))))))))))))))))))))))))))))))))))))))))))
set_option maxRecDepth 20000 in
theorem gX11_isAheadOn_X11_placeOn : GoodIn wsX11_isAheadOn (wsV RX11 159 RX11 yX11_placeOn wsX11_placeOn) := goodIn_app (gk_methodLink 1 rfl (gk_instanceMethod 2 rfl (gk_selects 3 rfl (gk_initialized 4 rfl (gn))))) ggX11_isAheadOn_X11_placeOn
theorem dX11_isAheadOn_6 : decode cX11_isAheadOn 6 = .ok (.istore 4, 2) := dw54 (n := 0) (i := 6) (a := 4) kc_cX11_isAheadOn_0 (by decide +kernel) (by decide)
theorem dX11_isAheadOn_8 : decode cX11_isAheadOn 8 = .ok (.aload_n 0, 1) := dw42 (n := 0) (i := 8) kc_cX11_isAheadOn_0 (by decide +kernel)
theorem dX11_isAheadOn_9 : decode cX11_isAheadOn 9 = .ok (.iload_n 1, 1) := dw27 (n := 0) (i := 9) kc_cX11_isAheadOn_0 (by decide +kernel)
theorem dX11_isAheadOn_10 : decode cX11_isAheadOn 10 = .ok (.iload_n 3, 1) := dw29 (n := 0) (i := 10) kc_cX11_isAheadOn_0 (by decide +kernel)
theorem dX11_isAheadOn_11 : decode cX11_isAheadOn 11 = .ok (.invokevirtual 159, 3) := dw182 (n := 0) (i := 11) (a := 0) (b := 159) kc_cX11_isAheadOn_0 (by decide +kernel) (by decide)
theorem dX11_isAheadOn_14 : decode cX11_isAheadOn 14 = .ok (.istore 5, 2) := dw54 (n := 0) (i := 14) (a := 5) kc_cX11_isAheadOn_0 (by decide +kernel) (by decide)
theorem dX11_isAheadOn_16 : decode cX11_isAheadOn 16 = .ok (.iload 4, 2) := dw21 (n := 0) (i := 16) (a := 4) kc_cX11_isAheadOn_0 (by decide +kernel) (by decide)
theorem dX11_isAheadOn_18 : decode cX11_isAheadOn 18 = .ok (.bipush (-9), 2) := dw16 (n := 0) (i := 18) (a := 247) kc_cX11_isAheadOn_0 (by decide +kernel) (by decide)
theorem dX11_isAheadOn_20 : decode cX11_isAheadOn 20 = .ok (.if_icmp .eq 21, 3) := dw159 (n := 0) (i := 20) (a := 0) (b := 21) kc_cX11_isAheadOn_0 (by decide +kernel) (by decide)
theorem dX11_isAheadOn_41 : decode cX11_isAheadOn 41 = .ok (.iconst 0, 1) := dw3 (n := 32) (i := 9) kc_cX11_isAheadOn_1 (by decide +kernel)
theorem dX11_isAheadOn_42 : decode cX11_isAheadOn 42 = .ok (.ireturn, 1) := dw172 (n := 32) (i := 10) kc_cX11_isAheadOn_1 (by decide +kernel)
theorem dX11_isAheadOn_23 : decode cX11_isAheadOn 23 = .ok (.iload 5, 2) := dw21 (n := 0) (i := 23) (a := 5) kc_cX11_isAheadOn_0 (by decide +kernel) (by decide)
theorem dX11_isAheadOn_25 : decode cX11_isAheadOn 25 = .ok (.bipush (-9), 2) := dw16 (n := 0) (i := 25) (a := 247) kc_cX11_isAheadOn_0 (by decide +kernel) (by decide)
theorem dX11_isAheadOn_27 : decode cX11_isAheadOn 27 = .ok (.if_icmp .eq 10, 3) := dw159 (n := 0) (i := 27) (a := 0) (b := 10) kc_cX11_isAheadOn_0 (by decide +kernel) (by decide)
theorem dX11_isAheadOn_37 : decode cX11_isAheadOn 37 = .ok (.iconst 1, 1) := dw4 (n := 32) (i := 5) kc_cX11_isAheadOn_1 (by decide +kernel)
theorem dX11_isAheadOn_38 : decode cX11_isAheadOn 38 = .ok (.goto 4, 3) := dw167 (n := 32) (i := 6) (a := 0) (b := 4) kc_cX11_isAheadOn_1 (by decide +kernel) (by decide)
theorem dX11_isAheadOn_30 : decode cX11_isAheadOn 30 = .ok (.iload 4, 2) := dw21 (n := 0) (i := 30) (a := 4) kc_cX11_isAheadOn_0 (by decide +kernel) (by decide)
theorem dX11_isAheadOn_32 : decode cX11_isAheadOn 32 = .ok (.iload 5, 2) := dw21 (n := 32) (i := 0) (a := 5) kc_cX11_isAheadOn_1 (by decide +kernel) (by decide)
theorem dX11_isAheadOn_34 : decode cX11_isAheadOn 34 = .ok (.if_icmp .ge 7, 3) := dw162 (n := 32) (i := 2) (a := 0) (b := 7) kc_cX11_isAheadOn_1 (by decide +kernel) (by decide)
theorem dX11_layWays_0 : decode cX11_layWays 0 = .ok (.iconst 0, 1) := dw3 (n := 0) (i := 0) kc_cX11_layWays_0 (by decide +kernel)
theorem dX11_layWays_1 : decode cX11_layWays 1 = .ok (.istore_n 1, 1) := dw60 (n := 0) (i := 1) kc_cX11_layWays_0 (by decide +kernel)
theorem dX11_layWays_2 : decode cX11_layWays 2 = .ok (.iload_n 1, 1) := dw27 (n := 0) (i := 2) kc_cX11_layWays_0 (by decide +kernel)
theorem dX11_layWays_3 : decode cX11_layWays 3 = .ok (.aload_n 0, 1) := dw42 (n := 0) (i := 3) kc_cX11_layWays_0 (by decide +kernel)
theorem dX11_layWays_4 : decode cX11_layWays 4 = .ok (.getfield 137, 3) := dw180 (n := 0) (i := 4) (a := 0) (b := 137) kc_cX11_layWays_0 (by decide +kernel) (by decide)
theorem in_X11_layWays_11 : ∀ w ∈ u_ws RX11 TX11 53, w ∈ wsX11_layWays := fun _ h => List.mem_cons_of_mem _ (List.mem_append_right _ h)
theorem dX11_layWays_7 : decode cX11_layWays 7 = .ok (.if_icmp .ge 109, 3) := dw162 (n := 0) (i := 7) (a := 0) (b := 109) kc_cX11_layWays_0 (by decide +kernel) (by decide)
theorem dX11_layWays_10 : decode cX11_layWays 10 = .ok (.iconst 0, 1) := dw3 (n := 0) (i := 10) kc_cX11_layWays_0 (by decide +kernel)
theorem dX11_layWays_11 : decode cX11_layWays 11 = .ok (.istore_n 2, 1) := dw61 (n := 0) (i := 11) kc_cX11_layWays_0 (by decide +kernel)
theorem dX11_layWays_12 : decode cX11_layWays 12 = .ok (.iload_n 2, 1) := dw28 (n := 0) (i := 12) kc_cX11_layWays_0 (by decide +kernel)
theorem dX11_layWays_13 : decode cX11_layWays 13 = .ok (.aload_n 0, 1) := dw42 (n := 0) (i := 13) kc_cX11_layWays_0 (by decide +kernel)
theorem dX11_layWays_14 : decode cX11_layWays 14 = .ok (.getfield 137, 3) := dw180 (n := 0) (i := 14) (a := 0) (b := 137) kc_cX11_layWays_0 (by decide +kernel) (by decide)
theorem dX11_layWays_17 : decode cX11_layWays 17 = .ok (.if_icmp .ge 93, 3) := dw162 (n := 0) (i := 17) (a := 0) (b := 93) kc_cX11_layWays_0 (by decide +kernel) (by decide)
theorem dX11_layWays_110 : decode cX11_layWays 110 = .ok (.iinc 1 1, 3) := by decide +kernel
theorem dX11_layWays_113 : decode cX11_layWays 113 = .ok (.goto (-111), 3) := dw167 (n := 96) (i := 17) (a := 255) (b := 145) kc_cX11_layWays_3 (by decide +kernel) (by decide)
theorem dX11_layWays_20 : decode cX11_layWays 20 = .ok (.aload_n 0, 1) := dw42 (n := 0) (i := 20) kc_cX11_layWays_0 (by decide +kernel)
theorem dX11_layWays_21 : decode cX11_layWays 21 = .ok (.getfield 120, 3) := dw180 (n := 0) (i := 21) (a := 0) (b := 120) kc_cX11_layWays_0 (by decide +kernel) (by decide)
theorem dX11_layWays_24 : decode cX11_layWays 24 = .ok (.bipush 10, 2) := dw16 (n := 0) (i := 24) (a := 10) kc_cX11_layWays_0 (by decide +kernel) (by decide)
theorem dX11_layWays_26 : decode cX11_layWays 26 = .ok (.iload_n 1, 1) := dw27 (n := 0) (i := 26) kc_cX11_layWays_0 (by decide +kernel)
theorem dX11_layWays_27 : decode cX11_layWays 27 = .ok (.imul, 1) := dw104 (n := 0) (i := 27) kc_cX11_layWays_0 (by decide +kernel)
theorem dX11_layWays_28 : decode cX11_layWays 28 = .ok (.iload_n 2, 1) := dw28 (n := 0) (i := 28) kc_cX11_layWays_0 (by decide +kernel)
theorem dX11_layWays_29 : decode cX11_layWays 29 = .ok (.iadd, 1) := dw96 (n := 0) (i := 29) kc_cX11_layWays_0 (by decide +kernel)
theorem dX11_layWays_30 : decode cX11_layWays 30 = .ok (.lconst 0, 1) := dw9 (n := 0) (i := 30) kc_cX11_layWays_0 (by decide +kernel)
theorem dX11_layWays_31 : decode cX11_layWays 31 = .ok (.lastore, 1) := dw80 (n := 0) (i := 31) kc_cX11_layWays_0 (by decide +kernel)
theorem dX11_layWays_32 : decode cX11_layWays 32 = .ok (.iconst 0, 1) := dw3 (n := 32) (i := 0) kc_cX11_layWays_1 (by decide +kernel)
theorem dX11_layWays_33 : decode cX11_layWays 33 = .ok (.istore_n 3, 1) := dw62 (n := 32) (i := 1) kc_cX11_layWays_1 (by decide +kernel)
theorem dX11_layWays_34 : decode cX11_layWays 34 = .ok (.iload_n 3, 1) := dw29 (n := 32) (i := 2) kc_cX11_layWays_1 (by decide +kernel)
theorem dX11_layWays_35 : decode cX11_layWays 35 = .ok (.aload_n 0, 1) := dw42 (n := 32) (i := 3) kc_cX11_layWays_1 (by decide +kernel)
theorem dX11_layWays_36 : decode cX11_layWays 36 = .ok (.getfield 31, 3) := dw180 (n := 32) (i := 4) (a := 0) (b := 31) kc_cX11_layWays_1 (by decide +kernel) (by decide)
theorem dX11_layWays_39 : decode cX11_layWays 39 = .ok (.aload_n 0, 1) := dw42 (n := 32) (i := 7) kc_cX11_layWays_1 (by decide +kernel)
theorem dX11_layWays_40 : decode cX11_layWays 40 = .ok (.getfield 201, 3) := dw180 (n := 32) (i := 8) (a := 0) (b := 201) kc_cX11_layWays_1 (by decide +kernel) (by decide)
theorem dX11_layWays_43 : decode cX11_layWays 43 = .ok (.iaload, 1) := dw46 (n := 32) (i := 11) kc_cX11_layWays_1 (by decide +kernel)
theorem dX11_layWays_44 : decode cX11_layWays 44 = .ok (.if_icmp .ge 60, 3) := dw162 (n := 32) (i := 12) (a := 0) (b := 60) kc_cX11_layWays_1 (by decide +kernel) (by decide)
theorem dX11_layWays_104 : decode cX11_layWays 104 = .ok (.iinc 2 1, 3) := by decide +kernel
theorem dX11_layWays_107 : decode cX11_layWays 107 = .ok (.goto (-95), 3) := dw167 (n := 96) (i := 11) (a := 255) (b := 161) kc_cX11_layWays_3 (by decide +kernel) (by decide)
theorem dX11_layWays_47 : decode cX11_layWays 47 = .ok (.aload_n 0, 1) := dw42 (n := 32) (i := 15) kc_cX11_layWays_1 (by decide +kernel)
theorem dX11_layWays_48 : decode cX11_layWays 48 = .ok (.iload_n 3, 1) := dw29 (n := 32) (i := 16) kc_cX11_layWays_1 (by decide +kernel)
theorem dX11_layWays_49 : decode cX11_layWays 49 = .ok (.invokevirtual 217, 3) := dw182 (n := 32) (i := 17) (a := 0) (b := 217) kc_cX11_layWays_1 (by decide +kernel) (by decide)
set_option maxRecDepth 20000 in
theorem ggX11_layWays_X11_ballotAt : GoodIn wsX11_layWays wsX11_ballotAt := (gk_code 11 rfl (gk_fieldLink 12 rfl (gk_fieldLink 4 rfl (gk_lays 23 rfl (gk_laysFinal 24 rfl (gk_lays 25 rfl (gk_laysFinal 26 rfl (gk_lays 27 rfl (gk_laysFinal 28 rfl (gk_laysFinal 29 rfl (gk_laysFinal 30 rfl (gk_laysFinal 31 rfl (gk_lays 32 rfl (gk_laysFinal 33 rfl (gk_laysFinal 34 rfl (gk_laysFinal 35 rfl (gk_laysFinal 36 rfl (gk_lays 37 rfl (gk_laysFinal 38 rfl (gk_laysFinal 39 rfl (gk_laysFinal 40 rfl (gk_laysFinal 41 rfl (gk_laysFinal 42 rfl (gk_laysFinal 43 rfl (gk_laysFinal 44 rfl (gk_laysFinal 45 rfl (gk_lays 46 rfl (gk_lays 47 rfl (gk_lays 48 rfl (gk_lays 49 rfl (gk_lays 50 rfl (gk_lays 51 rfl (gk_lays 52 rfl (gk_laysFinal 53 rfl (gk_lays 54 rfl (gk_laysFinal 55 rfl (gk_laysFinal 56 rfl (gk_laysFinal 57 rfl (gk_laysFinal 58 rfl (gk_laysFinal 59 rfl (gk_laysFinal 60 rfl (gk_laysFinal 61 rfl (gk_laysFinal 62 rfl (gk_laysFinal 63 rfl (gk_laysFinal 64 rfl (gk_lays 65 rfl (gk_laysFinal 66 rfl (gk_lays 67 rfl (gk_laysFinal 68 rfl (gk_laysFinal 69 rfl (gk_laysFinal 70 rfl (gk_laysFinal 71 rfl (gk_laysFinal 72 rfl (gk_laysFinal 73 rfl (gk_laysFinal 74 rfl (gk_laysFinal 75 rfl (gn)))))))))))))))))))))))))))))))))))))))))))))))))))))))))
set_option maxRecDepth 20000 in
theorem gX11_layWays_X11_ballotAt : GoodIn wsX11_layWays (wsV RX11 217 RX11 yX11_ballotAt wsX11_ballotAt) := goodIn_app (gk_methodLink 7 rfl (gk_instanceMethod 8 rfl (gk_selects 9 rfl (gk_initialized 10 rfl (gn))))) ggX11_layWays_X11_ballotAt
theorem dX11_layWays_52 : decode cX11_layWays 52 = .ok (.istore 4, 2) := dw54 (n := 32) (i := 20) (a := 4) kc_cX11_layWays_1 (by decide +kernel) (by decide)
theorem dX11_layWays_54 : decode cX11_layWays 54 = .ok (.aload_n 0, 1) := dw42 (n := 32) (i := 22) kc_cX11_layWays_1 (by decide +kernel)
theorem dX11_layWays_55 : decode cX11_layWays 55 = .ok (.getfield 120, 3) := dw180 (n := 32) (i := 23) (a := 0) (b := 120) kc_cX11_layWays_1 (by decide +kernel) (by decide)
theorem dX11_layWays_58 : decode cX11_layWays 58 = .ok (.bipush 10, 2) := dw16 (n := 32) (i := 26) (a := 10) kc_cX11_layWays_1 (by decide +kernel) (by decide)
theorem dX11_layWays_60 : decode cX11_layWays 60 = .ok (.iload_n 1, 1) := dw27 (n := 32) (i := 28) kc_cX11_layWays_1 (by decide +kernel)
theorem dX11_layWays_61 : decode cX11_layWays 61 = .ok (.imul, 1) := dw104 (n := 32) (i := 29) kc_cX11_layWays_1 (by decide +kernel)
theorem dX11_layWays_62 : decode cX11_layWays 62 = .ok (.iload_n 2, 1) := dw28 (n := 32) (i := 30) kc_cX11_layWays_1 (by decide +kernel)
theorem dX11_layWays_63 : decode cX11_layWays 63 = .ok (.iadd, 1) := dw96 (n := 32) (i := 31) kc_cX11_layWays_1 (by decide +kernel)
theorem dX11_layWays_64 : decode cX11_layWays 64 = .ok (.dup2, 1) := dw92 (n := 64) (i := 0) kc_cX11_layWays_2 (by decide +kernel)
theorem dX11_layWays_65 : decode cX11_layWays 65 = .ok (.laload, 1) := dw47 (n := 64) (i := 1) kc_cX11_layWays_2 (by decide +kernel)
theorem dX11_layWays_66 : decode cX11_layWays 66 = .ok (.iload 4, 2) := dw21 (n := 64) (i := 2) (a := 4) kc_cX11_layWays_2 (by decide +kernel) (by decide)
theorem dX11_layWays_68 : decode cX11_layWays 68 = .ok (.bipush (-9), 2) := dw16 (n := 64) (i := 4) (a := 247) kc_cX11_layWays_2 (by decide +kernel) (by decide)
theorem dX11_layWays_70 : decode cX11_layWays 70 = .ok (.if_icmp .eq 25, 3) := dw159 (n := 64) (i := 6) (a := 0) (b := 25) kc_cX11_layWays_2 (by decide +kernel) (by decide)
theorem dX11_layWays_95 : decode cX11_layWays 95 = .ok (.lconst 0, 1) := dw9 (n := 64) (i := 31) kc_cX11_layWays_2 (by decide +kernel)
theorem dX11_layWays_96 : decode cX11_layWays 96 = .ok (.ladd, 1) := dw97 (n := 96) (i := 0) kc_cX11_layWays_3 (by decide +kernel)
theorem dX11_layWays_97 : decode cX11_layWays 97 = .ok (.lastore, 1) := dw80 (n := 96) (i := 1) kc_cX11_layWays_3 (by decide +kernel)
theorem dX11_layWays_98 : decode cX11_layWays 98 = .ok (.iinc 3 1, 3) := by decide +kernel
theorem dX11_layWays_101 : decode cX11_layWays 101 = .ok (.goto (-67), 3) := dw167 (n := 96) (i := 5) (a := 255) (b := 189) kc_cX11_layWays_3 (by decide +kernel) (by decide)
theorem dX11_layWays_73 : decode cX11_layWays 73 = .ok (.aload_n 0, 1) := dw42 (n := 64) (i := 9) kc_cX11_layWays_2 (by decide +kernel)
theorem dX11_layWays_74 : decode cX11_layWays 74 = .ok (.iload 4, 2) := dw21 (n := 64) (i := 10) (a := 4) kc_cX11_layWays_2 (by decide +kernel) (by decide)
theorem dX11_layWays_76 : decode cX11_layWays 76 = .ok (.iload_n 1, 1) := dw27 (n := 64) (i := 12) kc_cX11_layWays_2 (by decide +kernel)
theorem dX11_layWays_77 : decode cX11_layWays 77 = .ok (.iload_n 2, 1) := dw28 (n := 64) (i := 13) kc_cX11_layWays_2 (by decide +kernel)
theorem dX11_layWays_78 : decode cX11_layWays 78 = .ok (.invokevirtual 255, 3) := dw182 (n := 64) (i := 14) (a := 0) (b := 255) kc_cX11_layWays_2 (by decide +kernel) (by decide)
set_option maxRecDepth 20000 in
theorem ggX11_layWays_X11_isAheadOn : GoodIn wsX11_layWays wsX11_isAheadOn := (gk_code 16 rfl (gk_methodLink 17 rfl (gk_instanceMethod 18 rfl (gk_selects 19 rfl (gk_initialized 10 rfl (gk_code 20 rfl (gk_fieldLink 21 rfl (gk_fieldLink 22 rfl (gk_lays 23 rfl (gk_laysFinal 24 rfl (gk_lays 25 rfl (gk_laysFinal 26 rfl (gk_lays 27 rfl (gk_laysFinal 28 rfl (gk_laysFinal 29 rfl (gk_laysFinal 30 rfl (gk_laysFinal 31 rfl (gk_lays 32 rfl (gk_laysFinal 33 rfl (gk_laysFinal 34 rfl (gk_laysFinal 35 rfl (gk_laysFinal 36 rfl (gk_lays 37 rfl (gk_laysFinal 38 rfl (gk_laysFinal 39 rfl (gk_laysFinal 40 rfl (gk_laysFinal 41 rfl (gk_laysFinal 42 rfl (gk_laysFinal 43 rfl (gk_laysFinal 44 rfl (gk_laysFinal 45 rfl (gk_lays 46 rfl (gk_lays 47 rfl (gk_lays 48 rfl (gk_lays 49 rfl (gk_lays 50 rfl (gk_lays 51 rfl (gk_lays 52 rfl (gk_laysFinal 53 rfl (gk_lays 54 rfl (gk_laysFinal 55 rfl (gk_laysFinal 56 rfl (gk_laysFinal 57 rfl (gk_laysFinal 58 rfl (gk_laysFinal 59 rfl (gk_laysFinal 60 rfl (gk_laysFinal 61 rfl (gk_laysFinal 62 rfl (gk_laysFinal 63 rfl (gk_laysFinal 64 rfl (gk_lays 65 rfl (gk_laysFinal 66 rfl (gk_lays 67 rfl (gk_laysFinal 68 rfl (gk_laysFinal 69 rfl (gk_laysFinal 70 rfl (gk_laysFinal 71 rfl (gk_laysFinal 72 rfl (gk_laysFinal 73 rfl (gk_laysFinal 74 rfl (gk_laysFinal 75 rfl (gn))))))))))))))))))))))))))))))))))))))))))))))))))))))))))))))
set_option maxRecDepth 20000 in
theorem gX11_layWays_X11_isAheadOn : GoodIn wsX11_layWays (wsV RX11 255 RX11 yX11_isAheadOn wsX11_isAheadOn) := goodIn_app (gk_methodLink 13 rfl (gk_instanceMethod 14 rfl (gk_selects 15 rfl (gk_initialized 10 rfl (gn))))) ggX11_layWays_X11_isAheadOn
theorem dX11_layWays_81 : decode cX11_layWays 81 = .ok (.ifCond .eq 14, 3) := dw153 (n := 64) (i := 17) (a := 0) (b := 14) kc_cX11_layWays_2 (by decide +kernel) (by decide)
theorem dX11_layWays_84 : decode cX11_layWays 84 = .ok (.aload_n 0, 1) := dw42 (n := 64) (i := 20) kc_cX11_layWays_2 (by decide +kernel)
theorem dX11_layWays_85 : decode cX11_layWays 85 = .ok (.getfield 19, 3) := dw180 (n := 64) (i := 21) (a := 0) (b := 19) kc_cX11_layWays_2 (by decide +kernel) (by decide)
theorem dX11_layWays_88 : decode cX11_layWays 88 = .ok (.iload 4, 2) := dw21 (n := 64) (i := 24) (a := 4) kc_cX11_layWays_2 (by decide +kernel) (by decide)
theorem dX11_layWays_90 : decode cX11_layWays 90 = .ok (.iaload, 1) := dw46 (n := 64) (i := 26) kc_cX11_layWays_2 (by decide +kernel)
theorem dX11_layWays_91 : decode cX11_layWays 91 = .ok (.i2l, 1) := dw133 (n := 64) (i := 27) kc_cX11_layWays_2 (by decide +kernel)
theorem dX11_layWays_92 : decode cX11_layWays 92 = .ok (.goto 4, 3) := dw167 (n := 64) (i := 28) (a := 0) (b := 4) kc_cX11_layWays_2 (by decide +kernel) (by decide)
theorem dX11_layWays_116 : decode cX11_layWays 116 = .ok (.iconst 0, 1) := dw3 (n := 96) (i := 20) kc_cX11_layWays_3 (by decide +kernel)
theorem dX11_layWays_117 : decode cX11_layWays 117 = .ok (.istore_n 1, 1) := dw60 (n := 96) (i := 21) kc_cX11_layWays_3 (by decide +kernel)
theorem dX11_layWays_118 : decode cX11_layWays 118 = .ok (.iload_n 1, 1) := dw27 (n := 96) (i := 22) kc_cX11_layWays_3 (by decide +kernel)
theorem dX11_layWays_119 : decode cX11_layWays 119 = .ok (.aload_n 0, 1) := dw42 (n := 96) (i := 23) kc_cX11_layWays_3 (by decide +kernel)
theorem dX11_layWays_120 : decode cX11_layWays 120 = .ok (.getfield 137, 3) := dw180 (n := 96) (i := 24) (a := 0) (b := 137) kc_cX11_layWays_3 (by decide +kernel) (by decide)
theorem dX11_layWays_123 : decode cX11_layWays 123 = .ok (.if_icmp .ge 77, 3) := dw162 (n := 96) (i := 27) (a := 0) (b := 77) kc_cX11_layWays_3 (by decide +kernel) (by decide)
theorem dX11_layWays_126 : decode cX11_layWays 126 = .ok (.iconst 0, 1) := dw3 (n := 96) (i := 30) kc_cX11_layWays_3 (by decide +kernel)
theorem dX11_layWays_127 : decode cX11_layWays 127 = .ok (.istore_n 2, 1) := dw61 (n := 96) (i := 31) kc_cX11_layWays_3 (by decide +kernel)
theorem dX11_layWays_128 : decode cX11_layWays 128 = .ok (.iload_n 2, 1) := dw28 (n := 128) (i := 0) kc_cX11_layWays_4 (by decide +kernel)
theorem dX11_layWays_129 : decode cX11_layWays 129 = .ok (.aload_n 0, 1) := dw42 (n := 128) (i := 1) kc_cX11_layWays_4 (by decide +kernel)
theorem dX11_layWays_130 : decode cX11_layWays 130 = .ok (.getfield 137, 3) := dw180 (n := 128) (i := 2) (a := 0) (b := 137) kc_cX11_layWays_4 (by decide +kernel) (by decide)
theorem dX11_layWays_133 : decode cX11_layWays 133 = .ok (.if_icmp .ge 61, 3) := dw162 (n := 128) (i := 5) (a := 0) (b := 61) kc_cX11_layWays_4 (by decide +kernel) (by decide)
theorem dX11_layWays_194 : decode cX11_layWays 194 = .ok (.iinc 1 1, 3) := by decide +kernel
theorem dX11_layWays_197 : decode cX11_layWays 197 = .ok (.goto (-79), 3) := dw167 (n := 192) (i := 5) (a := 255) (b := 177) kc_cX11_layWays_6 (by decide +kernel) (by decide)
theorem dX11_layWays_136 : decode cX11_layWays 136 = .ok (.aload_n 0, 1) := dw42 (n := 128) (i := 8) kc_cX11_layWays_4 (by decide +kernel)
theorem dX11_layWays_137 : decode cX11_layWays 137 = .ok (.getfield 123, 3) := dw180 (n := 128) (i := 9) (a := 0) (b := 123) kc_cX11_layWays_4 (by decide +kernel) (by decide)
theorem dX11_layWays_140 : decode cX11_layWays 140 = .ok (.bipush 10, 2) := dw16 (n := 128) (i := 12) (a := 10) kc_cX11_layWays_4 (by decide +kernel) (by decide)
theorem dX11_layWays_142 : decode cX11_layWays 142 = .ok (.iload_n 1, 1) := dw27 (n := 128) (i := 14) kc_cX11_layWays_4 (by decide +kernel)
theorem dX11_layWays_143 : decode cX11_layWays 143 = .ok (.imul, 1) := dw104 (n := 128) (i := 15) kc_cX11_layWays_4 (by decide +kernel)
theorem dX11_layWays_144 : decode cX11_layWays 144 = .ok (.iload_n 2, 1) := dw28 (n := 128) (i := 16) kc_cX11_layWays_4 (by decide +kernel)
theorem dX11_layWays_145 : decode cX11_layWays 145 = .ok (.iadd, 1) := dw96 (n := 128) (i := 17) kc_cX11_layWays_4 (by decide +kernel)
theorem dX11_layWays_146 : decode cX11_layWays 146 = .ok (.aload_n 0, 1) := dw42 (n := 128) (i := 18) kc_cX11_layWays_4 (by decide +kernel)
theorem dX11_layWays_147 : decode cX11_layWays 147 = .ok (.getfield 120, 3) := dw180 (n := 128) (i := 19) (a := 0) (b := 120) kc_cX11_layWays_4 (by decide +kernel) (by decide)
theorem dX11_layWays_150 : decode cX11_layWays 150 = .ok (.bipush 10, 2) := dw16 (n := 128) (i := 22) (a := 10) kc_cX11_layWays_4 (by decide +kernel) (by decide)
theorem dX11_layWays_152 : decode cX11_layWays 152 = .ok (.iload_n 1, 1) := dw27 (n := 128) (i := 24) kc_cX11_layWays_4 (by decide +kernel)
theorem dX11_layWays_153 : decode cX11_layWays 153 = .ok (.imul, 1) := dw104 (n := 128) (i := 25) kc_cX11_layWays_4 (by decide +kernel)
theorem dX11_layWays_154 : decode cX11_layWays 154 = .ok (.iload_n 2, 1) := dw28 (n := 128) (i := 26) kc_cX11_layWays_4 (by decide +kernel)
theorem dX11_layWays_155 : decode cX11_layWays 155 = .ok (.iadd, 1) := dw96 (n := 128) (i := 27) kc_cX11_layWays_4 (by decide +kernel)
theorem dX11_layWays_156 : decode cX11_layWays 156 = .ok (.laload, 1) := dw47 (n := 128) (i := 28) kc_cX11_layWays_4 (by decide +kernel)
theorem dX11_layWays_157 : decode cX11_layWays 157 = .ok (.aload_n 0, 1) := dw42 (n := 128) (i := 29) kc_cX11_layWays_4 (by decide +kernel)
theorem dX11_layWays_158 : decode cX11_layWays 158 = .ok (.getfield 120, 3) := dw180 (n := 128) (i := 30) (a := 0) (b := 120) kc_cX11_layWays_4 (by decide +kernel) (by decide)
theorem dX11_layWays_161 : decode cX11_layWays 161 = .ok (.bipush 10, 2) := dw16 (n := 160) (i := 1) (a := 10) kc_cX11_layWays_5 (by decide +kernel) (by decide)
theorem dX11_layWays_163 : decode cX11_layWays 163 = .ok (.iload_n 2, 1) := dw28 (n := 160) (i := 3) kc_cX11_layWays_5 (by decide +kernel)
theorem dX11_layWays_164 : decode cX11_layWays 164 = .ok (.imul, 1) := dw104 (n := 160) (i := 4) kc_cX11_layWays_5 (by decide +kernel)
theorem dX11_layWays_165 : decode cX11_layWays 165 = .ok (.iload_n 1, 1) := dw27 (n := 160) (i := 5) kc_cX11_layWays_5 (by decide +kernel)
theorem dX11_layWays_166 : decode cX11_layWays 166 = .ok (.iadd, 1) := dw96 (n := 160) (i := 6) kc_cX11_layWays_5 (by decide +kernel)
theorem dX11_layWays_167 : decode cX11_layWays 167 = .ok (.laload, 1) := dw47 (n := 160) (i := 7) kc_cX11_layWays_5 (by decide +kernel)
theorem dX11_layWays_168 : decode cX11_layWays 168 = .ok (.lcmp, 1) := dw148 (n := 160) (i := 8) kc_cX11_layWays_5 (by decide +kernel)
theorem dX11_layWays_169 : decode cX11_layWays 169 = .ok (.ifCond .le 17, 3) := dw158 (n := 160) (i := 9) (a := 0) (b := 17) kc_cX11_layWays_5 (by decide +kernel) (by decide)
theorem dX11_layWays_186 : decode cX11_layWays 186 = .ok (.lconst 0, 1) := dw9 (n := 160) (i := 26) kc_cX11_layWays_5 (by decide +kernel)
theorem dX11_layWays_187 : decode cX11_layWays 187 = .ok (.lastore, 1) := dw80 (n := 160) (i := 27) kc_cX11_layWays_5 (by decide +kernel)
theorem dX11_layWays_188 : decode cX11_layWays 188 = .ok (.iinc 2 1, 3) := by decide +kernel
theorem dX11_layWays_191 : decode cX11_layWays 191 = .ok (.goto (-63), 3) := dw167 (n := 160) (i := 31) (a := 255) (b := 193) kc_cX11_layWays_5 (by decide +kernel) (by decide)
theorem dX11_layWays_172 : decode cX11_layWays 172 = .ok (.aload_n 0, 1) := dw42 (n := 160) (i := 12) kc_cX11_layWays_5 (by decide +kernel)
theorem dX11_layWays_173 : decode cX11_layWays 173 = .ok (.getfield 120, 3) := dw180 (n := 160) (i := 13) (a := 0) (b := 120) kc_cX11_layWays_5 (by decide +kernel) (by decide)
theorem dX11_layWays_176 : decode cX11_layWays 176 = .ok (.bipush 10, 2) := dw16 (n := 160) (i := 16) (a := 10) kc_cX11_layWays_5 (by decide +kernel) (by decide)
theorem dX11_layWays_178 : decode cX11_layWays 178 = .ok (.iload_n 1, 1) := dw27 (n := 160) (i := 18) kc_cX11_layWays_5 (by decide +kernel)
theorem dX11_layWays_179 : decode cX11_layWays 179 = .ok (.imul, 1) := dw104 (n := 160) (i := 19) kc_cX11_layWays_5 (by decide +kernel)
theorem dX11_layWays_180 : decode cX11_layWays 180 = .ok (.iload_n 2, 1) := dw28 (n := 160) (i := 20) kc_cX11_layWays_5 (by decide +kernel)
theorem dX11_layWays_181 : decode cX11_layWays 181 = .ok (.iadd, 1) := dw96 (n := 160) (i := 21) kc_cX11_layWays_5 (by decide +kernel)
theorem dX11_layWays_182 : decode cX11_layWays 182 = .ok (.laload, 1) := dw47 (n := 160) (i := 22) kc_cX11_layWays_5 (by decide +kernel)
theorem dX11_layWays_183 : decode cX11_layWays 183 = .ok (.goto 4, 3) := dw167 (n := 160) (i := 23) (a := 0) (b := 4) kc_cX11_layWays_5 (by decide +kernel) (by decide)
theorem dX11_layWays_200 : decode cX11_layWays 200 = .ok (.iconst 0, 1) := dw3 (n := 192) (i := 8) kc_cX11_layWays_6 (by decide +kernel)
theorem dX11_layWays_201 : decode cX11_layWays 201 = .ok (.istore_n 1, 1) := dw60 (n := 192) (i := 9) kc_cX11_layWays_6 (by decide +kernel)
theorem dX11_layWays_202 : decode cX11_layWays 202 = .ok (.iload_n 1, 1) := dw27 (n := 192) (i := 10) kc_cX11_layWays_6 (by decide +kernel)
theorem dX11_layWays_203 : decode cX11_layWays 203 = .ok (.aload_n 0, 1) := dw42 (n := 192) (i := 11) kc_cX11_layWays_6 (by decide +kernel)
theorem dX11_layWays_204 : decode cX11_layWays 204 = .ok (.getfield 137, 3) := dw180 (n := 192) (i := 12) (a := 0) (b := 137) kc_cX11_layWays_6 (by decide +kernel) (by decide)
theorem dX11_layWays_207 : decode cX11_layWays 207 = .ok (.if_icmp .ge 143, 3) := dw162 (n := 192) (i := 15) (a := 0) (b := 143) kc_cX11_layWays_6 (by decide +kernel) (by decide)
theorem dX11_layWays_350 : decode cX11_layWays 350 = .ok (.return_, 1) := dw177 (n := 320) (i := 30) kc_cX11_layWays_10 (by decide +kernel)
theorem dX11_layWays_210 : decode cX11_layWays 210 = .ok (.iconst 0, 1) := dw3 (n := 192) (i := 18) kc_cX11_layWays_6 (by decide +kernel)
theorem dX11_layWays_211 : decode cX11_layWays 211 = .ok (.istore_n 2, 1) := dw61 (n := 192) (i := 19) kc_cX11_layWays_6 (by decide +kernel)
theorem dX11_layWays_212 : decode cX11_layWays 212 = .ok (.iload_n 2, 1) := dw28 (n := 192) (i := 20) kc_cX11_layWays_6 (by decide +kernel)
theorem dX11_layWays_213 : decode cX11_layWays 213 = .ok (.aload_n 0, 1) := dw42 (n := 192) (i := 21) kc_cX11_layWays_6 (by decide +kernel)
theorem dX11_layWays_214 : decode cX11_layWays 214 = .ok (.getfield 137, 3) := dw180 (n := 192) (i := 22) (a := 0) (b := 137) kc_cX11_layWays_6 (by decide +kernel) (by decide)
theorem dX11_layWays_217 : decode cX11_layWays 217 = .ok (.if_icmp .ge 127, 3) := dw162 (n := 192) (i := 25) (a := 0) (b := 127) kc_cX11_layWays_6 (by decide +kernel) (by decide)
theorem dX11_layWays_344 : decode cX11_layWays 344 = .ok (.iinc 1 1, 3) := by decide +kernel
theorem dX11_layWays_347 : decode cX11_layWays 347 = .ok (.goto (-145), 3) := dw167 (n := 320) (i := 27) (a := 255) (b := 111) kc_cX11_layWays_10 (by decide +kernel) (by decide)
theorem dX11_layWays_220 : decode cX11_layWays 220 = .ok (.iconst 0, 1) := dw3 (n := 192) (i := 28) kc_cX11_layWays_6 (by decide +kernel)
theorem dX11_layWays_221 : decode cX11_layWays 221 = .ok (.istore_n 3, 1) := dw62 (n := 192) (i := 29) kc_cX11_layWays_6 (by decide +kernel)
theorem dX11_layWays_222 : decode cX11_layWays 222 = .ok (.iload_n 3, 1) := dw29 (n := 192) (i := 30) kc_cX11_layWays_6 (by decide +kernel)
theorem dX11_layWays_223 : decode cX11_layWays 223 = .ok (.aload_n 0, 1) := dw42 (n := 192) (i := 31) kc_cX11_layWays_6 (by decide +kernel)
theorem dX11_layWays_224 : decode cX11_layWays 224 = .ok (.getfield 137, 3) := dw180 (n := 224) (i := 0) (a := 0) (b := 137) kc_cX11_layWays_7 (by decide +kernel) (by decide)
theorem dX11_layWays_227 : decode cX11_layWays 227 = .ok (.if_icmp .ge 111, 3) := dw162 (n := 224) (i := 3) (a := 0) (b := 111) kc_cX11_layWays_7 (by decide +kernel) (by decide)
theorem dX11_layWays_338 : decode cX11_layWays 338 = .ok (.iinc 2 1, 3) := by decide +kernel
theorem dX11_layWays_341 : decode cX11_layWays 341 = .ok (.goto (-129), 3) := dw167 (n := 320) (i := 21) (a := 255) (b := 127) kc_cX11_layWays_10 (by decide +kernel) (by decide)
theorem dX11_layWays_230 : decode cX11_layWays 230 = .ok (.aload_n 0, 1) := dw42 (n := 224) (i := 6) kc_cX11_layWays_7 (by decide +kernel)
theorem dX11_layWays_231 : decode cX11_layWays 231 = .ok (.getfield 123, 3) := dw180 (n := 224) (i := 7) (a := 0) (b := 123) kc_cX11_layWays_7 (by decide +kernel) (by decide)
theorem dX11_layWays_234 : decode cX11_layWays 234 = .ok (.bipush 10, 2) := dw16 (n := 224) (i := 10) (a := 10) kc_cX11_layWays_7 (by decide +kernel) (by decide)
theorem dX11_layWays_236 : decode cX11_layWays 236 = .ok (.iload_n 2, 1) := dw28 (n := 224) (i := 12) kc_cX11_layWays_7 (by decide +kernel)
theorem dX11_layWays_237 : decode cX11_layWays 237 = .ok (.imul, 1) := dw104 (n := 224) (i := 13) kc_cX11_layWays_7 (by decide +kernel)
theorem dX11_layWays_238 : decode cX11_layWays 238 = .ok (.iload_n 1, 1) := dw27 (n := 224) (i := 14) kc_cX11_layWays_7 (by decide +kernel)
theorem dX11_layWays_239 : decode cX11_layWays 239 = .ok (.iadd, 1) := dw96 (n := 224) (i := 15) kc_cX11_layWays_7 (by decide +kernel)
theorem dX11_layWays_240 : decode cX11_layWays 240 = .ok (.laload, 1) := dw47 (n := 224) (i := 16) kc_cX11_layWays_7 (by decide +kernel)
theorem dX11_layWays_241 : decode cX11_layWays 241 = .ok (.aload_n 0, 1) := dw42 (n := 224) (i := 17) kc_cX11_layWays_7 (by decide +kernel)
theorem dX11_layWays_242 : decode cX11_layWays 242 = .ok (.getfield 123, 3) := dw180 (n := 224) (i := 18) (a := 0) (b := 123) kc_cX11_layWays_7 (by decide +kernel) (by decide)
theorem dX11_layWays_245 : decode cX11_layWays 245 = .ok (.bipush 10, 2) := dw16 (n := 224) (i := 21) (a := 10) kc_cX11_layWays_7 (by decide +kernel) (by decide)
theorem dX11_layWays_247 : decode cX11_layWays 247 = .ok (.iload_n 1, 1) := dw27 (n := 224) (i := 23) kc_cX11_layWays_7 (by decide +kernel)
theorem dX11_layWays_248 : decode cX11_layWays 248 = .ok (.imul, 1) := dw104 (n := 224) (i := 24) kc_cX11_layWays_7 (by decide +kernel)
theorem dX11_layWays_249 : decode cX11_layWays 249 = .ok (.iload_n 3, 1) := dw29 (n := 224) (i := 25) kc_cX11_layWays_7 (by decide +kernel)
theorem dX11_layWays_250 : decode cX11_layWays 250 = .ok (.iadd, 1) := dw96 (n := 224) (i := 26) kc_cX11_layWays_7 (by decide +kernel)
theorem dX11_layWays_251 : decode cX11_layWays 251 = .ok (.laload, 1) := dw47 (n := 224) (i := 27) kc_cX11_layWays_7 (by decide +kernel)
theorem dX11_layWays_252 : decode cX11_layWays 252 = .ok (.lcmp, 1) := dw148 (n := 224) (i := 28) kc_cX11_layWays_7 (by decide +kernel)
theorem dX11_layWays_253 : decode cX11_layWays 253 = .ok (.ifCond .ge 17, 3) := dw156 (n := 224) (i := 29) (a := 0) (b := 17) kc_cX11_layWays_7 (by decide +kernel) (by decide)
theorem dX11_layWays_270 : decode cX11_layWays 270 = .ok (.aload_n 0, 1) := dw42 (n := 256) (i := 14) kc_cX11_layWays_8 (by decide +kernel)
theorem dX11_layWays_271 : decode cX11_layWays 271 = .ok (.getfield 123, 3) := dw180 (n := 256) (i := 15) (a := 0) (b := 123) kc_cX11_layWays_8 (by decide +kernel) (by decide)
theorem dX11_layWays_274 : decode cX11_layWays 274 = .ok (.bipush 10, 2) := dw16 (n := 256) (i := 18) (a := 10) kc_cX11_layWays_8 (by decide +kernel) (by decide)
theorem dX11_layWays_276 : decode cX11_layWays 276 = .ok (.iload_n 1, 1) := dw27 (n := 256) (i := 20) kc_cX11_layWays_8 (by decide +kernel)
theorem dX11_layWays_277 : decode cX11_layWays 277 = .ok (.imul, 1) := dw104 (n := 256) (i := 21) kc_cX11_layWays_8 (by decide +kernel)
theorem dX11_layWays_278 : decode cX11_layWays 278 = .ok (.iload_n 3, 1) := dw29 (n := 256) (i := 22) kc_cX11_layWays_8 (by decide +kernel)
theorem dX11_layWays_279 : decode cX11_layWays 279 = .ok (.iadd, 1) := dw96 (n := 256) (i := 23) kc_cX11_layWays_8 (by decide +kernel)
theorem dX11_layWays_280 : decode cX11_layWays 280 = .ok (.laload, 1) := dw47 (n := 256) (i := 24) kc_cX11_layWays_8 (by decide +kernel)
theorem dX11_layWays_281 : decode cX11_layWays 281 = .ok (.lstore 4, 2) := dw55 (n := 256) (i := 25) (a := 4) kc_cX11_layWays_8 (by decide +kernel) (by decide)
theorem dX11_layWays_283 : decode cX11_layWays 283 = .ok (.aload_n 0, 1) := dw42 (n := 256) (i := 27) kc_cX11_layWays_8 (by decide +kernel)
theorem dX11_layWays_284 : decode cX11_layWays 284 = .ok (.getfield 123, 3) := dw180 (n := 256) (i := 28) (a := 0) (b := 123) kc_cX11_layWays_8 (by decide +kernel) (by decide)
theorem dX11_layWays_287 : decode cX11_layWays 287 = .ok (.bipush 10, 2) := dw16 (n := 256) (i := 31) (a := 10) kc_cX11_layWays_8 (by decide +kernel) (by decide)
theorem dX11_layWays_289 : decode cX11_layWays 289 = .ok (.iload_n 2, 1) := dw28 (n := 288) (i := 1) kc_cX11_layWays_9 (by decide +kernel)
theorem dX11_layWays_290 : decode cX11_layWays 290 = .ok (.imul, 1) := dw104 (n := 288) (i := 2) kc_cX11_layWays_9 (by decide +kernel)
theorem dX11_layWays_291 : decode cX11_layWays 291 = .ok (.iload_n 3, 1) := dw29 (n := 288) (i := 3) kc_cX11_layWays_9 (by decide +kernel)
theorem dX11_layWays_292 : decode cX11_layWays 292 = .ok (.iadd, 1) := dw96 (n := 288) (i := 4) kc_cX11_layWays_9 (by decide +kernel)
theorem dX11_layWays_293 : decode cX11_layWays 293 = .ok (.iload_n 2, 1) := dw28 (n := 288) (i := 5) kc_cX11_layWays_9 (by decide +kernel)
theorem dX11_layWays_294 : decode cX11_layWays 294 = .ok (.iload_n 3, 1) := dw29 (n := 288) (i := 6) kc_cX11_layWays_9 (by decide +kernel)
theorem dX11_layWays_295 : decode cX11_layWays 295 = .ok (.if_icmp .eq 25, 3) := dw159 (n := 288) (i := 7) (a := 0) (b := 25) kc_cX11_layWays_9 (by decide +kernel) (by decide)
theorem dX11_layWays_320 : decode cX11_layWays 320 = .ok (.aload_n 0, 1) := dw42 (n := 320) (i := 0) kc_cX11_layWays_10 (by decide +kernel)
theorem dX11_layWays_321 : decode cX11_layWays 321 = .ok (.getfield 123, 3) := dw180 (n := 320) (i := 1) (a := 0) (b := 123) kc_cX11_layWays_10 (by decide +kernel) (by decide)
theorem dX11_layWays_324 : decode cX11_layWays 324 = .ok (.bipush 10, 2) := dw16 (n := 320) (i := 4) (a := 10) kc_cX11_layWays_10 (by decide +kernel) (by decide)
theorem dX11_layWays_326 : decode cX11_layWays 326 = .ok (.iload_n 2, 1) := dw28 (n := 320) (i := 6) kc_cX11_layWays_10 (by decide +kernel)
theorem dX11_layWays_327 : decode cX11_layWays 327 = .ok (.imul, 1) := dw104 (n := 320) (i := 7) kc_cX11_layWays_10 (by decide +kernel)
theorem dX11_layWays_328 : decode cX11_layWays 328 = .ok (.iload_n 3, 1) := dw29 (n := 320) (i := 8) kc_cX11_layWays_10 (by decide +kernel)
theorem dX11_layWays_329 : decode cX11_layWays 329 = .ok (.iadd, 1) := dw96 (n := 320) (i := 9) kc_cX11_layWays_10 (by decide +kernel)
theorem dX11_layWays_330 : decode cX11_layWays 330 = .ok (.laload, 1) := dw47 (n := 320) (i := 10) kc_cX11_layWays_10 (by decide +kernel)
theorem dX11_layWays_331 : decode cX11_layWays 331 = .ok (.lastore, 1) := dw80 (n := 320) (i := 11) kc_cX11_layWays_10 (by decide +kernel)
theorem dX11_layWays_332 : decode cX11_layWays 332 = .ok (.iinc 3 1, 3) := by decide +kernel
theorem dX11_layWays_335 : decode cX11_layWays 335 = .ok (.goto (-113), 3) := dw167 (n := 320) (i := 15) (a := 255) (b := 143) kc_cX11_layWays_10 (by decide +kernel) (by decide)
theorem dX11_layWays_298 : decode cX11_layWays 298 = .ok (.lload 4, 2) := dw22 (n := 288) (i := 10) (a := 4) kc_cX11_layWays_9 (by decide +kernel) (by decide)
theorem dX11_layWays_300 : decode cX11_layWays 300 = .ok (.aload_n 0, 1) := dw42 (n := 288) (i := 12) kc_cX11_layWays_9 (by decide +kernel)
theorem dX11_layWays_301 : decode cX11_layWays 301 = .ok (.getfield 123, 3) := dw180 (n := 288) (i := 13) (a := 0) (b := 123) kc_cX11_layWays_9 (by decide +kernel) (by decide)
theorem dX11_layWays_304 : decode cX11_layWays 304 = .ok (.bipush 10, 2) := dw16 (n := 288) (i := 16) (a := 10) kc_cX11_layWays_9 (by decide +kernel) (by decide)
theorem dX11_layWays_306 : decode cX11_layWays 306 = .ok (.iload_n 2, 1) := dw28 (n := 288) (i := 18) kc_cX11_layWays_9 (by decide +kernel)
theorem dX11_layWays_307 : decode cX11_layWays 307 = .ok (.imul, 1) := dw104 (n := 288) (i := 19) kc_cX11_layWays_9 (by decide +kernel)
theorem dX11_layWays_308 : decode cX11_layWays 308 = .ok (.iload_n 3, 1) := dw29 (n := 288) (i := 20) kc_cX11_layWays_9 (by decide +kernel)
theorem dX11_layWays_309 : decode cX11_layWays 309 = .ok (.iadd, 1) := dw96 (n := 288) (i := 21) kc_cX11_layWays_9 (by decide +kernel)
theorem dX11_layWays_310 : decode cX11_layWays 310 = .ok (.laload, 1) := dw47 (n := 288) (i := 22) kc_cX11_layWays_9 (by decide +kernel)
theorem dX11_layWays_311 : decode cX11_layWays 311 = .ok (.lcmp, 1) := dw148 (n := 288) (i := 23) kc_cX11_layWays_9 (by decide +kernel)
theorem dX11_layWays_312 : decode cX11_layWays 312 = .ok (.ifCond .le 8, 3) := dw158 (n := 288) (i := 24) (a := 0) (b := 8) kc_cX11_layWays_9 (by decide +kernel) (by decide)
theorem dX11_layWays_315 : decode cX11_layWays 315 = .ok (.lload 4, 2) := dw22 (n := 288) (i := 27) (a := 4) kc_cX11_layWays_9 (by decide +kernel) (by decide)
theorem dX11_layWays_317 : decode cX11_layWays 317 = .ok (.goto 14, 3) := dw167 (n := 288) (i := 29) (a := 0) (b := 14) kc_cX11_layWays_9 (by decide +kernel) (by decide)
theorem dX11_layWays_256 : decode cX11_layWays 256 = .ok (.aload_n 0, 1) := dw42 (n := 256) (i := 0) kc_cX11_layWays_8 (by decide +kernel)
theorem dX11_layWays_257 : decode cX11_layWays 257 = .ok (.getfield 123, 3) := dw180 (n := 256) (i := 1) (a := 0) (b := 123) kc_cX11_layWays_8 (by decide +kernel) (by decide)
theorem dX11_layWays_260 : decode cX11_layWays 260 = .ok (.bipush 10, 2) := dw16 (n := 256) (i := 4) (a := 10) kc_cX11_layWays_8 (by decide +kernel) (by decide)
theorem dX11_layWays_262 : decode cX11_layWays 262 = .ok (.iload_n 2, 1) := dw28 (n := 256) (i := 6) kc_cX11_layWays_8 (by decide +kernel)
theorem dX11_layWays_263 : decode cX11_layWays 263 = .ok (.imul, 1) := dw104 (n := 256) (i := 7) kc_cX11_layWays_8 (by decide +kernel)
theorem dX11_layWays_264 : decode cX11_layWays 264 = .ok (.iload_n 1, 1) := dw27 (n := 256) (i := 8) kc_cX11_layWays_8 (by decide +kernel)
theorem dX11_layWays_265 : decode cX11_layWays 265 = .ok (.iadd, 1) := dw96 (n := 256) (i := 9) kc_cX11_layWays_8 (by decide +kernel)
theorem dX11_layWays_266 : decode cX11_layWays 266 = .ok (.laload, 1) := dw47 (n := 256) (i := 10) kc_cX11_layWays_8 (by decide +kernel)
theorem dX11_layWays_267 : decode cX11_layWays 267 = .ok (.goto 14, 3) := dw167 (n := 256) (i := 11) (a := 0) (b := 14) kc_cX11_layWays_8 (by decide +kernel) (by decide)
theorem dX11_tallyWays_0 : decode cX11_tallyWays 0 = .ok (.aload_n 0, 1) := dw42 (n := 0) (i := 0) kc_cX11_tallyWays_0 (by decide +kernel)
theorem dX11_tallyWays_1 : decode cX11_tallyWays 1 = .ok (.invokevirtual 214, 3) := dw182 (n := 0) (i := 1) (a := 0) (b := 214) kc_cX11_tallyWays_0 (by decide +kernel) (by decide)
set_option maxRecDepth 20000 in
theorem ggX11_tallyWays_X11_noTallies : GoodIn wsX11_tallyWays wsX11_noTallies := (gk_code 9 rfl (gk_fieldLink 4 rfl (gk_fieldLink 10 rfl (gk_lays 11 rfl (gk_laysFinal 12 rfl (gk_lays 13 rfl (gk_laysFinal 14 rfl (gk_lays 15 rfl (gk_laysFinal 16 rfl (gk_laysFinal 17 rfl (gk_laysFinal 18 rfl (gk_laysFinal 19 rfl (gk_lays 20 rfl (gk_laysFinal 21 rfl (gk_laysFinal 22 rfl (gk_laysFinal 23 rfl (gk_laysFinal 24 rfl (gk_lays 25 rfl (gk_laysFinal 26 rfl (gk_laysFinal 27 rfl (gk_laysFinal 28 rfl (gk_laysFinal 29 rfl (gk_laysFinal 30 rfl (gk_laysFinal 31 rfl (gk_laysFinal 32 rfl (gk_laysFinal 33 rfl (gk_lays 34 rfl (gk_lays 35 rfl (gk_lays 36 rfl (gk_lays 37 rfl (gk_lays 38 rfl (gk_lays 39 rfl (gk_lays 40 rfl (gk_laysFinal 41 rfl (gk_lays 42 rfl (gk_laysFinal 43 rfl (gk_laysFinal 44 rfl (gk_laysFinal 45 rfl (gk_laysFinal 46 rfl (gk_laysFinal 47 rfl (gk_laysFinal 48 rfl (gk_laysFinal 49 rfl (gk_laysFinal 50 rfl (gk_laysFinal 51 rfl (gk_laysFinal 52 rfl (gk_lays 53 rfl (gk_laysFinal 54 rfl (gk_lays 55 rfl (gk_laysFinal 56 rfl (gk_laysFinal 57 rfl (gk_laysFinal 58 rfl (gk_laysFinal 59 rfl (gk_laysFinal 60 rfl (gk_laysFinal 61 rfl (gk_laysFinal 62 rfl (gk_laysFinal 63 rfl (gn)))))))))))))))))))))))))))))))))))))))))))))))))))))))))
set_option maxRecDepth 20000 in
theorem gX11_tallyWays_X11_noTallies : GoodIn wsX11_tallyWays (wsV RX11 214 RX11 yX11_noTallies wsX11_noTallies) := goodIn_app (gk_methodLink 5 rfl (gk_instanceMethod 6 rfl (gk_selects 7 rfl (gk_initialized 8 rfl (gn))))) ggX11_tallyWays_X11_noTallies
theorem dX11_tallyWays_4 : decode cX11_tallyWays 4 = .ok (.iconst 0, 1) := dw3 (n := 0) (i := 4) kc_cX11_tallyWays_0 (by decide +kernel)
theorem dX11_tallyWays_5 : decode cX11_tallyWays 5 = .ok (.istore_n 1, 1) := dw60 (n := 0) (i := 5) kc_cX11_tallyWays_0 (by decide +kernel)
theorem dX11_tallyWays_6 : decode cX11_tallyWays 6 = .ok (.iload_n 1, 1) := dw27 (n := 0) (i := 6) kc_cX11_tallyWays_0 (by decide +kernel)
theorem dX11_tallyWays_7 : decode cX11_tallyWays 7 = .ok (.aload_n 0, 1) := dw42 (n := 0) (i := 7) kc_cX11_tallyWays_0 (by decide +kernel)
theorem dX11_tallyWays_8 : decode cX11_tallyWays 8 = .ok (.getfield 137, 3) := dw180 (n := 0) (i := 8) (a := 0) (b := 137) kc_cX11_tallyWays_0 (by decide +kernel) (by decide)
theorem in_X11_tallyWays_11 : ∀ w ∈ u_ws RX11 TX11 53, w ∈ wsX11_tallyWays := fun _ h => List.mem_cons_of_mem _ (List.mem_append_right _ h)
theorem dX11_tallyWays_11 : decode cX11_tallyWays 11 = .ok (.if_icmp .ge 94, 3) := dw162 (n := 0) (i := 11) (a := 0) (b := 94) kc_cX11_tallyWays_0 (by decide +kernel) (by decide)
theorem dX11_tallyWays_105 : decode cX11_tallyWays 105 = .ok (.return_, 1) := dw177 (n := 96) (i := 9) kc_cX11_tallyWays_3 (by decide +kernel)
theorem dX11_tallyWays_14 : decode cX11_tallyWays 14 = .ok (.iconst 0, 1) := dw3 (n := 0) (i := 14) kc_cX11_tallyWays_0 (by decide +kernel)
theorem dX11_tallyWays_15 : decode cX11_tallyWays 15 = .ok (.istore_n 2, 1) := dw61 (n := 0) (i := 15) kc_cX11_tallyWays_0 (by decide +kernel)
theorem dX11_tallyWays_16 : decode cX11_tallyWays 16 = .ok (.iconst 0, 1) := dw3 (n := 0) (i := 16) kc_cX11_tallyWays_0 (by decide +kernel)
theorem dX11_tallyWays_17 : decode cX11_tallyWays 17 = .ok (.istore_n 3, 1) := dw62 (n := 0) (i := 17) kc_cX11_tallyWays_0 (by decide +kernel)
theorem dX11_tallyWays_18 : decode cX11_tallyWays 18 = .ok (.iload_n 3, 1) := dw29 (n := 0) (i := 18) kc_cX11_tallyWays_0 (by decide +kernel)
theorem dX11_tallyWays_19 : decode cX11_tallyWays 19 = .ok (.aload_n 0, 1) := dw42 (n := 0) (i := 19) kc_cX11_tallyWays_0 (by decide +kernel)
theorem dX11_tallyWays_20 : decode cX11_tallyWays 20 = .ok (.getfield 137, 3) := dw180 (n := 0) (i := 20) (a := 0) (b := 137) kc_cX11_tallyWays_0 (by decide +kernel) (by decide)
theorem dX11_tallyWays_23 : decode cX11_tallyWays 23 = .ok (.if_icmp .ge 76, 3) := dw162 (n := 0) (i := 23) (a := 0) (b := 76) kc_cX11_tallyWays_0 (by decide +kernel) (by decide)
theorem dX11_tallyWays_99 : decode cX11_tallyWays 99 = .ok (.iinc 1 1, 3) := by decide +kernel
theorem dX11_tallyWays_102 : decode cX11_tallyWays 102 = .ok (.goto (-96), 3) := dw167 (n := 96) (i := 6) (a := 255) (b := 160) kc_cX11_tallyWays_3 (by decide +kernel) (by decide)
theorem dX11_tallyWays_26 : decode cX11_tallyWays 26 = .ok (.aload_n 0, 1) := dw42 (n := 0) (i := 26) kc_cX11_tallyWays_0 (by decide +kernel)
theorem dX11_tallyWays_27 : decode cX11_tallyWays 27 = .ok (.getfield 81, 3) := dw180 (n := 0) (i := 27) (a := 0) (b := 81) kc_cX11_tallyWays_0 (by decide +kernel) (by decide)
theorem dX11_tallyWays_30 : decode cX11_tallyWays 30 = .ok (.iload_n 1, 1) := dw27 (n := 0) (i := 30) kc_cX11_tallyWays_0 (by decide +kernel)
theorem dX11_tallyWays_31 : decode cX11_tallyWays 31 = .ok (.baload, 1) := dw51 (n := 0) (i := 31) kc_cX11_tallyWays_0 (by decide +kernel)
theorem dX11_tallyWays_32 : decode cX11_tallyWays 32 = .ok (.ifCond .eq 67, 3) := dw153 (n := 32) (i := 0) (a := 0) (b := 67) kc_cX11_tallyWays_1 (by decide +kernel) (by decide)
theorem dX11_tallyWays_35 : decode cX11_tallyWays 35 = .ok (.iload_n 3, 1) := dw29 (n := 32) (i := 3) kc_cX11_tallyWays_1 (by decide +kernel)
theorem dX11_tallyWays_36 : decode cX11_tallyWays 36 = .ok (.iload_n 1, 1) := dw27 (n := 32) (i := 4) kc_cX11_tallyWays_1 (by decide +kernel)
theorem dX11_tallyWays_37 : decode cX11_tallyWays 37 = .ok (.if_icmp .eq 56, 3) := dw159 (n := 32) (i := 5) (a := 0) (b := 56) kc_cX11_tallyWays_1 (by decide +kernel) (by decide)
theorem dX11_tallyWays_93 : decode cX11_tallyWays 93 = .ok (.iinc 3 1, 3) := by decide +kernel
theorem dX11_tallyWays_96 : decode cX11_tallyWays 96 = .ok (.goto (-78), 3) := dw167 (n := 96) (i := 0) (a := 255) (b := 178) kc_cX11_tallyWays_3 (by decide +kernel) (by decide)
theorem dX11_tallyWays_40 : decode cX11_tallyWays 40 = .ok (.aload_n 0, 1) := dw42 (n := 32) (i := 8) kc_cX11_tallyWays_1 (by decide +kernel)
theorem dX11_tallyWays_41 : decode cX11_tallyWays 41 = .ok (.getfield 81, 3) := dw180 (n := 32) (i := 9) (a := 0) (b := 81) kc_cX11_tallyWays_1 (by decide +kernel) (by decide)
theorem dX11_tallyWays_44 : decode cX11_tallyWays 44 = .ok (.iload_n 3, 1) := dw29 (n := 32) (i := 12) kc_cX11_tallyWays_1 (by decide +kernel)
theorem dX11_tallyWays_45 : decode cX11_tallyWays 45 = .ok (.baload, 1) := dw51 (n := 32) (i := 13) kc_cX11_tallyWays_1 (by decide +kernel)
theorem dX11_tallyWays_46 : decode cX11_tallyWays 46 = .ok (.ifCond .eq 47, 3) := dw153 (n := 32) (i := 14) (a := 0) (b := 47) kc_cX11_tallyWays_1 (by decide +kernel) (by decide)
theorem dX11_tallyWays_49 : decode cX11_tallyWays 49 = .ok (.iload_n 2, 1) := dw28 (n := 32) (i := 17) kc_cX11_tallyWays_1 (by decide +kernel)
theorem dX11_tallyWays_50 : decode cX11_tallyWays 50 = .ok (.ifCond .eq 24, 3) := dw153 (n := 32) (i := 18) (a := 0) (b := 24) kc_cX11_tallyWays_1 (by decide +kernel) (by decide)
theorem dX11_tallyWays_74 : decode cX11_tallyWays 74 = .ok (.aload_n 0, 1) := dw42 (n := 64) (i := 10) kc_cX11_tallyWays_2 (by decide +kernel)
theorem dX11_tallyWays_75 : decode cX11_tallyWays 75 = .ok (.getfield 87, 3) := dw180 (n := 64) (i := 11) (a := 0) (b := 87) kc_cX11_tallyWays_2 (by decide +kernel) (by decide)
theorem dX11_tallyWays_78 : decode cX11_tallyWays 78 = .ok (.iload_n 1, 1) := dw27 (n := 64) (i := 14) kc_cX11_tallyWays_2 (by decide +kernel)
theorem dX11_tallyWays_79 : decode cX11_tallyWays 79 = .ok (.aload_n 0, 1) := dw42 (n := 64) (i := 15) kc_cX11_tallyWays_2 (by decide +kernel)
theorem dX11_tallyWays_80 : decode cX11_tallyWays 80 = .ok (.getfield 123, 3) := dw180 (n := 64) (i := 16) (a := 0) (b := 123) kc_cX11_tallyWays_2 (by decide +kernel) (by decide)
theorem dX11_tallyWays_83 : decode cX11_tallyWays 83 = .ok (.bipush 10, 2) := dw16 (n := 64) (i := 19) (a := 10) kc_cX11_tallyWays_2 (by decide +kernel) (by decide)
theorem dX11_tallyWays_85 : decode cX11_tallyWays 85 = .ok (.iload_n 1, 1) := dw27 (n := 64) (i := 21) kc_cX11_tallyWays_2 (by decide +kernel)
theorem dX11_tallyWays_86 : decode cX11_tallyWays 86 = .ok (.imul, 1) := dw104 (n := 64) (i := 22) kc_cX11_tallyWays_2 (by decide +kernel)
theorem dX11_tallyWays_87 : decode cX11_tallyWays 87 = .ok (.iload_n 3, 1) := dw29 (n := 64) (i := 23) kc_cX11_tallyWays_2 (by decide +kernel)
theorem dX11_tallyWays_88 : decode cX11_tallyWays 88 = .ok (.iadd, 1) := dw96 (n := 64) (i := 24) kc_cX11_tallyWays_2 (by decide +kernel)
theorem dX11_tallyWays_89 : decode cX11_tallyWays 89 = .ok (.laload, 1) := dw47 (n := 64) (i := 25) kc_cX11_tallyWays_2 (by decide +kernel)
theorem dX11_tallyWays_90 : decode cX11_tallyWays 90 = .ok (.lastore, 1) := dw80 (n := 64) (i := 26) kc_cX11_tallyWays_2 (by decide +kernel)
theorem dX11_tallyWays_91 : decode cX11_tallyWays 91 = .ok (.iconst 1, 1) := dw4 (n := 64) (i := 27) kc_cX11_tallyWays_2 (by decide +kernel)
theorem dX11_tallyWays_92 : decode cX11_tallyWays 92 = .ok (.istore_n 2, 1) := dw61 (n := 64) (i := 28) kc_cX11_tallyWays_2 (by decide +kernel)
theorem dX11_tallyWays_53 : decode cX11_tallyWays 53 = .ok (.aload_n 0, 1) := dw42 (n := 32) (i := 21) kc_cX11_tallyWays_1 (by decide +kernel)
theorem dX11_tallyWays_54 : decode cX11_tallyWays 54 = .ok (.getfield 123, 3) := dw180 (n := 32) (i := 22) (a := 0) (b := 123) kc_cX11_tallyWays_1 (by decide +kernel) (by decide)
theorem dX11_tallyWays_57 : decode cX11_tallyWays 57 = .ok (.bipush 10, 2) := dw16 (n := 32) (i := 25) (a := 10) kc_cX11_tallyWays_1 (by decide +kernel) (by decide)
theorem dX11_tallyWays_59 : decode cX11_tallyWays 59 = .ok (.iload_n 1, 1) := dw27 (n := 32) (i := 27) kc_cX11_tallyWays_1 (by decide +kernel)
theorem dX11_tallyWays_60 : decode cX11_tallyWays 60 = .ok (.imul, 1) := dw104 (n := 32) (i := 28) kc_cX11_tallyWays_1 (by decide +kernel)
theorem dX11_tallyWays_61 : decode cX11_tallyWays 61 = .ok (.iload_n 3, 1) := dw29 (n := 32) (i := 29) kc_cX11_tallyWays_1 (by decide +kernel)
theorem dX11_tallyWays_62 : decode cX11_tallyWays 62 = .ok (.iadd, 1) := dw96 (n := 32) (i := 30) kc_cX11_tallyWays_1 (by decide +kernel)
theorem dX11_tallyWays_63 : decode cX11_tallyWays 63 = .ok (.laload, 1) := dw47 (n := 32) (i := 31) kc_cX11_tallyWays_1 (by decide +kernel)
theorem dX11_tallyWays_64 : decode cX11_tallyWays 64 = .ok (.aload_n 0, 1) := dw42 (n := 64) (i := 0) kc_cX11_tallyWays_2 (by decide +kernel)
theorem dX11_tallyWays_65 : decode cX11_tallyWays 65 = .ok (.getfield 87, 3) := dw180 (n := 64) (i := 1) (a := 0) (b := 87) kc_cX11_tallyWays_2 (by decide +kernel) (by decide)
theorem dX11_tallyWays_68 : decode cX11_tallyWays 68 = .ok (.iload_n 1, 1) := dw27 (n := 64) (i := 4) kc_cX11_tallyWays_2 (by decide +kernel)
theorem dX11_tallyWays_69 : decode cX11_tallyWays 69 = .ok (.laload, 1) := dw47 (n := 64) (i := 5) kc_cX11_tallyWays_2 (by decide +kernel)
theorem dX11_tallyWays_70 : decode cX11_tallyWays 70 = .ok (.lcmp, 1) := dw148 (n := 64) (i := 6) kc_cX11_tallyWays_2 (by decide +kernel)
theorem dX11_tallyWays_71 : decode cX11_tallyWays 71 = .ok (.ifCond .ge 22, 3) := dw156 (n := 64) (i := 7) (a := 0) (b := 22) kc_cX11_tallyWays_2 (by decide +kernel) (by decide)
set_option maxHeartbeats 4000000 in
set_option maxRecDepth 100000 in
theorem s_X11_tallyWays (l : Launch) (D : va_G) (ad : Nat → Nat) (cs : Nat → ClassId) (M : MI) (L : ML)  (hI : IR M) : Cv l yX11_tallyWays wsX11_tallyWays ({ frames := 1, cells := 0, slots := 0, locals := 21 }) D ad cs [.ref (ad 258)] M L (fun M1 L1 => (True) ∧ IR M1 ∧ (∀ k i, True → M1 k i = M k i) ∧ ∀ k i, k ≠ 284 ∧ k ≠ 285 → L1 k i = L k i) := by
  refine enter_v RX11 rfl [(0, .ref (ad 258))] rfl (Nat.le_of_ble_eq_true rfl) (by decide +kernel) rfl ?_
  intro p e s m below meth c C hr
  have hF : ∀ k i, True → M k i = M k i := fun _ _ _ => rfl
  have hG : ∀ k i, k ≠ 284 ∧ k ≠ 285 → L k i = L k i := fun _ _ _ => rfl
  have p284 : L 284 = L 284 := rfl
  have p285 : L 285 = L 285 := rfl
  refine g_aload_n C 0 dX11_tallyWays_0 rfl ?_
  refine g_callVv C (n := 0) (As := []) (st := []) (s_X11_noTallies l D ad cs _ _  hI ) gX11_tallyWays_X11_noTallies rfl rfl rfl (by decide +kernel) ⟨Nat.le_of_ble_eq_true rfl, Nat.le_of_ble_eq_true rfl⟩ rfl (Nat.le_of_ble_eq_true rfl) ⟨Nat.zero_le _, Nat.zero_le _⟩ (by decide) (ce_model ad cs _ _) rfl rfl dX11_tallyWays_1 (fun M2 L3 hr1 => ?_)
  obtain ⟨hr1, hI, hFr1, hGr1⟩ := hr1
  have hF : ∀ k i, True → M2 k i = M k i := fun k i hk => by (rw [hFr1 k i trivial]; try exact hF k i hk)
  have hG : ∀ k i, k ≠ 284 ∧ k ≠ 285 → L3 k i = L k i := fun k i hk => by (rw [hGr1 k i (by as_aux_lemma => omega)]; try exact hG k i hk)
  have p284 : L3 284 = L3 284 := rfl
  have p285 : L3 285 = L3 285 := rfl
  refine g_iconst C 0 dX11_tallyWays_4 (by decide) ?_
  refine g_istore_n C [(1, .int 0), (0, .ref (ad 258))] dX11_tallyWays_5 (by decide) rfl ?_
  have zy4 : (0 : Int32).toInt = 0 := by decide
  refine g_loop (α := Int32 × MI × ML) (fun a => (11 - a.1.toInt).toNat) (fun a => (0 ≤ a.1.toInt) ∧ (a.1.toInt ≤ 10) ∧ IR a.2.1 ∧ (∀ k i, True → a.2.1 k i = M k i) ∧ (∀ k i, k ≠ 284 ∧ k ≠ 285 → a.2.2 k i = L k i)) (fun a => a.2.1) (fun a => a.2.2) (fun a => [(1, .int a.1), (0, .ref (ad 258))]) ((0 : Int32), M2, L3) ⟨by show 0 ≤ (0 : Int32).toInt; omega, by show (0 : Int32).toInt ≤ 10; omega, hI, hF, hG⟩ rfl rfl rfl ?_
  rintro ⟨x1_6, M_6, L_6⟩ ⟨j6_0, j6_1, hI, hF, hG⟩ ih_6
  dsimp only at j6_0 j6_1 hI hF hG ih_6 ⊢
  have p284 : L_6 284 = L_6 284 := rfl
  have p285 : L_6 285 = L_6 285 := rfl
  refine g_iload_n C 0 dX11_tallyWays_6 rfl ?_
  refine g_aload_n C 1 dX11_tallyWays_7 rfl ?_
  refine g_get C (.int (M_6 258 2)) 2 in_X11_tallyWays_11 (List.mem_of_getElem? (i := 1) rfl) (by decide) (ce_model ad cs _ _) rfl (by decide) rfl rfl dX11_tallyWays_8 ?_
  refine g_ni (fun v5 ev5 => ?_)
  have gv5 : v5 = M 258 2 := ev5.trans (hF 258 2 trivial)
  have tv5 := congrArg Int32.toInt gv5
  obtain ⟨bv5, dv5⟩ := (show rg 0 10 v5 from (by rw [ev5]; exact hI 258 2))
  refine g_icmp_ge C 105 dX11_tallyWays_11 (by decide) (fun c6 => ?_) (fun c6 => ?_)
  ·
    have f7 := fle rfl rfl c6
    exact g_vret C hr ⟨trivial, hI, hF, hG⟩ dX11_tallyWays_105
  ·
    have f8 := fnle rfl rfl c6
    refine g_iconst C 0 dX11_tallyWays_14 (by decide) ?_
    refine g_istore_n C [(2, .int 0), (1, .int x1_6), (0, .ref (ad 258))] dX11_tallyWays_15 (by decide) rfl ?_
    refine g_iconst C 0 dX11_tallyWays_16 (by decide) ?_
    refine g_istore_n C [(3, .int 0), (2, .int 0), (1, .int x1_6), (0, .ref (ad 258))] dX11_tallyWays_17 (by decide) rfl ?_
    have zy9 : (0 : Int32).toInt = 0 := by decide
    have zy10 : (0 : Int32).toInt = 0 := by decide
    refine g_loop (α := Int32 × Int32 × MI × ML) (fun a => (11 - a.1.toInt).toNat) (fun a => (0 ≤ a.1.toInt) ∧ (a.1.toInt ≤ 10) ∧ IR a.2.2.1 ∧ (∀ k i, True → a.2.2.1 k i = M k i) ∧ (∀ k i, k ≠ 284 ∧ k ≠ 285 → a.2.2.2 k i = L k i)) (fun a => a.2.2.1) (fun a => a.2.2.2) (fun a => [(3, .int a.1), (2, .int a.2.1), (1, .int x1_6), (0, .ref (ad 258))]) ((0 : Int32), (0 : Int32), M_6, L_6) ⟨by show 0 ≤ (0 : Int32).toInt; omega, by show (0 : Int32).toInt ≤ 10; omega, hI, hF, hG⟩ rfl rfl rfl ?_
    rintro ⟨x3_18, x2_18, M_18, L_18⟩ ⟨j18_0, j18_1, hI, hF, hG⟩ ih_18
    dsimp only at j18_0 j18_1 hI hF hG ih_18 ⊢
    have p284 : L_18 284 = L_18 284 := rfl
    have p285 : L_18 285 = L_18 285 := rfl
    refine g_iload_n C 0 dX11_tallyWays_18 rfl ?_
    refine g_aload_n C 3 dX11_tallyWays_19 rfl ?_
    refine g_get C (.int (M_18 258 2)) 2 in_X11_tallyWays_11 (List.mem_of_getElem? (i := 1) rfl) (by decide) (ce_model ad cs _ _) rfl (by decide) rfl rfl dX11_tallyWays_20 ?_
    refine g_ni (fun v11 ev11 => ?_)
    have gv11 : v11 = M 258 2 := ev11.trans (hF 258 2 trivial)
    have tv11 := congrArg Int32.toInt gv11
    obtain ⟨bv11, dv11⟩ := (show rg 0 10 v11 from (by rw [ev11]; exact hI 258 2))
    refine g_icmp_ge C 99 dX11_tallyWays_23 (by decide) (fun c12 => ?_) (fun c12 => ?_)
    ·
      have f13 := fle rfl rfl c12
      obtain ⟨v14, ev14⟩ : ∃ y : Int32, y = x1_6 + 1 := ⟨_, rfl⟩
      try have fv14 := fadd rfl (by decide : (1 : Int32).toInt = 1) ev14 (by as_aux_lemma => omega) (by as_aux_lemma => omega)
      refine g_iinc C 2 v14 [(1, .int v14), (3, .int x3_18), (2, .int x2_18), (0, .ref (ad 258))] dX11_tallyWays_99 rfl (by rw [ev14]; rfl) (by decide) rfl ?_
      refine g_goto C 6 dX11_tallyWays_102 (by decide) ?_
      refine g_lv [0, 3] [(1, .int v14), (0, .ref (ad 258))] rfl ?_
      exact ih_6 (v14, M_18, L_18) ⟨by show 0 ≤ v14.toInt; omega, by show v14.toInt ≤ 10; omega, hI, hF, hG⟩ (by show (11 - v14.toInt).toNat < (11 - x1_6.toInt).toNat; omega)
    ·
      have f15 := fnle rfl rfl c12
      refine g_aload_n C 3 dX11_tallyWays_26 rfl ?_
      refine g_get C (.ref (ad 282)) 36 in_X11_tallyWays_11 (List.mem_of_getElem? (i := 2) rfl) (by decide) (ce_model ad cs _ _) rfl (by decide) rfl rfl dX11_tallyWays_27 ?_
      refine g_iload_n C 2 dX11_tallyWays_30 rfl ?_
      refine g_zald C (by decide) (ce_m_isIn ad cs _ _) (fin' (n := 10) rfl (by as_aux_lemma => omega) (by as_aux_lemma => omega)) dX11_tallyWays_31 ?_
      refine g_ni (fun v16 ev16 => ?_)
      have gv16 : v16 = M 282 x1_6.toNatClampNeg := ev16.trans (hF 282 x1_6.toNatClampNeg trivial)
      have tv16 := congrArg Int32.toInt gv16
      refine g_if_eq C 99 dX11_tallyWays_32 (by decide) (fun c17 => ?_) (fun c17 => ?_)
      ·
        have f18 := feq rfl (by decide : (0 : Int32).toInt = 0) c17
        obtain ⟨v19, ev19⟩ : ∃ y : Int32, y = x1_6 + 1 := ⟨_, rfl⟩
        try have fv19 := fadd rfl (by decide : (1 : Int32).toInt = 1) ev19 (by as_aux_lemma => omega) (by as_aux_lemma => omega)
        refine g_iinc C 2 v19 [(1, .int v19), (3, .int x3_18), (2, .int x2_18), (0, .ref (ad 258))] dX11_tallyWays_99 rfl (by rw [ev19]; rfl) (by decide) rfl ?_
        refine g_goto C 6 dX11_tallyWays_102 (by decide) ?_
        refine g_lv [0, 3] [(1, .int v19), (0, .ref (ad 258))] rfl ?_
        exact ih_6 (v19, M_18, L_18) ⟨by show 0 ≤ v19.toInt; omega, by show v19.toInt ≤ 10; omega, hI, hF, hG⟩ (by show (11 - v19.toInt).toNat < (11 - x1_6.toInt).toNat; omega)
      ·
        have f20 := fne rfl (by decide : (0 : Int32).toInt = 0) c17
        refine g_iload_n C 0 dX11_tallyWays_35 rfl ?_
        refine g_iload_n C 2 dX11_tallyWays_36 rfl ?_
        refine g_icmp_eq C 93 dX11_tallyWays_37 (by decide) (fun c21 => ?_) (fun c21 => ?_)
        ·
          have f22 := feq rfl rfl c21
          obtain ⟨v23, ev23⟩ : ∃ y : Int32, y = x3_18 + 1 := ⟨_, rfl⟩
          try have fv23 := fadd rfl (by decide : (1 : Int32).toInt = 1) ev23 (by as_aux_lemma => omega) (by as_aux_lemma => omega)
          refine g_iinc C 0 v23 [(3, .int v23), (2, .int x2_18), (1, .int x1_6), (0, .ref (ad 258))] dX11_tallyWays_93 rfl (by rw [ev23]; rfl) (by decide) rfl ?_
          refine g_goto C 18 dX11_tallyWays_96 (by decide) ?_
          exact ih_18 (v23, x2_18, M_18, L_18) ⟨by show 0 ≤ v23.toInt; omega, by show v23.toInt ≤ 10; omega, hI, hF, hG⟩ (by show (11 - v23.toInt).toNat < (11 - x3_18.toInt).toNat; omega)
        ·
          have f24 := fne rfl rfl c21
          refine g_aload_n C 3 dX11_tallyWays_40 rfl ?_
          refine g_get C (.ref (ad 282)) 36 in_X11_tallyWays_11 (List.mem_of_getElem? (i := 2) rfl) (by decide) (ce_model ad cs _ _) rfl (by decide) rfl rfl dX11_tallyWays_41 ?_
          refine g_iload_n C 0 dX11_tallyWays_44 rfl ?_
          refine g_zald C (by decide) (ce_m_isIn ad cs _ _) (fin' (n := 10) rfl (by as_aux_lemma => omega) (by as_aux_lemma => omega)) dX11_tallyWays_45 ?_
          refine g_ni (fun v25 ev25 => ?_)
          have gv25 : v25 = M 282 x3_18.toNatClampNeg := ev25.trans (hF 282 x3_18.toNatClampNeg trivial)
          have tv25 := congrArg Int32.toInt gv25
          refine g_if_eq C 93 dX11_tallyWays_46 (by decide) (fun c26 => ?_) (fun c26 => ?_)
          ·
            have f27 := feq rfl (by decide : (0 : Int32).toInt = 0) c26
            obtain ⟨v28, ev28⟩ : ∃ y : Int32, y = x3_18 + 1 := ⟨_, rfl⟩
            try have fv28 := fadd rfl (by decide : (1 : Int32).toInt = 1) ev28 (by as_aux_lemma => omega) (by as_aux_lemma => omega)
            refine g_iinc C 0 v28 [(3, .int v28), (2, .int x2_18), (1, .int x1_6), (0, .ref (ad 258))] dX11_tallyWays_93 rfl (by rw [ev28]; rfl) (by decide) rfl ?_
            refine g_goto C 18 dX11_tallyWays_96 (by decide) ?_
            exact ih_18 (v28, x2_18, M_18, L_18) ⟨by show 0 ≤ v28.toInt; omega, by show v28.toInt ≤ 10; omega, hI, hF, hG⟩ (by show (11 - v28.toInt).toNat < (11 - x3_18.toInt).toNat; omega)
          ·
            have f29 := fne rfl (by decide : (0 : Int32).toInt = 0) c26
            refine g_iload_n C 1 dX11_tallyWays_49 rfl ?_
            refine g_if_eq C 74 dX11_tallyWays_50 (by decide) (fun c30 => ?_) (fun c30 => ?_)
            ·
              have f31 := feq rfl (by decide : (0 : Int32).toInt = 0) c30
              refine g_aload_n C 3 dX11_tallyWays_74 rfl ?_
              refine g_get C (.ref (ad 284)) 38 in_X11_tallyWays_11 (List.mem_of_getElem? (i := 4) rfl) (by decide) (ce_model ad cs _ _) rfl (by decide) rfl rfl dX11_tallyWays_75 ?_
              refine g_iload_n C 2 dX11_tallyWays_78 rfl ?_
              refine g_aload_n C 3 dX11_tallyWays_79 rfl ?_
              refine g_get C (.ref (ad 296)) 52 in_X11_tallyWays_11 (List.mem_of_getElem? (i := 3) rfl) (by decide) (ce_model ad cs _ _) rfl (by decide) rfl rfl dX11_tallyWays_80 ?_
              refine g_bipush C 10 dX11_tallyWays_83 (by decide) ?_
              refine g_iload_n C 2 dX11_tallyWays_85 rfl ?_
              refine g_imul C dX11_tallyWays_86 ?_
              refine g_ni (fun v32 ev32 => ?_)
              try have fv32 := fmul (by decide : (10 : Int32).toInt = 10) rfl ev32 (by as_aux_lemma => omega) (by as_aux_lemma => omega)
              refine g_iload_n C 0 dX11_tallyWays_87 rfl ?_
              refine g_iadd C dX11_tallyWays_88 ?_
              refine g_ni (fun v33 ev33 => ?_)
              try have fv33 := fadd rfl rfl ev33 (by as_aux_lemma => omega) (by as_aux_lemma => omega)
              have nx1_6 := ixn (x := x1_6) (by as_aux_lemma => omega)
              have nx3_18 := ixn (x := x3_18) (by as_aux_lemma => omega)
              have nv33 := ixn (x := v33) (by as_aux_lemma => omega)
              have iv33 : v33.toNatClampNeg = 10 * x1_6.toNatClampNeg + x3_18.toNatClampNeg := by as_aux_lemma => omega
              refine g_lald C (by decide) (ce_m_way ad cs _ _) (fin' (n := 100) rfl (by as_aux_lemma => omega) (by as_aux_lemma => omega)) dX11_tallyWays_89 ?_
              refine g_nl (fun v34 ev34 => ?_)
              have gv34 : v34 = L 296 v33.toNatClampNeg := ev34.trans (hG 296 _ (by as_aux_lemma => omega))
              have gv34 := cg1L (f := L 296) gv34 iv33
              have tv34 := congrArg Int64.toInt gv34
              refine g_last C (by decide) (ce_m_ups ad cs _ _) (by rw [sJ_k]; rfl) (fin' (n := 10) rfl (by as_aux_lemma => omega) (by as_aux_lemma => omega)) dX11_tallyWays_90 ?_
              refine g_nmL (fun L35 hL35 => ?_)
              have hG : ∀ k i, k ≠ 284 ∧ k ≠ 285 → L35 k i = L k i := fun k i hk => by (rw [hL35, sJ_at, if_neg (by as_aux_lemma => omega)]; try exact hG k i hk)
              have p285 : L35 285 = L_18 285 := by rw [hL35, sJ_n _ _ _ (by decide)]; try exact p285
              refine g_iconst C 1 dX11_tallyWays_91 (by decide) ?_
              refine g_istore_n C [(2, .int 1), (3, .int x3_18), (1, .int x1_6), (0, .ref (ad 258))] dX11_tallyWays_92 (by decide) rfl ?_
              obtain ⟨v36, ev36⟩ : ∃ y : Int32, y = x3_18 + 1 := ⟨_, rfl⟩
              try have fv36 := fadd rfl (by decide : (1 : Int32).toInt = 1) ev36 (by as_aux_lemma => omega) (by as_aux_lemma => omega)
              refine g_iinc C 1 v36 [(3, .int v36), (2, .int 1), (1, .int x1_6), (0, .ref (ad 258))] dX11_tallyWays_93 rfl (by rw [ev36]; rfl) (by decide) rfl ?_
              refine g_goto C 18 dX11_tallyWays_96 (by decide) ?_
              have zy37 : (1 : Int32).toInt = 1 := by decide
              exact ih_18 (v36, 1, M_18, L35) ⟨by show 0 ≤ v36.toInt; omega, by show v36.toInt ≤ 10; omega, hI, hF, hG⟩ (by show (11 - v36.toInt).toNat < (11 - x3_18.toInt).toNat; omega)
            ·
              have f38 := fne rfl (by decide : (0 : Int32).toInt = 0) c30
              refine g_aload_n C 3 dX11_tallyWays_53 rfl ?_
              refine g_get C (.ref (ad 296)) 52 in_X11_tallyWays_11 (List.mem_of_getElem? (i := 3) rfl) (by decide) (ce_model ad cs _ _) rfl (by decide) rfl rfl dX11_tallyWays_54 ?_
              refine g_bipush C 10 dX11_tallyWays_57 (by decide) ?_
              refine g_iload_n C 2 dX11_tallyWays_59 rfl ?_
              refine g_imul C dX11_tallyWays_60 ?_
              refine g_ni (fun v39 ev39 => ?_)
              try have fv39 := fmul (by decide : (10 : Int32).toInt = 10) rfl ev39 (by as_aux_lemma => omega) (by as_aux_lemma => omega)
              refine g_iload_n C 0 dX11_tallyWays_61 rfl ?_
              refine g_iadd C dX11_tallyWays_62 ?_
              refine g_ni (fun v40 ev40 => ?_)
              try have fv40 := fadd rfl rfl ev40 (by as_aux_lemma => omega) (by as_aux_lemma => omega)
              have nx1_6 := ixn (x := x1_6) (by as_aux_lemma => omega)
              have nx3_18 := ixn (x := x3_18) (by as_aux_lemma => omega)
              have nv40 := ixn (x := v40) (by as_aux_lemma => omega)
              have iv40 : v40.toNatClampNeg = 10 * x1_6.toNatClampNeg + x3_18.toNatClampNeg := by as_aux_lemma => omega
              refine g_lald C (by decide) (ce_m_way ad cs _ _) (fin' (n := 100) rfl (by as_aux_lemma => omega) (by as_aux_lemma => omega)) dX11_tallyWays_63 ?_
              refine g_nl (fun v41 ev41 => ?_)
              have gv41 : v41 = L 296 v40.toNatClampNeg := ev41.trans (hG 296 _ (by as_aux_lemma => omega))
              have gv41 := cg1L (f := L 296) gv41 iv40
              have tv41 := congrArg Int64.toInt gv41
              refine g_aload_n C 3 dX11_tallyWays_64 rfl ?_
              refine g_get C (.ref (ad 284)) 38 in_X11_tallyWays_11 (List.mem_of_getElem? (i := 4) rfl) (by decide) (ce_model ad cs _ _) rfl (by decide) rfl rfl dX11_tallyWays_65 ?_
              refine g_iload_n C 2 dX11_tallyWays_68 rfl ?_
              refine g_lald C (by decide) (ce_m_ups ad cs _ _) (fin' (n := 10) rfl (by as_aux_lemma => omega) (by as_aux_lemma => omega)) dX11_tallyWays_69 ?_
              refine g_nl (fun v42 ev42 => ?_)
              have gv42 : v42 = L_18 284 x1_6.toNatClampNeg := ev42.trans (congrFun p284 _)
              have tv42 := congrArg Int64.toInt gv42
              refine g_lcmp C dX11_tallyWays_70 ?_
              refine g_ni (fun v43 ev43 => ?_)
              refine g_if_ge C 93 dX11_tallyWays_71 (by decide) (fun c44 => ?_) (fun c44 => ?_)
              ·
                have f45 := cge rfl rfl ev43 c44
                obtain ⟨v46, ev46⟩ : ∃ y : Int32, y = x3_18 + 1 := ⟨_, rfl⟩
                try have fv46 := fadd rfl (by decide : (1 : Int32).toInt = 1) ev46 (by as_aux_lemma => omega) (by as_aux_lemma => omega)
                refine g_iinc C 0 v46 [(3, .int v46), (2, .int x2_18), (1, .int x1_6), (0, .ref (ad 258))] dX11_tallyWays_93 rfl (by rw [ev46]; rfl) (by decide) rfl ?_
                refine g_goto C 18 dX11_tallyWays_96 (by decide) ?_
                exact ih_18 (v46, x2_18, M_18, L_18) ⟨by show 0 ≤ v46.toInt; omega, by show v46.toInt ≤ 10; omega, hI, hF, hG⟩ (by show (11 - v46.toInt).toNat < (11 - x3_18.toInt).toNat; omega)
              ·
                have f47 := cnge rfl rfl ev43 c44
                refine g_aload_n C 3 dX11_tallyWays_74 rfl ?_
                refine g_get C (.ref (ad 284)) 38 in_X11_tallyWays_11 (List.mem_of_getElem? (i := 4) rfl) (by decide) (ce_model ad cs _ _) rfl (by decide) rfl rfl dX11_tallyWays_75 ?_
                refine g_iload_n C 2 dX11_tallyWays_78 rfl ?_
                refine g_aload_n C 3 dX11_tallyWays_79 rfl ?_
                refine g_get C (.ref (ad 296)) 52 in_X11_tallyWays_11 (List.mem_of_getElem? (i := 3) rfl) (by decide) (ce_model ad cs _ _) rfl (by decide) rfl rfl dX11_tallyWays_80 ?_
                refine g_bipush C 10 dX11_tallyWays_83 (by decide) ?_
                refine g_iload_n C 2 dX11_tallyWays_85 rfl ?_
                refine g_imul C dX11_tallyWays_86 ?_
                refine g_ni (fun v48 ev48 => ?_)
                try have fv48 := fmul (by decide : (10 : Int32).toInt = 10) rfl ev48 (by as_aux_lemma => omega) (by as_aux_lemma => omega)
                refine g_iload_n C 0 dX11_tallyWays_87 rfl ?_
                refine g_iadd C dX11_tallyWays_88 ?_
                refine g_ni (fun v49 ev49 => ?_)
                try have fv49 := fadd rfl rfl ev49 (by as_aux_lemma => omega) (by as_aux_lemma => omega)
                have nx1_6 := ixn (x := x1_6) (by as_aux_lemma => omega)
                have nx3_18 := ixn (x := x3_18) (by as_aux_lemma => omega)
                have nv49 := ixn (x := v49) (by as_aux_lemma => omega)
                have iv49 : v49.toNatClampNeg = 10 * x1_6.toNatClampNeg + x3_18.toNatClampNeg := by as_aux_lemma => omega
                refine g_lald C (by decide) (ce_m_way ad cs _ _) (fin' (n := 100) rfl (by as_aux_lemma => omega) (by as_aux_lemma => omega)) dX11_tallyWays_89 ?_
                refine g_nl (fun v50 ev50 => ?_)
                have gv50 : v50 = L 296 v49.toNatClampNeg := ev50.trans (hG 296 _ (by as_aux_lemma => omega))
                have gv50 := cg1L (f := L 296) gv50 iv49
                have tv50 := congrArg Int64.toInt gv50
                refine g_last C (by decide) (ce_m_ups ad cs _ _) (by rw [sJ_k]; rfl) (fin' (n := 10) rfl (by as_aux_lemma => omega) (by as_aux_lemma => omega)) dX11_tallyWays_90 ?_
                refine g_nmL (fun L51 hL51 => ?_)
                have hG : ∀ k i, k ≠ 284 ∧ k ≠ 285 → L51 k i = L k i := fun k i hk => by (rw [hL51, sJ_at, if_neg (by as_aux_lemma => omega)]; try exact hG k i hk)
                have p285 : L51 285 = L_18 285 := by rw [hL51, sJ_n _ _ _ (by decide)]; try exact p285
                refine g_iconst C 1 dX11_tallyWays_91 (by decide) ?_
                refine g_istore_n C [(2, .int 1), (3, .int x3_18), (1, .int x1_6), (0, .ref (ad 258))] dX11_tallyWays_92 (by decide) rfl ?_
                obtain ⟨v52, ev52⟩ : ∃ y : Int32, y = x3_18 + 1 := ⟨_, rfl⟩
                try have fv52 := fadd rfl (by decide : (1 : Int32).toInt = 1) ev52 (by as_aux_lemma => omega) (by as_aux_lemma => omega)
                refine g_iinc C 1 v52 [(3, .int v52), (2, .int 1), (1, .int x1_6), (0, .ref (ad 258))] dX11_tallyWays_93 rfl (by rw [ev52]; rfl) (by decide) rfl ?_
                refine g_goto C 18 dX11_tallyWays_96 (by decide) ?_
                have zy53 : (1 : Int32).toInt = 1 := by decide
                exact ih_18 (v52, 1, M_18, L51) ⟨by show 0 ≤ v52.toInt; omega, by show v52.toInt ≤ 10; omega, hI, hF, hG⟩ (by show (11 - v52.toInt).toNat < (11 - x3_18.toInt).toNat; omega)
theorem dX11_isBeaten_0 : decode cX11_isBeaten 0 = .ok (.iconst 0, 1) := dw3 (n := 0) (i := 0) kc_cX11_isBeaten_0 (by decide +kernel)
theorem dX11_isBeaten_1 : decode cX11_isBeaten 1 = .ok (.istore_n 2, 1) := dw61 (n := 0) (i := 1) kc_cX11_isBeaten_0 (by decide +kernel)
theorem dX11_isBeaten_2 : decode cX11_isBeaten 2 = .ok (.iconst 0, 1) := dw3 (n := 0) (i := 2) kc_cX11_isBeaten_0 (by decide +kernel)
theorem dX11_isBeaten_3 : decode cX11_isBeaten 3 = .ok (.istore_n 3, 1) := dw62 (n := 0) (i := 3) kc_cX11_isBeaten_0 (by decide +kernel)
theorem dX11_isBeaten_4 : decode cX11_isBeaten 4 = .ok (.iload_n 3, 1) := dw29 (n := 0) (i := 4) kc_cX11_isBeaten_0 (by decide +kernel)
theorem dX11_isBeaten_5 : decode cX11_isBeaten 5 = .ok (.aload_n 0, 1) := dw42 (n := 0) (i := 5) kc_cX11_isBeaten_0 (by decide +kernel)
theorem dX11_isBeaten_6 : decode cX11_isBeaten 6 = .ok (.getfield 137, 3) := dw180 (n := 0) (i := 6) (a := 0) (b := 137) kc_cX11_isBeaten_0 (by decide +kernel) (by decide)
theorem in_X11_isBeaten_11 : ∀ w ∈ u_ws RX11 TX11 53, w ∈ wsX11_isBeaten := fun _ h => List.mem_cons_of_mem _ (List.mem_append_right _ h)
theorem dX11_isBeaten_9 : decode cX11_isBeaten 9 = .ok (.if_icmp .ge 59, 3) := dw162 (n := 0) (i := 9) (a := 0) (b := 59) kc_cX11_isBeaten_0 (by decide +kernel) (by decide)
theorem dX11_isBeaten_68 : decode cX11_isBeaten 68 = .ok (.iload_n 2, 1) := dw28 (n := 64) (i := 4) kc_cX11_isBeaten_2 (by decide +kernel)
theorem dX11_isBeaten_69 : decode cX11_isBeaten 69 = .ok (.ireturn, 1) := dw172 (n := 64) (i := 5) kc_cX11_isBeaten_2 (by decide +kernel)
theorem dX11_isBeaten_12 : decode cX11_isBeaten 12 = .ok (.iload_n 2, 1) := dw28 (n := 0) (i := 12) kc_cX11_isBeaten_0 (by decide +kernel)
theorem dX11_isBeaten_13 : decode cX11_isBeaten 13 = .ok (.ifCond .ne 43, 3) := dw154 (n := 0) (i := 13) (a := 0) (b := 43) kc_cX11_isBeaten_0 (by decide +kernel) (by decide)
theorem dX11_isBeaten_56 : decode cX11_isBeaten 56 = .ok (.iconst 1, 1) := dw4 (n := 32) (i := 24) kc_cX11_isBeaten_1 (by decide +kernel)
theorem dX11_isBeaten_57 : decode cX11_isBeaten 57 = .ok (.goto 4, 3) := dw167 (n := 32) (i := 25) (a := 0) (b := 4) kc_cX11_isBeaten_1 (by decide +kernel) (by decide)
theorem dX11_isBeaten_61 : decode cX11_isBeaten 61 = .ok (.istore_n 2, 1) := dw61 (n := 32) (i := 29) kc_cX11_isBeaten_1 (by decide +kernel)
theorem dX11_isBeaten_62 : decode cX11_isBeaten 62 = .ok (.iinc 3 1, 3) := by decide +kernel
theorem dX11_isBeaten_65 : decode cX11_isBeaten 65 = .ok (.goto (-61), 3) := dw167 (n := 64) (i := 1) (a := 255) (b := 195) kc_cX11_isBeaten_2 (by decide +kernel) (by decide)
theorem dX11_isBeaten_16 : decode cX11_isBeaten 16 = .ok (.iload_n 3, 1) := dw29 (n := 0) (i := 16) kc_cX11_isBeaten_0 (by decide +kernel)
theorem dX11_isBeaten_17 : decode cX11_isBeaten 17 = .ok (.iload_n 1, 1) := dw27 (n := 0) (i := 17) kc_cX11_isBeaten_0 (by decide +kernel)
theorem dX11_isBeaten_18 : decode cX11_isBeaten 18 = .ok (.if_icmp .eq 42, 3) := dw159 (n := 0) (i := 18) (a := 0) (b := 42) kc_cX11_isBeaten_0 (by decide +kernel) (by decide)
theorem dX11_isBeaten_60 : decode cX11_isBeaten 60 = .ok (.iconst 0, 1) := dw3 (n := 32) (i := 28) kc_cX11_isBeaten_1 (by decide +kernel)
theorem dX11_isBeaten_21 : decode cX11_isBeaten 21 = .ok (.aload_n 0, 1) := dw42 (n := 0) (i := 21) kc_cX11_isBeaten_0 (by decide +kernel)
theorem dX11_isBeaten_22 : decode cX11_isBeaten 22 = .ok (.getfield 81, 3) := dw180 (n := 0) (i := 22) (a := 0) (b := 81) kc_cX11_isBeaten_0 (by decide +kernel) (by decide)
theorem dX11_isBeaten_25 : decode cX11_isBeaten 25 = .ok (.iload_n 3, 1) := dw29 (n := 0) (i := 25) kc_cX11_isBeaten_0 (by decide +kernel)
theorem dX11_isBeaten_26 : decode cX11_isBeaten 26 = .ok (.baload, 1) := dw51 (n := 0) (i := 26) kc_cX11_isBeaten_0 (by decide +kernel)
theorem dX11_isBeaten_27 : decode cX11_isBeaten 27 = .ok (.ifCond .eq 33, 3) := dw153 (n := 0) (i := 27) (a := 0) (b := 33) kc_cX11_isBeaten_0 (by decide +kernel) (by decide)
theorem dX11_isBeaten_30 : decode cX11_isBeaten 30 = .ok (.aload_n 0, 1) := dw42 (n := 0) (i := 30) kc_cX11_isBeaten_0 (by decide +kernel)
theorem dX11_isBeaten_31 : decode cX11_isBeaten 31 = .ok (.getfield 123, 3) := dw180 (n := 0) (i := 31) (a := 0) (b := 123) kc_cX11_isBeaten_0 (by decide +kernel) (by decide)
theorem dX11_isBeaten_34 : decode cX11_isBeaten 34 = .ok (.bipush 10, 2) := dw16 (n := 32) (i := 2) (a := 10) kc_cX11_isBeaten_1 (by decide +kernel) (by decide)
theorem dX11_isBeaten_36 : decode cX11_isBeaten 36 = .ok (.iload_n 3, 1) := dw29 (n := 32) (i := 4) kc_cX11_isBeaten_1 (by decide +kernel)
theorem dX11_isBeaten_37 : decode cX11_isBeaten 37 = .ok (.imul, 1) := dw104 (n := 32) (i := 5) kc_cX11_isBeaten_1 (by decide +kernel)
theorem dX11_isBeaten_38 : decode cX11_isBeaten 38 = .ok (.iload_n 1, 1) := dw27 (n := 32) (i := 6) kc_cX11_isBeaten_1 (by decide +kernel)
theorem dX11_isBeaten_39 : decode cX11_isBeaten 39 = .ok (.iadd, 1) := dw96 (n := 32) (i := 7) kc_cX11_isBeaten_1 (by decide +kernel)
theorem dX11_isBeaten_40 : decode cX11_isBeaten 40 = .ok (.laload, 1) := dw47 (n := 32) (i := 8) kc_cX11_isBeaten_1 (by decide +kernel)
theorem dX11_isBeaten_41 : decode cX11_isBeaten 41 = .ok (.aload_n 0, 1) := dw42 (n := 32) (i := 9) kc_cX11_isBeaten_1 (by decide +kernel)
theorem dX11_isBeaten_42 : decode cX11_isBeaten 42 = .ok (.getfield 123, 3) := dw180 (n := 32) (i := 10) (a := 0) (b := 123) kc_cX11_isBeaten_1 (by decide +kernel) (by decide)
theorem dX11_isBeaten_45 : decode cX11_isBeaten 45 = .ok (.bipush 10, 2) := dw16 (n := 32) (i := 13) (a := 10) kc_cX11_isBeaten_1 (by decide +kernel) (by decide)
theorem dX11_isBeaten_47 : decode cX11_isBeaten 47 = .ok (.iload_n 1, 1) := dw27 (n := 32) (i := 15) kc_cX11_isBeaten_1 (by decide +kernel)
theorem dX11_isBeaten_48 : decode cX11_isBeaten 48 = .ok (.imul, 1) := dw104 (n := 32) (i := 16) kc_cX11_isBeaten_1 (by decide +kernel)
theorem dX11_isBeaten_49 : decode cX11_isBeaten 49 = .ok (.iload_n 3, 1) := dw29 (n := 32) (i := 17) kc_cX11_isBeaten_1 (by decide +kernel)
theorem dX11_isBeaten_50 : decode cX11_isBeaten 50 = .ok (.iadd, 1) := dw96 (n := 32) (i := 18) kc_cX11_isBeaten_1 (by decide +kernel)
theorem dX11_isBeaten_51 : decode cX11_isBeaten 51 = .ok (.laload, 1) := dw47 (n := 32) (i := 19) kc_cX11_isBeaten_1 (by decide +kernel)
theorem dX11_isBeaten_52 : decode cX11_isBeaten 52 = .ok (.lcmp, 1) := dw148 (n := 32) (i := 20) kc_cX11_isBeaten_1 (by decide +kernel)
theorem dX11_isBeaten_53 : decode cX11_isBeaten 53 = .ok (.ifCond .le 7, 3) := dw158 (n := 32) (i := 21) (a := 0) (b := 7) kc_cX11_isBeaten_1 (by decide +kernel) (by decide)
set_option maxHeartbeats 4000000 in
set_option maxRecDepth 100000 in
theorem s_X11_isBeaten (l : Launch) (D : va_G) (ad : Nat → Nat) (cs : Nat → ClassId) (M : MI) (L : ML) (x : Int32) (hI : IR M) (hx : 0 ≤ x.toInt ∧ x.toInt < 10) : Ci l yX11_isBeaten wsX11_isBeaten ({ frames := 0, cells := 0, slots := 0, locals := 0 }) D ad cs [.ref (ad 258), .int x] M L (fun r M1 L1 => M1 = M ∧ L1 = L ∧ (zo r (BT (M 282) (L 296) x.toNatClampNeg (M 258 2).toNatClampNeg))) := by
  refine enter_i RX11 rfl [(0, .ref (ad 258)), (1, .int x)] rfl (Nat.le_of_ble_eq_true rfl) (by decide +kernel) rfl ?_
  intro p e s m below meth c C hr
  have hF : ∀ k i, True → M k i = M k i := fun _ _ _ => rfl
  have hG : ∀ k i, True → L k i = L k i := fun _ _ _ => rfl
  obtain ⟨hx1, hx2⟩ := hx
  obtain ⟨ca, cb⟩ := (show rg 0 10 (M 258 2) from hI 258 2)
  have n02 := ixn ca
  obtain ⟨sa, sb⟩ := (show rg 0 30 (M 258 28) from hI 258 28)
  have nx := ixn (x := x) hx1
  refine g_iconst C 0 dX11_isBeaten_0 (by decide) ?_
  refine g_istore_n C [(2, .int 0), (0, .ref (ad 258)), (1, .int x)] dX11_isBeaten_1 (by decide) rfl ?_
  refine g_iconst C 0 dX11_isBeaten_2 (by decide) ?_
  refine g_istore_n C [(3, .int 0), (2, .int 0), (0, .ref (ad 258)), (1, .int x)] dX11_isBeaten_3 (by decide) rfl ?_
  have zy1 : (0 : Int32).toInt = 0 := by decide
  have zy2 : (0 : Int32).toInt = 0 := by decide
  refine g_loop (α := Int32 × Int32 × MI × ML) (fun a => (11 - a.1.toInt).toNat) (fun a => (0 ≤ a.1.toInt) ∧ (a.1.toInt ≤ (M 258 2).toInt) ∧ (zo a.2.1 (BT (M 282) (L 296) x.toNatClampNeg a.1.toNatClampNeg)) ∧ IR a.2.2.1 ∧ (∀ k i, True → a.2.2.1 k i = M k i) ∧ (∀ k i, True → a.2.2.2 k i = L k i)) (fun a => a.2.2.1) (fun a => a.2.2.2) (fun a => [(3, .int a.1), (2, .int a.2.1), (0, .ref (ad 258)), (1, .int x)]) ((0 : Int32), (0 : Int32), M, L) ⟨by show 0 ≤ (0 : Int32).toInt; omega, by show (0 : Int32).toInt ≤ (M 258 2).toInt; omega, by show zo (0 : Int32) (BT (M 282) (L 296) x.toNatClampNeg (0 : Int32).toNatClampNeg); exact Or.inr ⟨rfl, fun ⟨j, hj, _⟩ => absurd hj (by show ¬ j < 0; omega)⟩, hI, hF, hG⟩ rfl rfl rfl ?_
  rintro ⟨x3_4, x2_4, M_4, L_4⟩ ⟨j4_0, j4_1, j4_2, hI, hF, hG⟩ ih_4
  dsimp only at j4_0 j4_1 j4_2 hI hF hG ih_4 ⊢
  have n3 := ixn (x := x3_4) (by as_aux_lemma => omega)
  obtain ⟨bz1, bz2⟩ := zo_b j4_2
  refine g_iload_n C 0 dX11_isBeaten_4 rfl ?_
  refine g_aload_n C 2 dX11_isBeaten_5 rfl ?_
  refine g_get C (.int (M_4 258 2)) 2 in_X11_isBeaten_11 (List.mem_of_getElem? (i := 1) rfl) (by decide) (ce_model ad cs _ _) rfl (by decide) rfl rfl dX11_isBeaten_6 ?_
  refine g_ni (fun v3 ev3 => ?_)
  have gv3 : v3 = M 258 2 := ev3.trans (hF 258 2 trivial)
  have tv3 := congrArg Int32.toInt gv3
  obtain ⟨bv3, dv3⟩ := (show rg 0 10 v3 from (by rw [ev3]; exact hI 258 2))
  refine g_icmp_ge C 68 dX11_isBeaten_9 (by decide) (fun c4 => ?_) (fun c4 => ?_)
  ·
    have f5 := fle rfl rfl c4
    refine g_iload_n C 1 dX11_isBeaten_68 rfl ?_
    have hz9 := z_of (r := x2_4) (by as_aux_lemma => omega) (by as_aux_lemma => omega)
    exact g_zret C hr (by rcases hz9 with h9 | h9 <;> rw [h9] <;> rfl) ⟨funext (fun k => funext (fun i => hF k i trivial)), funext (fun k => funext (fun i => hG k i trivial)), (by have e9 : x3_4.toNatClampNeg = (M 258 2).toNatClampNeg := (by as_aux_lemma => omega); rw [e9] at j4_2; exact j4_2)⟩ dX11_isBeaten_69
  ·
    have f6 := fnle rfl rfl c4
    refine g_iload_n C 1 dX11_isBeaten_12 rfl ?_
    refine g_if_ne C 56 dX11_isBeaten_13 (by decide) (fun c7 => ?_) (fun c7 => ?_)
    ·
      have f8 := fne rfl (by decide : (0 : Int32).toInt = 0) c7
      refine g_iconst C 1 dX11_isBeaten_56 (by decide) ?_
      refine g_goto C 61 dX11_isBeaten_57 (by decide) ?_
      refine g_istore_n C [(2, .int 1), (3, .int x3_4), (0, .ref (ad 258)), (1, .int x)] dX11_isBeaten_61 (by decide) rfl ?_
      obtain ⟨v9, ev9⟩ : ∃ y : Int32, y = x3_4 + 1 := ⟨_, rfl⟩
      try have fv9 := fadd rfl (by decide : (1 : Int32).toInt = 1) ev9 (by as_aux_lemma => omega) (by as_aux_lemma => omega)
      refine g_iinc C 1 v9 [(3, .int v9), (2, .int 1), (0, .ref (ad 258)), (1, .int x)] dX11_isBeaten_62 rfl (by rw [ev9]; rfl) (by decide) rfl ?_
      refine g_goto C 4 dX11_isBeaten_65 (by decide) ?_
      have zy10 : (1 : Int32).toInt = 1 := by decide
      have nv := ixn (x := v9) (by as_aux_lemma => omega)
      have iv : v9.toNatClampNeg = x3_4.toNatClampNeg + 1 := by as_aux_lemma => omega
      exact ih_4 (v9, 1, M_4, L_4) ⟨by show 0 ≤ v9.toInt; omega, by show v9.toInt ≤ (M 258 2).toInt; omega, by show zo (1 : Int32) (BT (M 282) (L 296) x.toNatClampNeg v9.toNatClampNeg); rw [iv]; refine zo_i ?_ BT_s; first | exact Or.inl ⟨rfl, Or.inl (zo_tI j4_2 (by as_aux_lemma => omega))⟩ | exact Or.inl ⟨rfl, Or.inr ⟨by as_aux_lemma => omega, by as_aux_lemma => omega, by unfold wv; omega⟩⟩ | exact Or.inr ⟨rfl, fun h => h.elim (zo_fI j4_2 (by as_aux_lemma => omega)) (fun ⟨ha, hb, hc⟩ => by unfold wv at hc; omega)⟩, hI, hF, hG⟩ (by show (11 - v9.toInt).toNat < (11 - x3_4.toInt).toNat; omega)
    ·
      have f11 := feq rfl (by decide : (0 : Int32).toInt = 0) c7
      refine g_iload_n C 0 dX11_isBeaten_16 rfl ?_
      refine g_iload_n C 3 dX11_isBeaten_17 rfl ?_
      refine g_icmp_eq C 60 dX11_isBeaten_18 (by decide) (fun c12 => ?_) (fun c12 => ?_)
      ·
        have f13 := feq rfl rfl c12
        refine g_iconst C 0 dX11_isBeaten_60 (by decide) ?_
        refine g_istore_n C [(2, .int 0), (3, .int x3_4), (0, .ref (ad 258)), (1, .int x)] dX11_isBeaten_61 (by decide) rfl ?_
        obtain ⟨v14, ev14⟩ : ∃ y : Int32, y = x3_4 + 1 := ⟨_, rfl⟩
        try have fv14 := fadd rfl (by decide : (1 : Int32).toInt = 1) ev14 (by as_aux_lemma => omega) (by as_aux_lemma => omega)
        refine g_iinc C 1 v14 [(3, .int v14), (2, .int 0), (0, .ref (ad 258)), (1, .int x)] dX11_isBeaten_62 rfl (by rw [ev14]; rfl) (by decide) rfl ?_
        refine g_goto C 4 dX11_isBeaten_65 (by decide) ?_
        have zy15 : (0 : Int32).toInt = 0 := by decide
        have nv := ixn (x := v14) (by as_aux_lemma => omega)
        have iv : v14.toNatClampNeg = x3_4.toNatClampNeg + 1 := by as_aux_lemma => omega
        exact ih_4 (v14, 0, M_4, L_4) ⟨by show 0 ≤ v14.toInt; omega, by show v14.toInt ≤ (M 258 2).toInt; omega, by show zo (0 : Int32) (BT (M 282) (L 296) x.toNatClampNeg v14.toNatClampNeg); rw [iv]; refine zo_i ?_ BT_s; first | exact Or.inl ⟨rfl, Or.inl (zo_tI j4_2 (by as_aux_lemma => omega))⟩ | exact Or.inl ⟨rfl, Or.inr ⟨by as_aux_lemma => omega, by as_aux_lemma => omega, by unfold wv; omega⟩⟩ | exact Or.inr ⟨rfl, fun h => h.elim (zo_fI j4_2 (by as_aux_lemma => omega)) (fun ⟨ha, hb, hc⟩ => by unfold wv at hc; omega)⟩, hI, hF, hG⟩ (by show (11 - v14.toInt).toNat < (11 - x3_4.toInt).toNat; omega)
      ·
        have f16 := fne rfl rfl c12
        refine g_aload_n C 2 dX11_isBeaten_21 rfl ?_
        refine g_get C (.ref (ad 282)) 36 in_X11_isBeaten_11 (List.mem_of_getElem? (i := 2) rfl) (by decide) (ce_model ad cs _ _) rfl (by decide) rfl rfl dX11_isBeaten_22 ?_
        refine g_iload_n C 0 dX11_isBeaten_25 rfl ?_
        refine g_zald C (by decide) (ce_m_isIn ad cs _ _) (fin' (n := 10) rfl (by as_aux_lemma => omega) (by as_aux_lemma => omega)) dX11_isBeaten_26 ?_
        refine g_ni (fun v17 ev17 => ?_)
        have gv17 : v17 = M 282 x3_4.toNatClampNeg := ev17.trans (hF 282 x3_4.toNatClampNeg trivial)
        have tv17 := congrArg Int32.toInt gv17
        refine g_if_eq C 60 dX11_isBeaten_27 (by decide) (fun c18 => ?_) (fun c18 => ?_)
        ·
          have f19 := feq rfl (by decide : (0 : Int32).toInt = 0) c18
          refine g_iconst C 0 dX11_isBeaten_60 (by decide) ?_
          refine g_istore_n C [(2, .int 0), (3, .int x3_4), (0, .ref (ad 258)), (1, .int x)] dX11_isBeaten_61 (by decide) rfl ?_
          obtain ⟨v20, ev20⟩ : ∃ y : Int32, y = x3_4 + 1 := ⟨_, rfl⟩
          try have fv20 := fadd rfl (by decide : (1 : Int32).toInt = 1) ev20 (by as_aux_lemma => omega) (by as_aux_lemma => omega)
          refine g_iinc C 1 v20 [(3, .int v20), (2, .int 0), (0, .ref (ad 258)), (1, .int x)] dX11_isBeaten_62 rfl (by rw [ev20]; rfl) (by decide) rfl ?_
          refine g_goto C 4 dX11_isBeaten_65 (by decide) ?_
          have zy21 : (0 : Int32).toInt = 0 := by decide
          have nv := ixn (x := v20) (by as_aux_lemma => omega)
          have iv : v20.toNatClampNeg = x3_4.toNatClampNeg + 1 := by as_aux_lemma => omega
          exact ih_4 (v20, 0, M_4, L_4) ⟨by show 0 ≤ v20.toInt; omega, by show v20.toInt ≤ (M 258 2).toInt; omega, by show zo (0 : Int32) (BT (M 282) (L 296) x.toNatClampNeg v20.toNatClampNeg); rw [iv]; refine zo_i ?_ BT_s; first | exact Or.inl ⟨rfl, Or.inl (zo_tI j4_2 (by as_aux_lemma => omega))⟩ | exact Or.inl ⟨rfl, Or.inr ⟨by as_aux_lemma => omega, by as_aux_lemma => omega, by unfold wv; omega⟩⟩ | exact Or.inr ⟨rfl, fun h => h.elim (zo_fI j4_2 (by as_aux_lemma => omega)) (fun ⟨ha, hb, hc⟩ => by unfold wv at hc; omega)⟩, hI, hF, hG⟩ (by show (11 - v20.toInt).toNat < (11 - x3_4.toInt).toNat; omega)
        ·
          have f22 := fne rfl (by decide : (0 : Int32).toInt = 0) c18
          refine g_aload_n C 2 dX11_isBeaten_30 rfl ?_
          refine g_get C (.ref (ad 296)) 52 in_X11_isBeaten_11 (List.mem_of_getElem? (i := 3) rfl) (by decide) (ce_model ad cs _ _) rfl (by decide) rfl rfl dX11_isBeaten_31 ?_
          refine g_bipush C 10 dX11_isBeaten_34 (by decide) ?_
          refine g_iload_n C 0 dX11_isBeaten_36 rfl ?_
          refine g_imul C dX11_isBeaten_37 ?_
          refine g_ni (fun v23 ev23 => ?_)
          try have fv23 := fmul (by decide : (10 : Int32).toInt = 10) rfl ev23 (by as_aux_lemma => omega) (by as_aux_lemma => omega)
          refine g_iload_n C 3 dX11_isBeaten_38 rfl ?_
          refine g_iadd C dX11_isBeaten_39 ?_
          refine g_ni (fun v24 ev24 => ?_)
          try have fv24 := fadd rfl rfl ev24 (by as_aux_lemma => omega) (by as_aux_lemma => omega)
          have nx3_4 := ixn (x := x3_4) (by as_aux_lemma => omega)
          have nx := ixn (x := x) (by as_aux_lemma => omega)
          have nv24 := ixn (x := v24) (by as_aux_lemma => omega)
          have iv24 : v24.toNatClampNeg = 10 * x3_4.toNatClampNeg + x.toNatClampNeg := by as_aux_lemma => omega
          refine g_lald C (by decide) (ce_m_way ad cs _ _) (fin' (n := 100) rfl (by as_aux_lemma => omega) (by as_aux_lemma => omega)) dX11_isBeaten_40 ?_
          refine g_nl (fun v25 ev25 => ?_)
          have gv25 : v25 = L 296 v24.toNatClampNeg := ev25.trans (hG 296 _ trivial)
          have gv25 := cg1L (f := L 296) gv25 iv24
          have tv25 := congrArg Int64.toInt gv25
          refine g_aload_n C 2 dX11_isBeaten_41 rfl ?_
          refine g_get C (.ref (ad 296)) 52 in_X11_isBeaten_11 (List.mem_of_getElem? (i := 3) rfl) (by decide) (ce_model ad cs _ _) rfl (by decide) rfl rfl dX11_isBeaten_42 ?_
          refine g_bipush C 10 dX11_isBeaten_45 (by decide) ?_
          refine g_iload_n C 3 dX11_isBeaten_47 rfl ?_
          refine g_imul C dX11_isBeaten_48 ?_
          refine g_ni (fun v26 ev26 => ?_)
          try have fv26 := fmul (by decide : (10 : Int32).toInt = 10) rfl ev26 (by as_aux_lemma => omega) (by as_aux_lemma => omega)
          refine g_iload_n C 0 dX11_isBeaten_49 rfl ?_
          refine g_iadd C dX11_isBeaten_50 ?_
          refine g_ni (fun v27 ev27 => ?_)
          try have fv27 := fadd rfl rfl ev27 (by as_aux_lemma => omega) (by as_aux_lemma => omega)
          have nx := ixn (x := x) (by as_aux_lemma => omega)
          have nx3_4 := ixn (x := x3_4) (by as_aux_lemma => omega)
          have nv27 := ixn (x := v27) (by as_aux_lemma => omega)
          have iv27 : v27.toNatClampNeg = 10 * x.toNatClampNeg + x3_4.toNatClampNeg := by as_aux_lemma => omega
          refine g_lald C (by decide) (ce_m_way ad cs _ _) (fin' (n := 100) rfl (by as_aux_lemma => omega) (by as_aux_lemma => omega)) dX11_isBeaten_51 ?_
          refine g_nl (fun v28 ev28 => ?_)
          have gv28 : v28 = L 296 v27.toNatClampNeg := ev28.trans (hG 296 _ trivial)
          have gv28 := cg1L (f := L 296) gv28 iv27
          have tv28 := congrArg Int64.toInt gv28
          refine g_lcmp C dX11_isBeaten_52 ?_
          refine g_ni (fun v29 ev29 => ?_)
          refine g_if_le C 60 dX11_isBeaten_53 (by decide) (fun c30 => ?_) (fun c30 => ?_)
          ·
            have f31 := cle rfl rfl ev29 c30
            refine g_iconst C 0 dX11_isBeaten_60 (by decide) ?_
            refine g_istore_n C [(2, .int 0), (3, .int x3_4), (0, .ref (ad 258)), (1, .int x)] dX11_isBeaten_61 (by decide) rfl ?_
            obtain ⟨v32, ev32⟩ : ∃ y : Int32, y = x3_4 + 1 := ⟨_, rfl⟩
            try have fv32 := fadd rfl (by decide : (1 : Int32).toInt = 1) ev32 (by as_aux_lemma => omega) (by as_aux_lemma => omega)
            refine g_iinc C 1 v32 [(3, .int v32), (2, .int 0), (0, .ref (ad 258)), (1, .int x)] dX11_isBeaten_62 rfl (by rw [ev32]; rfl) (by decide) rfl ?_
            refine g_goto C 4 dX11_isBeaten_65 (by decide) ?_
            have zy33 : (0 : Int32).toInt = 0 := by decide
            have nv := ixn (x := v32) (by as_aux_lemma => omega)
            have iv : v32.toNatClampNeg = x3_4.toNatClampNeg + 1 := by as_aux_lemma => omega
            exact ih_4 (v32, 0, M_4, L_4) ⟨by show 0 ≤ v32.toInt; omega, by show v32.toInt ≤ (M 258 2).toInt; omega, by show zo (0 : Int32) (BT (M 282) (L 296) x.toNatClampNeg v32.toNatClampNeg); rw [iv]; refine zo_i ?_ BT_s; first | exact Or.inl ⟨rfl, Or.inl (zo_tI j4_2 (by as_aux_lemma => omega))⟩ | exact Or.inl ⟨rfl, Or.inr ⟨by as_aux_lemma => omega, by as_aux_lemma => omega, by unfold wv; omega⟩⟩ | exact Or.inr ⟨rfl, fun h => h.elim (zo_fI j4_2 (by as_aux_lemma => omega)) (fun ⟨ha, hb, hc⟩ => by unfold wv at hc; omega)⟩, hI, hF, hG⟩ (by show (11 - v32.toInt).toNat < (11 - x3_4.toInt).toNat; omega)
          ·
            have f34 := cnle rfl rfl ev29 c30
            refine g_iconst C 1 dX11_isBeaten_56 (by decide) ?_
            refine g_goto C 61 dX11_isBeaten_57 (by decide) ?_
            refine g_istore_n C [(2, .int 1), (3, .int x3_4), (0, .ref (ad 258)), (1, .int x)] dX11_isBeaten_61 (by decide) rfl ?_
            obtain ⟨v35, ev35⟩ : ∃ y : Int32, y = x3_4 + 1 := ⟨_, rfl⟩
            try have fv35 := fadd rfl (by decide : (1 : Int32).toInt = 1) ev35 (by as_aux_lemma => omega) (by as_aux_lemma => omega)
            refine g_iinc C 1 v35 [(3, .int v35), (2, .int 1), (0, .ref (ad 258)), (1, .int x)] dX11_isBeaten_62 rfl (by rw [ev35]; rfl) (by decide) rfl ?_
            refine g_goto C 4 dX11_isBeaten_65 (by decide) ?_
            have zy36 : (1 : Int32).toInt = 1 := by decide
            have nv := ixn (x := v35) (by as_aux_lemma => omega)
            have iv : v35.toNatClampNeg = x3_4.toNatClampNeg + 1 := by as_aux_lemma => omega
            exact ih_4 (v35, 1, M_4, L_4) ⟨by show 0 ≤ v35.toInt; omega, by show v35.toInt ≤ (M 258 2).toInt; omega, by show zo (1 : Int32) (BT (M 282) (L 296) x.toNatClampNeg v35.toNatClampNeg); rw [iv]; refine zo_i ?_ BT_s; first | exact Or.inl ⟨rfl, Or.inl (zo_tI j4_2 (by as_aux_lemma => omega))⟩ | exact Or.inl ⟨rfl, Or.inr ⟨by as_aux_lemma => omega, by as_aux_lemma => omega, by unfold wv; omega⟩⟩ | exact Or.inr ⟨rfl, fun h => h.elim (zo_fI j4_2 (by as_aux_lemma => omega)) (fun ⟨ha, hb, hc⟩ => by unfold wv at hc; omega)⟩, hI, hF, hG⟩ (by show (11 - v35.toInt).toNat < (11 - x3_4.toInt).toNat; omega)
