theorem dX11_lighten_0 : decode cX11_lighten 0 = .ok (.aload_n 0, 1) := dw42 (n := 0) (i := 0) kc_cX11_lighten_0 (by decide +kernel)
theorem dX11_lighten_1 : decode cX11_lighten 1 = .ok (.aload_n 0, 1) := dw42 (n := 0) (i := 1) kc_cX11_lighten_0 (by decide +kernel)
theorem dX11_lighten_2 : decode cX11_lighten 2 = .ok (.getfield 87, 3) := dw180 (n := 0) (i := 2) (a := 0) (b := 87) kc_cX11_lighten_0 (by decide +kernel) (by decide)
theorem in_X11_lighten_11 : ∀ w ∈ u_ws RX11 TX11 53, w ∈ wsX11_lighten := fun _ h => List.mem_cons_of_mem _ (List.mem_append_right _ h)
theorem dX11_lighten_5 : decode cX11_lighten 5 = .ok (.iload_n 1, 1) := dw27 (n := 0) (i := 5) kc_cX11_lighten_0 (by decide +kernel)
theorem dX11_lighten_6 : decode cX11_lighten 6 = .ok (.laload, 1) := dw47 (n := 0) (i := 6) kc_cX11_lighten_0 (by decide +kernel)
theorem dX11_lighten_7 : decode cX11_lighten 7 = .ok (.lload_n 2, 1) := dw32 (n := 0) (i := 7) kc_cX11_lighten_0 (by decide +kernel)
theorem dX11_lighten_8 : decode cX11_lighten 8 = .ok (.aload_n 0, 1) := dw42 (n := 0) (i := 8) kc_cX11_lighten_0 (by decide +kernel)
theorem dX11_lighten_9 : decode cX11_lighten 9 = .ok (.getfield 90, 3) := dw180 (n := 0) (i := 9) (a := 0) (b := 90) kc_cX11_lighten_0 (by decide +kernel) (by decide)
theorem dX11_lighten_12 : decode cX11_lighten 12 = .ok (.iload_n 1, 1) := dw27 (n := 0) (i := 12) kc_cX11_lighten_0 (by decide +kernel)
theorem dX11_lighten_13 : decode cX11_lighten 13 = .ok (.laload, 1) := dw47 (n := 0) (i := 13) kc_cX11_lighten_0 (by decide +kernel)
theorem dX11_lighten_14 : decode cX11_lighten 14 = .ok (.lmul, 1) := dw105 (n := 0) (i := 14) kc_cX11_lighten_0 (by decide +kernel)
theorem dX11_lighten_15 : decode cX11_lighten 15 = .ok (.lsub, 1) := dw101 (n := 0) (i := 15) kc_cX11_lighten_0 (by decide +kernel)
theorem dX11_lighten_16 : decode cX11_lighten 16 = .ok (.aload_n 0, 1) := dw42 (n := 0) (i := 16) kc_cX11_lighten_0 (by decide +kernel)
theorem dX11_lighten_17 : decode cX11_lighten 17 = .ok (.getfield 90, 3) := dw180 (n := 0) (i := 17) (a := 0) (b := 90) kc_cX11_lighten_0 (by decide +kernel) (by decide)
theorem dX11_lighten_20 : decode cX11_lighten 20 = .ok (.iload_n 1, 1) := dw27 (n := 0) (i := 20) kc_cX11_lighten_0 (by decide +kernel)
theorem dX11_lighten_21 : decode cX11_lighten 21 = .ok (.laload, 1) := dw47 (n := 0) (i := 21) kc_cX11_lighten_0 (by decide +kernel)
theorem dX11_lighten_22 : decode cX11_lighten 22 = .ok (.invokevirtual 204, 3) := dw182 (n := 0) (i := 22) (a := 0) (b := 204) kc_cX11_lighten_0 (by decide +kernel) (by decide)
set_option maxRecDepth 20000 in
theorem ggX11_lighten_X11_fraction : GoodIn wsX11_lighten wsX11_fraction := (gk_code 14 rfl (gk_fieldLink 4 rfl (gk_fieldLink 5 rfl (gk_fieldLink 3 rfl (gk_constantLong 15 rfl (gk_methodLink 16 rfl (gk_static 17 rfl (gk_initialized 13 rfl (gk_code 18 rfl (gk_lays 31 rfl (gk_laysFinal 32 rfl (gk_lays 33 rfl (gk_laysFinal 34 rfl (gk_lays 35 rfl (gk_laysFinal 36 rfl (gk_laysFinal 37 rfl (gk_laysFinal 38 rfl (gk_laysFinal 39 rfl (gk_lays 40 rfl (gk_laysFinal 41 rfl (gk_laysFinal 42 rfl (gk_laysFinal 43 rfl (gk_laysFinal 44 rfl (gk_lays 45 rfl (gk_laysFinal 46 rfl (gk_laysFinal 47 rfl (gk_laysFinal 48 rfl (gk_laysFinal 49 rfl (gk_laysFinal 50 rfl (gk_laysFinal 51 rfl (gk_laysFinal 52 rfl (gk_laysFinal 53 rfl (gk_lays 54 rfl (gk_lays 55 rfl (gk_lays 56 rfl (gk_lays 57 rfl (gk_lays 58 rfl (gk_lays 59 rfl (gk_lays 60 rfl (gk_laysFinal 61 rfl (gk_lays 62 rfl (gk_laysFinal 63 rfl (gk_laysFinal 64 rfl (gk_laysFinal 65 rfl (gk_laysFinal 66 rfl (gk_laysFinal 67 rfl (gk_laysFinal 68 rfl (gk_laysFinal 69 rfl (gk_laysFinal 70 rfl (gk_laysFinal 71 rfl (gk_laysFinal 72 rfl (gk_lays 73 rfl (gk_laysFinal 74 rfl (gk_lays 75 rfl (gk_laysFinal 76 rfl (gk_laysFinal 77 rfl (gk_laysFinal 78 rfl (gk_laysFinal 79 rfl (gk_laysFinal 80 rfl (gk_laysFinal 81 rfl (gk_laysFinal 82 rfl (gk_laysFinal 83 rfl (gn)))))))))))))))))))))))))))))))))))))))))))))))))))))))))))))))
set_option maxRecDepth 20000 in
theorem gX11_lighten_X11_fraction : GoodIn wsX11_lighten (wsV RX11 204 RX11 yX11_fraction wsX11_fraction) := goodIn_app (gk_methodLink 10 rfl (gk_instanceMethod 11 rfl (gk_selects 12 rfl (gk_initialized 13 rfl (gn))))) ggX11_lighten_X11_fraction
theorem dX11_lighten_25 : decode cX11_lighten 25 = .ok (.aload_n 0, 1) := dw42 (n := 0) (i := 25) kc_cX11_lighten_0 (by decide +kernel)
theorem dX11_lighten_26 : decode cX11_lighten 26 = .ok (.getfield 195, 3) := dw180 (n := 0) (i := 26) (a := 0) (b := 195) kc_cX11_lighten_0 (by decide +kernel) (by decide)
theorem dX11_lighten_29 : decode cX11_lighten 29 = .ok (.ifCond .ne 29, 3) := dw154 (n := 0) (i := 29) (a := 0) (b := 29) kc_cX11_lighten_0 (by decide +kernel) (by decide)
theorem dX11_lighten_58 : decode cX11_lighten 58 = .ok (.aload_n 0, 1) := dw42 (n := 32) (i := 26) kc_cX11_lighten_1 (by decide +kernel)
theorem dX11_lighten_59 : decode cX11_lighten 59 = .ok (.getfield 188, 3) := dw180 (n := 32) (i := 27) (a := 0) (b := 188) kc_cX11_lighten_1 (by decide +kernel) (by decide)
theorem dX11_lighten_62 : decode cX11_lighten 62 = .ok (.lstore 4, 2) := dw55 (n := 32) (i := 30) (a := 4) kc_cX11_lighten_1 (by decide +kernel) (by decide)
theorem dX11_lighten_64 : decode cX11_lighten 64 = .ok (.aload_n 0, 1) := dw42 (n := 64) (i := 0) kc_cX11_lighten_2 (by decide +kernel)
theorem dX11_lighten_65 : decode cX11_lighten 65 = .ok (.getfield 192, 3) := dw180 (n := 64) (i := 1) (a := 0) (b := 192) kc_cX11_lighten_2 (by decide +kernel) (by decide)
theorem dX11_lighten_68 : decode cX11_lighten 68 = .ok (.lstore 6, 2) := dw55 (n := 64) (i := 4) (a := 6) kc_cX11_lighten_2 (by decide +kernel) (by decide)
theorem dX11_lighten_70 : decode cX11_lighten 70 = .ok (.iconst 0, 1) := dw3 (n := 64) (i := 6) kc_cX11_lighten_2 (by decide +kernel)
theorem dX11_lighten_71 : decode cX11_lighten 71 = .ok (.istore 8, 2) := dw54 (n := 64) (i := 7) (a := 8) kc_cX11_lighten_2 (by decide +kernel) (by decide)
theorem dX11_lighten_73 : decode cX11_lighten 73 = .ok (.iload 8, 2) := dw21 (n := 64) (i := 9) (a := 8) kc_cX11_lighten_2 (by decide +kernel) (by decide)
theorem dX11_lighten_75 : decode cX11_lighten 75 = .ok (.aload_n 0, 1) := dw42 (n := 64) (i := 11) kc_cX11_lighten_2 (by decide +kernel)
theorem dX11_lighten_76 : decode cX11_lighten 76 = .ok (.getfield 31, 3) := dw180 (n := 64) (i := 12) (a := 0) (b := 31) kc_cX11_lighten_2 (by decide +kernel) (by decide)
theorem dX11_lighten_79 : decode cX11_lighten 79 = .ok (.aload_n 0, 1) := dw42 (n := 64) (i := 15) kc_cX11_lighten_2 (by decide +kernel)
theorem dX11_lighten_80 : decode cX11_lighten 80 = .ok (.getfield 201, 3) := dw180 (n := 64) (i := 16) (a := 0) (b := 201) kc_cX11_lighten_2 (by decide +kernel) (by decide)
theorem dX11_lighten_83 : decode cX11_lighten 83 = .ok (.iaload, 1) := dw46 (n := 64) (i := 19) kc_cX11_lighten_2 (by decide +kernel)
theorem dX11_lighten_84 : decode cX11_lighten 84 = .ok (.if_icmp .ge 87, 3) := dw162 (n := 64) (i := 20) (a := 0) (b := 87) kc_cX11_lighten_2 (by decide +kernel) (by decide)
theorem dX11_lighten_171 : decode cX11_lighten 171 = .ok (.return_, 1) := dw177 (n := 160) (i := 11) kc_cX11_lighten_5 (by decide +kernel)
theorem dX11_lighten_87 : decode cX11_lighten 87 = .ok (.aload_n 0, 1) := dw42 (n := 64) (i := 23) kc_cX11_lighten_2 (by decide +kernel)
theorem dX11_lighten_88 : decode cX11_lighten 88 = .ok (.getfield 195, 3) := dw180 (n := 64) (i := 24) (a := 0) (b := 195) kc_cX11_lighten_2 (by decide +kernel) (by decide)
theorem dX11_lighten_91 : decode cX11_lighten 91 = .ok (.ifCond .ne 80, 3) := dw154 (n := 64) (i := 27) (a := 0) (b := 80) kc_cX11_lighten_2 (by decide +kernel) (by decide)
theorem dX11_lighten_94 : decode cX11_lighten 94 = .ok (.aload_n 0, 1) := dw42 (n := 64) (i := 30) kc_cX11_lighten_2 (by decide +kernel)
theorem dX11_lighten_95 : decode cX11_lighten 95 = .ok (.iload 8, 2) := dw21 (n := 64) (i := 31) (a := 8) kc_cX11_lighten_2 (by decide +kernel) (by decide)
theorem dX11_lighten_97 : decode cX11_lighten 97 = .ok (.invokevirtual 217, 3) := dw182 (n := 96) (i := 1) (a := 0) (b := 217) kc_cX11_lighten_3 (by decide +kernel) (by decide)
set_option maxRecDepth 20000 in
theorem ggX11_lighten_X11_ballotAt : GoodIn wsX11_lighten wsX11_ballotAt := (gk_code 22 rfl (gk_fieldLink 23 rfl (gk_fieldLink 7 rfl (gk_lays 31 rfl (gk_laysFinal 32 rfl (gk_lays 33 rfl (gk_laysFinal 34 rfl (gk_lays 35 rfl (gk_laysFinal 36 rfl (gk_laysFinal 37 rfl (gk_laysFinal 38 rfl (gk_laysFinal 39 rfl (gk_lays 40 rfl (gk_laysFinal 41 rfl (gk_laysFinal 42 rfl (gk_laysFinal 43 rfl (gk_laysFinal 44 rfl (gk_lays 45 rfl (gk_laysFinal 46 rfl (gk_laysFinal 47 rfl (gk_laysFinal 48 rfl (gk_laysFinal 49 rfl (gk_laysFinal 50 rfl (gk_laysFinal 51 rfl (gk_laysFinal 52 rfl (gk_laysFinal 53 rfl (gk_lays 54 rfl (gk_lays 55 rfl (gk_lays 56 rfl (gk_lays 57 rfl (gk_lays 58 rfl (gk_lays 59 rfl (gk_lays 60 rfl (gk_laysFinal 61 rfl (gk_lays 62 rfl (gk_laysFinal 63 rfl (gk_laysFinal 64 rfl (gk_laysFinal 65 rfl (gk_laysFinal 66 rfl (gk_laysFinal 67 rfl (gk_laysFinal 68 rfl (gk_laysFinal 69 rfl (gk_laysFinal 70 rfl (gk_laysFinal 71 rfl (gk_laysFinal 72 rfl (gk_lays 73 rfl (gk_laysFinal 74 rfl (gk_lays 75 rfl (gk_laysFinal 76 rfl (gk_laysFinal 77 rfl (gk_laysFinal 78 rfl (gk_laysFinal 79 rfl (gk_laysFinal 80 rfl (gk_laysFinal 81 rfl (gk_laysFinal 82 rfl (gk_laysFinal 83 rfl (gn)))))))))))))))))))))))))))))))))))))))))))))))))))))))))
set_option maxRecDepth 20000 in
theorem gX11_lighten_X11_ballotAt : GoodIn wsX11_lighten (wsV RX11 217 RX11 yX11_ballotAt wsX11_ballotAt) := goodIn_app (gk_methodLink 19 rfl (gk_instanceMethod 20 rfl (gk_selects 21 rfl (gk_initialized 13 rfl (gn))))) ggX11_lighten_X11_ballotAt
theorem dX11_lighten_100 : decode cX11_lighten 100 = .ok (.istore 9, 2) := dw54 (n := 96) (i := 4) (a := 9) kc_cX11_lighten_3 (by decide +kernel) (by decide)
theorem dX11_lighten_102 : decode cX11_lighten 102 = .ok (.iload 9, 2) := dw21 (n := 96) (i := 6) (a := 9) kc_cX11_lighten_3 (by decide +kernel) (by decide)
theorem dX11_lighten_104 : decode cX11_lighten 104 = .ok (.bipush (-9), 2) := dw16 (n := 96) (i := 8) (a := 247) kc_cX11_lighten_3 (by decide +kernel) (by decide)
theorem dX11_lighten_106 : decode cX11_lighten 106 = .ok (.if_icmp .eq 59, 3) := dw159 (n := 96) (i := 10) (a := 0) (b := 59) kc_cX11_lighten_3 (by decide +kernel) (by decide)
theorem dX11_lighten_165 : decode cX11_lighten 165 = .ok (.iinc 8 1, 3) := by decide +kernel
theorem dX11_lighten_168 : decode cX11_lighten 168 = .ok (.goto (-95), 3) := dw167 (n := 160) (i := 8) (a := 255) (b := 161) kc_cX11_lighten_5 (by decide +kernel) (by decide)
theorem dX11_lighten_109 : decode cX11_lighten 109 = .ok (.aload_n 0, 1) := dw42 (n := 96) (i := 13) kc_cX11_lighten_3 (by decide +kernel)
theorem dX11_lighten_110 : decode cX11_lighten 110 = .ok (.iload 9, 2) := dw21 (n := 96) (i := 14) (a := 9) kc_cX11_lighten_3 (by decide +kernel) (by decide)
theorem dX11_lighten_112 : decode cX11_lighten 112 = .ok (.invokevirtual 220, 3) := dw182 (n := 96) (i := 16) (a := 0) (b := 220) kc_cX11_lighten_3 (by decide +kernel) (by decide)
set_option maxRecDepth 20000 in
theorem ggX11_lighten_X11_firstOn : GoodIn wsX11_lighten wsX11_firstOn := (gk_code 27 rfl (gk_fieldLink 28 rfl (gk_fieldLink 29 rfl (gk_fieldLink 30 rfl (gk_lays 31 rfl (gk_laysFinal 32 rfl (gk_lays 33 rfl (gk_laysFinal 34 rfl (gk_lays 35 rfl (gk_laysFinal 36 rfl (gk_laysFinal 37 rfl (gk_laysFinal 38 rfl (gk_laysFinal 39 rfl (gk_lays 40 rfl (gk_laysFinal 41 rfl (gk_laysFinal 42 rfl (gk_laysFinal 43 rfl (gk_laysFinal 44 rfl (gk_lays 45 rfl (gk_laysFinal 46 rfl (gk_laysFinal 47 rfl (gk_laysFinal 48 rfl (gk_laysFinal 49 rfl (gk_laysFinal 50 rfl (gk_laysFinal 51 rfl (gk_laysFinal 52 rfl (gk_laysFinal 53 rfl (gk_lays 54 rfl (gk_lays 55 rfl (gk_lays 56 rfl (gk_lays 57 rfl (gk_lays 58 rfl (gk_lays 59 rfl (gk_lays 60 rfl (gk_laysFinal 61 rfl (gk_lays 62 rfl (gk_laysFinal 63 rfl (gk_laysFinal 64 rfl (gk_laysFinal 65 rfl (gk_laysFinal 66 rfl (gk_laysFinal 67 rfl (gk_laysFinal 68 rfl (gk_laysFinal 69 rfl (gk_laysFinal 70 rfl (gk_laysFinal 71 rfl (gk_laysFinal 72 rfl (gk_lays 73 rfl (gk_laysFinal 74 rfl (gk_lays 75 rfl (gk_laysFinal 76 rfl (gk_laysFinal 77 rfl (gk_laysFinal 78 rfl (gk_laysFinal 79 rfl (gk_laysFinal 80 rfl (gk_laysFinal 81 rfl (gk_laysFinal 82 rfl (gk_laysFinal 83 rfl (gn))))))))))))))))))))))))))))))))))))))))))))))))))))))))))
set_option maxRecDepth 20000 in
theorem gX11_lighten_X11_firstOn : GoodIn wsX11_lighten (wsV RX11 220 RX11 yX11_firstOn wsX11_firstOn) := goodIn_app (gk_methodLink 24 rfl (gk_instanceMethod 25 rfl (gk_selects 26 rfl (gk_initialized 13 rfl (gn))))) ggX11_lighten_X11_firstOn
theorem dX11_lighten_115 : decode cX11_lighten 115 = .ok (.iload_n 1, 1) := dw27 (n := 96) (i := 19) kc_cX11_lighten_3 (by decide +kernel)
theorem dX11_lighten_116 : decode cX11_lighten 116 = .ok (.if_icmp .ne 49, 3) := dw160 (n := 96) (i := 20) (a := 0) (b := 49) kc_cX11_lighten_3 (by decide +kernel) (by decide)
theorem dX11_lighten_119 : decode cX11_lighten 119 = .ok (.aload_n 0, 1) := dw42 (n := 96) (i := 23) kc_cX11_lighten_3 (by decide +kernel)
theorem dX11_lighten_120 : decode cX11_lighten 120 = .ok (.aload_n 0, 1) := dw42 (n := 96) (i := 24) kc_cX11_lighten_3 (by decide +kernel)
theorem dX11_lighten_121 : decode cX11_lighten 121 = .ok (.getfield 93, 3) := dw180 (n := 96) (i := 25) (a := 0) (b := 93) kc_cX11_lighten_3 (by decide +kernel) (by decide)
theorem dX11_lighten_124 : decode cX11_lighten 124 = .ok (.iload 8, 2) := dw21 (n := 96) (i := 28) (a := 8) kc_cX11_lighten_3 (by decide +kernel) (by decide)
theorem dX11_lighten_126 : decode cX11_lighten 126 = .ok (.laload, 1) := dw47 (n := 96) (i := 30) kc_cX11_lighten_3 (by decide +kernel)
theorem dX11_lighten_127 : decode cX11_lighten 127 = .ok (.lload 4, 2) := dw22 (n := 96) (i := 31) (a := 4) kc_cX11_lighten_3 (by decide +kernel) (by decide)
theorem dX11_lighten_129 : decode cX11_lighten 129 = .ok (.lmul, 1) := dw105 (n := 128) (i := 1) kc_cX11_lighten_4 (by decide +kernel)
theorem dX11_lighten_130 : decode cX11_lighten 130 = .ok (.aload_n 0, 1) := dw42 (n := 128) (i := 2) kc_cX11_lighten_4 (by decide +kernel)
theorem dX11_lighten_131 : decode cX11_lighten 131 = .ok (.getfield 96, 3) := dw180 (n := 128) (i := 3) (a := 0) (b := 96) kc_cX11_lighten_4 (by decide +kernel) (by decide)
theorem dX11_lighten_134 : decode cX11_lighten 134 = .ok (.iload 8, 2) := dw21 (n := 128) (i := 6) (a := 8) kc_cX11_lighten_4 (by decide +kernel) (by decide)
theorem dX11_lighten_136 : decode cX11_lighten 136 = .ok (.laload, 1) := dw47 (n := 128) (i := 8) kc_cX11_lighten_4 (by decide +kernel)
theorem dX11_lighten_137 : decode cX11_lighten 137 = .ok (.lload 6, 2) := dw22 (n := 128) (i := 9) (a := 6) kc_cX11_lighten_4 (by decide +kernel) (by decide)
theorem dX11_lighten_139 : decode cX11_lighten 139 = .ok (.lmul, 1) := dw105 (n := 128) (i := 11) kc_cX11_lighten_4 (by decide +kernel)
theorem dX11_lighten_140 : decode cX11_lighten 140 = .ok (.invokevirtual 204, 3) := dw182 (n := 128) (i := 12) (a := 0) (b := 204) kc_cX11_lighten_4 (by decide +kernel) (by decide)
theorem dX11_lighten_143 : decode cX11_lighten 143 = .ok (.aload_n 0, 1) := dw42 (n := 128) (i := 15) kc_cX11_lighten_4 (by decide +kernel)
theorem dX11_lighten_144 : decode cX11_lighten 144 = .ok (.getfield 93, 3) := dw180 (n := 128) (i := 16) (a := 0) (b := 93) kc_cX11_lighten_4 (by decide +kernel) (by decide)
theorem dX11_lighten_147 : decode cX11_lighten 147 = .ok (.iload 8, 2) := dw21 (n := 128) (i := 19) (a := 8) kc_cX11_lighten_4 (by decide +kernel) (by decide)
theorem dX11_lighten_149 : decode cX11_lighten 149 = .ok (.aload_n 0, 1) := dw42 (n := 128) (i := 21) kc_cX11_lighten_4 (by decide +kernel)
theorem dX11_lighten_150 : decode cX11_lighten 150 = .ok (.getfield 188, 3) := dw180 (n := 128) (i := 22) (a := 0) (b := 188) kc_cX11_lighten_4 (by decide +kernel) (by decide)
theorem dX11_lighten_153 : decode cX11_lighten 153 = .ok (.lastore, 1) := dw80 (n := 128) (i := 25) kc_cX11_lighten_4 (by decide +kernel)
theorem dX11_lighten_154 : decode cX11_lighten 154 = .ok (.aload_n 0, 1) := dw42 (n := 128) (i := 26) kc_cX11_lighten_4 (by decide +kernel)
theorem dX11_lighten_155 : decode cX11_lighten 155 = .ok (.getfield 96, 3) := dw180 (n := 128) (i := 27) (a := 0) (b := 96) kc_cX11_lighten_4 (by decide +kernel) (by decide)
theorem dX11_lighten_158 : decode cX11_lighten 158 = .ok (.iload 8, 2) := dw21 (n := 128) (i := 30) (a := 8) kc_cX11_lighten_4 (by decide +kernel) (by decide)
theorem dX11_lighten_160 : decode cX11_lighten 160 = .ok (.aload_n 0, 1) := dw42 (n := 160) (i := 0) kc_cX11_lighten_5 (by decide +kernel)
theorem dX11_lighten_161 : decode cX11_lighten 161 = .ok (.getfield 192, 3) := dw180 (n := 160) (i := 1) (a := 0) (b := 192) kc_cX11_lighten_5 (by decide +kernel) (by decide)
theorem dX11_lighten_164 : decode cX11_lighten 164 = .ok (.lastore, 1) := dw80 (n := 160) (i := 4) kc_cX11_lighten_5 (by decide +kernel)
theorem dX11_lighten_32 : decode cX11_lighten 32 = .ok (.aload_n 0, 1) := dw42 (n := 32) (i := 0) kc_cX11_lighten_1 (by decide +kernel)
theorem dX11_lighten_33 : decode cX11_lighten 33 = .ok (.aload_n 0, 1) := dw42 (n := 32) (i := 1) kc_cX11_lighten_1 (by decide +kernel)
theorem dX11_lighten_34 : decode cX11_lighten 34 = .ok (.getfield 188, 3) := dw180 (n := 32) (i := 2) (a := 0) (b := 188) kc_cX11_lighten_1 (by decide +kernel) (by decide)
theorem dX11_lighten_37 : decode cX11_lighten 37 = .ok (.aload_n 0, 1) := dw42 (n := 32) (i := 5) kc_cX11_lighten_1 (by decide +kernel)
theorem dX11_lighten_38 : decode cX11_lighten 38 = .ok (.getfield 90, 3) := dw180 (n := 32) (i := 6) (a := 0) (b := 90) kc_cX11_lighten_1 (by decide +kernel) (by decide)
theorem dX11_lighten_41 : decode cX11_lighten 41 = .ok (.iload_n 1, 1) := dw27 (n := 32) (i := 9) kc_cX11_lighten_1 (by decide +kernel)
theorem dX11_lighten_42 : decode cX11_lighten 42 = .ok (.laload, 1) := dw47 (n := 32) (i := 10) kc_cX11_lighten_1 (by decide +kernel)
theorem dX11_lighten_43 : decode cX11_lighten 43 = .ok (.lmul, 1) := dw105 (n := 32) (i := 11) kc_cX11_lighten_1 (by decide +kernel)
theorem dX11_lighten_44 : decode cX11_lighten 44 = .ok (.aload_n 0, 1) := dw42 (n := 32) (i := 12) kc_cX11_lighten_1 (by decide +kernel)
theorem dX11_lighten_45 : decode cX11_lighten 45 = .ok (.getfield 192, 3) := dw180 (n := 32) (i := 13) (a := 0) (b := 192) kc_cX11_lighten_1 (by decide +kernel) (by decide)
theorem dX11_lighten_48 : decode cX11_lighten 48 = .ok (.aload_n 0, 1) := dw42 (n := 32) (i := 16) kc_cX11_lighten_1 (by decide +kernel)
theorem dX11_lighten_49 : decode cX11_lighten 49 = .ok (.getfield 87, 3) := dw180 (n := 32) (i := 17) (a := 0) (b := 87) kc_cX11_lighten_1 (by decide +kernel) (by decide)
theorem dX11_lighten_52 : decode cX11_lighten 52 = .ok (.iload_n 1, 1) := dw27 (n := 32) (i := 20) kc_cX11_lighten_1 (by decide +kernel)
theorem dX11_lighten_53 : decode cX11_lighten 53 = .ok (.laload, 1) := dw47 (n := 32) (i := 21) kc_cX11_lighten_1 (by decide +kernel)
theorem dX11_lighten_54 : decode cX11_lighten 54 = .ok (.lmul, 1) := dw105 (n := 32) (i := 22) kc_cX11_lighten_1 (by decide +kernel)
theorem dX11_lighten_55 : decode cX11_lighten 55 = .ok (.invokevirtual 204, 3) := dw182 (n := 32) (i := 23) (a := 0) (b := 204) kc_cX11_lighten_1 (by decide +kernel) (by decide)
set_option maxHeartbeats 4000000 in
set_option maxRecDepth 100000 in
theorem s_X11_lighten (l : Launch) (D : va_G) (ad : Nat → Nat) (cs : Nat → ClassId) (M : MI) (L : ML) (x : Int32) (y : Int64) (hI : IR M) (hx : 0 ≤ x.toInt ∧ x.toInt < 10) (hq : 1 ≤ y.toInt ∧ y.toInt ≤ 4000001) (hW : WT L) (hs : (M 258 25).toInt = 0) (hk : okF (L 284 x.toNatClampNeg) (L 285 x.toNatClampNeg)) (hge : y.toInt * (L 285 x.toNatClampNeg).toInt ≤ (L 284 x.toNatClampNeg).toInt) : Cv l yX11_lighten wsX11_lighten ({ frames := 2, cells := 0, slots := 0, locals := 55 }) D ad cs [.ref (ad 258), .int x, .long y] M L (fun M1 L1 => ((M1 258 25).toInt = 0 → WT L1) ∧ IR M1 ∧ (∀ k i, ¬ (k = 258 ∧ i = 25) → M1 k i = M k i) ∧ ∀ k i, ¬ (k = 258 ∧ i = 23) ∧ ¬ (k = 258 ∧ i = 24) ∧ k ≠ 286 ∧ k ≠ 287 → L1 k i = L k i) := by
  refine enter_v RX11 rfl [(0, .ref (ad 258)), (1, .int x), (2, .long y)] rfl (Nat.le_of_ble_eq_true rfl) (by decide +kernel) rfl ?_
  intro p e s m below meth c C hr
  have hF : ∀ k i, ¬ (k = 258 ∧ i = 25) → M k i = M k i := fun _ _ _ => rfl
  have hG : ∀ k i, ¬ (k = 258 ∧ i = 23) ∧ ¬ (k = 258 ∧ i = 24) ∧ k ≠ 286 ∧ k ≠ 287 → L k i = L k i := fun _ _ _ => rfl
  obtain ⟨hx1, hx2⟩ := hx
  obtain ⟨hq1, hq2⟩ := hq
  unfold okF at hk
  obtain ⟨hk1, hk2, hk3, hk4⟩ := hk
  have nxx := ixn (x := x) hx1
  have hyd1 := mul_le9 (a := y.toInt) (b := (L 285 x.toNatClampNeg).toInt) (by omega) (by omega) (by omega) (by omega)
  have hyd2 := mul_pos9 (a := y.toInt) (b := (L 285 x.toNatClampNeg).toInt) (by omega) (by omega)
  have k25 : M 258 25 = M 258 25 := rfl
  have l23 : L 258 23 = L 258 23 := rfl
  have l24 : L 258 24 = L 258 24 := rfl
  have p286 : L 286 = L 286 := rfl
  have p287 : L 287 = L 287 := rfl
  refine g_aload_n C 0 dX11_lighten_0 rfl ?_
  refine g_aload_n C 0 dX11_lighten_1 rfl ?_
  refine g_get C (.ref (ad 284)) 38 in_X11_lighten_11 (List.mem_of_getElem? (i := 1) rfl) (by decide) (ce_model ad cs _ _) rfl (by decide) rfl rfl dX11_lighten_2 ?_
  refine g_iload_n C 1 dX11_lighten_5 rfl ?_
  refine g_lald C (by decide) (ce_m_ups ad cs _ _) (fin' (n := 10) rfl (by omega) (by omega)) dX11_lighten_6 ?_
  refine g_nl (fun v1 ev1 => ?_)
  have gv1 := ev1
  have tv1 := congrArg Int64.toInt gv1
  refine g_lload_n C 2 dX11_lighten_7 rfl ?_
  refine g_aload_n C 0 dX11_lighten_8 rfl ?_
  refine g_get C (.ref (ad 285)) 39 in_X11_lighten_11 (List.mem_of_getElem? (i := 2) rfl) (by decide) (ce_model ad cs _ _) rfl (by decide) rfl rfl dX11_lighten_9 ?_
  refine g_iload_n C 1 dX11_lighten_12 rfl ?_
  refine g_lald C (by decide) (ce_m_downs ad cs _ _) (fin' (n := 10) rfl (by omega) (by omega)) dX11_lighten_13 ?_
  refine g_nl (fun v2 ev2 => ?_)
  have gv2 := ev2
  have tv2 := congrArg Int64.toInt gv2
  refine g_lmul C dX11_lighten_14 ?_
  refine g_nl (fun v3 ev3 => ?_)
  try have fv3 := prodI ev3
  refine g_lsub C dX11_lighten_15 ?_
  refine g_nl (fun v4 ev4 => ?_)
  try have fv4 := flsub rfl rfl ev4 (by omega) (by omega)
  refine g_aload_n C 0 dX11_lighten_16 rfl ?_
  refine g_get C (.ref (ad 285)) 39 in_X11_lighten_11 (List.mem_of_getElem? (i := 2) rfl) (by decide) (ce_model ad cs _ _) rfl (by decide) rfl rfl dX11_lighten_17 ?_
  refine g_iload_n C 1 dX11_lighten_20 rfl ?_
  refine g_lald C (by decide) (ce_m_downs ad cs _ _) (fin' (n := 10) rfl (by omega) (by omega)) dX11_lighten_21 ?_
  refine g_nl (fun v5 ev5 => ?_)
  have gv5 := ev5
  have tv5 := congrArg Int64.toInt gv5
  rw [show v2.toInt = (L 285 x.toNatClampNeg).toInt by omega, bmod_id (by omega) (by omega)] at fv3
  have fA : v4.toInt = (L 284 x.toNatClampNeg).toInt - y.toInt * (L 285 x.toNatClampNeg).toInt := flsub (by omega) (by omega) ev4 (by omega) (by omega)
  refine g_callVv C (n := 2) (As := [.long v4, .long v5]) (st := []) (s_X11_fraction l D ad cs _ _ v4 v5 hI (fun h9 => by omega)) gX11_lighten_X11_fraction rfl rfl rfl (by decide +kernel) ⟨Nat.le_of_ble_eq_true rfl, Nat.le_of_ble_eq_true rfl⟩ rfl (Nat.le_of_ble_eq_true rfl) ⟨Nat.zero_le _, Nat.zero_le _⟩ (by decide) (ce_model ad cs _ _) rfl rfl dX11_lighten_22 (fun M7 L8 hr6 => ?_)
  obtain ⟨hr6, hI, hFr6, hGr6⟩ := hr6
  have hF : ∀ k i, ¬ (k = 258 ∧ i = 25) → M7 k i = M k i := fun k i hk => by (rw [hFr6 k i (by omega)]; try exact hF k i hk)
  have hG : ∀ k i, ¬ (k = 258 ∧ i = 23) ∧ ¬ (k = 258 ∧ i = 24) ∧ k ≠ 286 ∧ k ≠ 287 → L8 k i = L k i := fun k i hk => by (rw [hGr6 k i (by omega)]; try exact hG k i hk)
  have k25 : M7 258 25 = M7 258 25 := rfl
  have kt25 := congrArg Int32.toInt k25
  have l23 : L8 258 23 = L8 258 23 := rfl
  have l24 : L8 258 24 = L8 258 24 := rfl
  have p286 : L8 286 = L 286 := (funext (fun i => hGr6 286 i (by omega))).trans p286
  have p287 : L8 287 = L 287 := (funext (fun i => hGr6 287 i (by omega))).trans p287
  obtain ⟨hr61, hr62, hr63⟩ := hr6
  refine g_aload_n C 0 dX11_lighten_25 rfl ?_
  refine g_get C (.int (M7 258 25)) 25 in_X11_lighten_11 (List.mem_of_getElem? (i := 3) rfl) (by decide) (ce_model ad cs _ _) rfl (by decide) rfl rfl dX11_lighten_26 ?_
  refine g_ni (fun v9 ev9 => ?_)
  have gv9 : v9 = M7 258 25 := ev9.trans k25
  have tv9 := congrArg Int32.toInt gv9
  obtain ⟨bv9, dv9⟩ := (show rg 0 1 v9 from (by rw [ev9]; exact hI 258 25))
  refine g_if_ne C 58 dX11_lighten_29 (by decide) (fun c10 => ?_) (fun c10 => ?_)
  ·
    have f11 := fne rfl (by decide : (0 : Int32).toInt = 0) c10
    refine g_aload_n C 0 dX11_lighten_58 rfl ?_
    refine g_get C (.long (L8 258 23)) 23 in_X11_lighten_11 (List.mem_of_getElem? (i := 4) rfl) (by decide) (ce_model ad cs _ _) rfl (by decide) rfl rfl dX11_lighten_59 ?_
    refine g_nl (fun v12 ev12 => ?_)
    have gv12 : v12 = L8 258 23 := ev12.trans l23
    have tv12 := congrArg Int64.toInt gv12
    refine g_lstore C [(4, .long v12), (0, .ref (ad 258)), (1, .int x), (2, .long y)] dX11_lighten_62 (by decide) rfl ?_
    refine g_aload_n C 1 dX11_lighten_64 rfl ?_
    refine g_get C (.long (L8 258 24)) 24 in_X11_lighten_11 (List.mem_of_getElem? (i := 5) rfl) (by decide) (ce_model ad cs _ _) rfl (by decide) rfl rfl dX11_lighten_65 ?_
    refine g_nl (fun v13 ev13 => ?_)
    have gv13 : v13 = L8 258 24 := ev13.trans l24
    have tv13 := congrArg Int64.toInt gv13
    refine g_lstore C [(6, .long v13), (4, .long v12), (0, .ref (ad 258)), (1, .int x), (2, .long y)] dX11_lighten_68 (by decide) rfl ?_
    refine g_iconst C 0 dX11_lighten_70 (by decide) ?_
    refine g_istore C [(8, .int 0), (6, .long v13), (4, .long v12), (0, .ref (ad 258)), (1, .int x), (2, .long y)] dX11_lighten_71 (by decide) rfl ?_
    have zy14 : (0 : Int32).toInt = 0 := by decide
    have hok9 : (M7 258 25).toInt = 0 → okF v12 v13 := by
      intro h9
      first | (exfalso; omega) | (have s3 := hr62 h9; have s4 := hr63 (by omega) (by omega); unfold okF; omega)
    have hW9 : WT L8 := fun i hi => by rw [congrFun p286 i, congrFun p287 i]; exact hW i hi
    refine g_loop (α := Int32 × MI × ML) (fun a => (41 - a.1.toInt).toNat) (fun a => (0 ≤ a.1.toInt) ∧ (a.1.toInt ≤ 40) ∧ ((a.2.1 258 25).toInt = 0 → okF v12 v13 ∧ WT a.2.2) ∧ IR a.2.1 ∧ (∀ k i, ¬ (k = 258 ∧ i = 25) → a.2.1 k i = M k i) ∧ (∀ k i, ¬ (k = 258 ∧ i = 23) ∧ ¬ (k = 258 ∧ i = 24) ∧ k ≠ 286 ∧ k ≠ 287 → a.2.2 k i = L k i)) (fun a => a.2.1) (fun a => a.2.2) (fun a => [(8, .int a.1), (6, .long v13), (4, .long v12), (0, .ref (ad 258)), (1, .int x), (2, .long y)]) ((0 : Int32), M7, L8) ⟨by show 0 ≤ (0 : Int32).toInt; omega, by show (0 : Int32).toInt ≤ 40; omega, by show (M7 258 25).toInt = 0 → okF v12 v13 ∧ WT L8; exact fun h9 => ⟨hok9 h9, hW9⟩, hI, hF, hG⟩ rfl rfl rfl ?_
    rintro ⟨x8_73, M_73, L_73⟩ ⟨j73_0, j73_1, j73_2, hI, hF, hG⟩ ih_73
    dsimp only at j73_0 j73_1 j73_2 hI hF hG ih_73 ⊢
    have k25 : M_73 258 25 = M_73 258 25 := rfl
    have l23 : L_73 258 23 = L_73 258 23 := rfl
    have l24 : L_73 258 24 = L_73 258 24 := rfl
    have p286 : L_73 286 = L_73 286 := rfl
    have p287 : L_73 287 = L_73 287 := rfl
    refine g_iload C 0 dX11_lighten_73 rfl ?_
    refine g_aload_n C 3 dX11_lighten_75 rfl ?_
    refine g_get C (.ref (ad 266)) 11 in_X11_lighten_11 (List.mem_of_getElem? (i := 6) rfl) (by decide) (ce_model ad cs _ _) rfl (by decide) rfl rfl dX11_lighten_76 ?_
    refine g_aload_n C 3 dX11_lighten_79 rfl ?_
    refine g_get C (.int (M_73 258 27)) 27 in_X11_lighten_11 (List.mem_of_getElem? (i := 7) rfl) (by decide) (ce_model ad cs _ _) rfl (by decide) rfl rfl dX11_lighten_80 ?_
    refine g_ni (fun v15 ev15 => ?_)
    have gv15 : v15 = M 258 27 := ev15.trans (hF 258 27 (by omega))
    have tv15 := congrArg Int32.toInt gv15
    obtain ⟨bv15, dv15⟩ := (show rg 0 7 v15 from (by rw [ev15]; exact hI 258 27))
    refine g_iald C (by decide) (ce_m_boxSize ad cs _ _) (fin' (n := 8) rfl (by omega) (by omega)) dX11_lighten_83 ?_
    refine g_ni (fun v16 ev16 => ?_)
    have gv16 : v16 = M 266 v15.toNatClampNeg := ev16.trans (hF 266 v15.toNatClampNeg (by omega))
    have tv16 := congrArg Int32.toInt gv16
    obtain ⟨bv16, dv16⟩ := (show rg 0 40 v16 from (by rw [ev16]; exact hI 266 v15.toNatClampNeg))
    refine g_icmp_ge C 171 dX11_lighten_84 (by decide) (fun c17 => ?_) (fun c17 => ?_)
    ·
      have f18 := fle rfl rfl c17
      exact g_vret C hr ⟨(fun h9 => (j73_2 (by first | exact h9 | omega)).2), hI, hF, hG⟩ dX11_lighten_171
    ·
      have f19 := fnle rfl rfl c17
      refine g_aload_n C 3 dX11_lighten_87 rfl ?_
      refine g_get C (.int (M_73 258 25)) 25 in_X11_lighten_11 (List.mem_of_getElem? (i := 3) rfl) (by decide) (ce_model ad cs _ _) rfl (by decide) rfl rfl dX11_lighten_88 ?_
      refine g_ni (fun v20 ev20 => ?_)
      have gv20 : v20 = M_73 258 25 := ev20.trans k25
      have tv20 := congrArg Int32.toInt gv20
      obtain ⟨bv20, dv20⟩ := (show rg 0 1 v20 from (by rw [ev20]; exact hI 258 25))
      refine g_if_ne C 171 dX11_lighten_91 (by decide) (fun c21 => ?_) (fun c21 => ?_)
      ·
        have f22 := fne rfl (by decide : (0 : Int32).toInt = 0) c21
        exact g_vret C hr ⟨(fun h9 => (j73_2 (by first | exact h9 | omega)).2), hI, hF, hG⟩ dX11_lighten_171
      ·
        have f23 := feq rfl (by decide : (0 : Int32).toInt = 0) c21
        refine g_aload_n C 3 dX11_lighten_94 rfl ?_
        refine g_iload C 0 dX11_lighten_95 rfl ?_
        refine g_callVi C (n := 1) (As := [.int x8_73]) (st := []) (s_X11_ballotAt l D ad cs _ _ x8_73 hI ⟨by omega, by omega⟩) gX11_lighten_X11_ballotAt rfl rfl rfl (by decide +kernel) ⟨Nat.le_of_ble_eq_true rfl, Nat.le_of_ble_eq_true rfl⟩ rfl (Nat.le_of_ble_eq_true rfl) ⟨Nat.zero_le _, Nat.zero_le _⟩ (by decide) (ce_model ad cs _ _) rfl rfl dX11_lighten_97 (fun r24 M25 L26 hr24 => ?_)
        obtain ⟨hq1, hq2, hr24⟩ := hr24
        obtain rfl := hq1.symm
        obtain rfl := hq2.symm
        refine g_istore C [(9, .int r24), (8, .int x8_73), (6, .long v13), (4, .long v12), (0, .ref (ad 258)), (1, .int x), (2, .long y)] dX11_lighten_100 (by decide) rfl ?_
        refine g_iload C 0 dX11_lighten_102 rfl ?_
        refine g_bipush C (-9) dX11_lighten_104 (by decide) ?_
        refine g_icmp_eq C 165 dX11_lighten_106 (by decide) (fun c27 => ?_) (fun c27 => ?_)
        ·
          have f28 := feq rfl (by decide : ((-9) : Int32).toInt = (-9)) c27
          obtain ⟨v29, ev29⟩ : ∃ y : Int32, y = x8_73 + 1 := ⟨_, rfl⟩
          try have fv29 := fadd rfl (by decide : (1 : Int32).toInt = 1) ev29 (by omega) (by omega)
          refine g_iinc C 1 v29 [(8, .int v29), (9, .int r24), (6, .long v13), (4, .long v12), (0, .ref (ad 258)), (1, .int x), (2, .long y)] dX11_lighten_165 rfl (by rw [ev29]; rfl) (by decide) rfl ?_
          refine g_goto C 73 dX11_lighten_168 (by decide) ?_
          refine g_lv [0, 2, 3, 4, 5, 6] [(8, .int v29), (6, .long v13), (4, .long v12), (0, .ref (ad 258)), (1, .int x), (2, .long y)] rfl ?_
          have hend := j73_2
          exact ih_73 (v29, M_73, L_73) ⟨by show 0 ≤ v29.toInt; omega, by show v29.toInt ≤ 40; omega, by show (M_73 258 25).toInt = 0 → okF v12 v13 ∧ WT L_73; exact hend, hI, hF, hG⟩ (by show (41 - v29.toInt).toNat < (41 - x8_73.toInt).toNat; omega)
        ·
          have f30 := fne rfl (by decide : ((-9) : Int32).toInt = (-9)) c27
          refine g_aload_n C 4 dX11_lighten_109 rfl ?_
          refine g_iload C 0 dX11_lighten_110 rfl ?_
          refine g_callVi C (n := 1) (As := [.int r24]) (st := []) (s_X11_firstOn l D ad cs _ _ r24 hI ⟨by omega, by omega⟩) gX11_lighten_X11_firstOn rfl rfl rfl (by decide +kernel) ⟨Nat.le_of_ble_eq_true rfl, Nat.le_of_ble_eq_true rfl⟩ rfl (Nat.le_of_ble_eq_true rfl) ⟨Nat.zero_le _, Nat.zero_le _⟩ (by decide) (ce_model ad cs _ _) rfl rfl dX11_lighten_112 (fun r31 M32 L33 hr31 => ?_)
          obtain ⟨hq1, hq2, hr31⟩ := hr31
          obtain rfl := hq1.symm
          obtain rfl := hq2.symm
          refine g_iload_n C 5 dX11_lighten_115 rfl ?_
          refine g_icmp_ne C 165 dX11_lighten_116 (by decide) (fun c34 => ?_) (fun c34 => ?_)
          ·
            have f35 := fne rfl rfl c34
            obtain ⟨v36, ev36⟩ : ∃ y : Int32, y = x8_73 + 1 := ⟨_, rfl⟩
            try have fv36 := fadd rfl (by decide : (1 : Int32).toInt = 1) ev36 (by omega) (by omega)
            refine g_iinc C 1 v36 [(8, .int v36), (9, .int r24), (6, .long v13), (4, .long v12), (0, .ref (ad 258)), (1, .int x), (2, .long y)] dX11_lighten_165 rfl (by rw [ev36]; rfl) (by decide) rfl ?_
            refine g_goto C 73 dX11_lighten_168 (by decide) ?_
            refine g_lv [0, 2, 3, 4, 5, 6] [(8, .int v36), (6, .long v13), (4, .long v12), (0, .ref (ad 258)), (1, .int x), (2, .long y)] rfl ?_
            have hend := j73_2
            exact ih_73 (v36, M_73, L_73) ⟨by show 0 ≤ v36.toInt; omega, by show v36.toInt ≤ 40; omega, by show (M_73 258 25).toInt = 0 → okF v12 v13 ∧ WT L_73; exact hend, hI, hF, hG⟩ (by show (41 - v36.toInt).toNat < (41 - x8_73.toInt).toNat; omega)
          ·
            have f37 := feq rfl rfl c34
            have n8 := ixn (x := x8_73) (by omega)
            obtain ⟨hok, hww⟩ := j73_2 (by omega)
            unfold okF at hok
            have hw8 := hww x8_73.toNatClampNeg (by omega)
            unfold okF at hw8
            refine g_aload_n C 4 dX11_lighten_119 rfl ?_
            refine g_aload_n C 4 dX11_lighten_120 rfl ?_
            refine g_get C (.ref (ad 286)) 40 in_X11_lighten_11 (List.mem_of_getElem? (i := 8) rfl) (by decide) (ce_model ad cs _ _) rfl (by decide) rfl rfl dX11_lighten_121 ?_
            refine g_iload C 1 dX11_lighten_124 rfl ?_
            refine g_lald C (by decide) (ce_m_weightUp ad cs _ _) (fin' (n := 40) rfl (by omega) (by omega)) dX11_lighten_126 ?_
            refine g_nl (fun v38 ev38 => ?_)
            have gv38 : v38 = L_73 286 x8_73.toNatClampNeg := ev38.trans (congrFun p286 _)
            have tv38 := congrArg Int64.toInt gv38
            refine g_lload C 3 dX11_lighten_127 rfl ?_
            refine g_lmul C dX11_lighten_129 ?_
            refine g_nl (fun v39 ev39 => ?_)
            try have fv39 := prodI ev39
            refine g_aload_n C 4 dX11_lighten_130 rfl ?_
            refine g_get C (.ref (ad 287)) 41 in_X11_lighten_11 (List.mem_of_getElem? (i := 9) rfl) (by decide) (ce_model ad cs _ _) rfl (by decide) rfl rfl dX11_lighten_131 ?_
            refine g_iload C 1 dX11_lighten_134 rfl ?_
            refine g_lald C (by decide) (ce_m_weightDown ad cs _ _) (fin' (n := 40) rfl (by omega) (by omega)) dX11_lighten_136 ?_
            refine g_nl (fun v40 ev40 => ?_)
            have gv40 : v40 = L_73 287 x8_73.toNatClampNeg := ev40.trans (congrFun p287 _)
            have tv40 := congrArg Int64.toInt gv40
            refine g_lload C 2 dX11_lighten_137 rfl ?_
            refine g_lmul C dX11_lighten_139 ?_
            refine g_nl (fun v41 ev41 => ?_)
            try have fv41 := prodI ev41
            have m1 := mul_le9 (a := v38.toInt) (b := v12.toInt) (by omega) (by omega) (by omega) (by omega)
            have m2 := mul_le9 (a := v40.toInt) (b := v13.toInt) (by omega) (by omega) (by omega) (by omega)
            have m3 := mul_pos9 (a := v40.toInt) (b := v13.toInt) (by omega) (by omega)
            rw [bmod_id (by omega) (by omega)] at fv39 fv41
            refine g_callVv C (n := 2) (As := [.long v39, .long v41]) (st := []) (s_X11_fraction l D ad cs _ _ v39 v41 hI (fun h9 => by omega)) gX11_lighten_X11_fraction rfl rfl rfl (by decide +kernel) ⟨Nat.le_of_ble_eq_true rfl, Nat.le_of_ble_eq_true rfl⟩ rfl (Nat.le_of_ble_eq_true rfl) ⟨Nat.zero_le _, Nat.zero_le _⟩ (by decide) (ce_model ad cs _ _) rfl rfl dX11_lighten_140 (fun M43 L44 hr42 => ?_)
            obtain ⟨hr42, hI, hFr42, hGr42⟩ := hr42
            have hF : ∀ k i, ¬ (k = 258 ∧ i = 25) → M43 k i = M k i := fun k i hk => by (rw [hFr42 k i (by omega)]; try exact hF k i hk)
            have hG : ∀ k i, ¬ (k = 258 ∧ i = 23) ∧ ¬ (k = 258 ∧ i = 24) ∧ k ≠ 286 ∧ k ≠ 287 → L44 k i = L k i := fun k i hk => by (rw [hGr42 k i (by omega)]; try exact hG k i hk)
            have k25 : M43 258 25 = M43 258 25 := rfl
            have kt25 := congrArg Int32.toInt k25
            have l23 : L44 258 23 = L44 258 23 := rfl
            have l24 : L44 258 24 = L44 258 24 := rfl
            have p286 : L44 286 = L_73 286 := (funext (fun i => hGr42 286 i (by omega))).trans p286
            have p287 : L44 287 = L_73 287 := (funext (fun i => hGr42 287 i (by omega))).trans p287
            obtain ⟨hr421, hr422, hr423⟩ := hr42
            refine g_aload_n C 4 dX11_lighten_143 rfl ?_
            refine g_get C (.ref (ad 286)) 40 in_X11_lighten_11 (List.mem_of_getElem? (i := 8) rfl) (by decide) (ce_model ad cs _ _) rfl (by decide) rfl rfl dX11_lighten_144 ?_
            refine g_iload C 1 dX11_lighten_147 rfl ?_
            refine g_aload_n C 4 dX11_lighten_149 rfl ?_
            refine g_get C (.long (L44 258 23)) 23 in_X11_lighten_11 (List.mem_of_getElem? (i := 4) rfl) (by decide) (ce_model ad cs _ _) rfl (by decide) rfl rfl dX11_lighten_150 ?_
            refine g_nl (fun v45 ev45 => ?_)
            have gv45 : v45 = L44 258 23 := ev45.trans l23
            have tv45 := congrArg Int64.toInt gv45
            refine g_last C (by decide) (ce_m_weightUp ad cs _ _) (by rw [sJ_k]; rfl) (fin' (n := 40) rfl (by omega) (by omega)) dX11_lighten_153 ?_
            refine g_nmL (fun L46 hL46 => ?_)
            have hG : ∀ k i, ¬ (k = 258 ∧ i = 23) ∧ ¬ (k = 258 ∧ i = 24) ∧ k ≠ 286 ∧ k ≠ 287 → L46 k i = L k i := fun k i hk => by (rw [hL46, sJ_at, if_neg (by omega)]; try exact hG k i hk)
            have l23 : L46 258 23 = L44 258 23 := by rw [hL46, sJ_n _ _ _ (by decide)]; try exact l23
            have l24 : L46 258 24 = L44 258 24 := by rw [hL46, sJ_n _ _ _ (by decide)]; try exact l24
            have p287 : L46 287 = L_73 287 := by rw [hL46, sJ_n _ _ _ (by decide)]; try exact p287
            refine g_aload_n C 4 dX11_lighten_154 rfl ?_
            refine g_get C (.ref (ad 287)) 41 in_X11_lighten_11 (List.mem_of_getElem? (i := 9) rfl) (by decide) (ce_model ad cs _ _) rfl (by decide) rfl rfl dX11_lighten_155 ?_
            refine g_iload C 1 dX11_lighten_158 rfl ?_
            refine g_aload_n C 4 dX11_lighten_160 rfl ?_
            refine g_get C (.long (L46 258 24)) 24 in_X11_lighten_11 (List.mem_of_getElem? (i := 5) rfl) (by decide) (ce_model ad cs _ _) rfl (by decide) rfl rfl dX11_lighten_161 ?_
            refine g_nl (fun v47 ev47 => ?_)
            have gv47 : v47 = L44 258 24 := ev47.trans l24
            have tv47 := congrArg Int64.toInt gv47
            refine g_last C (by decide) (ce_m_weightDown ad cs _ _) (by rw [sJ_k]; rfl) (fin' (n := 40) rfl (by omega) (by omega)) dX11_lighten_164 ?_
            refine g_nmL (fun L48 hL48 => ?_)
            have hG : ∀ k i, ¬ (k = 258 ∧ i = 23) ∧ ¬ (k = 258 ∧ i = 24) ∧ k ≠ 286 ∧ k ≠ 287 → L48 k i = L k i := fun k i hk => by (rw [hL48, sJ_at, if_neg (by omega)]; try exact hG k i hk)
            have l23 : L48 258 23 = L44 258 23 := by rw [hL48, sJ_n _ _ _ (by decide)]; try exact l23
            have l24 : L48 258 24 = L44 258 24 := by rw [hL48, sJ_n _ _ _ (by decide)]; try exact l24
            obtain ⟨v49, ev49⟩ : ∃ y : Int32, y = x8_73 + 1 := ⟨_, rfl⟩
            try have fv49 := fadd rfl (by decide : (1 : Int32).toInt = 1) ev49 (by omega) (by omega)
            refine g_iinc C 1 v49 [(8, .int v49), (9, .int r24), (6, .long v13), (4, .long v12), (0, .ref (ad 258)), (1, .int x), (2, .long y)] dX11_lighten_165 rfl (by rw [ev49]; rfl) (by decide) rfl ?_
            refine g_goto C 73 dX11_lighten_168 (by decide) ?_
            refine g_lv [0, 2, 3, 4, 5, 6] [(8, .int v49), (6, .long v13), (4, .long v12), (0, .ref (ad 258)), (1, .int x), (2, .long y)] rfl ?_
            have ha : ∀ c : Nat, L48 286 c = if c = x8_73.toNatClampNeg then v45 else L_73 286 c := by
              intro c
              rw [hL48, sJ_n _ _ _ (by decide), hL46, sJ_at]
              by_cases e9 : c = x8_73.toNatClampNeg
              · rw [if_pos ⟨rfl, e9⟩, if_pos e9]
              · rw [if_neg (fun h => e9 h.2), if_neg e9]; exact congrFun p286 c
            have hb : ∀ c : Nat, L48 287 c = if c = x8_73.toNatClampNeg then v47 else L_73 287 c := by
              intro c
              rw [hL48, sJ_at]
              by_cases e9 : c = x8_73.toNatClampNeg
              · rw [if_pos ⟨rfl, e9⟩, if_pos e9]
              · rw [if_neg (fun h => e9 h.2), if_neg e9]; exact congrFun p287 c
            have hend : (M43 258 25).toInt = 0 → okF v12 v13 ∧ WT L48 := by
              intro h9
              have s3 := hr422 h9
              have s4 := hr423 (by omega) (by omega)
              refine ⟨by unfold okF; exact hok, fun c hc => ?_⟩
              rw [ha, hb]
              by_cases e9 : c = x8_73.toNatClampNeg
              · rw [if_pos e9, if_pos e9]; unfold okF; omega
              · rw [if_neg e9, if_neg e9]; exact hww c hc
            exact ih_73 (v49, M43, L48) ⟨by show 0 ≤ v49.toInt; omega, by show v49.toInt ≤ 40; omega, by show (M43 258 25).toInt = 0 → okF v12 v13 ∧ WT L48; exact hend, hI, hF, hG⟩ (by show (41 - v49.toInt).toNat < (41 - x8_73.toInt).toNat; omega)
  ·
    have f50 := feq rfl (by decide : (0 : Int32).toInt = 0) c10
    have s1 := hr62 (by omega)
    have s2 := hr63 (by omega) (by omega)
    refine g_aload_n C 0 dX11_lighten_32 rfl ?_
    refine g_aload_n C 0 dX11_lighten_33 rfl ?_
    refine g_get C (.long (L8 258 23)) 23 in_X11_lighten_11 (List.mem_of_getElem? (i := 4) rfl) (by decide) (ce_model ad cs _ _) rfl (by decide) rfl rfl dX11_lighten_34 ?_
    refine g_nl (fun v51 ev51 => ?_)
    have gv51 : v51 = L8 258 23 := ev51.trans l23
    have tv51 := congrArg Int64.toInt gv51
    refine g_aload_n C 0 dX11_lighten_37 rfl ?_
    refine g_get C (.ref (ad 285)) 39 in_X11_lighten_11 (List.mem_of_getElem? (i := 2) rfl) (by decide) (ce_model ad cs _ _) rfl (by decide) rfl rfl dX11_lighten_38 ?_
    refine g_iload_n C 1 dX11_lighten_41 rfl ?_
    refine g_lald C (by decide) (ce_m_downs ad cs _ _) (fin' (n := 10) rfl (by omega) (by omega)) dX11_lighten_42 ?_
    refine g_nl (fun v52 ev52 => ?_)
    have gv52 : v52 = L 285 x.toNatClampNeg := ev52.trans (hG 285 _ (by omega))
    have tv52 := congrArg Int64.toInt gv52
    refine g_lmul C dX11_lighten_43 ?_
    refine g_nl (fun v53 ev53 => ?_)
    try have fv53 := prodI ev53
    refine g_aload_n C 0 dX11_lighten_44 rfl ?_
    refine g_get C (.long (L8 258 24)) 24 in_X11_lighten_11 (List.mem_of_getElem? (i := 5) rfl) (by decide) (ce_model ad cs _ _) rfl (by decide) rfl rfl dX11_lighten_45 ?_
    refine g_nl (fun v54 ev54 => ?_)
    have gv54 : v54 = L8 258 24 := ev54.trans l24
    have tv54 := congrArg Int64.toInt gv54
    refine g_aload_n C 0 dX11_lighten_48 rfl ?_
    refine g_get C (.ref (ad 284)) 38 in_X11_lighten_11 (List.mem_of_getElem? (i := 1) rfl) (by decide) (ce_model ad cs _ _) rfl (by decide) rfl rfl dX11_lighten_49 ?_
    refine g_iload_n C 1 dX11_lighten_52 rfl ?_
    refine g_lald C (by decide) (ce_m_ups ad cs _ _) (fin' (n := 10) rfl (by omega) (by omega)) dX11_lighten_53 ?_
    refine g_nl (fun v55 ev55 => ?_)
    have gv55 : v55 = L 284 x.toNatClampNeg := ev55.trans (hG 284 _ (by omega))
    have tv55 := congrArg Int64.toInt gv55
    refine g_lmul C dX11_lighten_54 ?_
    refine g_nl (fun v56 ev56 => ?_)
    try have fv56 := prodI ev56
    have m1 := mul_le9 (a := v51.toInt) (b := v52.toInt) (by omega) (by omega) (by omega) (by omega)
    have m2 := mul_le9 (a := v54.toInt) (b := v55.toInt) (by omega) (by omega) (by omega) (by omega)
    have m3 := mul_pos9 (a := v54.toInt) (b := v55.toInt) (by omega) (by omega)
    rw [bmod_id (by omega) (by omega)] at fv53 fv56
    refine g_callVv C (n := 2) (As := [.long v53, .long v56]) (st := []) (s_X11_fraction l D ad cs _ _ v53 v56 hI (fun h9 => by omega)) gX11_lighten_X11_fraction rfl rfl rfl (by decide +kernel) ⟨Nat.le_of_ble_eq_true rfl, Nat.le_of_ble_eq_true rfl⟩ rfl (Nat.le_of_ble_eq_true rfl) ⟨Nat.zero_le _, Nat.zero_le _⟩ (by decide) (ce_model ad cs _ _) rfl rfl dX11_lighten_55 (fun M58 L59 hr57 => ?_)
    obtain ⟨hr57, hI, hFr57, hGr57⟩ := hr57
    have hF : ∀ k i, ¬ (k = 258 ∧ i = 25) → M58 k i = M k i := fun k i hk => by (rw [hFr57 k i (by omega)]; try exact hF k i hk)
    have hG : ∀ k i, ¬ (k = 258 ∧ i = 23) ∧ ¬ (k = 258 ∧ i = 24) ∧ k ≠ 286 ∧ k ≠ 287 → L59 k i = L k i := fun k i hk => by (rw [hGr57 k i (by omega)]; try exact hG k i hk)
    have k25 : M58 258 25 = M58 258 25 := rfl
    have kt25 := congrArg Int32.toInt k25
    have l23 : L59 258 23 = L59 258 23 := rfl
    have l24 : L59 258 24 = L59 258 24 := rfl
    have p286 : L59 286 = L 286 := (funext (fun i => hGr57 286 i (by omega))).trans p286
    have p287 : L59 287 = L 287 := (funext (fun i => hGr57 287 i (by omega))).trans p287
    obtain ⟨hr571, hr572, hr573⟩ := hr57
    refine g_aload_n C 0 dX11_lighten_58 rfl ?_
    refine g_get C (.long (L59 258 23)) 23 in_X11_lighten_11 (List.mem_of_getElem? (i := 4) rfl) (by decide) (ce_model ad cs _ _) rfl (by decide) rfl rfl dX11_lighten_59 ?_
    refine g_nl (fun v60 ev60 => ?_)
    have gv60 : v60 = L59 258 23 := ev60.trans l23
    have tv60 := congrArg Int64.toInt gv60
    refine g_lstore C [(4, .long v60), (0, .ref (ad 258)), (1, .int x), (2, .long y)] dX11_lighten_62 (by decide) rfl ?_
    refine g_aload_n C 1 dX11_lighten_64 rfl ?_
    refine g_get C (.long (L59 258 24)) 24 in_X11_lighten_11 (List.mem_of_getElem? (i := 5) rfl) (by decide) (ce_model ad cs _ _) rfl (by decide) rfl rfl dX11_lighten_65 ?_
    refine g_nl (fun v61 ev61 => ?_)
    have gv61 : v61 = L59 258 24 := ev61.trans l24
    have tv61 := congrArg Int64.toInt gv61
    refine g_lstore C [(6, .long v61), (4, .long v60), (0, .ref (ad 258)), (1, .int x), (2, .long y)] dX11_lighten_68 (by decide) rfl ?_
    refine g_iconst C 0 dX11_lighten_70 (by decide) ?_
    refine g_istore C [(8, .int 0), (6, .long v61), (4, .long v60), (0, .ref (ad 258)), (1, .int x), (2, .long y)] dX11_lighten_71 (by decide) rfl ?_
    have zy62 : (0 : Int32).toInt = 0 := by decide
    have hok9 : (M58 258 25).toInt = 0 → okF v60 v61 := by
      intro h9
      first | (exfalso; omega) | (have s3 := hr572 h9; have s4 := hr573 (by omega) (by omega); unfold okF; omega)
    have hW9 : WT L59 := fun i hi => by rw [congrFun p286 i, congrFun p287 i]; exact hW i hi
    refine g_loop (α := Int32 × MI × ML) (fun a => (41 - a.1.toInt).toNat) (fun a => (0 ≤ a.1.toInt) ∧ (a.1.toInt ≤ 40) ∧ ((a.2.1 258 25).toInt = 0 → okF v60 v61 ∧ WT a.2.2) ∧ IR a.2.1 ∧ (∀ k i, ¬ (k = 258 ∧ i = 25) → a.2.1 k i = M k i) ∧ (∀ k i, ¬ (k = 258 ∧ i = 23) ∧ ¬ (k = 258 ∧ i = 24) ∧ k ≠ 286 ∧ k ≠ 287 → a.2.2 k i = L k i)) (fun a => a.2.1) (fun a => a.2.2) (fun a => [(8, .int a.1), (6, .long v61), (4, .long v60), (0, .ref (ad 258)), (1, .int x), (2, .long y)]) ((0 : Int32), M58, L59) ⟨by show 0 ≤ (0 : Int32).toInt; omega, by show (0 : Int32).toInt ≤ 40; omega, by show (M58 258 25).toInt = 0 → okF v60 v61 ∧ WT L59; exact fun h9 => ⟨hok9 h9, hW9⟩, hI, hF, hG⟩ rfl rfl rfl ?_
    rintro ⟨x8_73, M_73, L_73⟩ ⟨j73_0, j73_1, j73_2, hI, hF, hG⟩ ih_73
    dsimp only at j73_0 j73_1 j73_2 hI hF hG ih_73 ⊢
    have k25 : M_73 258 25 = M_73 258 25 := rfl
    have l23 : L_73 258 23 = L_73 258 23 := rfl
    have l24 : L_73 258 24 = L_73 258 24 := rfl
    have p286 : L_73 286 = L_73 286 := rfl
    have p287 : L_73 287 = L_73 287 := rfl
    refine g_iload C 0 dX11_lighten_73 rfl ?_
    refine g_aload_n C 3 dX11_lighten_75 rfl ?_
    refine g_get C (.ref (ad 266)) 11 in_X11_lighten_11 (List.mem_of_getElem? (i := 6) rfl) (by decide) (ce_model ad cs _ _) rfl (by decide) rfl rfl dX11_lighten_76 ?_
    refine g_aload_n C 3 dX11_lighten_79 rfl ?_
    refine g_get C (.int (M_73 258 27)) 27 in_X11_lighten_11 (List.mem_of_getElem? (i := 7) rfl) (by decide) (ce_model ad cs _ _) rfl (by decide) rfl rfl dX11_lighten_80 ?_
    refine g_ni (fun v63 ev63 => ?_)
    have gv63 : v63 = M 258 27 := ev63.trans (hF 258 27 (by omega))
    have tv63 := congrArg Int32.toInt gv63
    obtain ⟨bv63, dv63⟩ := (show rg 0 7 v63 from (by rw [ev63]; exact hI 258 27))
    refine g_iald C (by decide) (ce_m_boxSize ad cs _ _) (fin' (n := 8) rfl (by omega) (by omega)) dX11_lighten_83 ?_
    refine g_ni (fun v64 ev64 => ?_)
    have gv64 : v64 = M 266 v63.toNatClampNeg := ev64.trans (hF 266 v63.toNatClampNeg (by omega))
    have tv64 := congrArg Int32.toInt gv64
    obtain ⟨bv64, dv64⟩ := (show rg 0 40 v64 from (by rw [ev64]; exact hI 266 v63.toNatClampNeg))
    refine g_icmp_ge C 171 dX11_lighten_84 (by decide) (fun c65 => ?_) (fun c65 => ?_)
    ·
      have f66 := fle rfl rfl c65
      exact g_vret C hr ⟨(fun h9 => (j73_2 (by first | exact h9 | omega)).2), hI, hF, hG⟩ dX11_lighten_171
    ·
      have f67 := fnle rfl rfl c65
      refine g_aload_n C 3 dX11_lighten_87 rfl ?_
      refine g_get C (.int (M_73 258 25)) 25 in_X11_lighten_11 (List.mem_of_getElem? (i := 3) rfl) (by decide) (ce_model ad cs _ _) rfl (by decide) rfl rfl dX11_lighten_88 ?_
      refine g_ni (fun v68 ev68 => ?_)
      have gv68 : v68 = M_73 258 25 := ev68.trans k25
      have tv68 := congrArg Int32.toInt gv68
      obtain ⟨bv68, dv68⟩ := (show rg 0 1 v68 from (by rw [ev68]; exact hI 258 25))
      refine g_if_ne C 171 dX11_lighten_91 (by decide) (fun c69 => ?_) (fun c69 => ?_)
      ·
        have f70 := fne rfl (by decide : (0 : Int32).toInt = 0) c69
        exact g_vret C hr ⟨(fun h9 => (j73_2 (by first | exact h9 | omega)).2), hI, hF, hG⟩ dX11_lighten_171
      ·
        have f71 := feq rfl (by decide : (0 : Int32).toInt = 0) c69
        refine g_aload_n C 3 dX11_lighten_94 rfl ?_
        refine g_iload C 0 dX11_lighten_95 rfl ?_
        refine g_callVi C (n := 1) (As := [.int x8_73]) (st := []) (s_X11_ballotAt l D ad cs _ _ x8_73 hI ⟨by omega, by omega⟩) gX11_lighten_X11_ballotAt rfl rfl rfl (by decide +kernel) ⟨Nat.le_of_ble_eq_true rfl, Nat.le_of_ble_eq_true rfl⟩ rfl (Nat.le_of_ble_eq_true rfl) ⟨Nat.zero_le _, Nat.zero_le _⟩ (by decide) (ce_model ad cs _ _) rfl rfl dX11_lighten_97 (fun r72 M73 L74 hr72 => ?_)
        obtain ⟨hq1, hq2, hr72⟩ := hr72
        obtain rfl := hq1.symm
        obtain rfl := hq2.symm
        refine g_istore C [(9, .int r72), (8, .int x8_73), (6, .long v61), (4, .long v60), (0, .ref (ad 258)), (1, .int x), (2, .long y)] dX11_lighten_100 (by decide) rfl ?_
        refine g_iload C 0 dX11_lighten_102 rfl ?_
        refine g_bipush C (-9) dX11_lighten_104 (by decide) ?_
        refine g_icmp_eq C 165 dX11_lighten_106 (by decide) (fun c75 => ?_) (fun c75 => ?_)
        ·
          have f76 := feq rfl (by decide : ((-9) : Int32).toInt = (-9)) c75
          obtain ⟨v77, ev77⟩ : ∃ y : Int32, y = x8_73 + 1 := ⟨_, rfl⟩
          try have fv77 := fadd rfl (by decide : (1 : Int32).toInt = 1) ev77 (by omega) (by omega)
          refine g_iinc C 1 v77 [(8, .int v77), (9, .int r72), (6, .long v61), (4, .long v60), (0, .ref (ad 258)), (1, .int x), (2, .long y)] dX11_lighten_165 rfl (by rw [ev77]; rfl) (by decide) rfl ?_
          refine g_goto C 73 dX11_lighten_168 (by decide) ?_
          refine g_lv [0, 2, 3, 4, 5, 6] [(8, .int v77), (6, .long v61), (4, .long v60), (0, .ref (ad 258)), (1, .int x), (2, .long y)] rfl ?_
          have hend := j73_2
          exact ih_73 (v77, M_73, L_73) ⟨by show 0 ≤ v77.toInt; omega, by show v77.toInt ≤ 40; omega, by show (M_73 258 25).toInt = 0 → okF v60 v61 ∧ WT L_73; exact hend, hI, hF, hG⟩ (by show (41 - v77.toInt).toNat < (41 - x8_73.toInt).toNat; omega)
        ·
          have f78 := fne rfl (by decide : ((-9) : Int32).toInt = (-9)) c75
          refine g_aload_n C 4 dX11_lighten_109 rfl ?_
          refine g_iload C 0 dX11_lighten_110 rfl ?_
          refine g_callVi C (n := 1) (As := [.int r72]) (st := []) (s_X11_firstOn l D ad cs _ _ r72 hI ⟨by omega, by omega⟩) gX11_lighten_X11_firstOn rfl rfl rfl (by decide +kernel) ⟨Nat.le_of_ble_eq_true rfl, Nat.le_of_ble_eq_true rfl⟩ rfl (Nat.le_of_ble_eq_true rfl) ⟨Nat.zero_le _, Nat.zero_le _⟩ (by decide) (ce_model ad cs _ _) rfl rfl dX11_lighten_112 (fun r79 M80 L81 hr79 => ?_)
          obtain ⟨hq1, hq2, hr79⟩ := hr79
          obtain rfl := hq1.symm
          obtain rfl := hq2.symm
          refine g_iload_n C 5 dX11_lighten_115 rfl ?_
          refine g_icmp_ne C 165 dX11_lighten_116 (by decide) (fun c82 => ?_) (fun c82 => ?_)
          ·
            have f83 := fne rfl rfl c82
            obtain ⟨v84, ev84⟩ : ∃ y : Int32, y = x8_73 + 1 := ⟨_, rfl⟩
            try have fv84 := fadd rfl (by decide : (1 : Int32).toInt = 1) ev84 (by omega) (by omega)
            refine g_iinc C 1 v84 [(8, .int v84), (9, .int r72), (6, .long v61), (4, .long v60), (0, .ref (ad 258)), (1, .int x), (2, .long y)] dX11_lighten_165 rfl (by rw [ev84]; rfl) (by decide) rfl ?_
            refine g_goto C 73 dX11_lighten_168 (by decide) ?_
            refine g_lv [0, 2, 3, 4, 5, 6] [(8, .int v84), (6, .long v61), (4, .long v60), (0, .ref (ad 258)), (1, .int x), (2, .long y)] rfl ?_
            have hend := j73_2
            exact ih_73 (v84, M_73, L_73) ⟨by show 0 ≤ v84.toInt; omega, by show v84.toInt ≤ 40; omega, by show (M_73 258 25).toInt = 0 → okF v60 v61 ∧ WT L_73; exact hend, hI, hF, hG⟩ (by show (41 - v84.toInt).toNat < (41 - x8_73.toInt).toNat; omega)
          ·
            have f85 := feq rfl rfl c82
            have n8 := ixn (x := x8_73) (by omega)
            obtain ⟨hok, hww⟩ := j73_2 (by omega)
            unfold okF at hok
            have hw8 := hww x8_73.toNatClampNeg (by omega)
            unfold okF at hw8
            refine g_aload_n C 4 dX11_lighten_119 rfl ?_
            refine g_aload_n C 4 dX11_lighten_120 rfl ?_
            refine g_get C (.ref (ad 286)) 40 in_X11_lighten_11 (List.mem_of_getElem? (i := 8) rfl) (by decide) (ce_model ad cs _ _) rfl (by decide) rfl rfl dX11_lighten_121 ?_
            refine g_iload C 1 dX11_lighten_124 rfl ?_
            refine g_lald C (by decide) (ce_m_weightUp ad cs _ _) (fin' (n := 40) rfl (by omega) (by omega)) dX11_lighten_126 ?_
            refine g_nl (fun v86 ev86 => ?_)
            have gv86 : v86 = L_73 286 x8_73.toNatClampNeg := ev86.trans (congrFun p286 _)
            have tv86 := congrArg Int64.toInt gv86
            refine g_lload C 3 dX11_lighten_127 rfl ?_
            refine g_lmul C dX11_lighten_129 ?_
            refine g_nl (fun v87 ev87 => ?_)
            try have fv87 := prodI ev87
            refine g_aload_n C 4 dX11_lighten_130 rfl ?_
            refine g_get C (.ref (ad 287)) 41 in_X11_lighten_11 (List.mem_of_getElem? (i := 9) rfl) (by decide) (ce_model ad cs _ _) rfl (by decide) rfl rfl dX11_lighten_131 ?_
            refine g_iload C 1 dX11_lighten_134 rfl ?_
            refine g_lald C (by decide) (ce_m_weightDown ad cs _ _) (fin' (n := 40) rfl (by omega) (by omega)) dX11_lighten_136 ?_
            refine g_nl (fun v88 ev88 => ?_)
            have gv88 : v88 = L_73 287 x8_73.toNatClampNeg := ev88.trans (congrFun p287 _)
            have tv88 := congrArg Int64.toInt gv88
            refine g_lload C 2 dX11_lighten_137 rfl ?_
            refine g_lmul C dX11_lighten_139 ?_
            refine g_nl (fun v89 ev89 => ?_)
            try have fv89 := prodI ev89
            have m1 := mul_le9 (a := v86.toInt) (b := v60.toInt) (by omega) (by omega) (by omega) (by omega)
            have m2 := mul_le9 (a := v88.toInt) (b := v61.toInt) (by omega) (by omega) (by omega) (by omega)
            have m3 := mul_pos9 (a := v88.toInt) (b := v61.toInt) (by omega) (by omega)
            rw [bmod_id (by omega) (by omega)] at fv87 fv89
            refine g_callVv C (n := 2) (As := [.long v87, .long v89]) (st := []) (s_X11_fraction l D ad cs _ _ v87 v89 hI (fun h9 => by omega)) gX11_lighten_X11_fraction rfl rfl rfl (by decide +kernel) ⟨Nat.le_of_ble_eq_true rfl, Nat.le_of_ble_eq_true rfl⟩ rfl (Nat.le_of_ble_eq_true rfl) ⟨Nat.zero_le _, Nat.zero_le _⟩ (by decide) (ce_model ad cs _ _) rfl rfl dX11_lighten_140 (fun M91 L92 hr90 => ?_)
            obtain ⟨hr90, hI, hFr90, hGr90⟩ := hr90
            have hF : ∀ k i, ¬ (k = 258 ∧ i = 25) → M91 k i = M k i := fun k i hk => by (rw [hFr90 k i (by omega)]; try exact hF k i hk)
            have hG : ∀ k i, ¬ (k = 258 ∧ i = 23) ∧ ¬ (k = 258 ∧ i = 24) ∧ k ≠ 286 ∧ k ≠ 287 → L92 k i = L k i := fun k i hk => by (rw [hGr90 k i (by omega)]; try exact hG k i hk)
            have k25 : M91 258 25 = M91 258 25 := rfl
            have kt25 := congrArg Int32.toInt k25
            have l23 : L92 258 23 = L92 258 23 := rfl
            have l24 : L92 258 24 = L92 258 24 := rfl
            have p286 : L92 286 = L_73 286 := (funext (fun i => hGr90 286 i (by omega))).trans p286
            have p287 : L92 287 = L_73 287 := (funext (fun i => hGr90 287 i (by omega))).trans p287
            obtain ⟨hr901, hr902, hr903⟩ := hr90
            refine g_aload_n C 4 dX11_lighten_143 rfl ?_
            refine g_get C (.ref (ad 286)) 40 in_X11_lighten_11 (List.mem_of_getElem? (i := 8) rfl) (by decide) (ce_model ad cs _ _) rfl (by decide) rfl rfl dX11_lighten_144 ?_
            refine g_iload C 1 dX11_lighten_147 rfl ?_
            refine g_aload_n C 4 dX11_lighten_149 rfl ?_
            refine g_get C (.long (L92 258 23)) 23 in_X11_lighten_11 (List.mem_of_getElem? (i := 4) rfl) (by decide) (ce_model ad cs _ _) rfl (by decide) rfl rfl dX11_lighten_150 ?_
            refine g_nl (fun v93 ev93 => ?_)
            have gv93 : v93 = L92 258 23 := ev93.trans l23
            have tv93 := congrArg Int64.toInt gv93
            refine g_last C (by decide) (ce_m_weightUp ad cs _ _) (by rw [sJ_k]; rfl) (fin' (n := 40) rfl (by omega) (by omega)) dX11_lighten_153 ?_
            refine g_nmL (fun L94 hL94 => ?_)
            have hG : ∀ k i, ¬ (k = 258 ∧ i = 23) ∧ ¬ (k = 258 ∧ i = 24) ∧ k ≠ 286 ∧ k ≠ 287 → L94 k i = L k i := fun k i hk => by (rw [hL94, sJ_at, if_neg (by omega)]; try exact hG k i hk)
            have l23 : L94 258 23 = L92 258 23 := by rw [hL94, sJ_n _ _ _ (by decide)]; try exact l23
            have l24 : L94 258 24 = L92 258 24 := by rw [hL94, sJ_n _ _ _ (by decide)]; try exact l24
            have p287 : L94 287 = L_73 287 := by rw [hL94, sJ_n _ _ _ (by decide)]; try exact p287
            refine g_aload_n C 4 dX11_lighten_154 rfl ?_
            refine g_get C (.ref (ad 287)) 41 in_X11_lighten_11 (List.mem_of_getElem? (i := 9) rfl) (by decide) (ce_model ad cs _ _) rfl (by decide) rfl rfl dX11_lighten_155 ?_
            refine g_iload C 1 dX11_lighten_158 rfl ?_
            refine g_aload_n C 4 dX11_lighten_160 rfl ?_
            refine g_get C (.long (L94 258 24)) 24 in_X11_lighten_11 (List.mem_of_getElem? (i := 5) rfl) (by decide) (ce_model ad cs _ _) rfl (by decide) rfl rfl dX11_lighten_161 ?_
            refine g_nl (fun v95 ev95 => ?_)
            have gv95 : v95 = L92 258 24 := ev95.trans l24
            have tv95 := congrArg Int64.toInt gv95
            refine g_last C (by decide) (ce_m_weightDown ad cs _ _) (by rw [sJ_k]; rfl) (fin' (n := 40) rfl (by omega) (by omega)) dX11_lighten_164 ?_
            refine g_nmL (fun L96 hL96 => ?_)
            have hG : ∀ k i, ¬ (k = 258 ∧ i = 23) ∧ ¬ (k = 258 ∧ i = 24) ∧ k ≠ 286 ∧ k ≠ 287 → L96 k i = L k i := fun k i hk => by (rw [hL96, sJ_at, if_neg (by omega)]; try exact hG k i hk)
            have l23 : L96 258 23 = L92 258 23 := by rw [hL96, sJ_n _ _ _ (by decide)]; try exact l23
            have l24 : L96 258 24 = L92 258 24 := by rw [hL96, sJ_n _ _ _ (by decide)]; try exact l24
            obtain ⟨v97, ev97⟩ : ∃ y : Int32, y = x8_73 + 1 := ⟨_, rfl⟩
            try have fv97 := fadd rfl (by decide : (1 : Int32).toInt = 1) ev97 (by omega) (by omega)
            refine g_iinc C 1 v97 [(8, .int v97), (9, .int r72), (6, .long v61), (4, .long v60), (0, .ref (ad 258)), (1, .int x), (2, .long y)] dX11_lighten_165 rfl (by rw [ev97]; rfl) (by decide) rfl ?_
            refine g_goto C 73 dX11_lighten_168 (by decide) ?_
            refine g_lv [0, 2, 3, 4, 5, 6] [(8, .int v97), (6, .long v61), (4, .long v60), (0, .ref (ad 258)), (1, .int x), (2, .long y)] rfl ?_
            have ha : ∀ c : Nat, L96 286 c = if c = x8_73.toNatClampNeg then v93 else L_73 286 c := by
              intro c
              rw [hL96, sJ_n _ _ _ (by decide), hL94, sJ_at]
              by_cases e9 : c = x8_73.toNatClampNeg
              · rw [if_pos ⟨rfl, e9⟩, if_pos e9]
              · rw [if_neg (fun h => e9 h.2), if_neg e9]; exact congrFun p286 c
            have hb : ∀ c : Nat, L96 287 c = if c = x8_73.toNatClampNeg then v95 else L_73 287 c := by
              intro c
              rw [hL96, sJ_at]
              by_cases e9 : c = x8_73.toNatClampNeg
              · rw [if_pos ⟨rfl, e9⟩, if_pos e9]
              · rw [if_neg (fun h => e9 h.2), if_neg e9]; exact congrFun p287 c
            have hend : (M91 258 25).toInt = 0 → okF v60 v61 ∧ WT L96 := by
              intro h9
              have s3 := hr902 h9
              have s4 := hr903 (by omega) (by omega)
              refine ⟨by unfold okF; exact hok, fun c hc => ?_⟩
              rw [ha, hb]
              by_cases e9 : c = x8_73.toNatClampNeg
              · rw [if_pos e9, if_pos e9]; unfold okF; omega
              · rw [if_neg e9, if_neg e9]; exact hww c hc
            exact ih_73 (v97, M91, L96) ⟨by show 0 ≤ v97.toInt; omega, by show v97.toInt ≤ 40; omega, by show (M91 258 25).toInt = 0 → okF v60 v61 ∧ WT L96; exact hend, hI, hF, hG⟩ (by show (41 - v97.toInt).toNat < (41 - x8_73.toInt).toNat; omega)
