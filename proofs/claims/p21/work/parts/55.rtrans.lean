theorem dX11_lighten_0 : decode cX11_lighten 0 = .ok (.aload_n 0, 1) := by decide +kernel
theorem dX11_lighten_1 : decode cX11_lighten 1 = .ok (.aload_n 0, 1) := by decide +kernel
theorem dX11_lighten_2 : decode cX11_lighten 2 = .ok (.getfield 87, 3) := by decide +kernel
theorem in_X11_lighten_11 : ∀ w ∈ u_ws RX11 TX11 53, w ∈ wsX11_lighten := fun _ h => List.mem_cons_of_mem _ (List.mem_append_right _ h)
theorem dX11_lighten_5 : decode cX11_lighten 5 = .ok (.iload_n 1, 1) := by decide +kernel
theorem dX11_lighten_6 : decode cX11_lighten 6 = .ok (.laload, 1) := by decide +kernel
theorem dX11_lighten_7 : decode cX11_lighten 7 = .ok (.lload_n 2, 1) := by decide +kernel
theorem dX11_lighten_8 : decode cX11_lighten 8 = .ok (.aload_n 0, 1) := by decide +kernel
theorem dX11_lighten_9 : decode cX11_lighten 9 = .ok (.getfield 90, 3) := by decide +kernel
theorem dX11_lighten_12 : decode cX11_lighten 12 = .ok (.iload_n 1, 1) := by decide +kernel
theorem dX11_lighten_13 : decode cX11_lighten 13 = .ok (.laload, 1) := by decide +kernel
theorem dX11_lighten_14 : decode cX11_lighten 14 = .ok (.lmul, 1) := by decide +kernel
theorem dX11_lighten_15 : decode cX11_lighten 15 = .ok (.lsub, 1) := by decide +kernel
theorem dX11_lighten_16 : decode cX11_lighten 16 = .ok (.aload_n 0, 1) := by decide +kernel
theorem dX11_lighten_17 : decode cX11_lighten 17 = .ok (.getfield 90, 3) := by decide +kernel
theorem dX11_lighten_20 : decode cX11_lighten 20 = .ok (.iload_n 1, 1) := by decide +kernel
theorem dX11_lighten_21 : decode cX11_lighten 21 = .ok (.laload, 1) := by decide +kernel
theorem dX11_lighten_22 : decode cX11_lighten 22 = .ok (.invokevirtual 204, 3) := by decide +kernel
set_option maxRecDepth 20000 in
theorem ggX11_lighten_X11_fraction : GoodIn wsX11_lighten wsX11_fraction := (gk_code 14 rfl (gk_fieldLink 4 rfl (gk_fieldLink 5 rfl (gk_fieldLink 3 rfl (gk_constantLong 15 rfl (gk_methodLink 16 rfl (gk_static 17 rfl (gk_initialized 13 rfl (gk_code 18 rfl (gk_lays 31 rfl (gk_laysFinal 32 rfl (gk_lays 33 rfl (gk_laysFinal 34 rfl (gk_lays 35 rfl (gk_laysFinal 36 rfl (gk_laysFinal 37 rfl (gk_laysFinal 38 rfl (gk_laysFinal 39 rfl (gk_lays 40 rfl (gk_laysFinal 41 rfl (gk_laysFinal 42 rfl (gk_laysFinal 43 rfl (gk_laysFinal 44 rfl (gk_lays 45 rfl (gk_laysFinal 46 rfl (gk_laysFinal 47 rfl (gk_laysFinal 48 rfl (gk_laysFinal 49 rfl (gk_laysFinal 50 rfl (gk_laysFinal 51 rfl (gk_laysFinal 52 rfl (gk_laysFinal 53 rfl (gk_lays 54 rfl (gk_lays 55 rfl (gk_lays 56 rfl (gk_lays 57 rfl (gk_lays 58 rfl (gk_lays 59 rfl (gk_lays 60 rfl (gk_laysFinal 61 rfl (gk_lays 62 rfl (gk_laysFinal 63 rfl (gk_laysFinal 64 rfl (gk_laysFinal 65 rfl (gk_laysFinal 66 rfl (gk_laysFinal 67 rfl (gk_laysFinal 68 rfl (gk_laysFinal 69 rfl (gk_laysFinal 70 rfl (gk_laysFinal 71 rfl (gk_laysFinal 72 rfl (gk_lays 73 rfl (gk_laysFinal 74 rfl (gk_lays 75 rfl (gk_laysFinal 76 rfl (gk_laysFinal 77 rfl (gk_laysFinal 78 rfl (gk_laysFinal 79 rfl (gk_laysFinal 80 rfl (gk_laysFinal 81 rfl (gk_laysFinal 82 rfl (gk_laysFinal 83 rfl (gn)))))))))))))))))))))))))))))))))))))))))))))))))))))))))))))))
set_option maxRecDepth 20000 in
theorem gX11_lighten_X11_fraction : GoodIn wsX11_lighten (wsV RX11 204 RX11 yX11_fraction wsX11_fraction) := goodIn_app (gk_methodLink 10 rfl (gk_instanceMethod 11 rfl (gk_selects 12 rfl (gk_initialized 13 rfl (gn))))) ggX11_lighten_X11_fraction
theorem dX11_lighten_25 : decode cX11_lighten 25 = .ok (.aload_n 0, 1) := by decide +kernel
theorem dX11_lighten_26 : decode cX11_lighten 26 = .ok (.getfield 195, 3) := by decide +kernel
theorem dX11_lighten_29 : decode cX11_lighten 29 = .ok (.ifCond .ne 29, 3) := by decide +kernel
theorem dX11_lighten_58 : decode cX11_lighten 58 = .ok (.aload_n 0, 1) := by decide +kernel
theorem dX11_lighten_59 : decode cX11_lighten 59 = .ok (.getfield 188, 3) := by decide +kernel
theorem dX11_lighten_62 : decode cX11_lighten 62 = .ok (.lstore 4, 2) := by decide +kernel
theorem dX11_lighten_64 : decode cX11_lighten 64 = .ok (.aload_n 0, 1) := by decide +kernel
theorem dX11_lighten_65 : decode cX11_lighten 65 = .ok (.getfield 192, 3) := by decide +kernel
theorem dX11_lighten_68 : decode cX11_lighten 68 = .ok (.lstore 6, 2) := by decide +kernel
theorem dX11_lighten_70 : decode cX11_lighten 70 = .ok (.iconst 0, 1) := by decide +kernel
theorem dX11_lighten_71 : decode cX11_lighten 71 = .ok (.istore 8, 2) := by decide +kernel
theorem dX11_lighten_73 : decode cX11_lighten 73 = .ok (.iload 8, 2) := by decide +kernel
theorem dX11_lighten_75 : decode cX11_lighten 75 = .ok (.aload_n 0, 1) := by decide +kernel
theorem dX11_lighten_76 : decode cX11_lighten 76 = .ok (.getfield 31, 3) := by decide +kernel
theorem dX11_lighten_79 : decode cX11_lighten 79 = .ok (.aload_n 0, 1) := by decide +kernel
theorem dX11_lighten_80 : decode cX11_lighten 80 = .ok (.getfield 201, 3) := by decide +kernel
theorem dX11_lighten_83 : decode cX11_lighten 83 = .ok (.iaload, 1) := by decide +kernel
theorem dX11_lighten_84 : decode cX11_lighten 84 = .ok (.if_icmp .ge 87, 3) := by decide +kernel
theorem dX11_lighten_171 : decode cX11_lighten 171 = .ok (.return_, 1) := by decide +kernel
theorem dX11_lighten_87 : decode cX11_lighten 87 = .ok (.aload_n 0, 1) := by decide +kernel
theorem dX11_lighten_88 : decode cX11_lighten 88 = .ok (.getfield 195, 3) := by decide +kernel
theorem dX11_lighten_91 : decode cX11_lighten 91 = .ok (.ifCond .ne 80, 3) := by decide +kernel
theorem dX11_lighten_94 : decode cX11_lighten 94 = .ok (.aload_n 0, 1) := by decide +kernel
theorem dX11_lighten_95 : decode cX11_lighten 95 = .ok (.iload 8, 2) := by decide +kernel
theorem dX11_lighten_97 : decode cX11_lighten 97 = .ok (.invokevirtual 217, 3) := by decide +kernel
set_option maxRecDepth 20000 in
theorem ggX11_lighten_X11_ballotAt : GoodIn wsX11_lighten wsX11_ballotAt := (gk_code 22 rfl (gk_fieldLink 23 rfl (gk_fieldLink 7 rfl (gk_lays 31 rfl (gk_laysFinal 32 rfl (gk_lays 33 rfl (gk_laysFinal 34 rfl (gk_lays 35 rfl (gk_laysFinal 36 rfl (gk_laysFinal 37 rfl (gk_laysFinal 38 rfl (gk_laysFinal 39 rfl (gk_lays 40 rfl (gk_laysFinal 41 rfl (gk_laysFinal 42 rfl (gk_laysFinal 43 rfl (gk_laysFinal 44 rfl (gk_lays 45 rfl (gk_laysFinal 46 rfl (gk_laysFinal 47 rfl (gk_laysFinal 48 rfl (gk_laysFinal 49 rfl (gk_laysFinal 50 rfl (gk_laysFinal 51 rfl (gk_laysFinal 52 rfl (gk_laysFinal 53 rfl (gk_lays 54 rfl (gk_lays 55 rfl (gk_lays 56 rfl (gk_lays 57 rfl (gk_lays 58 rfl (gk_lays 59 rfl (gk_lays 60 rfl (gk_laysFinal 61 rfl (gk_lays 62 rfl (gk_laysFinal 63 rfl (gk_laysFinal 64 rfl (gk_laysFinal 65 rfl (gk_laysFinal 66 rfl (gk_laysFinal 67 rfl (gk_laysFinal 68 rfl (gk_laysFinal 69 rfl (gk_laysFinal 70 rfl (gk_laysFinal 71 rfl (gk_laysFinal 72 rfl (gk_lays 73 rfl (gk_laysFinal 74 rfl (gk_lays 75 rfl (gk_laysFinal 76 rfl (gk_laysFinal 77 rfl (gk_laysFinal 78 rfl (gk_laysFinal 79 rfl (gk_laysFinal 80 rfl (gk_laysFinal 81 rfl (gk_laysFinal 82 rfl (gk_laysFinal 83 rfl (gn)))))))))))))))))))))))))))))))))))))))))))))))))))))))))
set_option maxRecDepth 20000 in
theorem gX11_lighten_X11_ballotAt : GoodIn wsX11_lighten (wsV RX11 217 RX11 yX11_ballotAt wsX11_ballotAt) := goodIn_app (gk_methodLink 19 rfl (gk_instanceMethod 20 rfl (gk_selects 21 rfl (gk_initialized 13 rfl (gn))))) ggX11_lighten_X11_ballotAt
theorem dX11_lighten_100 : decode cX11_lighten 100 = .ok (.istore 9, 2) := by decide +kernel
theorem dX11_lighten_102 : decode cX11_lighten 102 = .ok (.iload 9, 2) := by decide +kernel
theorem dX11_lighten_104 : decode cX11_lighten 104 = .ok (.bipush (-9), 2) := by decide +kernel
theorem dX11_lighten_106 : decode cX11_lighten 106 = .ok (.if_icmp .eq 59, 3) := by decide +kernel
theorem dX11_lighten_165 : decode cX11_lighten 165 = .ok (.iinc 8 1, 3) := by decide +kernel
theorem dX11_lighten_168 : decode cX11_lighten 168 = .ok (.goto (-95), 3) := by decide +kernel
theorem dX11_lighten_109 : decode cX11_lighten 109 = .ok (.aload_n 0, 1) := by decide +kernel
theorem dX11_lighten_110 : decode cX11_lighten 110 = .ok (.iload 9, 2) := by decide +kernel
theorem dX11_lighten_112 : decode cX11_lighten 112 = .ok (.invokevirtual 220, 3) := by decide +kernel
set_option maxRecDepth 20000 in
theorem ggX11_lighten_X11_firstOn : GoodIn wsX11_lighten wsX11_firstOn := (gk_code 27 rfl (gk_fieldLink 28 rfl (gk_fieldLink 29 rfl (gk_fieldLink 30 rfl (gk_lays 31 rfl (gk_laysFinal 32 rfl (gk_lays 33 rfl (gk_laysFinal 34 rfl (gk_lays 35 rfl (gk_laysFinal 36 rfl (gk_laysFinal 37 rfl (gk_laysFinal 38 rfl (gk_laysFinal 39 rfl (gk_lays 40 rfl (gk_laysFinal 41 rfl (gk_laysFinal 42 rfl (gk_laysFinal 43 rfl (gk_laysFinal 44 rfl (gk_lays 45 rfl (gk_laysFinal 46 rfl (gk_laysFinal 47 rfl (gk_laysFinal 48 rfl (gk_laysFinal 49 rfl (gk_laysFinal 50 rfl (gk_laysFinal 51 rfl (gk_laysFinal 52 rfl (gk_laysFinal 53 rfl (gk_lays 54 rfl (gk_lays 55 rfl (gk_lays 56 rfl (gk_lays 57 rfl (gk_lays 58 rfl (gk_lays 59 rfl (gk_lays 60 rfl (gk_laysFinal 61 rfl (gk_lays 62 rfl (gk_laysFinal 63 rfl (gk_laysFinal 64 rfl (gk_laysFinal 65 rfl (gk_laysFinal 66 rfl (gk_laysFinal 67 rfl (gk_laysFinal 68 rfl (gk_laysFinal 69 rfl (gk_laysFinal 70 rfl (gk_laysFinal 71 rfl (gk_laysFinal 72 rfl (gk_lays 73 rfl (gk_laysFinal 74 rfl (gk_lays 75 rfl (gk_laysFinal 76 rfl (gk_laysFinal 77 rfl (gk_laysFinal 78 rfl (gk_laysFinal 79 rfl (gk_laysFinal 80 rfl (gk_laysFinal 81 rfl (gk_laysFinal 82 rfl (gk_laysFinal 83 rfl (gn))))))))))))))))))))))))))))))))))))))))))))))))))))))))))
set_option maxRecDepth 20000 in
theorem gX11_lighten_X11_firstOn : GoodIn wsX11_lighten (wsV RX11 220 RX11 yX11_firstOn wsX11_firstOn) := goodIn_app (gk_methodLink 24 rfl (gk_instanceMethod 25 rfl (gk_selects 26 rfl (gk_initialized 13 rfl (gn))))) ggX11_lighten_X11_firstOn
theorem dX11_lighten_115 : decode cX11_lighten 115 = .ok (.iload_n 1, 1) := by decide +kernel
theorem dX11_lighten_116 : decode cX11_lighten 116 = .ok (.if_icmp .ne 49, 3) := by decide +kernel
theorem dX11_lighten_119 : decode cX11_lighten 119 = .ok (.aload_n 0, 1) := by decide +kernel
theorem dX11_lighten_120 : decode cX11_lighten 120 = .ok (.aload_n 0, 1) := by decide +kernel
theorem dX11_lighten_121 : decode cX11_lighten 121 = .ok (.getfield 93, 3) := by decide +kernel
theorem dX11_lighten_124 : decode cX11_lighten 124 = .ok (.iload 8, 2) := by decide +kernel
theorem dX11_lighten_126 : decode cX11_lighten 126 = .ok (.laload, 1) := by decide +kernel
theorem dX11_lighten_127 : decode cX11_lighten 127 = .ok (.lload 4, 2) := by decide +kernel
theorem dX11_lighten_129 : decode cX11_lighten 129 = .ok (.lmul, 1) := by decide +kernel
theorem dX11_lighten_130 : decode cX11_lighten 130 = .ok (.aload_n 0, 1) := by decide +kernel
theorem dX11_lighten_131 : decode cX11_lighten 131 = .ok (.getfield 96, 3) := by decide +kernel
theorem dX11_lighten_134 : decode cX11_lighten 134 = .ok (.iload 8, 2) := by decide +kernel
theorem dX11_lighten_136 : decode cX11_lighten 136 = .ok (.laload, 1) := by decide +kernel
theorem dX11_lighten_137 : decode cX11_lighten 137 = .ok (.lload 6, 2) := by decide +kernel
theorem dX11_lighten_139 : decode cX11_lighten 139 = .ok (.lmul, 1) := by decide +kernel
theorem dX11_lighten_140 : decode cX11_lighten 140 = .ok (.invokevirtual 204, 3) := by decide +kernel
theorem dX11_lighten_143 : decode cX11_lighten 143 = .ok (.aload_n 0, 1) := by decide +kernel
theorem dX11_lighten_144 : decode cX11_lighten 144 = .ok (.getfield 93, 3) := by decide +kernel
theorem dX11_lighten_147 : decode cX11_lighten 147 = .ok (.iload 8, 2) := by decide +kernel
theorem dX11_lighten_149 : decode cX11_lighten 149 = .ok (.aload_n 0, 1) := by decide +kernel
theorem dX11_lighten_150 : decode cX11_lighten 150 = .ok (.getfield 188, 3) := by decide +kernel
theorem dX11_lighten_153 : decode cX11_lighten 153 = .ok (.lastore, 1) := by decide +kernel
theorem dX11_lighten_154 : decode cX11_lighten 154 = .ok (.aload_n 0, 1) := by decide +kernel
theorem dX11_lighten_155 : decode cX11_lighten 155 = .ok (.getfield 96, 3) := by decide +kernel
theorem dX11_lighten_158 : decode cX11_lighten 158 = .ok (.iload 8, 2) := by decide +kernel
theorem dX11_lighten_160 : decode cX11_lighten 160 = .ok (.aload_n 0, 1) := by decide +kernel
theorem dX11_lighten_161 : decode cX11_lighten 161 = .ok (.getfield 192, 3) := by decide +kernel
theorem dX11_lighten_164 : decode cX11_lighten 164 = .ok (.lastore, 1) := by decide +kernel
theorem dX11_lighten_32 : decode cX11_lighten 32 = .ok (.aload_n 0, 1) := by decide +kernel
theorem dX11_lighten_33 : decode cX11_lighten 33 = .ok (.aload_n 0, 1) := by decide +kernel
theorem dX11_lighten_34 : decode cX11_lighten 34 = .ok (.getfield 188, 3) := by decide +kernel
theorem dX11_lighten_37 : decode cX11_lighten 37 = .ok (.aload_n 0, 1) := by decide +kernel
theorem dX11_lighten_38 : decode cX11_lighten 38 = .ok (.getfield 90, 3) := by decide +kernel
theorem dX11_lighten_41 : decode cX11_lighten 41 = .ok (.iload_n 1, 1) := by decide +kernel
theorem dX11_lighten_42 : decode cX11_lighten 42 = .ok (.laload, 1) := by decide +kernel
theorem dX11_lighten_43 : decode cX11_lighten 43 = .ok (.lmul, 1) := by decide +kernel
theorem dX11_lighten_44 : decode cX11_lighten 44 = .ok (.aload_n 0, 1) := by decide +kernel
theorem dX11_lighten_45 : decode cX11_lighten 45 = .ok (.getfield 192, 3) := by decide +kernel
theorem dX11_lighten_48 : decode cX11_lighten 48 = .ok (.aload_n 0, 1) := by decide +kernel
theorem dX11_lighten_49 : decode cX11_lighten 49 = .ok (.getfield 87, 3) := by decide +kernel
theorem dX11_lighten_52 : decode cX11_lighten 52 = .ok (.iload_n 1, 1) := by decide +kernel
theorem dX11_lighten_53 : decode cX11_lighten 53 = .ok (.laload, 1) := by decide +kernel
theorem dX11_lighten_54 : decode cX11_lighten 54 = .ok (.lmul, 1) := by decide +kernel
theorem dX11_lighten_55 : decode cX11_lighten 55 = .ok (.invokevirtual 204, 3) := by decide +kernel
