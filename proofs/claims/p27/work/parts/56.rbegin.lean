theorem dX11_countTransfer_0 : decode cX11_countTransfer 0 = .ok (.aload_n 0, 1) := dw42 (n := 0) (i := 0) kc_cX11_countTransfer_0 (by decide +kernel)
theorem dX11_countTransfer_1 : decode cX11_countTransfer 1 = .ok (.aload_n 0, 1) := dw42 (n := 0) (i := 1) kc_cX11_countTransfer_0 (by decide +kernel)
theorem dX11_countTransfer_2 : decode cX11_countTransfer 2 = .ok (.getfield 201, 3) := dw180 (n := 0) (i := 2) (a := 0) (b := 201) kc_cX11_countTransfer_0 (by decide +kernel) (by decide)
theorem in_X11_countTransfer_11 : ∀ w ∈ u_ws RX11 TX11 53, w ∈ wsX11_countTransfer := fun _ h => List.mem_cons_of_mem _ (List.mem_append_right _ h)
theorem dX11_countTransfer_5 : decode cX11_countTransfer 5 = .ok (.invokevirtual 172, 3) := dw182 (n := 0) (i := 5) (a := 0) (b := 172) kc_cX11_countTransfer_0 (by decide +kernel) (by decide)
set_option maxRecDepth 20000 in
theorem ggX11_countTransfer_X11_papersIn : GoodIn wsX11_countTransfer wsX11_papersIn := (gk_code 12 rfl (gk_fieldLink 13 rfl (gk_fieldLink 14 rfl (gk_fieldLink 15 rfl (gk_lays 85 rfl (gk_laysFinal 86 rfl (gk_lays 87 rfl (gk_laysFinal 88 rfl (gk_lays 89 rfl (gk_laysFinal 90 rfl (gk_laysFinal 91 rfl (gk_laysFinal 92 rfl (gk_laysFinal 93 rfl (gk_lays 94 rfl (gk_laysFinal 95 rfl (gk_laysFinal 96 rfl (gk_laysFinal 97 rfl (gk_laysFinal 98 rfl (gk_lays 99 rfl (gk_laysFinal 100 rfl (gk_laysFinal 101 rfl (gk_laysFinal 102 rfl (gk_laysFinal 103 rfl (gk_laysFinal 104 rfl (gk_laysFinal 105 rfl (gk_laysFinal 106 rfl (gk_laysFinal 107 rfl (gk_lays 108 rfl (gk_lays 109 rfl (gk_lays 110 rfl (gk_lays 111 rfl (gk_lays 112 rfl (gk_lays 113 rfl (gk_lays 114 rfl (gk_laysFinal 115 rfl (gk_lays 116 rfl (gk_laysFinal 117 rfl (gk_laysFinal 118 rfl (gk_laysFinal 119 rfl (gk_laysFinal 120 rfl (gk_laysFinal 121 rfl (gk_laysFinal 122 rfl (gk_laysFinal 123 rfl (gk_laysFinal 124 rfl (gk_laysFinal 125 rfl (gk_laysFinal 126 rfl (gk_lays 127 rfl (gk_laysFinal 128 rfl (gk_lays 129 rfl (gk_laysFinal 130 rfl (gk_laysFinal 131 rfl (gk_laysFinal 132 rfl (gk_laysFinal 133 rfl (gk_laysFinal 134 rfl (gk_laysFinal 135 rfl (gk_laysFinal 136 rfl (gk_laysFinal 137 rfl (gn))))))))))))))))))))))))))))))))))))))))))))))))))))))))))
set_option maxRecDepth 20000 in
theorem gX11_countTransfer_X11_papersIn : GoodIn wsX11_countTransfer (wsV RX11 172 RX11 yX11_papersIn wsX11_papersIn) := goodIn_app (gk_methodLink 8 rfl (gk_instanceMethod 9 rfl (gk_selects 10 rfl (gk_initialized 11 rfl (gn))))) ggX11_countTransfer_X11_papersIn
theorem dX11_countTransfer_8 : decode cX11_countTransfer 8 = .ok (.aload_n 0, 1) := dw42 (n := 0) (i := 8) kc_cX11_countTransfer_0 (by decide +kernel)
theorem dX11_countTransfer_9 : decode cX11_countTransfer 9 = .ok (.getfield 231, 3) := dw180 (n := 0) (i := 9) (a := 0) (b := 231) kc_cX11_countTransfer_0 (by decide +kernel) (by decide)
theorem dX11_countTransfer_12 : decode cX11_countTransfer 12 = .ok (.iconst 1, 1) := dw4 (n := 0) (i := 12) kc_cX11_countTransfer_0 (by decide +kernel)
theorem dX11_countTransfer_13 : decode cX11_countTransfer 13 = .ok (.iadd, 1) := dw96 (n := 0) (i := 13) kc_cX11_countTransfer_0 (by decide +kernel)
theorem dX11_countTransfer_14 : decode cX11_countTransfer 14 = .ok (.idiv, 1) := dw108 (n := 0) (i := 14) kc_cX11_countTransfer_0 (by decide +kernel)
theorem dX11_countTransfer_15 : decode cX11_countTransfer 15 = .ok (.i2l, 1) := dw133 (n := 0) (i := 15) kc_cX11_countTransfer_0 (by decide +kernel)
theorem dX11_countTransfer_16 : decode cX11_countTransfer 16 = .ok (.lconst 1, 1) := dw10 (n := 0) (i := 16) kc_cX11_countTransfer_0 (by decide +kernel)
theorem dX11_countTransfer_17 : decode cX11_countTransfer 17 = .ok (.ladd, 1) := dw97 (n := 0) (i := 17) kc_cX11_countTransfer_0 (by decide +kernel)
theorem dX11_countTransfer_18 : decode cX11_countTransfer 18 = .ok (.lstore_n 1, 1) := dw64 (n := 0) (i := 18) kc_cX11_countTransfer_0 (by decide +kernel)
theorem dX11_countTransfer_19 : decode cX11_countTransfer 19 = .ok (.aload_n 0, 1) := dw42 (n := 0) (i := 19) kc_cX11_countTransfer_0 (by decide +kernel)
theorem dX11_countTransfer_20 : decode cX11_countTransfer 20 = .ok (.getfield 211, 3) := dw180 (n := 0) (i := 20) (a := 0) (b := 211) kc_cX11_countTransfer_0 (by decide +kernel) (by decide)
theorem dX11_countTransfer_23 : decode cX11_countTransfer 23 = .ok (.aload_n 0, 1) := dw42 (n := 0) (i := 23) kc_cX11_countTransfer_0 (by decide +kernel)
theorem dX11_countTransfer_24 : decode cX11_countTransfer 24 = .ok (.getfield 231, 3) := dw180 (n := 0) (i := 24) (a := 0) (b := 231) kc_cX11_countTransfer_0 (by decide +kernel) (by decide)
theorem dX11_countTransfer_27 : decode cX11_countTransfer 27 = .ok (.if_icmp .ge 125, 3) := dw162 (n := 0) (i := 27) (a := 0) (b := 125) kc_cX11_countTransfer_0 (by decide +kernel) (by decide)
theorem dX11_countTransfer_152 : decode cX11_countTransfer 152 = .ok (.return_, 1) := dw177 (n := 128) (i := 24) kc_cX11_countTransfer_4 (by decide +kernel)
theorem dX11_countTransfer_30 : decode cX11_countTransfer 30 = .ok (.aload_n 0, 1) := dw42 (n := 0) (i := 30) kc_cX11_countTransfer_0 (by decide +kernel)
theorem dX11_countTransfer_31 : decode cX11_countTransfer 31 = .ok (.invokevirtual 249, 3) := dw182 (n := 0) (i := 31) (a := 0) (b := 249) kc_cX11_countTransfer_0 (by decide +kernel) (by decide)
set_option maxRecDepth 20000 in
theorem ggX11_countTransfer_X11_inMany : GoodIn wsX11_countTransfer wsX11_inMany := (gk_code 19 rfl (gk_fieldLink 20 rfl (gk_fieldLink 7 rfl (gk_lays 85 rfl (gk_laysFinal 86 rfl (gk_lays 87 rfl (gk_laysFinal 88 rfl (gk_lays 89 rfl (gk_laysFinal 90 rfl (gk_laysFinal 91 rfl (gk_laysFinal 92 rfl (gk_laysFinal 93 rfl (gk_lays 94 rfl (gk_laysFinal 95 rfl (gk_laysFinal 96 rfl (gk_laysFinal 97 rfl (gk_laysFinal 98 rfl (gk_lays 99 rfl (gk_laysFinal 100 rfl (gk_laysFinal 101 rfl (gk_laysFinal 102 rfl (gk_laysFinal 103 rfl (gk_laysFinal 104 rfl (gk_laysFinal 105 rfl (gk_laysFinal 106 rfl (gk_laysFinal 107 rfl (gk_lays 108 rfl (gk_lays 109 rfl (gk_lays 110 rfl (gk_lays 111 rfl (gk_lays 112 rfl (gk_lays 113 rfl (gk_lays 114 rfl (gk_laysFinal 115 rfl (gk_lays 116 rfl (gk_laysFinal 117 rfl (gk_laysFinal 118 rfl (gk_laysFinal 119 rfl (gk_laysFinal 120 rfl (gk_laysFinal 121 rfl (gk_laysFinal 122 rfl (gk_laysFinal 123 rfl (gk_laysFinal 124 rfl (gk_laysFinal 125 rfl (gk_laysFinal 126 rfl (gk_lays 127 rfl (gk_laysFinal 128 rfl (gk_lays 129 rfl (gk_laysFinal 130 rfl (gk_laysFinal 131 rfl (gk_laysFinal 132 rfl (gk_laysFinal 133 rfl (gk_laysFinal 134 rfl (gk_laysFinal 135 rfl (gk_laysFinal 136 rfl (gk_laysFinal 137 rfl (gn)))))))))))))))))))))))))))))))))))))))))))))))))))))))))
set_option maxRecDepth 20000 in
theorem gX11_countTransfer_X11_inMany : GoodIn wsX11_countTransfer (wsV RX11 249 RX11 yX11_inMany wsX11_inMany) := goodIn_app (gk_methodLink 16 rfl (gk_instanceMethod 17 rfl (gk_selects 18 rfl (gk_initialized 11 rfl (gn))))) ggX11_countTransfer_X11_inMany
theorem dX11_countTransfer_34 : decode cX11_countTransfer 34 = .ok (.ifCond .le 118, 3) := dw158 (n := 32) (i := 2) (a := 0) (b := 118) kc_cX11_countTransfer_1 (by decide +kernel) (by decide)
theorem dX11_countTransfer_37 : decode cX11_countTransfer 37 = .ok (.aload_n 0, 1) := dw42 (n := 32) (i := 5) kc_cX11_countTransfer_1 (by decide +kernel)
theorem dX11_countTransfer_38 : decode cX11_countTransfer 38 = .ok (.getfield 195, 3) := dw180 (n := 32) (i := 6) (a := 0) (b := 195) kc_cX11_countTransfer_1 (by decide +kernel) (by decide)
theorem dX11_countTransfer_41 : decode cX11_countTransfer 41 = .ok (.ifCond .ne 111, 3) := dw154 (n := 32) (i := 9) (a := 0) (b := 111) kc_cX11_countTransfer_1 (by decide +kernel) (by decide)
theorem dX11_countTransfer_44 : decode cX11_countTransfer 44 = .ok (.aload_n 0, 1) := dw42 (n := 32) (i := 12) kc_cX11_countTransfer_1 (by decide +kernel)
theorem dX11_countTransfer_45 : decode cX11_countTransfer 45 = .ok (.invokevirtual 246, 3) := dw182 (n := 32) (i := 13) (a := 0) (b := 246) kc_cX11_countTransfer_1 (by decide +kernel) (by decide)
set_option maxRecDepth 20000 in
theorem ggX11_countTransfer_X11_tallyFirsts : GoodIn wsX11_countTransfer wsX11_tallyFirsts := (gk_code 24 rfl (gk_fieldLink 13 rfl (gk_fieldLink 1 rfl (gk_fieldLink 25 rfl (gk_fieldLink 26 rfl (gk_methodLink 27 rfl (gk_instanceMethod 28 rfl (gk_selects 29 rfl (gk_initialized 11 rfl (gk_code 30 rfl (gk_fieldLink 5 rfl (gk_fieldLink 6 rfl (gk_methodLink 31 rfl (gk_instanceMethod 32 rfl (gk_selects 33 rfl (gk_code 34 rfl (gk_fieldLink 14 rfl (gk_methodLink 35 rfl (gk_instanceMethod 36 rfl (gk_selects 37 rfl (gk_code 38 rfl (gk_fieldLink 39 rfl (gk_fieldLink 7 rfl (gk_fieldLink 40 rfl (gk_methodLink 41 rfl (gk_instanceMethod 42 rfl (gk_selects 43 rfl (gk_code 44 rfl (gk_fieldLink 45 rfl (gk_fieldLink 46 rfl (gk_methodLink 47 rfl (gk_instanceMethod 48 rfl (gk_selects 49 rfl (gk_code 50 rfl (gk_fieldLink 4 rfl (gk_constantLong 51 rfl (gk_methodLink 52 rfl (gk_static 53 rfl (gk_code 54 rfl (gk_lays 85 rfl (gk_laysFinal 86 rfl (gk_lays 87 rfl (gk_laysFinal 88 rfl (gk_lays 89 rfl (gk_laysFinal 90 rfl (gk_laysFinal 91 rfl (gk_laysFinal 92 rfl (gk_laysFinal 93 rfl (gk_lays 94 rfl (gk_laysFinal 95 rfl (gk_laysFinal 96 rfl (gk_laysFinal 97 rfl (gk_laysFinal 98 rfl (gk_lays 99 rfl (gk_laysFinal 100 rfl (gk_laysFinal 101 rfl (gk_laysFinal 102 rfl (gk_laysFinal 103 rfl (gk_laysFinal 104 rfl (gk_laysFinal 105 rfl (gk_laysFinal 106 rfl (gk_laysFinal 107 rfl (gk_lays 108 rfl (gk_lays 109 rfl (gk_lays 110 rfl (gk_lays 111 rfl (gk_lays 112 rfl (gk_lays 113 rfl (gk_lays 114 rfl (gk_laysFinal 115 rfl (gk_lays 116 rfl (gk_laysFinal 117 rfl (gk_laysFinal 118 rfl (gk_laysFinal 119 rfl (gk_laysFinal 120 rfl (gk_laysFinal 121 rfl (gk_laysFinal 122 rfl (gk_laysFinal 123 rfl (gk_laysFinal 124 rfl (gk_laysFinal 125 rfl (gk_laysFinal 126 rfl (gk_lays 127 rfl (gk_laysFinal 128 rfl (gk_lays 129 rfl (gk_laysFinal 130 rfl (gk_laysFinal 131 rfl (gk_laysFinal 132 rfl (gk_laysFinal 133 rfl (gk_laysFinal 134 rfl (gk_laysFinal 135 rfl (gk_laysFinal 136 rfl (gk_laysFinal 137 rfl (gn)))))))))))))))))))))))))))))))))))))))))))))))))))))))))))))))))))))))))))))))))))))))))))))
set_option maxRecDepth 20000 in
theorem gX11_countTransfer_X11_tallyFirsts : GoodIn wsX11_countTransfer (wsV RX11 246 RX11 yX11_tallyFirsts wsX11_tallyFirsts) := goodIn_app (gk_methodLink 21 rfl (gk_instanceMethod 22 rfl (gk_selects 23 rfl (gk_initialized 11 rfl (gn))))) ggX11_countTransfer_X11_tallyFirsts
theorem dX11_countTransfer_48 : decode cX11_countTransfer 48 = .ok (.aload_n 0, 1) := dw42 (n := 32) (i := 16) kc_cX11_countTransfer_1 (by decide +kernel)
theorem dX11_countTransfer_49 : decode cX11_countTransfer 49 = .ok (.getfield 195, 3) := dw180 (n := 32) (i := 17) (a := 0) (b := 195) kc_cX11_countTransfer_1 (by decide +kernel) (by decide)
theorem dX11_countTransfer_52 : decode cX11_countTransfer 52 = .ok (.ifCond .ne (-33), 3) := dw154 (n := 32) (i := 20) (a := 255) (b := 223) kc_cX11_countTransfer_1 (by decide +kernel) (by decide)
theorem dX11_countTransfer_55 : decode cX11_countTransfer 55 = .ok (.aload_n 0, 1) := dw42 (n := 32) (i := 23) kc_cX11_countTransfer_1 (by decide +kernel)
theorem dX11_countTransfer_56 : decode cX11_countTransfer 56 = .ok (.invokevirtual 234, 3) := dw182 (n := 32) (i := 24) (a := 0) (b := 234) kc_cX11_countTransfer_1 (by decide +kernel) (by decide)
set_option maxRecDepth 20000 in
theorem ggX11_countTransfer_X11_greatest : GoodIn wsX11_countTransfer wsX11_greatest := (gk_code 58 rfl (gk_fieldLink 20 rfl (gk_fieldLink 59 rfl (gk_fieldLink 7 rfl (gk_fieldLink 5 rfl (gk_fieldLink 6 rfl (gk_methodLink 60 rfl (gk_static 61 rfl (gk_initialized 11 rfl (gk_code 62 rfl (gk_lays 85 rfl (gk_laysFinal 86 rfl (gk_lays 87 rfl (gk_laysFinal 88 rfl (gk_lays 89 rfl (gk_laysFinal 90 rfl (gk_laysFinal 91 rfl (gk_laysFinal 92 rfl (gk_laysFinal 93 rfl (gk_lays 94 rfl (gk_laysFinal 95 rfl (gk_laysFinal 96 rfl (gk_laysFinal 97 rfl (gk_laysFinal 98 rfl (gk_lays 99 rfl (gk_laysFinal 100 rfl (gk_laysFinal 101 rfl (gk_laysFinal 102 rfl (gk_laysFinal 103 rfl (gk_laysFinal 104 rfl (gk_laysFinal 105 rfl (gk_laysFinal 106 rfl (gk_laysFinal 107 rfl (gk_lays 108 rfl (gk_lays 109 rfl (gk_lays 110 rfl (gk_lays 111 rfl (gk_lays 112 rfl (gk_lays 113 rfl (gk_lays 114 rfl (gk_laysFinal 115 rfl (gk_lays 116 rfl (gk_laysFinal 117 rfl (gk_laysFinal 118 rfl (gk_laysFinal 119 rfl (gk_laysFinal 120 rfl (gk_laysFinal 121 rfl (gk_laysFinal 122 rfl (gk_laysFinal 123 rfl (gk_laysFinal 124 rfl (gk_laysFinal 125 rfl (gk_laysFinal 126 rfl (gk_lays 127 rfl (gk_laysFinal 128 rfl (gk_lays 129 rfl (gk_laysFinal 130 rfl (gk_laysFinal 131 rfl (gk_laysFinal 132 rfl (gk_laysFinal 133 rfl (gk_laysFinal 134 rfl (gk_laysFinal 135 rfl (gk_laysFinal 136 rfl (gk_laysFinal 137 rfl (gn))))))))))))))))))))))))))))))))))))))))))))))))))))))))))))))))
set_option maxRecDepth 20000 in
theorem gX11_countTransfer_X11_greatest : GoodIn wsX11_countTransfer (wsV RX11 234 RX11 yX11_greatest wsX11_greatest) := goodIn_app (gk_methodLink 55 rfl (gk_instanceMethod 56 rfl (gk_selects 57 rfl (gk_initialized 11 rfl (gn))))) ggX11_countTransfer_X11_greatest
theorem dX11_countTransfer_59 : decode cX11_countTransfer 59 = .ok (.istore_n 3, 1) := dw62 (n := 32) (i := 27) kc_cX11_countTransfer_1 (by decide +kernel)
theorem dX11_countTransfer_60 : decode cX11_countTransfer 60 = .ok (.aload_n 0, 1) := dw42 (n := 32) (i := 28) kc_cX11_countTransfer_1 (by decide +kernel)
theorem dX11_countTransfer_61 : decode cX11_countTransfer 61 = .ok (.invokevirtual 249, 3) := dw182 (n := 32) (i := 29) (a := 0) (b := 249) kc_cX11_countTransfer_1 (by decide +kernel) (by decide)
theorem dX11_countTransfer_64 : decode cX11_countTransfer 64 = .ok (.aload_n 0, 1) := dw42 (n := 64) (i := 0) kc_cX11_countTransfer_2 (by decide +kernel)
theorem dX11_countTransfer_65 : decode cX11_countTransfer 65 = .ok (.getfield 231, 3) := dw180 (n := 64) (i := 1) (a := 0) (b := 231) kc_cX11_countTransfer_2 (by decide +kernel) (by decide)
theorem dX11_countTransfer_68 : decode cX11_countTransfer 68 = .ok (.aload_n 0, 1) := dw42 (n := 64) (i := 4) kc_cX11_countTransfer_2 (by decide +kernel)
theorem dX11_countTransfer_69 : decode cX11_countTransfer 69 = .ok (.getfield 211, 3) := dw180 (n := 64) (i := 5) (a := 0) (b := 211) kc_cX11_countTransfer_2 (by decide +kernel) (by decide)
theorem dX11_countTransfer_72 : decode cX11_countTransfer 72 = .ok (.isub, 1) := dw100 (n := 64) (i := 8) kc_cX11_countTransfer_2 (by decide +kernel)
theorem dX11_countTransfer_73 : decode cX11_countTransfer 73 = .ok (.if_icmp .gt 7, 3) := dw163 (n := 64) (i := 9) (a := 0) (b := 7) kc_cX11_countTransfer_2 (by decide +kernel) (by decide)
theorem dX11_countTransfer_80 : decode cX11_countTransfer 80 = .ok (.iconst 0, 1) := dw3 (n := 64) (i := 16) kc_cX11_countTransfer_2 (by decide +kernel)
theorem dX11_countTransfer_81 : decode cX11_countTransfer 81 = .ok (.istore 4, 2) := dw54 (n := 64) (i := 17) (a := 4) kc_cX11_countTransfer_2 (by decide +kernel) (by decide)
theorem dX11_countTransfer_83 : decode cX11_countTransfer 83 = .ok (.iload 4, 2) := dw21 (n := 64) (i := 19) (a := 4) kc_cX11_countTransfer_2 (by decide +kernel) (by decide)
theorem dX11_countTransfer_85 : decode cX11_countTransfer 85 = .ok (.ifCond .ne 21, 3) := dw154 (n := 64) (i := 21) (a := 0) (b := 21) kc_cX11_countTransfer_2 (by decide +kernel) (by decide)
theorem dX11_countTransfer_88 : decode cX11_countTransfer 88 = .ok (.aload_n 0, 1) := dw42 (n := 64) (i := 24) kc_cX11_countTransfer_2 (by decide +kernel)
theorem dX11_countTransfer_89 : decode cX11_countTransfer 89 = .ok (.getfield 87, 3) := dw180 (n := 64) (i := 25) (a := 0) (b := 87) kc_cX11_countTransfer_2 (by decide +kernel) (by decide)
theorem dX11_countTransfer_92 : decode cX11_countTransfer 92 = .ok (.iload_n 3, 1) := dw29 (n := 64) (i := 28) kc_cX11_countTransfer_2 (by decide +kernel)
theorem dX11_countTransfer_93 : decode cX11_countTransfer 93 = .ok (.laload, 1) := dw47 (n := 64) (i := 29) kc_cX11_countTransfer_2 (by decide +kernel)
theorem dX11_countTransfer_94 : decode cX11_countTransfer 94 = .ok (.lload_n 1, 1) := dw31 (n := 64) (i := 30) kc_cX11_countTransfer_2 (by decide +kernel)
theorem dX11_countTransfer_95 : decode cX11_countTransfer 95 = .ok (.aload_n 0, 1) := dw42 (n := 64) (i := 31) kc_cX11_countTransfer_2 (by decide +kernel)
theorem dX11_countTransfer_96 : decode cX11_countTransfer 96 = .ok (.getfield 90, 3) := dw180 (n := 96) (i := 0) (a := 0) (b := 90) kc_cX11_countTransfer_3 (by decide +kernel) (by decide)
theorem dX11_countTransfer_99 : decode cX11_countTransfer 99 = .ok (.iload_n 3, 1) := dw29 (n := 96) (i := 3) kc_cX11_countTransfer_3 (by decide +kernel)
theorem dX11_countTransfer_100 : decode cX11_countTransfer 100 = .ok (.laload, 1) := dw47 (n := 96) (i := 4) kc_cX11_countTransfer_3 (by decide +kernel)
theorem dX11_countTransfer_101 : decode cX11_countTransfer 101 = .ok (.lmul, 1) := dw105 (n := 96) (i := 5) kc_cX11_countTransfer_3 (by decide +kernel)
theorem dX11_countTransfer_102 : decode cX11_countTransfer 102 = .ok (.lcmp, 1) := dw148 (n := 96) (i := 6) kc_cX11_countTransfer_3 (by decide +kernel)
theorem dX11_countTransfer_103 : decode cX11_countTransfer 103 = .ok (.ifCond .lt 28, 3) := dw155 (n := 96) (i := 7) (a := 0) (b := 28) kc_cX11_countTransfer_3 (by decide +kernel) (by decide)
theorem dX11_countTransfer_131 : decode cX11_countTransfer 131 = .ok (.aload_n 0, 1) := dw42 (n := 128) (i := 3) kc_cX11_countTransfer_4 (by decide +kernel)
theorem dX11_countTransfer_132 : decode cX11_countTransfer 132 = .ok (.invokevirtual 252, 3) := dw182 (n := 128) (i := 4) (a := 0) (b := 252) kc_cX11_countTransfer_4 (by decide +kernel) (by decide)
set_option maxRecDepth 20000 in
theorem ggX11_countTransfer_X11_least : GoodIn wsX11_countTransfer wsX11_least := (gk_code 84 rfl (gk_fieldLink 20 rfl (gk_fieldLink 59 rfl (gk_fieldLink 7 rfl (gk_fieldLink 5 rfl (gk_fieldLink 6 rfl (gk_methodLink 60 rfl (gk_static 61 rfl (gk_initialized 11 rfl (gk_code 62 rfl (gk_lays 85 rfl (gk_laysFinal 86 rfl (gk_lays 87 rfl (gk_laysFinal 88 rfl (gk_lays 89 rfl (gk_laysFinal 90 rfl (gk_laysFinal 91 rfl (gk_laysFinal 92 rfl (gk_laysFinal 93 rfl (gk_lays 94 rfl (gk_laysFinal 95 rfl (gk_laysFinal 96 rfl (gk_laysFinal 97 rfl (gk_laysFinal 98 rfl (gk_lays 99 rfl (gk_laysFinal 100 rfl (gk_laysFinal 101 rfl (gk_laysFinal 102 rfl (gk_laysFinal 103 rfl (gk_laysFinal 104 rfl (gk_laysFinal 105 rfl (gk_laysFinal 106 rfl (gk_laysFinal 107 rfl (gk_lays 108 rfl (gk_lays 109 rfl (gk_lays 110 rfl (gk_lays 111 rfl (gk_lays 112 rfl (gk_lays 113 rfl (gk_lays 114 rfl (gk_laysFinal 115 rfl (gk_lays 116 rfl (gk_laysFinal 117 rfl (gk_laysFinal 118 rfl (gk_laysFinal 119 rfl (gk_laysFinal 120 rfl (gk_laysFinal 121 rfl (gk_laysFinal 122 rfl (gk_laysFinal 123 rfl (gk_laysFinal 124 rfl (gk_laysFinal 125 rfl (gk_laysFinal 126 rfl (gk_lays 127 rfl (gk_laysFinal 128 rfl (gk_lays 129 rfl (gk_laysFinal 130 rfl (gk_laysFinal 131 rfl (gk_laysFinal 132 rfl (gk_laysFinal 133 rfl (gk_laysFinal 134 rfl (gk_laysFinal 135 rfl (gk_laysFinal 136 rfl (gk_laysFinal 137 rfl (gn))))))))))))))))))))))))))))))))))))))))))))))))))))))))))))))))
set_option maxRecDepth 20000 in
theorem gX11_countTransfer_X11_least : GoodIn wsX11_countTransfer (wsV RX11 252 RX11 yX11_least wsX11_least) := goodIn_app (gk_methodLink 81 rfl (gk_instanceMethod 82 rfl (gk_selects 83 rfl (gk_initialized 11 rfl (gn))))) ggX11_countTransfer_X11_least
theorem dX11_countTransfer_135 : decode cX11_countTransfer 135 = .ok (.istore_n 3, 1) := dw62 (n := 128) (i := 7) kc_cX11_countTransfer_4 (by decide +kernel)
theorem dX11_countTransfer_136 : decode cX11_countTransfer 136 = .ok (.aload_n 0, 1) := dw42 (n := 128) (i := 8) kc_cX11_countTransfer_4 (by decide +kernel)
theorem dX11_countTransfer_137 : decode cX11_countTransfer 137 = .ok (.iconst 2, 1) := dw5 (n := 128) (i := 9) kc_cX11_countTransfer_4 (by decide +kernel)
theorem dX11_countTransfer_138 : decode cX11_countTransfer 138 = .ok (.iload_n 3, 1) := dw29 (n := 128) (i := 10) kc_cX11_countTransfer_4 (by decide +kernel)
theorem dX11_countTransfer_139 : decode cX11_countTransfer 139 = .ok (.invokevirtual 238, 3) := dw182 (n := 128) (i := 11) (a := 0) (b := 238) kc_cX11_countTransfer_4 (by decide +kernel) (by decide)
set_option maxRecDepth 20000 in
theorem ggX11_countTransfer_X11_happens : GoodIn wsX11_countTransfer wsX11_happens := (gk_code 70 rfl (gk_fieldLink 71 rfl (gk_fieldLink 72 rfl (gk_fieldLink 73 rfl (gk_fieldLink 74 rfl (gk_fieldLink 5 rfl (gk_fieldLink 75 rfl (gk_fieldLink 6 rfl (gk_lays 85 rfl (gk_laysFinal 86 rfl (gk_lays 87 rfl (gk_laysFinal 88 rfl (gk_lays 89 rfl (gk_laysFinal 90 rfl (gk_laysFinal 91 rfl (gk_laysFinal 92 rfl (gk_laysFinal 93 rfl (gk_lays 94 rfl (gk_laysFinal 95 rfl (gk_laysFinal 96 rfl (gk_laysFinal 97 rfl (gk_laysFinal 98 rfl (gk_lays 99 rfl (gk_laysFinal 100 rfl (gk_laysFinal 101 rfl (gk_laysFinal 102 rfl (gk_laysFinal 103 rfl (gk_laysFinal 104 rfl (gk_laysFinal 105 rfl (gk_laysFinal 106 rfl (gk_laysFinal 107 rfl (gk_lays 108 rfl (gk_lays 109 rfl (gk_lays 110 rfl (gk_lays 111 rfl (gk_lays 112 rfl (gk_lays 113 rfl (gk_lays 114 rfl (gk_laysFinal 115 rfl (gk_lays 116 rfl (gk_laysFinal 117 rfl (gk_laysFinal 118 rfl (gk_laysFinal 119 rfl (gk_laysFinal 120 rfl (gk_laysFinal 121 rfl (gk_laysFinal 122 rfl (gk_laysFinal 123 rfl (gk_laysFinal 124 rfl (gk_laysFinal 125 rfl (gk_laysFinal 126 rfl (gk_lays 127 rfl (gk_laysFinal 128 rfl (gk_lays 129 rfl (gk_laysFinal 130 rfl (gk_laysFinal 131 rfl (gk_laysFinal 132 rfl (gk_laysFinal 133 rfl (gk_laysFinal 134 rfl (gk_laysFinal 135 rfl (gk_laysFinal 136 rfl (gk_laysFinal 137 rfl (gn))))))))))))))))))))))))))))))))))))))))))))))))))))))))))))))
set_option maxRecDepth 20000 in
theorem gX11_countTransfer_X11_happens : GoodIn wsX11_countTransfer (wsV RX11 238 RX11 yX11_happens wsX11_happens) := goodIn_app (gk_methodLink 67 rfl (gk_instanceMethod 68 rfl (gk_selects 69 rfl (gk_initialized 11 rfl (gn))))) ggX11_countTransfer_X11_happens
theorem dX11_countTransfer_142 : decode cX11_countTransfer 142 = .ok (.aload_n 0, 1) := dw42 (n := 128) (i := 14) kc_cX11_countTransfer_4 (by decide +kernel)
theorem dX11_countTransfer_143 : decode cX11_countTransfer 143 = .ok (.getfield 81, 3) := dw180 (n := 128) (i := 15) (a := 0) (b := 81) kc_cX11_countTransfer_4 (by decide +kernel) (by decide)
theorem dX11_countTransfer_146 : decode cX11_countTransfer 146 = .ok (.iload_n 3, 1) := dw29 (n := 128) (i := 18) kc_cX11_countTransfer_4 (by decide +kernel)
theorem dX11_countTransfer_147 : decode cX11_countTransfer 147 = .ok (.iconst 0, 1) := dw3 (n := 128) (i := 19) kc_cX11_countTransfer_4 (by decide +kernel)
theorem dX11_countTransfer_148 : decode cX11_countTransfer 148 = .ok (.bastore, 1) := dw84 (n := 128) (i := 20) kc_cX11_countTransfer_4 (by decide +kernel)
theorem dX11_countTransfer_149 : decode cX11_countTransfer 149 = .ok (.goto (-130), 3) := dw167 (n := 128) (i := 21) (a := 255) (b := 126) kc_cX11_countTransfer_4 (by decide +kernel) (by decide)
theorem dX11_countTransfer_106 : decode cX11_countTransfer 106 = .ok (.iload 4, 2) := dw21 (n := 96) (i := 10) (a := 4) kc_cX11_countTransfer_3 (by decide +kernel) (by decide)
theorem dX11_countTransfer_108 : decode cX11_countTransfer 108 = .ok (.ifCond .ne 9, 3) := dw154 (n := 96) (i := 12) (a := 0) (b := 9) kc_cX11_countTransfer_3 (by decide +kernel) (by decide)
theorem dX11_countTransfer_111 : decode cX11_countTransfer 111 = .ok (.aload_n 0, 1) := dw42 (n := 96) (i := 15) kc_cX11_countTransfer_3 (by decide +kernel)
theorem dX11_countTransfer_112 : decode cX11_countTransfer 112 = .ok (.iload_n 3, 1) := dw29 (n := 96) (i := 16) kc_cX11_countTransfer_3 (by decide +kernel)
theorem dX11_countTransfer_113 : decode cX11_countTransfer 113 = .ok (.lload_n 1, 1) := dw31 (n := 96) (i := 17) kc_cX11_countTransfer_3 (by decide +kernel)
theorem dX11_countTransfer_114 : decode cX11_countTransfer 114 = .ok (.invokevirtual 267, 3) := dw182 (n := 96) (i := 18) (a := 1) (b := 11) kc_cX11_countTransfer_3 (by decide +kernel) (by decide)
set_option maxRecDepth 20000 in
theorem ggX11_countTransfer_X11_lighten : GoodIn wsX11_countTransfer wsX11_lighten := (gk_code 66 rfl (gk_fieldLink 5 rfl (gk_fieldLink 6 rfl (gk_fieldLink 4 rfl (gk_fieldLink 45 rfl (gk_fieldLink 46 rfl (gk_fieldLink 13 rfl (gk_fieldLink 1 rfl (gk_fieldLink 25 rfl (gk_fieldLink 26 rfl (gk_methodLink 47 rfl (gk_instanceMethod 48 rfl (gk_selects 49 rfl (gk_initialized 11 rfl (gk_code 50 rfl (gk_constantLong 51 rfl (gk_methodLink 52 rfl (gk_static 53 rfl (gk_code 54 rfl (gk_methodLink 31 rfl (gk_instanceMethod 32 rfl (gk_selects 33 rfl (gk_code 34 rfl (gk_fieldLink 14 rfl (gk_methodLink 35 rfl (gk_instanceMethod 36 rfl (gk_selects 37 rfl (gk_code 38 rfl (gk_fieldLink 39 rfl (gk_fieldLink 7 rfl (gk_fieldLink 40 rfl (gk_lays 85 rfl (gk_laysFinal 86 rfl (gk_lays 87 rfl (gk_laysFinal 88 rfl (gk_lays 89 rfl (gk_laysFinal 90 rfl (gk_laysFinal 91 rfl (gk_laysFinal 92 rfl (gk_laysFinal 93 rfl (gk_lays 94 rfl (gk_laysFinal 95 rfl (gk_laysFinal 96 rfl (gk_laysFinal 97 rfl (gk_laysFinal 98 rfl (gk_lays 99 rfl (gk_laysFinal 100 rfl (gk_laysFinal 101 rfl (gk_laysFinal 102 rfl (gk_laysFinal 103 rfl (gk_laysFinal 104 rfl (gk_laysFinal 105 rfl (gk_laysFinal 106 rfl (gk_laysFinal 107 rfl (gk_lays 108 rfl (gk_lays 109 rfl (gk_lays 110 rfl (gk_lays 111 rfl (gk_lays 112 rfl (gk_lays 113 rfl (gk_lays 114 rfl (gk_laysFinal 115 rfl (gk_lays 116 rfl (gk_laysFinal 117 rfl (gk_laysFinal 118 rfl (gk_laysFinal 119 rfl (gk_laysFinal 120 rfl (gk_laysFinal 121 rfl (gk_laysFinal 122 rfl (gk_laysFinal 123 rfl (gk_laysFinal 124 rfl (gk_laysFinal 125 rfl (gk_laysFinal 126 rfl (gk_lays 127 rfl (gk_laysFinal 128 rfl (gk_lays 129 rfl (gk_laysFinal 130 rfl (gk_laysFinal 131 rfl (gk_laysFinal 132 rfl (gk_laysFinal 133 rfl (gk_laysFinal 134 rfl (gk_laysFinal 135 rfl (gk_laysFinal 136 rfl (gk_laysFinal 137 rfl (gn)))))))))))))))))))))))))))))))))))))))))))))))))))))))))))))))))))))))))))))))))))))
set_option maxRecDepth 20000 in
theorem gX11_countTransfer_X11_lighten : GoodIn wsX11_countTransfer (wsV RX11 267 RX11 yX11_lighten wsX11_lighten) := goodIn_app (gk_methodLink 63 rfl (gk_instanceMethod 64 rfl (gk_selects 65 rfl (gk_initialized 11 rfl (gn))))) ggX11_countTransfer_X11_lighten
theorem dX11_countTransfer_117 : decode cX11_countTransfer 117 = .ok (.aload_n 0, 1) := dw42 (n := 96) (i := 21) kc_cX11_countTransfer_3 (by decide +kernel)
theorem dX11_countTransfer_118 : decode cX11_countTransfer 118 = .ok (.iconst 1, 1) := dw4 (n := 96) (i := 22) kc_cX11_countTransfer_3 (by decide +kernel)
theorem dX11_countTransfer_119 : decode cX11_countTransfer 119 = .ok (.iload_n 3, 1) := dw29 (n := 96) (i := 23) kc_cX11_countTransfer_3 (by decide +kernel)
theorem dX11_countTransfer_120 : decode cX11_countTransfer 120 = .ok (.invokevirtual 238, 3) := dw182 (n := 96) (i := 24) (a := 0) (b := 238) kc_cX11_countTransfer_3 (by decide +kernel) (by decide)
theorem dX11_countTransfer_123 : decode cX11_countTransfer 123 = .ok (.aload_n 0, 1) := dw42 (n := 96) (i := 27) kc_cX11_countTransfer_3 (by decide +kernel)
theorem dX11_countTransfer_124 : decode cX11_countTransfer 124 = .ok (.iload_n 3, 1) := dw29 (n := 96) (i := 28) kc_cX11_countTransfer_3 (by decide +kernel)
theorem dX11_countTransfer_125 : decode cX11_countTransfer 125 = .ok (.invokevirtual 242, 3) := dw182 (n := 96) (i := 29) (a := 0) (b := 242) kc_cX11_countTransfer_3 (by decide +kernel) (by decide)
set_option maxRecDepth 20000 in
theorem ggX11_countTransfer_X11_gives : GoodIn wsX11_countTransfer wsX11_gives := (gk_code 79 rfl (gk_fieldLink 80 rfl (gk_fieldLink 3 rfl (gk_lays 85 rfl (gk_laysFinal 86 rfl (gk_lays 87 rfl (gk_laysFinal 88 rfl (gk_lays 89 rfl (gk_laysFinal 90 rfl (gk_laysFinal 91 rfl (gk_laysFinal 92 rfl (gk_laysFinal 93 rfl (gk_lays 94 rfl (gk_laysFinal 95 rfl (gk_laysFinal 96 rfl (gk_laysFinal 97 rfl (gk_laysFinal 98 rfl (gk_lays 99 rfl (gk_laysFinal 100 rfl (gk_laysFinal 101 rfl (gk_laysFinal 102 rfl (gk_laysFinal 103 rfl (gk_laysFinal 104 rfl (gk_laysFinal 105 rfl (gk_laysFinal 106 rfl (gk_laysFinal 107 rfl (gk_lays 108 rfl (gk_lays 109 rfl (gk_lays 110 rfl (gk_lays 111 rfl (gk_lays 112 rfl (gk_lays 113 rfl (gk_lays 114 rfl (gk_laysFinal 115 rfl (gk_lays 116 rfl (gk_laysFinal 117 rfl (gk_laysFinal 118 rfl (gk_laysFinal 119 rfl (gk_laysFinal 120 rfl (gk_laysFinal 121 rfl (gk_laysFinal 122 rfl (gk_laysFinal 123 rfl (gk_laysFinal 124 rfl (gk_laysFinal 125 rfl (gk_laysFinal 126 rfl (gk_lays 127 rfl (gk_laysFinal 128 rfl (gk_lays 129 rfl (gk_laysFinal 130 rfl (gk_laysFinal 131 rfl (gk_laysFinal 132 rfl (gk_laysFinal 133 rfl (gk_laysFinal 134 rfl (gk_laysFinal 135 rfl (gk_laysFinal 136 rfl (gk_laysFinal 137 rfl (gn)))))))))))))))))))))))))))))))))))))))))))))))))))))))))
set_option maxRecDepth 20000 in
theorem gX11_countTransfer_X11_gives : GoodIn wsX11_countTransfer (wsV RX11 242 RX11 yX11_gives wsX11_gives) := goodIn_app (gk_methodLink 76 rfl (gk_instanceMethod 77 rfl (gk_selects 78 rfl (gk_initialized 11 rfl (gn))))) ggX11_countTransfer_X11_gives
theorem dX11_countTransfer_128 : decode cX11_countTransfer 128 = .ok (.goto 14, 3) := dw167 (n := 128) (i := 0) (a := 0) (b := 14) kc_cX11_countTransfer_4 (by decide +kernel) (by decide)
theorem dX11_countTransfer_76 : decode cX11_countTransfer 76 = .ok (.iconst 1, 1) := dw4 (n := 64) (i := 12) kc_cX11_countTransfer_2 (by decide +kernel)
theorem dX11_countTransfer_77 : decode cX11_countTransfer 77 = .ok (.goto 4, 3) := dw167 (n := 64) (i := 13) (a := 0) (b := 4) kc_cX11_countTransfer_2 (by decide +kernel) (by decide)
theorem dX11_begin_0 : decode cX11_begin 0 = .ok (.aload_n 0, 1) := dw42 (n := 0) (i := 0) kc_cX11_begin_0 (by decide +kernel)
theorem dX11_begin_1 : decode cX11_begin 1 = .ok (.iload_n 1, 1) := dw27 (n := 0) (i := 1) kc_cX11_begin_0 (by decide +kernel)
theorem dX11_begin_2 : decode cX11_begin 2 = .ok (.putfield 201, 3) := dw181 (n := 0) (i := 2) (a := 0) (b := 201) kc_cX11_begin_0 (by decide +kernel) (by decide)
theorem in_X11_begin_11 : ∀ w ∈ u_ws RX11 TX11 53, w ∈ wsX11_begin := fun _ h => List.mem_cons_of_mem _ (List.mem_append_right _ h)
theorem dX11_begin_5 : decode cX11_begin 5 = .ok (.aload_n 0, 1) := dw42 (n := 0) (i := 5) kc_cX11_begin_0 (by decide +kernel)
theorem dX11_begin_6 : decode cX11_begin 6 = .ok (.iload_n 2, 1) := dw28 (n := 0) (i := 6) kc_cX11_begin_0 (by decide +kernel)
theorem dX11_begin_7 : decode cX11_begin 7 = .ok (.putfield 231, 3) := dw181 (n := 0) (i := 7) (a := 0) (b := 231) kc_cX11_begin_0 (by decide +kernel) (by decide)
theorem dX11_begin_10 : decode cX11_begin 10 = .ok (.aload_n 0, 1) := dw42 (n := 0) (i := 10) kc_cX11_begin_0 (by decide +kernel)
theorem dX11_begin_11 : decode cX11_begin 11 = .ok (.iconst 0, 1) := dw3 (n := 0) (i := 11) kc_cX11_begin_0 (by decide +kernel)
theorem dX11_begin_12 : decode cX11_begin 12 = .ok (.putfield 211, 3) := dw181 (n := 0) (i := 12) (a := 0) (b := 211) kc_cX11_begin_0 (by decide +kernel) (by decide)
theorem dX11_begin_15 : decode cX11_begin 15 = .ok (.aload_n 0, 1) := dw42 (n := 0) (i := 15) kc_cX11_begin_0 (by decide +kernel)
theorem dX11_begin_16 : decode cX11_begin 16 = .ok (.iconst 0, 1) := dw3 (n := 0) (i := 16) kc_cX11_begin_0 (by decide +kernel)
theorem dX11_begin_17 : decode cX11_begin 17 = .ok (.putfield 208, 3) := dw181 (n := 0) (i := 17) (a := 0) (b := 208) kc_cX11_begin_0 (by decide +kernel) (by decide)
theorem dX11_begin_20 : decode cX11_begin 20 = .ok (.aload_n 0, 1) := dw42 (n := 0) (i := 20) kc_cX11_begin_0 (by decide +kernel)
theorem dX11_begin_21 : decode cX11_begin 21 = .ok (.iconst 0, 1) := dw3 (n := 0) (i := 21) kc_cX11_begin_0 (by decide +kernel)
theorem dX11_begin_22 : decode cX11_begin 22 = .ok (.putfield 195, 3) := dw181 (n := 0) (i := 22) (a := 0) (b := 195) kc_cX11_begin_0 (by decide +kernel) (by decide)
theorem dX11_begin_25 : decode cX11_begin 25 = .ok (.iconst 0, 1) := dw3 (n := 0) (i := 25) kc_cX11_begin_0 (by decide +kernel)
theorem dX11_begin_26 : decode cX11_begin 26 = .ok (.istore_n 3, 1) := dw62 (n := 0) (i := 26) kc_cX11_begin_0 (by decide +kernel)
theorem dX11_begin_27 : decode cX11_begin 27 = .ok (.iload_n 3, 1) := dw29 (n := 0) (i := 27) kc_cX11_begin_0 (by decide +kernel)
theorem dX11_begin_28 : decode cX11_begin 28 = .ok (.bipush 10, 2) := dw16 (n := 0) (i := 28) (a := 10) kc_cX11_begin_0 (by decide +kernel) (by decide)
theorem dX11_begin_30 : decode cX11_begin 30 = .ok (.if_icmp .ge 28, 3) := dw162 (n := 0) (i := 30) (a := 0) (b := 28) kc_cX11_begin_0 (by decide +kernel) (by decide)
theorem dX11_begin_58 : decode cX11_begin 58 = .ok (.iconst 0, 1) := dw3 (n := 32) (i := 26) kc_cX11_begin_1 (by decide +kernel)
theorem dX11_begin_59 : decode cX11_begin 59 = .ok (.istore_n 3, 1) := dw62 (n := 32) (i := 27) kc_cX11_begin_1 (by decide +kernel)
theorem dX11_begin_60 : decode cX11_begin 60 = .ok (.iload_n 3, 1) := dw29 (n := 32) (i := 28) kc_cX11_begin_1 (by decide +kernel)
theorem dX11_begin_61 : decode cX11_begin 61 = .ok (.bipush 40, 2) := dw16 (n := 32) (i := 29) (a := 40) kc_cX11_begin_1 (by decide +kernel) (by decide)
theorem dX11_begin_63 : decode cX11_begin 63 = .ok (.if_icmp .ge 54, 3) := dw162 (n := 32) (i := 31) (a := 0) (b := 54) kc_cX11_begin_1 (by decide +kernel) (by decide)
theorem dX11_begin_117 : decode cX11_begin 117 = .ok (.return_, 1) := dw177 (n := 96) (i := 21) kc_cX11_begin_3 (by decide +kernel)
theorem dX11_begin_66 : decode cX11_begin 66 = .ok (.aload_n 0, 1) := dw42 (n := 64) (i := 2) kc_cX11_begin_2 (by decide +kernel)
theorem dX11_begin_67 : decode cX11_begin 67 = .ok (.getfield 34, 3) := dw180 (n := 64) (i := 3) (a := 0) (b := 34) kc_cX11_begin_2 (by decide +kernel) (by decide)
theorem dX11_begin_70 : decode cX11_begin 70 = .ok (.bipush 40, 2) := dw16 (n := 64) (i := 6) (a := 40) kc_cX11_begin_2 (by decide +kernel) (by decide)
theorem dX11_begin_72 : decode cX11_begin 72 = .ok (.iload_n 1, 1) := dw27 (n := 64) (i := 8) kc_cX11_begin_2 (by decide +kernel)
theorem dX11_begin_73 : decode cX11_begin 73 = .ok (.imul, 1) := dw104 (n := 64) (i := 9) kc_cX11_begin_2 (by decide +kernel)
theorem dX11_begin_74 : decode cX11_begin 74 = .ok (.iload_n 3, 1) := dw29 (n := 64) (i := 10) kc_cX11_begin_2 (by decide +kernel)
theorem dX11_begin_75 : decode cX11_begin 75 = .ok (.iadd, 1) := dw96 (n := 64) (i := 11) kc_cX11_begin_2 (by decide +kernel)
theorem dX11_begin_76 : decode cX11_begin 76 = .ok (.iaload, 1) := dw46 (n := 64) (i := 12) kc_cX11_begin_2 (by decide +kernel)
theorem dX11_begin_77 : decode cX11_begin 77 = .ok (.istore 4, 2) := dw54 (n := 64) (i := 13) (a := 4) kc_cX11_begin_2 (by decide +kernel) (by decide)
theorem dX11_begin_79 : decode cX11_begin 79 = .ok (.aload_n 0, 1) := dw42 (n := 64) (i := 15) kc_cX11_begin_2 (by decide +kernel)
theorem dX11_begin_80 : decode cX11_begin 80 = .ok (.getfield 93, 3) := dw180 (n := 64) (i := 16) (a := 0) (b := 93) kc_cX11_begin_2 (by decide +kernel) (by decide)
theorem dX11_begin_83 : decode cX11_begin 83 = .ok (.iload_n 3, 1) := dw29 (n := 64) (i := 19) kc_cX11_begin_2 (by decide +kernel)
theorem dX11_begin_84 : decode cX11_begin 84 = .ok (.iload 4, 2) := dw21 (n := 64) (i := 20) (a := 4) kc_cX11_begin_2 (by decide +kernel) (by decide)
theorem dX11_begin_86 : decode cX11_begin 86 = .ok (.bipush (-9), 2) := dw16 (n := 64) (i := 22) (a := 247) kc_cX11_begin_2 (by decide +kernel) (by decide)
theorem dX11_begin_88 : decode cX11_begin 88 = .ok (.if_icmp .ne 7, 3) := dw160 (n := 64) (i := 24) (a := 0) (b := 7) kc_cX11_begin_2 (by decide +kernel) (by decide)
theorem dX11_begin_95 : decode cX11_begin 95 = .ok (.aload_n 0, 1) := dw42 (n := 64) (i := 31) kc_cX11_begin_2 (by decide +kernel)
theorem dX11_begin_96 : decode cX11_begin 96 = .ok (.getfield 19, 3) := dw180 (n := 96) (i := 0) (a := 0) (b := 19) kc_cX11_begin_3 (by decide +kernel) (by decide)
theorem dX11_begin_99 : decode cX11_begin 99 = .ok (.iload 4, 2) := dw21 (n := 96) (i := 3) (a := 4) kc_cX11_begin_3 (by decide +kernel) (by decide)
theorem dX11_begin_101 : decode cX11_begin 101 = .ok (.iaload, 1) := dw46 (n := 96) (i := 5) kc_cX11_begin_3 (by decide +kernel)
theorem dX11_begin_102 : decode cX11_begin 102 = .ok (.i2l, 1) := dw133 (n := 96) (i := 6) kc_cX11_begin_3 (by decide +kernel)
theorem dX11_begin_103 : decode cX11_begin 103 = .ok (.lastore, 1) := dw80 (n := 96) (i := 7) kc_cX11_begin_3 (by decide +kernel)
theorem dX11_begin_104 : decode cX11_begin 104 = .ok (.aload_n 0, 1) := dw42 (n := 96) (i := 8) kc_cX11_begin_3 (by decide +kernel)
theorem dX11_begin_105 : decode cX11_begin 105 = .ok (.getfield 96, 3) := dw180 (n := 96) (i := 9) (a := 0) (b := 96) kc_cX11_begin_3 (by decide +kernel) (by decide)
theorem dX11_begin_108 : decode cX11_begin 108 = .ok (.iload_n 3, 1) := dw29 (n := 96) (i := 12) kc_cX11_begin_3 (by decide +kernel)
theorem dX11_begin_109 : decode cX11_begin 109 = .ok (.lconst 1, 1) := dw10 (n := 96) (i := 13) kc_cX11_begin_3 (by decide +kernel)
theorem dX11_begin_110 : decode cX11_begin 110 = .ok (.lastore, 1) := dw80 (n := 96) (i := 14) kc_cX11_begin_3 (by decide +kernel)
theorem dX11_begin_111 : decode cX11_begin 111 = .ok (.iinc 3 1, 3) := by decide +kernel
theorem dX11_begin_114 : decode cX11_begin 114 = .ok (.goto (-54), 3) := dw167 (n := 96) (i := 18) (a := 255) (b := 202) kc_cX11_begin_3 (by decide +kernel) (by decide)
theorem dX11_begin_91 : decode cX11_begin 91 = .ok (.lconst 0, 1) := dw9 (n := 64) (i := 27) kc_cX11_begin_2 (by decide +kernel)
theorem dX11_begin_92 : decode cX11_begin 92 = .ok (.goto 11, 3) := dw167 (n := 64) (i := 28) (a := 0) (b := 11) kc_cX11_begin_2 (by decide +kernel) (by decide)
theorem dX11_begin_33 : decode cX11_begin 33 = .ok (.aload_n 0, 1) := dw42 (n := 32) (i := 1) kc_cX11_begin_1 (by decide +kernel)
theorem dX11_begin_34 : decode cX11_begin 34 = .ok (.getfield 81, 3) := dw180 (n := 32) (i := 2) (a := 0) (b := 81) kc_cX11_begin_1 (by decide +kernel) (by decide)
theorem dX11_begin_37 : decode cX11_begin 37 = .ok (.iload_n 3, 1) := dw29 (n := 32) (i := 5) kc_cX11_begin_1 (by decide +kernel)
theorem dX11_begin_38 : decode cX11_begin 38 = .ok (.iload_n 3, 1) := dw29 (n := 32) (i := 6) kc_cX11_begin_1 (by decide +kernel)
theorem dX11_begin_39 : decode cX11_begin 39 = .ok (.aload_n 0, 1) := dw42 (n := 32) (i := 7) kc_cX11_begin_1 (by decide +kernel)
theorem dX11_begin_40 : decode cX11_begin 40 = .ok (.getfield 137, 3) := dw180 (n := 32) (i := 8) (a := 0) (b := 137) kc_cX11_begin_1 (by decide +kernel) (by decide)
theorem dX11_begin_43 : decode cX11_begin 43 = .ok (.if_icmp .ge 7, 3) := dw162 (n := 32) (i := 11) (a := 0) (b := 7) kc_cX11_begin_1 (by decide +kernel) (by decide)
theorem dX11_begin_50 : decode cX11_begin 50 = .ok (.iconst 0, 1) := dw3 (n := 32) (i := 18) kc_cX11_begin_1 (by decide +kernel)
theorem dX11_begin_51 : decode cX11_begin 51 = .ok (.bastore, 1) := dw84 (n := 32) (i := 19) kc_cX11_begin_1 (by decide +kernel)
theorem dX11_begin_52 : decode cX11_begin 52 = .ok (.iinc 3 1, 3) := by decide +kernel
theorem dX11_begin_55 : decode cX11_begin 55 = .ok (.goto (-28), 3) := dw167 (n := 32) (i := 23) (a := 255) (b := 228) kc_cX11_begin_1 (by decide +kernel) (by decide)
theorem dX11_begin_46 : decode cX11_begin 46 = .ok (.iconst 1, 1) := dw4 (n := 32) (i := 14) kc_cX11_begin_1 (by decide +kernel)
theorem dX11_begin_47 : decode cX11_begin 47 = .ok (.goto 4, 3) := dw167 (n := 32) (i := 15) (a := 0) (b := 4) kc_cX11_begin_1 (by decide +kernel) (by decide)
theorem dX11_takeOver_0 : decode cX11_takeOver 0 = .ok (.aload_n 0, 1) := dw42 (n := 0) (i := 0) kc_cX11_takeOver_0 (by decide +kernel)
theorem dX11_takeOver_1 : decode cX11_takeOver 1 = .ok (.aload_n 0, 1) := dw42 (n := 0) (i := 1) kc_cX11_takeOver_0 (by decide +kernel)
theorem dX11_takeOver_2 : decode cX11_takeOver 2 = .ok (.getfield 211, 3) := dw180 (n := 0) (i := 2) (a := 0) (b := 211) kc_cX11_takeOver_0 (by decide +kernel) (by decide)
theorem in_X11_takeOver_11 : ∀ w ∈ u_ws RX11 TX11 53, w ∈ wsX11_takeOver := fun _ h => List.mem_cons_of_mem _ (List.mem_append_right _ h)
theorem dX11_takeOver_5 : decode cX11_takeOver 5 = .ok (.putfield 290, 3) := dw181 (n := 0) (i := 5) (a := 1) (b := 34) kc_cX11_takeOver_0 (by decide +kernel) (by decide)
theorem dX11_takeOver_8 : decode cX11_takeOver 8 = .ok (.aload_n 0, 1) := dw42 (n := 0) (i := 8) kc_cX11_takeOver_0 (by decide +kernel)
theorem dX11_takeOver_9 : decode cX11_takeOver 9 = .ok (.aload_n 0, 1) := dw42 (n := 0) (i := 9) kc_cX11_takeOver_0 (by decide +kernel)
theorem dX11_takeOver_10 : decode cX11_takeOver 10 = .ok (.getfield 208, 3) := dw180 (n := 0) (i := 10) (a := 0) (b := 208) kc_cX11_takeOver_0 (by decide +kernel) (by decide)
theorem dX11_takeOver_13 : decode cX11_takeOver 13 = .ok (.putfield 293, 3) := dw181 (n := 0) (i := 13) (a := 1) (b := 37) kc_cX11_takeOver_0 (by decide +kernel) (by decide)
theorem dX11_takeOver_16 : decode cX11_takeOver 16 = .ok (.iconst 0, 1) := dw3 (n := 0) (i := 16) kc_cX11_takeOver_0 (by decide +kernel)
theorem dX11_takeOver_17 : decode cX11_takeOver 17 = .ok (.istore_n 1, 1) := dw60 (n := 0) (i := 17) kc_cX11_takeOver_0 (by decide +kernel)
theorem dX11_takeOver_18 : decode cX11_takeOver 18 = .ok (.iload_n 1, 1) := dw27 (n := 0) (i := 18) kc_cX11_takeOver_0 (by decide +kernel)
theorem dX11_takeOver_19 : decode cX11_takeOver 19 = .ok (.bipush 30, 2) := dw16 (n := 0) (i := 19) (a := 30) kc_cX11_takeOver_0 (by decide +kernel) (by decide)
theorem dX11_takeOver_21 : decode cX11_takeOver 21 = .ok (.if_icmp .ge 21, 3) := dw162 (n := 0) (i := 21) (a := 0) (b := 21) kc_cX11_takeOver_0 (by decide +kernel) (by decide)
theorem dX11_takeOver_42 : decode cX11_takeOver 42 = .ok (.iconst 0, 1) := dw3 (n := 32) (i := 10) kc_cX11_takeOver_1 (by decide +kernel)
theorem dX11_takeOver_43 : decode cX11_takeOver 43 = .ok (.istore_n 1, 1) := dw60 (n := 32) (i := 11) kc_cX11_takeOver_1 (by decide +kernel)
theorem dX11_takeOver_44 : decode cX11_takeOver 44 = .ok (.iload_n 1, 1) := dw27 (n := 32) (i := 12) kc_cX11_takeOver_1 (by decide +kernel)
theorem dX11_takeOver_45 : decode cX11_takeOver 45 = .ok (.bipush 40, 2) := dw16 (n := 32) (i := 13) (a := 40) kc_cX11_takeOver_1 (by decide +kernel) (by decide)
theorem dX11_takeOver_47 : decode cX11_takeOver 47 = .ok (.if_icmp .ge 33, 3) := dw162 (n := 32) (i := 15) (a := 0) (b := 33) kc_cX11_takeOver_1 (by decide +kernel) (by decide)
theorem dX11_takeOver_80 : decode cX11_takeOver 80 = .ok (.iconst 0, 1) := dw3 (n := 64) (i := 16) kc_cX11_takeOver_2 (by decide +kernel)
theorem dX11_takeOver_81 : decode cX11_takeOver 81 = .ok (.istore_n 1, 1) := dw60 (n := 64) (i := 17) kc_cX11_takeOver_2 (by decide +kernel)
theorem dX11_takeOver_82 : decode cX11_takeOver 82 = .ok (.iload_n 1, 1) := dw27 (n := 64) (i := 18) kc_cX11_takeOver_2 (by decide +kernel)
theorem dX11_takeOver_83 : decode cX11_takeOver 83 = .ok (.sipush 400, 3) := dw17 (n := 64) (i := 19) (a := 1) (b := 144) kc_cX11_takeOver_2 (by decide +kernel) (by decide)
theorem dX11_takeOver_86 : decode cX11_takeOver 86 = .ok (.if_icmp .ge 33, 3) := dw162 (n := 64) (i := 22) (a := 0) (b := 33) kc_cX11_takeOver_2 (by decide +kernel) (by decide)
theorem dX11_takeOver_119 : decode cX11_takeOver 119 = .ok (.return_, 1) := dw177 (n := 96) (i := 23) kc_cX11_takeOver_3 (by decide +kernel)
theorem dX11_takeOver_89 : decode cX11_takeOver 89 = .ok (.aload_n 0, 1) := dw42 (n := 64) (i := 25) kc_cX11_takeOver_2 (by decide +kernel)
theorem dX11_takeOver_90 : decode cX11_takeOver 90 = .ok (.getfield 108, 3) := dw180 (n := 64) (i := 26) (a := 0) (b := 108) kc_cX11_takeOver_2 (by decide +kernel) (by decide)
theorem dX11_takeOver_93 : decode cX11_takeOver 93 = .ok (.iload_n 1, 1) := dw27 (n := 64) (i := 29) kc_cX11_takeOver_2 (by decide +kernel)
theorem dX11_takeOver_94 : decode cX11_takeOver 94 = .ok (.aload_n 0, 1) := dw42 (n := 64) (i := 30) kc_cX11_takeOver_2 (by decide +kernel)
theorem dX11_takeOver_95 : decode cX11_takeOver 95 = .ok (.getfield 74, 3) := dw180 (n := 64) (i := 31) (a := 0) (b := 74) kc_cX11_takeOver_2 (by decide +kernel) (by decide)
theorem dX11_takeOver_98 : decode cX11_takeOver 98 = .ok (.iload_n 1, 1) := dw27 (n := 96) (i := 2) kc_cX11_takeOver_3 (by decide +kernel)
theorem dX11_takeOver_99 : decode cX11_takeOver 99 = .ok (.laload, 1) := dw47 (n := 96) (i := 3) kc_cX11_takeOver_3 (by decide +kernel)
theorem dX11_takeOver_100 : decode cX11_takeOver 100 = .ok (.lastore, 1) := dw80 (n := 96) (i := 4) kc_cX11_takeOver_3 (by decide +kernel)
theorem dX11_takeOver_101 : decode cX11_takeOver 101 = .ok (.aload_n 0, 1) := dw42 (n := 96) (i := 5) kc_cX11_takeOver_3 (by decide +kernel)
theorem dX11_takeOver_102 : decode cX11_takeOver 102 = .ok (.getfield 111, 3) := dw180 (n := 96) (i := 6) (a := 0) (b := 111) kc_cX11_takeOver_3 (by decide +kernel) (by decide)
theorem dX11_takeOver_105 : decode cX11_takeOver 105 = .ok (.iload_n 1, 1) := dw27 (n := 96) (i := 9) kc_cX11_takeOver_3 (by decide +kernel)
theorem dX11_takeOver_106 : decode cX11_takeOver 106 = .ok (.aload_n 0, 1) := dw42 (n := 96) (i := 10) kc_cX11_takeOver_3 (by decide +kernel)
theorem dX11_takeOver_107 : decode cX11_takeOver 107 = .ok (.getfield 78, 3) := dw180 (n := 96) (i := 11) (a := 0) (b := 78) kc_cX11_takeOver_3 (by decide +kernel) (by decide)
theorem dX11_takeOver_110 : decode cX11_takeOver 110 = .ok (.iload_n 1, 1) := dw27 (n := 96) (i := 14) kc_cX11_takeOver_3 (by decide +kernel)
theorem dX11_takeOver_111 : decode cX11_takeOver 111 = .ok (.laload, 1) := dw47 (n := 96) (i := 15) kc_cX11_takeOver_3 (by decide +kernel)
theorem dX11_takeOver_112 : decode cX11_takeOver 112 = .ok (.lastore, 1) := dw80 (n := 96) (i := 16) kc_cX11_takeOver_3 (by decide +kernel)
theorem dX11_takeOver_113 : decode cX11_takeOver 113 = .ok (.iinc 1 1, 3) := by decide +kernel
theorem dX11_takeOver_116 : decode cX11_takeOver 116 = .ok (.goto (-34), 3) := dw167 (n := 96) (i := 20) (a := 255) (b := 222) kc_cX11_takeOver_3 (by decide +kernel) (by decide)
theorem dX11_takeOver_50 : decode cX11_takeOver 50 = .ok (.aload_n 0, 1) := dw42 (n := 32) (i := 18) kc_cX11_takeOver_1 (by decide +kernel)
theorem dX11_takeOver_51 : decode cX11_takeOver 51 = .ok (.getfield 102, 3) := dw180 (n := 32) (i := 19) (a := 0) (b := 102) kc_cX11_takeOver_1 (by decide +kernel) (by decide)
theorem dX11_takeOver_54 : decode cX11_takeOver 54 = .ok (.iload_n 1, 1) := dw27 (n := 32) (i := 22) kc_cX11_takeOver_1 (by decide +kernel)
theorem dX11_takeOver_55 : decode cX11_takeOver 55 = .ok (.aload_n 0, 1) := dw42 (n := 32) (i := 23) kc_cX11_takeOver_1 (by decide +kernel)
theorem dX11_takeOver_56 : decode cX11_takeOver 56 = .ok (.getfield 68, 3) := dw180 (n := 32) (i := 24) (a := 0) (b := 68) kc_cX11_takeOver_1 (by decide +kernel) (by decide)
theorem dX11_takeOver_59 : decode cX11_takeOver 59 = .ok (.iload_n 1, 1) := dw27 (n := 32) (i := 27) kc_cX11_takeOver_1 (by decide +kernel)
theorem dX11_takeOver_60 : decode cX11_takeOver 60 = .ok (.iaload, 1) := dw46 (n := 32) (i := 28) kc_cX11_takeOver_1 (by decide +kernel)
theorem dX11_takeOver_61 : decode cX11_takeOver 61 = .ok (.iastore, 1) := dw79 (n := 32) (i := 29) kc_cX11_takeOver_1 (by decide +kernel)
theorem dX11_takeOver_62 : decode cX11_takeOver 62 = .ok (.aload_n 0, 1) := dw42 (n := 32) (i := 30) kc_cX11_takeOver_1 (by decide +kernel)
theorem dX11_takeOver_63 : decode cX11_takeOver 63 = .ok (.getfield 105, 3) := dw180 (n := 32) (i := 31) (a := 0) (b := 105) kc_cX11_takeOver_1 (by decide +kernel) (by decide)
theorem dX11_takeOver_66 : decode cX11_takeOver 66 = .ok (.iload_n 1, 1) := dw27 (n := 64) (i := 2) kc_cX11_takeOver_2 (by decide +kernel)
theorem dX11_takeOver_67 : decode cX11_takeOver 67 = .ok (.aload_n 0, 1) := dw42 (n := 64) (i := 3) kc_cX11_takeOver_2 (by decide +kernel)
theorem dX11_takeOver_68 : decode cX11_takeOver 68 = .ok (.getfield 71, 3) := dw180 (n := 64) (i := 4) (a := 0) (b := 71) kc_cX11_takeOver_2 (by decide +kernel) (by decide)
theorem dX11_takeOver_71 : decode cX11_takeOver 71 = .ok (.iload_n 1, 1) := dw27 (n := 64) (i := 7) kc_cX11_takeOver_2 (by decide +kernel)
theorem dX11_takeOver_72 : decode cX11_takeOver 72 = .ok (.iaload, 1) := dw46 (n := 64) (i := 8) kc_cX11_takeOver_2 (by decide +kernel)
theorem dX11_takeOver_73 : decode cX11_takeOver 73 = .ok (.iastore, 1) := dw79 (n := 64) (i := 9) kc_cX11_takeOver_2 (by decide +kernel)
theorem dX11_takeOver_74 : decode cX11_takeOver 74 = .ok (.iinc 1 1, 3) := by decide +kernel
theorem dX11_takeOver_77 : decode cX11_takeOver 77 = .ok (.goto (-33), 3) := dw167 (n := 64) (i := 13) (a := 255) (b := 223) kc_cX11_takeOver_2 (by decide +kernel) (by decide)
theorem dX11_takeOver_24 : decode cX11_takeOver 24 = .ok (.aload_n 0, 1) := dw42 (n := 0) (i := 24) kc_cX11_takeOver_0 (by decide +kernel)
theorem dX11_takeOver_25 : decode cX11_takeOver 25 = .ok (.getfield 99, 3) := dw180 (n := 0) (i := 25) (a := 0) (b := 99) kc_cX11_takeOver_0 (by decide +kernel) (by decide)
theorem dX11_takeOver_28 : decode cX11_takeOver 28 = .ok (.iload_n 1, 1) := dw27 (n := 0) (i := 28) kc_cX11_takeOver_0 (by decide +kernel)
theorem dX11_takeOver_29 : decode cX11_takeOver 29 = .ok (.aload_n 0, 1) := dw42 (n := 0) (i := 29) kc_cX11_takeOver_0 (by decide +kernel)
theorem dX11_takeOver_30 : decode cX11_takeOver 30 = .ok (.getfield 65, 3) := dw180 (n := 0) (i := 30) (a := 0) (b := 65) kc_cX11_takeOver_0 (by decide +kernel) (by decide)
theorem dX11_takeOver_33 : decode cX11_takeOver 33 = .ok (.iload_n 1, 1) := dw27 (n := 32) (i := 1) kc_cX11_takeOver_1 (by decide +kernel)
theorem dX11_takeOver_34 : decode cX11_takeOver 34 = .ok (.iaload, 1) := dw46 (n := 32) (i := 2) kc_cX11_takeOver_1 (by decide +kernel)
theorem dX11_takeOver_35 : decode cX11_takeOver 35 = .ok (.iastore, 1) := dw79 (n := 32) (i := 3) kc_cX11_takeOver_1 (by decide +kernel)
theorem dX11_takeOver_36 : decode cX11_takeOver 36 = .ok (.iinc 1 1, 3) := by decide +kernel
theorem dX11_takeOver_39 : decode cX11_takeOver 39 = .ok (.goto (-21), 3) := dw167 (n := 32) (i := 7) (a := 255) (b := 235) kc_cX11_takeOver_1 (by decide +kernel) (by decide)
theorem dX11_unlikeAt_0 : decode cX11_unlikeAt 0 = .ok (.iload_n 1, 1) := dw27 (n := 0) (i := 0) kc_cX11_unlikeAt_0 (by decide +kernel)
theorem dX11_unlikeAt_1 : decode cX11_unlikeAt 1 = .ok (.iconst 1, 1) := dw4 (n := 0) (i := 1) kc_cX11_unlikeAt_0 (by decide +kernel)
theorem dX11_unlikeAt_2 : decode cX11_unlikeAt 2 = .ok (.if_icmp .ne 7, 3) := dw160 (n := 0) (i := 2) (a := 0) (b := 7) kc_cX11_unlikeAt_0 (by decide +kernel) (by decide)
theorem dX11_unlikeAt_9 : decode cX11_unlikeAt 9 = .ok (.iconst 1, 1) := dw4 (n := 0) (i := 9) kc_cX11_unlikeAt_0 (by decide +kernel)
theorem dX11_unlikeAt_10 : decode cX11_unlikeAt 10 = .ok (.istore_n 3, 1) := dw62 (n := 0) (i := 10) kc_cX11_unlikeAt_0 (by decide +kernel)
theorem dX11_unlikeAt_11 : decode cX11_unlikeAt 11 = .ok (.iconst 0, 1) := dw3 (n := 0) (i := 11) kc_cX11_unlikeAt_0 (by decide +kernel)
theorem dX11_unlikeAt_12 : decode cX11_unlikeAt 12 = .ok (.istore 4, 2) := dw54 (n := 0) (i := 12) (a := 4) kc_cX11_unlikeAt_0 (by decide +kernel) (by decide)
theorem dX11_unlikeAt_14 : decode cX11_unlikeAt 14 = .ok (.iload 4, 2) := dw21 (n := 0) (i := 14) (a := 4) kc_cX11_unlikeAt_0 (by decide +kernel) (by decide)
theorem dX11_unlikeAt_16 : decode cX11_unlikeAt 16 = .ok (.aload_n 0, 1) := dw42 (n := 0) (i := 16) kc_cX11_unlikeAt_0 (by decide +kernel)
theorem dX11_unlikeAt_17 : decode cX11_unlikeAt 17 = .ok (.getfield 31, 3) := dw180 (n := 0) (i := 17) (a := 0) (b := 31) kc_cX11_unlikeAt_0 (by decide +kernel) (by decide)
theorem in_X11_unlikeAt_11 : ∀ w ∈ u_ws RX11 TX11 53, w ∈ wsX11_unlikeAt := fun _ h => List.mem_cons_of_mem _ (List.mem_append_right _ h)
theorem dX11_unlikeAt_20 : decode cX11_unlikeAt 20 = .ok (.iload_n 2, 1) := dw28 (n := 0) (i := 20) kc_cX11_unlikeAt_0 (by decide +kernel)
theorem dX11_unlikeAt_21 : decode cX11_unlikeAt 21 = .ok (.iaload, 1) := dw46 (n := 0) (i := 21) kc_cX11_unlikeAt_0 (by decide +kernel)
theorem dX11_unlikeAt_22 : decode cX11_unlikeAt 22 = .ok (.if_icmp .ge 47, 3) := dw162 (n := 0) (i := 22) (a := 0) (b := 47) kc_cX11_unlikeAt_0 (by decide +kernel) (by decide)
theorem dX11_unlikeAt_69 : decode cX11_unlikeAt 69 = .ok (.bipush (-9), 2) := dw16 (n := 64) (i := 5) (a := 247) kc_cX11_unlikeAt_2 (by decide +kernel) (by decide)
theorem dX11_unlikeAt_71 : decode cX11_unlikeAt 71 = .ok (.ireturn, 1) := dw172 (n := 64) (i := 7) kc_cX11_unlikeAt_2 (by decide +kernel)
theorem dX11_unlikeAt_25 : decode cX11_unlikeAt 25 = .ok (.aload_n 0, 1) := dw42 (n := 0) (i := 25) kc_cX11_unlikeAt_0 (by decide +kernel)
theorem dX11_unlikeAt_26 : decode cX11_unlikeAt 26 = .ok (.getfield 34, 3) := dw180 (n := 0) (i := 26) (a := 0) (b := 34) kc_cX11_unlikeAt_0 (by decide +kernel) (by decide)
theorem dX11_unlikeAt_29 : decode cX11_unlikeAt 29 = .ok (.bipush 40, 2) := dw16 (n := 0) (i := 29) (a := 40) kc_cX11_unlikeAt_0 (by decide +kernel) (by decide)
theorem dX11_unlikeAt_31 : decode cX11_unlikeAt 31 = .ok (.iload_n 2, 1) := dw28 (n := 0) (i := 31) kc_cX11_unlikeAt_0 (by decide +kernel)
theorem dX11_unlikeAt_32 : decode cX11_unlikeAt 32 = .ok (.imul, 1) := dw104 (n := 32) (i := 0) kc_cX11_unlikeAt_1 (by decide +kernel)
theorem dX11_unlikeAt_33 : decode cX11_unlikeAt 33 = .ok (.iload 4, 2) := dw21 (n := 32) (i := 1) (a := 4) kc_cX11_unlikeAt_1 (by decide +kernel) (by decide)
theorem dX11_unlikeAt_35 : decode cX11_unlikeAt 35 = .ok (.iadd, 1) := dw96 (n := 32) (i := 3) kc_cX11_unlikeAt_1 (by decide +kernel)
theorem dX11_unlikeAt_36 : decode cX11_unlikeAt 36 = .ok (.iaload, 1) := dw46 (n := 32) (i := 4) kc_cX11_unlikeAt_1 (by decide +kernel)
theorem dX11_unlikeAt_37 : decode cX11_unlikeAt 37 = .ok (.istore 5, 2) := dw54 (n := 32) (i := 5) (a := 5) kc_cX11_unlikeAt_1 (by decide +kernel) (by decide)
theorem dX11_unlikeAt_39 : decode cX11_unlikeAt 39 = .ok (.iload 5, 2) := dw21 (n := 32) (i := 7) (a := 5) kc_cX11_unlikeAt_1 (by decide +kernel) (by decide)
theorem dX11_unlikeAt_41 : decode cX11_unlikeAt 41 = .ok (.bipush (-9), 2) := dw16 (n := 32) (i := 9) (a := 247) kc_cX11_unlikeAt_1 (by decide +kernel) (by decide)
theorem dX11_unlikeAt_43 : decode cX11_unlikeAt 43 = .ok (.if_icmp .eq 20, 3) := dw159 (n := 32) (i := 11) (a := 0) (b := 20) kc_cX11_unlikeAt_1 (by decide +kernel) (by decide)
theorem dX11_unlikeAt_63 : decode cX11_unlikeAt 63 = .ok (.iinc 4 1, 3) := by decide +kernel
theorem dX11_unlikeAt_66 : decode cX11_unlikeAt 66 = .ok (.goto (-52), 3) := dw167 (n := 64) (i := 2) (a := 255) (b := 204) kc_cX11_unlikeAt_2 (by decide +kernel) (by decide)
theorem dX11_unlikeAt_46 : decode cX11_unlikeAt 46 = .ok (.aload_n 0, 1) := dw42 (n := 32) (i := 14) kc_cX11_unlikeAt_1 (by decide +kernel)
theorem dX11_unlikeAt_47 : decode cX11_unlikeAt 47 = .ok (.getfield 16, 3) := dw180 (n := 32) (i := 15) (a := 0) (b := 16) kc_cX11_unlikeAt_1 (by decide +kernel) (by decide)
theorem dX11_unlikeAt_50 : decode cX11_unlikeAt 50 = .ok (.iload 5, 2) := dw21 (n := 32) (i := 18) (a := 5) kc_cX11_unlikeAt_1 (by decide +kernel) (by decide)
theorem dX11_unlikeAt_52 : decode cX11_unlikeAt 52 = .ok (.iaload, 1) := dw46 (n := 32) (i := 20) kc_cX11_unlikeAt_1 (by decide +kernel)
theorem dX11_unlikeAt_53 : decode cX11_unlikeAt 53 = .ok (.iload_n 3, 1) := dw29 (n := 32) (i := 21) kc_cX11_unlikeAt_1 (by decide +kernel)
theorem dX11_unlikeAt_54 : decode cX11_unlikeAt 54 = .ok (.invokestatic 151, 3) := dw184 (n := 32) (i := 22) (a := 0) (b := 151) kc_cX11_unlikeAt_1 (by decide +kernel) (by decide)
set_option maxRecDepth 20000 in
theorem ggX11_unlikeAt_X11_isOf : GoodIn wsX11_unlikeAt wsX11_isOf := (gk_code 7 rfl (gn))
set_option maxRecDepth 20000 in
theorem gX11_unlikeAt_X11_isOf : GoodIn wsX11_unlikeAt (va_wsS RX11 151 yX11_isOf wsX11_isOf) := goodIn_app (gk_methodLink 4 rfl (gk_static 5 rfl (gk_initialized 6 rfl (gn)))) ggX11_unlikeAt_X11_isOf
theorem dX11_unlikeAt_57 : decode cX11_unlikeAt 57 = .ok (.ifCond .ne 6, 3) := dw154 (n := 32) (i := 25) (a := 0) (b := 6) kc_cX11_unlikeAt_1 (by decide +kernel) (by decide)
theorem dX11_unlikeAt_60 : decode cX11_unlikeAt 60 = .ok (.iload 4, 2) := dw21 (n := 32) (i := 28) (a := 4) kc_cX11_unlikeAt_1 (by decide +kernel) (by decide)
theorem dX11_unlikeAt_62 : decode cX11_unlikeAt 62 = .ok (.ireturn, 1) := dw172 (n := 32) (i := 30) kc_cX11_unlikeAt_1 (by decide +kernel)
theorem dX11_unlikeAt_5 : decode cX11_unlikeAt 5 = .ok (.iconst 3, 1) := dw6 (n := 0) (i := 5) kc_cX11_unlikeAt_0 (by decide +kernel)
theorem dX11_unlikeAt_6 : decode cX11_unlikeAt 6 = .ok (.goto 4, 3) := dw167 (n := 0) (i := 6) (a := 0) (b := 4) kc_cX11_unlikeAt_0 (by decide +kernel) (by decide)
set_option maxHeartbeats 4000000 in
set_option maxRecDepth 100000 in
theorem s_X11_unlikeAt (l : Launch) (D : va_G) (ad : Nat → Nat) (cs : Nat → ClassId) (M : MI) (L : ML) (x : Int32) (y : Int32) (hI : IR M) (hy : hasX (vR M) y) : Ci l yX11_unlikeAt wsX11_unlikeAt ({ frames := 1, cells := 0, slots := 0, locals := 21 }) D ad cs [.ref (ad 258), .int x, .int y] M L (fun r M1 L1 => M1 = M ∧ L1 = L ∧ (r = unV (vR M) y x ∧ (r.toInt = -9 ∨ (0 ≤ r.toInt ∧ r.toInt < 40)))) := by
  refine enter_i RX11 rfl [(0, .ref (ad 258)), (1, .int x), (2, .int y)] rfl (Nat.le_of_ble_eq_true rfl) (by decide +kernel) rfl ?_
  intro p e s m below meth c C hr
  have hF : ∀ k i, True → M k i = M k i := fun _ _ _ => rfl
  have hG : ∀ k i, True → L k i = L k i := fun _ _ _ => rfl
  have w0 : (vR M 0 0).toInt = (M 258 2).toInt := rfl
  have w1 : (vR M 0 1).toInt = (M 258 4).toInt := rfl
  have w2 : (vR M 0 2).toInt = (M 258 9).toInt := rfl
  have w3 : (vR M 0 3).toInt = (M 258 14).toInt := rfl
  obtain ⟨y0a, y0b⟩ := (show rg 0 10 (M 258 2) from hI 258 2)
  obtain ⟨y1a, y1b⟩ := (show rg 0 60 (M 258 4) from hI 258 4)
  obtain ⟨y2a, y2b⟩ := (show rg 0 8 (M 258 9) from hI 258 9)
  obtain ⟨y3a, y3b⟩ := (show rg 0 20 (M 258 14) from hI 258 14)
  obtain ⟨hy1, hy2⟩ := hy
  obtain ⟨sa, sb⟩ := (show rg 0 40 (vR M 7 y.toNatClampNeg) from hI 266 _)
  have ns := ixn (x := vR M 7 y.toNatClampNeg) sa
  have ny := ixn (x := y) (by omega)
  refine g_iload_n C 1 dX11_unlikeAt_0 rfl ?_
  refine g_iconst C 1 dX11_unlikeAt_1 (by decide) ?_
  refine g_icmp_ne C 9 dX11_unlikeAt_2 (by decide) (fun c1 => ?_) (fun c1 => ?_)
  ·
    have f2 := fne rfl (by decide : (1 : Int32).toInt = 1) c1
    refine g_iconst C 1 dX11_unlikeAt_9 (by decide) ?_
    refine g_istore_n C [(3, .int 1), (0, .ref (ad 258)), (1, .int x), (2, .int y)] dX11_unlikeAt_10 (by decide) rfl ?_
    refine g_iconst C 0 dX11_unlikeAt_11 (by decide) ?_
    refine g_istore C [(4, .int 0), (3, .int 1), (0, .ref (ad 258)), (1, .int x), (2, .int y)] dX11_unlikeAt_12 (by decide) rfl ?_
    have zy3 : (0 : Int32).toInt = 0 := by decide
    refine g_loop (α := Int32 × MI × ML) (fun a => (41 - a.1.toInt).toNat) (fun a => (0 ≤ a.1.toInt) ∧ (a.1.toInt ≤ 40) ∧ (unF (vR M) y.toNatClampNeg 1 ((vR M 7 y.toNatClampNeg).toNatClampNeg - a.1.toNatClampNeg) a.1.toNatClampNeg = unV (vR M) y x) ∧ IR a.2.1 ∧ (∀ k i, True → a.2.1 k i = M k i) ∧ (∀ k i, True → a.2.2 k i = L k i)) (fun a => a.2.1) (fun a => a.2.2) (fun a => [(4, .int a.1), (3, .int 1), (0, .ref (ad 258)), (1, .int x), (2, .int y)]) ((0 : Int32), M, L) ⟨by show 0 ≤ (0 : Int32).toInt; omega, by show (0 : Int32).toInt ≤ 40; omega, by show unF (vR M) y.toNatClampNeg 1 ((vR M 7 y.toNatClampNeg).toNatClampNeg - (0 : Int32).toNatClampNeg) (0 : Int32).toNatClampNeg = unV (vR M) y x; (dsimp only [unV]; first | rw [if_pos (by omega)] | rw [if_neg (by omega)]); rfl, hI, hF, hG⟩ rfl rfl rfl ?_
    rintro ⟨x4_14, M_14, L_14⟩ ⟨j14_0, j14_1, j14_2, hI, hF, hG⟩ ih_14
    dsimp only at j14_0 j14_1 j14_2 hI hF hG ih_14 ⊢
    have n4 := ixn (x := x4_14) (by omega)
    refine g_iload C 0 dX11_unlikeAt_14 rfl ?_
    refine g_aload_n C 2 dX11_unlikeAt_16 rfl ?_
    refine g_get C (.ref (ad 266)) 11 in_X11_unlikeAt_11 (List.mem_of_getElem? (i := 1) rfl) (by decide) (ce_model ad cs _ _) rfl (by decide) rfl rfl dX11_unlikeAt_17 ?_
    refine g_iload_n C 4 dX11_unlikeAt_20 rfl ?_
    refine g_iald C (by decide) (ce_m_boxSize ad cs _ _) (fin' (n := 8) rfl (by omega) (by omega)) dX11_unlikeAt_21 ?_
    refine g_ni (fun v4 ev4 => ?_)
    have gv4 : v4 = vR M 7 y.toNatClampNeg := ev4.trans (hF 266 y.toNatClampNeg trivial)
    have tv4 := congrArg Int32.toInt gv4
    obtain ⟨bv4, dv4⟩ := (show rg 0 40 v4 from (by rw [ev4]; exact hI 266 y.toNatClampNeg))
    refine g_icmp_ge C 69 dX11_unlikeAt_22 (by decide) (fun c5 => ?_) (fun c5 => ?_)
    ·
      have f6 := fle rfl rfl c5
      refine g_bipush C (-9) dX11_unlikeAt_69 (by decide) ?_
      have zr9 : ((-9) : Int32).toInt = (-9) := by decide
      exact g_iret C hr ⟨funext (fun k => funext (fun i => hF k i trivial)), funext (fun k => funext (fun i => hG k i trivial)), ⟨by rw [← j14_2, unF_end (by omega)], Or.inl (by decide)⟩⟩ dX11_unlikeAt_71
    ·
      have f7 := fnle rfl rfl c5
      refine g_aload_n C 2 dX11_unlikeAt_25 rfl ?_
      refine g_get C (.ref (ad 267)) 12 in_X11_unlikeAt_11 (List.mem_of_getElem? (i := 2) rfl) (by decide) (ce_model ad cs _ _) rfl (by decide) rfl rfl dX11_unlikeAt_26 ?_
      refine g_bipush C 40 dX11_unlikeAt_29 (by decide) ?_
      refine g_iload_n C 4 dX11_unlikeAt_31 rfl ?_
      refine g_imul C dX11_unlikeAt_32 ?_
      refine g_ni (fun v8 ev8 => ?_)
      try have fv8 := fmul (by decide : (40 : Int32).toInt = 40) rfl ev8 (by omega) (by omega)
      refine g_iload C 0 dX11_unlikeAt_33 rfl ?_
      refine g_iadd C dX11_unlikeAt_35 ?_
      refine g_ni (fun v9 ev9 => ?_)
      try have fv9 := fadd rfl rfl ev9 (by omega) (by omega)
      refine g_iald C (by decide) (ce_m_boxed ad cs _ _) (fin' (n := 320) rfl (by omega) (by omega)) dX11_unlikeAt_36 ?_
      have ny := ixn (x := y) (by omega)
      have nx4_14 := ixn (x := x4_14) (by omega)
      have nv9 := ixn (x := v9) (by omega)
      have iv9 : v9.toNatClampNeg = 40 * y.toNatClampNeg + x4_14.toNatClampNeg := by omega
      refine g_ni (fun v10 ev10 => ?_)
      have gv10 : v10 = M 267 v9.toNatClampNeg := ev10.trans (hF 267 v9.toNatClampNeg trivial)
      have gv10 := cg1 (f := M 267) gv10 iv9
      have gv10 := gv10.trans (vR8 (M := M) (by omega)).symm
      have tv10 := congrArg Int32.toInt gv10
      have bv10 : bxd v10 := (by rw [ev10]; exact hI 267 v9.toNatClampNeg)
      unfold bxd at bv10
      refine g_istore C [(5, .int v10), (4, .int x4_14), (3, .int 1), (0, .ref (ad 258)), (1, .int x), (2, .int y)] dX11_unlikeAt_37 (by decide) rfl ?_
      refine g_iload C 0 dX11_unlikeAt_39 rfl ?_
      refine g_bipush C (-9) dX11_unlikeAt_41 (by decide) ?_
      refine g_icmp_eq C 63 dX11_unlikeAt_43 (by decide) (fun c11 => ?_) (fun c11 => ?_)
      ·
        have f12 := feq rfl (by decide : ((-9) : Int32).toInt = (-9)) c11
        obtain ⟨v13, ev13⟩ : ∃ y : Int32, y = x4_14 + 1 := ⟨_, rfl⟩
        try have fv13 := fadd rfl (by decide : (1 : Int32).toInt = 1) ev13 (by omega) (by omega)
        refine g_iinc C 1 v13 [(4, .int v13), (5, .int v10), (3, .int 1), (0, .ref (ad 258)), (1, .int x), (2, .int y)] dX11_unlikeAt_63 rfl (by rw [ev13]; rfl) (by decide) rfl ?_
        refine g_goto C 14 dX11_unlikeAt_66 (by decide) ?_
        refine g_lv [0, 2, 3, 4, 5] [(4, .int v13), (3, .int 1), (0, .ref (ad 258)), (1, .int x), (2, .int y)] rfl ?_
        have nv := ixn (x := v13) (by omega)
        have g8 := gv10
        have e2 : vR M 2 (vR M 8 (40 * y.toNatClampNeg + x4_14.toNatClampNeg)).toNatClampNeg = vR M 2 v10.toNatClampNeg := by rw [g8]
        have hcd : ¬ ((vR M 8 (40 * y.toNatClampNeg + x4_14.toNatClampNeg)).toInt ≠ -9 ∧ ¬ ofS (vR M 2 (vR M 8 (40 * y.toNatClampNeg + x4_14.toNatClampNeg)).toNatClampNeg) 1) := by
          rw [e2]
          have zw : (1 : Int32).toInt = 1 := by decide
          dsimp only [ofS]
          omega
        exact ih_14 (v13, M_14, L_14) ⟨by show 0 ≤ v13.toInt; omega, by show v13.toInt ≤ 40; omega, by show unF (vR M) y.toNatClampNeg 1 ((vR M 7 y.toNatClampNeg).toNatClampNeg - v13.toNatClampNeg) v13.toNatClampNeg = unV (vR M) y x; rw [← j14_2, unF_go (k := x4_14.toNatClampNeg) (by omega) hcd]; congr 1 <;> omega, hI, hF, hG⟩ (by show (41 - v13.toInt).toNat < (41 - x4_14.toInt).toNat; omega)
      ·
        have f14 := fne rfl (by decide : ((-9) : Int32).toInt = (-9)) c11
        refine g_aload_n C 3 dX11_unlikeAt_46 rfl ?_
        refine g_get C (.ref (ad 261)) 5 in_X11_unlikeAt_11 (List.mem_of_getElem? (i := 3) rfl) (by decide) (ce_model ad cs _ _) rfl (by decide) rfl rfl dX11_unlikeAt_47 ?_
        refine g_iload C 0 dX11_unlikeAt_50 rfl ?_
        refine g_iald C (by decide) (ce_m_sortOf ad cs _ _) (fin' (n := 60) rfl (by omega) (by omega)) dX11_unlikeAt_52 ?_
        refine g_ni (fun v15 ev15 => ?_)
        have gv15 : v15 = vR M 2 v10.toNatClampNeg := ev15.trans (hF 261 v10.toNatClampNeg trivial)
        have tv15 := congrArg Int32.toInt gv15
        refine g_iload_n C 2 dX11_unlikeAt_53 rfl ?_
        refine g_callSi C (n := 2) (As := [.int v15, .int 1]) (st := []) (s_X11_isOf l D ad cs _ _ v15 1 hI ) gX11_unlikeAt_X11_isOf rfl rfl rfl (by decide +kernel) ⟨Nat.le_of_ble_eq_true rfl, Nat.le_of_ble_eq_true rfl⟩ rfl (Nat.le_of_ble_eq_true rfl) ⟨Nat.zero_le _, Nat.zero_le _⟩ rfl dX11_unlikeAt_54 (fun r16 M17 L18 hr16 => ?_)
        obtain ⟨hq1, hq2, hr16⟩ := hr16
        obtain rfl := hq1.symm
        obtain rfl := hq2.symm
        obtain ⟨bar16, bbr16⟩ := zo_b hr16
        refine g_if_ne C 63 dX11_unlikeAt_57 (by decide) (fun c19 => ?_) (fun c19 => ?_)
        ·
          have f20 := fne rfl (by decide : (0 : Int32).toInt = 0) c19
          have pr16 := zo_t hr16 c19
          try dsimp only [hasC, hasB, hasX, hasM, ofS, ofK, bt] at pr16
          obtain ⟨v21, ev21⟩ : ∃ y : Int32, y = x4_14 + 1 := ⟨_, rfl⟩
          try have fv21 := fadd rfl (by decide : (1 : Int32).toInt = 1) ev21 (by omega) (by omega)
          refine g_iinc C 1 v21 [(4, .int v21), (5, .int v10), (3, .int 1), (0, .ref (ad 258)), (1, .int x), (2, .int y)] dX11_unlikeAt_63 rfl (by rw [ev21]; rfl) (by decide) rfl ?_
          refine g_goto C 14 dX11_unlikeAt_66 (by decide) ?_
          refine g_lv [0, 2, 3, 4, 5] [(4, .int v21), (3, .int 1), (0, .ref (ad 258)), (1, .int x), (2, .int y)] rfl ?_
          have nv := ixn (x := v21) (by omega)
          have g8 := gv10
          have e2 : vR M 2 (vR M 8 (40 * y.toNatClampNeg + x4_14.toNatClampNeg)).toNatClampNeg = vR M 2 v10.toNatClampNeg := by rw [g8]
          have hcd : ¬ ((vR M 8 (40 * y.toNatClampNeg + x4_14.toNatClampNeg)).toInt ≠ -9 ∧ ¬ ofS (vR M 2 (vR M 8 (40 * y.toNatClampNeg + x4_14.toNatClampNeg)).toNatClampNeg) 1) := by
            rw [e2]
            have zw : (1 : Int32).toInt = 1 := by decide
            dsimp only [ofS]
            omega
          exact ih_14 (v21, M_14, L_14) ⟨by show 0 ≤ v21.toInt; omega, by show v21.toInt ≤ 40; omega, by show unF (vR M) y.toNatClampNeg 1 ((vR M 7 y.toNatClampNeg).toNatClampNeg - v21.toNatClampNeg) v21.toNatClampNeg = unV (vR M) y x; rw [← j14_2, unF_go (k := x4_14.toNatClampNeg) (by omega) hcd]; congr 1 <;> omega, hI, hF, hG⟩ (by show (41 - v21.toInt).toNat < (41 - x4_14.toInt).toNat; omega)
        ·
          have f22 := feq rfl (by decide : (0 : Int32).toInt = 0) c19
          have pr16 := zo_f hr16 c19
          try dsimp only [hasC, hasB, hasX, hasM, ofS, ofK, bt] at pr16
          refine g_iload C 1 dX11_unlikeAt_60 rfl ?_
          have g8 := gv10
          have e2 : vR M 2 (vR M 8 (40 * y.toNatClampNeg + x4_14.toNatClampNeg)).toNatClampNeg = vR M 2 v10.toNatClampNeg := by rw [g8]
          have hcd : (vR M 8 (40 * y.toNatClampNeg + x4_14.toNatClampNeg)).toInt ≠ -9 ∧ ¬ ofS (vR M 2 (vR M 8 (40 * y.toNatClampNeg + x4_14.toNatClampNeg)).toNatClampNeg) 1 := by
            rw [e2]
            have zw : (1 : Int32).toInt = 1 := by decide
            refine ⟨by omega, ?_⟩
            dsimp only [ofS]
            omega
          exact g_iret C hr ⟨funext (fun k => funext (fun i => hF k i trivial)), funext (fun k => funext (fun i => hG k i trivial)), ⟨by rw [← j14_2, unF_hit (by omega) hcd, of_ix (by omega)], Or.inr ⟨by omega, by omega⟩⟩⟩ dX11_unlikeAt_62
  ·
    have f23 := feq rfl (by decide : (1 : Int32).toInt = 1) c1
    refine g_iconst C 3 dX11_unlikeAt_5 (by decide) ?_
    refine g_goto C 10 dX11_unlikeAt_6 (by decide) ?_
    refine g_istore_n C [(3, .int 3), (0, .ref (ad 258)), (1, .int x), (2, .int y)] dX11_unlikeAt_10 (by decide) rfl ?_
    refine g_iconst C 0 dX11_unlikeAt_11 (by decide) ?_
    refine g_istore C [(4, .int 0), (3, .int 3), (0, .ref (ad 258)), (1, .int x), (2, .int y)] dX11_unlikeAt_12 (by decide) rfl ?_
    have zy24 : (0 : Int32).toInt = 0 := by decide
    refine g_loop (α := Int32 × MI × ML) (fun a => (41 - a.1.toInt).toNat) (fun a => (0 ≤ a.1.toInt) ∧ (a.1.toInt ≤ 40) ∧ (unF (vR M) y.toNatClampNeg 3 ((vR M 7 y.toNatClampNeg).toNatClampNeg - a.1.toNatClampNeg) a.1.toNatClampNeg = unV (vR M) y x) ∧ IR a.2.1 ∧ (∀ k i, True → a.2.1 k i = M k i) ∧ (∀ k i, True → a.2.2 k i = L k i)) (fun a => a.2.1) (fun a => a.2.2) (fun a => [(4, .int a.1), (3, .int 3), (0, .ref (ad 258)), (1, .int x), (2, .int y)]) ((0 : Int32), M, L) ⟨by show 0 ≤ (0 : Int32).toInt; omega, by show (0 : Int32).toInt ≤ 40; omega, by show unF (vR M) y.toNatClampNeg 3 ((vR M 7 y.toNatClampNeg).toNatClampNeg - (0 : Int32).toNatClampNeg) (0 : Int32).toNatClampNeg = unV (vR M) y x; (dsimp only [unV]; first | rw [if_pos (by omega)] | rw [if_neg (by omega)]); rfl, hI, hF, hG⟩ rfl rfl rfl ?_
    rintro ⟨x4_14, M_14, L_14⟩ ⟨j14_0, j14_1, j14_2, hI, hF, hG⟩ ih_14
    dsimp only at j14_0 j14_1 j14_2 hI hF hG ih_14 ⊢
    have n4 := ixn (x := x4_14) (by omega)
    refine g_iload C 0 dX11_unlikeAt_14 rfl ?_
    refine g_aload_n C 2 dX11_unlikeAt_16 rfl ?_
    refine g_get C (.ref (ad 266)) 11 in_X11_unlikeAt_11 (List.mem_of_getElem? (i := 1) rfl) (by decide) (ce_model ad cs _ _) rfl (by decide) rfl rfl dX11_unlikeAt_17 ?_
    refine g_iload_n C 4 dX11_unlikeAt_20 rfl ?_
    refine g_iald C (by decide) (ce_m_boxSize ad cs _ _) (fin' (n := 8) rfl (by omega) (by omega)) dX11_unlikeAt_21 ?_
    refine g_ni (fun v25 ev25 => ?_)
    have gv25 : v25 = vR M 7 y.toNatClampNeg := ev25.trans (hF 266 y.toNatClampNeg trivial)
    have tv25 := congrArg Int32.toInt gv25
    obtain ⟨bv25, dv25⟩ := (show rg 0 40 v25 from (by rw [ev25]; exact hI 266 y.toNatClampNeg))
    refine g_icmp_ge C 69 dX11_unlikeAt_22 (by decide) (fun c26 => ?_) (fun c26 => ?_)
    ·
      have f27 := fle rfl rfl c26
      refine g_bipush C (-9) dX11_unlikeAt_69 (by decide) ?_
      have zr9 : ((-9) : Int32).toInt = (-9) := by decide
      exact g_iret C hr ⟨funext (fun k => funext (fun i => hF k i trivial)), funext (fun k => funext (fun i => hG k i trivial)), ⟨by rw [← j14_2, unF_end (by omega)], Or.inl (by decide)⟩⟩ dX11_unlikeAt_71
    ·
      have f28 := fnle rfl rfl c26
      refine g_aload_n C 2 dX11_unlikeAt_25 rfl ?_
      refine g_get C (.ref (ad 267)) 12 in_X11_unlikeAt_11 (List.mem_of_getElem? (i := 2) rfl) (by decide) (ce_model ad cs _ _) rfl (by decide) rfl rfl dX11_unlikeAt_26 ?_
      refine g_bipush C 40 dX11_unlikeAt_29 (by decide) ?_
      refine g_iload_n C 4 dX11_unlikeAt_31 rfl ?_
      refine g_imul C dX11_unlikeAt_32 ?_
      refine g_ni (fun v29 ev29 => ?_)
      try have fv29 := fmul (by decide : (40 : Int32).toInt = 40) rfl ev29 (by omega) (by omega)
      refine g_iload C 0 dX11_unlikeAt_33 rfl ?_
      refine g_iadd C dX11_unlikeAt_35 ?_
      refine g_ni (fun v30 ev30 => ?_)
      try have fv30 := fadd rfl rfl ev30 (by omega) (by omega)
      refine g_iald C (by decide) (ce_m_boxed ad cs _ _) (fin' (n := 320) rfl (by omega) (by omega)) dX11_unlikeAt_36 ?_
      have ny := ixn (x := y) (by omega)
      have nx4_14 := ixn (x := x4_14) (by omega)
      have nv30 := ixn (x := v30) (by omega)
      have iv30 : v30.toNatClampNeg = 40 * y.toNatClampNeg + x4_14.toNatClampNeg := by omega
      refine g_ni (fun v31 ev31 => ?_)
      have gv31 : v31 = M 267 v30.toNatClampNeg := ev31.trans (hF 267 v30.toNatClampNeg trivial)
      have gv31 := cg1 (f := M 267) gv31 iv30
      have gv31 := gv31.trans (vR8 (M := M) (by omega)).symm
      have tv31 := congrArg Int32.toInt gv31
      have bv31 : bxd v31 := (by rw [ev31]; exact hI 267 v30.toNatClampNeg)
      unfold bxd at bv31
      refine g_istore C [(5, .int v31), (4, .int x4_14), (3, .int 3), (0, .ref (ad 258)), (1, .int x), (2, .int y)] dX11_unlikeAt_37 (by decide) rfl ?_
      refine g_iload C 0 dX11_unlikeAt_39 rfl ?_
      refine g_bipush C (-9) dX11_unlikeAt_41 (by decide) ?_
      refine g_icmp_eq C 63 dX11_unlikeAt_43 (by decide) (fun c32 => ?_) (fun c32 => ?_)
      ·
        have f33 := feq rfl (by decide : ((-9) : Int32).toInt = (-9)) c32
        obtain ⟨v34, ev34⟩ : ∃ y : Int32, y = x4_14 + 1 := ⟨_, rfl⟩
        try have fv34 := fadd rfl (by decide : (1 : Int32).toInt = 1) ev34 (by omega) (by omega)
        refine g_iinc C 1 v34 [(4, .int v34), (5, .int v31), (3, .int 3), (0, .ref (ad 258)), (1, .int x), (2, .int y)] dX11_unlikeAt_63 rfl (by rw [ev34]; rfl) (by decide) rfl ?_
        refine g_goto C 14 dX11_unlikeAt_66 (by decide) ?_
        refine g_lv [0, 2, 3, 4, 5] [(4, .int v34), (3, .int 3), (0, .ref (ad 258)), (1, .int x), (2, .int y)] rfl ?_
        have nv := ixn (x := v34) (by omega)
        have g8 := gv31
        have e2 : vR M 2 (vR M 8 (40 * y.toNatClampNeg + x4_14.toNatClampNeg)).toNatClampNeg = vR M 2 v31.toNatClampNeg := by rw [g8]
        have hcd : ¬ ((vR M 8 (40 * y.toNatClampNeg + x4_14.toNatClampNeg)).toInt ≠ -9 ∧ ¬ ofS (vR M 2 (vR M 8 (40 * y.toNatClampNeg + x4_14.toNatClampNeg)).toNatClampNeg) 3) := by
          rw [e2]
          have zw : (3 : Int32).toInt = 3 := by decide
          dsimp only [ofS]
          omega
        exact ih_14 (v34, M_14, L_14) ⟨by show 0 ≤ v34.toInt; omega, by show v34.toInt ≤ 40; omega, by show unF (vR M) y.toNatClampNeg 3 ((vR M 7 y.toNatClampNeg).toNatClampNeg - v34.toNatClampNeg) v34.toNatClampNeg = unV (vR M) y x; rw [← j14_2, unF_go (k := x4_14.toNatClampNeg) (by omega) hcd]; congr 1 <;> omega, hI, hF, hG⟩ (by show (41 - v34.toInt).toNat < (41 - x4_14.toInt).toNat; omega)
      ·
        have f35 := fne rfl (by decide : ((-9) : Int32).toInt = (-9)) c32
        refine g_aload_n C 3 dX11_unlikeAt_46 rfl ?_
        refine g_get C (.ref (ad 261)) 5 in_X11_unlikeAt_11 (List.mem_of_getElem? (i := 3) rfl) (by decide) (ce_model ad cs _ _) rfl (by decide) rfl rfl dX11_unlikeAt_47 ?_
        refine g_iload C 0 dX11_unlikeAt_50 rfl ?_
        refine g_iald C (by decide) (ce_m_sortOf ad cs _ _) (fin' (n := 60) rfl (by omega) (by omega)) dX11_unlikeAt_52 ?_
        refine g_ni (fun v36 ev36 => ?_)
        have gv36 : v36 = vR M 2 v31.toNatClampNeg := ev36.trans (hF 261 v31.toNatClampNeg trivial)
        have tv36 := congrArg Int32.toInt gv36
        refine g_iload_n C 2 dX11_unlikeAt_53 rfl ?_
        refine g_callSi C (n := 2) (As := [.int v36, .int 3]) (st := []) (s_X11_isOf l D ad cs _ _ v36 3 hI ) gX11_unlikeAt_X11_isOf rfl rfl rfl (by decide +kernel) ⟨Nat.le_of_ble_eq_true rfl, Nat.le_of_ble_eq_true rfl⟩ rfl (Nat.le_of_ble_eq_true rfl) ⟨Nat.zero_le _, Nat.zero_le _⟩ rfl dX11_unlikeAt_54 (fun r37 M38 L39 hr37 => ?_)
        obtain ⟨hq1, hq2, hr37⟩ := hr37
        obtain rfl := hq1.symm
        obtain rfl := hq2.symm
        obtain ⟨bar37, bbr37⟩ := zo_b hr37
        refine g_if_ne C 63 dX11_unlikeAt_57 (by decide) (fun c40 => ?_) (fun c40 => ?_)
        ·
          have f41 := fne rfl (by decide : (0 : Int32).toInt = 0) c40
          have pr37 := zo_t hr37 c40
          try dsimp only [hasC, hasB, hasX, hasM, ofS, ofK, bt] at pr37
          obtain ⟨v42, ev42⟩ : ∃ y : Int32, y = x4_14 + 1 := ⟨_, rfl⟩
          try have fv42 := fadd rfl (by decide : (1 : Int32).toInt = 1) ev42 (by omega) (by omega)
          refine g_iinc C 1 v42 [(4, .int v42), (5, .int v31), (3, .int 3), (0, .ref (ad 258)), (1, .int x), (2, .int y)] dX11_unlikeAt_63 rfl (by rw [ev42]; rfl) (by decide) rfl ?_
          refine g_goto C 14 dX11_unlikeAt_66 (by decide) ?_
          refine g_lv [0, 2, 3, 4, 5] [(4, .int v42), (3, .int 3), (0, .ref (ad 258)), (1, .int x), (2, .int y)] rfl ?_
          have nv := ixn (x := v42) (by omega)
          have g8 := gv31
          have e2 : vR M 2 (vR M 8 (40 * y.toNatClampNeg + x4_14.toNatClampNeg)).toNatClampNeg = vR M 2 v31.toNatClampNeg := by rw [g8]
          have hcd : ¬ ((vR M 8 (40 * y.toNatClampNeg + x4_14.toNatClampNeg)).toInt ≠ -9 ∧ ¬ ofS (vR M 2 (vR M 8 (40 * y.toNatClampNeg + x4_14.toNatClampNeg)).toNatClampNeg) 3) := by
            rw [e2]
            have zw : (3 : Int32).toInt = 3 := by decide
            dsimp only [ofS]
            omega
          exact ih_14 (v42, M_14, L_14) ⟨by show 0 ≤ v42.toInt; omega, by show v42.toInt ≤ 40; omega, by show unF (vR M) y.toNatClampNeg 3 ((vR M 7 y.toNatClampNeg).toNatClampNeg - v42.toNatClampNeg) v42.toNatClampNeg = unV (vR M) y x; rw [← j14_2, unF_go (k := x4_14.toNatClampNeg) (by omega) hcd]; congr 1 <;> omega, hI, hF, hG⟩ (by show (41 - v42.toInt).toNat < (41 - x4_14.toInt).toNat; omega)
        ·
          have f43 := feq rfl (by decide : (0 : Int32).toInt = 0) c40
          have pr37 := zo_f hr37 c40
          try dsimp only [hasC, hasB, hasX, hasM, ofS, ofK, bt] at pr37
          refine g_iload C 1 dX11_unlikeAt_60 rfl ?_
          have g8 := gv31
          have e2 : vR M 2 (vR M 8 (40 * y.toNatClampNeg + x4_14.toNatClampNeg)).toNatClampNeg = vR M 2 v31.toNatClampNeg := by rw [g8]
          have hcd : (vR M 8 (40 * y.toNatClampNeg + x4_14.toNatClampNeg)).toInt ≠ -9 ∧ ¬ ofS (vR M 2 (vR M 8 (40 * y.toNatClampNeg + x4_14.toNatClampNeg)).toNatClampNeg) 3 := by
            rw [e2]
            have zw : (3 : Int32).toInt = 3 := by decide
            refine ⟨by omega, ?_⟩
            dsimp only [ofS]
            omega
          exact g_iret C hr ⟨funext (fun k => funext (fun i => hF k i trivial)), funext (fun k => funext (fun i => hG k i trivial)), ⟨by rw [← j14_2, unF_hit (by omega) hcd, of_ix (by omega)], Or.inr ⟨by omega, by omega⟩⟩⟩ dX11_unlikeAt_62
