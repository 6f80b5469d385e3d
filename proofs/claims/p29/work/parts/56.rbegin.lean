theorem dX11_countTransfer_0 : decode cX11_countTransfer 0 = .ok (.aload_n 0, 1) := dw42 (n := 0) (i := 0) kc_cX11_countTransfer_0 (by decide +kernel)
theorem dX11_countTransfer_1 : decode cX11_countTransfer 1 = .ok (.aload_n 0, 1) := dw42 (n := 0) (i := 1) kc_cX11_countTransfer_0 (by decide +kernel)
theorem dX11_countTransfer_2 : decode cX11_countTransfer 2 = .ok (.getfield 201, 3) := dw180 (n := 0) (i := 2) (a := 0) (b := 201) kc_cX11_countTransfer_0 (by decide +kernel) (by decide)
theorem in_X11_countTransfer_11 : ∀ w ∈ u_ws RX11 TX11 53, w ∈ wsX11_countTransfer := fun _ h => List.mem_cons_of_mem _ (List.mem_append_right _ h)
theorem dX11_countTransfer_5 : decode cX11_countTransfer 5 = .ok (.invokevirtual 172, 3) := dw182 (n := 0) (i := 5) (a := 0) (b := 172) kc_cX11_countTransfer_0 (by decide +kernel) (by decide)
set_option maxRecDepth 20000 in
theorem ggX11_countTransfer_X11_papersIn : GoodIn wsX11_countTransfer wsX11_papersIn := (gk_code 12 rfl (gk_fieldLink 13 rfl (gk_fieldLink 14 rfl (gk_fieldLink 15 rfl (gk_lays 85 rfl (gk_laysFinal 86 rfl (gk_lays 87 rfl (gk_laysFinal 88 rfl (gk_lays 89 rfl (gk_laysFinal 90 rfl (gk_laysFinal 91 rfl (gk_laysFinal 92 rfl (gk_laysFinal 93 rfl (gk_lays 94 rfl (gk_laysFinal 95 rfl (gk_laysFinal 96 rfl (gk_laysFinal 97 rfl (gk_laysFinal 98 rfl (gk_lays 99 rfl (gk_laysFinal 100 rfl (gk_laysFinal 101 rfl (gk_laysFinal 102 rfl (gk_laysFinal 103 rfl (gk_laysFinal 104 rfl (gk_laysFinal 105 rfl (gk_laysFinal 106 rfl (gk_laysFinal 107 rfl (gk_lays 108 rfl (gk_lays 109 rfl (gk_lays 110 rfl (gk_lays 111 rfl (gk_lays 112 rfl (gk_lays 113 rfl (gk_lays 114 rfl (gk_laysFinal 115 rfl (gk_lays 116 rfl (gk_laysFinal 117 rfl (gk_laysFinal 118 rfl (gk_laysFinal 119 rfl (gk_laysFinal 120 rfl (gk_laysFinal 121 rfl (gk_laysFinal 122 rfl (gk_laysFinal 123 rfl (gk_laysFinal 124 rfl (gk_laysFinal 125 rfl (gk_laysFinal 126 rfl (gk_lays 127 rfl (gk_laysFinal 128 rfl (gk_lays 129 rfl (gk_laysFinal 130 rfl (gk_laysFinal 131 rfl (gk_laysFinal 132 rfl (gk_laysFinal 133 rfl (gk_laysFinal 134 rfl (gk_laysFinal 135 rfl (gk_laysFinal 136 rfl (gk_laysFinal 137 rfl (gn))))))))))))))))))))))))))))))))))))))))))))))))))))))))))
set_option maxRecDepth 20000 in
theorem gX11_countTransfer_X11_papersIn : GoodIn wsX11_countTransfer (wsV RX11 172 RX11 yX11_papersIn wsX11_papersIn) := goodIn_app (gk_methodLink 8 rfl (gk_instanceMethod 9 rfl (gk_selects 10 rfl (gk_initialized 11 rfl (gn))))) ggX11_countTransfer_X11_papersIn
theorem dX11_countTransfer_8 : decode cX11_countTransfer 8 = .ok (.aload_n 0, 1) := dw42 (n := 0) (i := 8) kc_cX11_countTransfer_0 (by decide +kernel)
theorem dX11_countTransfer_9 : decode cX11_countTransfer 9 = .ok (.getfield 231, 3) := dw180 (n := 0) (i := 9) (a := 0) (b := 231) kc_cX11_countTransfer_0 (by decide +kernel) (by decide)
theorem dX11_countTransfer_12 : decode cX11_countTransfer 12 = .ok (.iconst 1, 1) := dw4 (n := 0) (i := 12) kc_cX11_countTransfer_0 (by decide +kernel)
theorem dX11_countTransfer_13 : decode cX11_countTransfer 13 = .ok (.iadd, 1) := dw96 (n := 0) (i := 13) kc_cX11_countTransfer_0 (by decide +kernel)
theorem dX11_countTransfer_14 : decode cX11_countTransfer 14 = .ok (.idiv, 1) := dw108 (n := 0) (i := 14) kc_cX11_countTransfer_0 (by decide +kernel)
theorem dX11_countTransfer_15 : decode cX11_countTransfer 15 = .ok (.i2l, 1) := dw133 (n := 0) (i := 15) kc_cX11_countTransfer_0 (by decide +kernel)
theorem dX11_countTransfer_16 : decode cX11_countTransfer 16 = .ok (.lconst 1, 1) := dw10 (n := 0) (i := 16) kc_cX11_countTransfer_0 (by decide +kernel)
theorem dX11_countTransfer_17 : decode cX11_countTransfer 17 = .ok (.ladd, 1) := dw97 (n := 0) (i := 17) kc_cX11_countTransfer_0 (by decide +kernel)
theorem dX11_countTransfer_18 : decode cX11_countTransfer 18 = .ok (.lstore_n 1, 1) := dw64 (n := 0) (i := 18) kc_cX11_countTransfer_0 (by decide +kernel)
theorem dX11_countTransfer_19 : decode cX11_countTransfer 19 = .ok (.aload_n 0, 1) := dw42 (n := 0) (i := 19) kc_cX11_countTransfer_0 (by decide +kernel)
theorem dX11_countTransfer_20 : decode cX11_countTransfer 20 = .ok (.getfield 211, 3) := dw180 (n := 0) (i := 20) (a := 0) (b := 211) kc_cX11_countTransfer_0 (by decide +kernel) (by decide)
theorem dX11_countTransfer_23 : decode cX11_countTransfer 23 = .ok (.aload_n 0, 1) := dw42 (n := 0) (i := 23) kc_cX11_countTransfer_0 (by decide +kernel)
theorem dX11_countTransfer_24 : decode cX11_countTransfer 24 = .ok (.getfield 231, 3) := dw180 (n := 0) (i := 24) (a := 0) (b := 231) kc_cX11_countTransfer_0 (by decide +kernel) (by decide)
theorem dX11_countTransfer_27 : decode cX11_countTransfer 27 = .ok (.if_icmp .ge 125, 3) := dw162 (n := 0) (i := 27) (a := 0) (b := 125) kc_cX11_countTransfer_0 (by decide +kernel) (by decide)
theorem dX11_countTransfer_152 : decode cX11_countTransfer 152 = .ok (.return_, 1) := dw177 (n := 128) (i := 24) kc_cX11_countTransfer_4 (by decide +kernel)
theorem dX11_countTransfer_30 : decode cX11_countTransfer 30 = .ok (.aload_n 0, 1) := dw42 (n := 0) (i := 30) kc_cX11_countTransfer_0 (by decide +kernel)
theorem dX11_countTransfer_31 : decode cX11_countTransfer 31 = .ok (.invokevirtual 249, 3) := dw182 (n := 0) (i := 31) (a := 0) (b := 249) kc_cX11_countTransfer_0 (by decide +kernel) (by decide)
set_option maxRecDepth 20000 in
theorem ggX11_countTransfer_X11_inMany : GoodIn wsX11_countTransfer wsX11_inMany := (gk_code 19 rfl (gk_fieldLink 20 rfl (gk_fieldLink 7 rfl (gk_lays 85 rfl (gk_laysFinal 86 rfl (gk_lays 87 rfl (gk_laysFinal 88 rfl (gk_lays 89 rfl (gk_laysFinal 90 rfl (gk_laysFinal 91 rfl (gk_laysFinal 92 rfl (gk_laysFinal 93 rfl (gk_lays 94 rfl (gk_laysFinal 95 rfl (gk_laysFinal 96 rfl (gk_laysFinal 97 rfl (gk_laysFinal 98 rfl (gk_lays 99 rfl (gk_laysFinal 100 rfl (gk_laysFinal 101 rfl (gk_laysFinal 102 rfl (gk_laysFinal 103 rfl (gk_laysFinal 104 rfl (gk_laysFinal 105 rfl (gk_laysFinal 106 rfl (gk_laysFinal 107 rfl (gk_lays 108 rfl (gk_lays 109 rfl (gk_lays 110 rfl (gk_lays 111 rfl (gk_lays 112 rfl (gk_lays 113 rfl (gk_lays 114 rfl (gk_laysFinal 115 rfl (gk_lays 116 rfl (gk_laysFinal 117 rfl (gk_laysFinal 118 rfl (gk_laysFinal 119 rfl (gk_laysFinal 120 rfl (gk_laysFinal 121 rfl (gk_laysFinal 122 rfl (gk_laysFinal 123 rfl (gk_laysFinal 124 rfl (gk_laysFinal 125 rfl (gk_laysFinal 126 rfl (gk_lays 127 rfl (gk_laysFinal 128 rfl (gk_lays 129 rfl (gk_laysFinal 130 rfl (gk_laysFinal 131 rfl (gk_laysFinal 132 rfl (gk_laysFinal 133 rfl (gk_laysFinal 134 rfl (gk_laysFinal 135 rfl (gk_laysFinal 136 rfl (gk_laysFinal 137 rfl (gn)))))))))))))))))))))))))))))))))))))))))))))))))))))))))
set_option maxRecDepth 20000 in
theorem gX11_countTransfer_X11_inMany : GoodIn wsX11_countTransfer (wsV RX11 249 RX11 yX11_inMany wsX11_inMany) := goodIn_app (gk_methodLink 16 rfl (gk_instanceMethod 17 rfl (gk_selects 18 rfl (gk_initialized 11 rfl (gn))))) ggX11_countTransfer_X11_inMany
theorem dX11_countTransfer_34 : decode cX11_countTransfer 34 = .ok (.ifCond .le 118, 3) := dw158 (n := 32) (i := 2) (a := 0) (b := 118) kc_cX11_countTransfer_1 (by decide +kernel) (by decide)
theorem dX11_countTransfer_37 : decode cX11_countTransfer 37 = .ok (.aload_n 0, 1) := dw42 (n := 32) (i := 5) kc_cX11_countTransfer_1 (by decide +kernel)
theorem dX11_countTransfer_38 : decode cX11_countTransfer 38 = .ok (.getfield 195, 3) := dw180 (n := 32) (i := 6) (a := 0) (b := 195) kc_cX11_countTransfer_1 (by decide +kernel) (by decide)
theorem dX11_countTransfer_41 : decode cX11_countTransfer 41 = .ok (.ifCond .ne 111, 3) := dw154 (n := 32) (i := 9) (a := 0) (b := 111) kc_cX11_countTransfer_1 (by decide +kernel) (by decide)
theorem dX11_countTransfer_44 : decode cX11_countTransfer 44 = .ok (.aload_n 0, 1) := dw42 (n := 32) (i := 12) kc_cX11_countTransfer_1 (by decide +kernel)
theorem dX11_countTransfer_45 : decode cX11_countTransfer 45 = .ok (.invokevirtual 246, 3) := dw182 (n := 32) (i := 13) (a := 0) (b := 246) kc_cX11_countTransfer_1 (by decide +kernel) (by decide)
set_option maxRecDepth 20000 in
theorem ggX11_countTransfer_X11_tallyFirsts : GoodIn wsX11_countTransfer wsX11_tallyFirsts := (gk_code 24 rfl (gk_fieldLink 13 rfl (gk_fieldLink 1 rfl (gk_fieldLink 25 rfl (gk_fieldLink 26 rfl (gk_methodLink 27 rfl (gk_instanceMethod 28 rfl (gk_selects 29 rfl (gk_initialized 11 rfl (gk_code 30 rfl (gk_fieldLink 5 rfl (gk_fieldLink 6 rfl (gk_methodLink 31 rfl (gk_instanceMethod 32 rfl (gk_selects 33 rfl (gk_code 34 rfl (gk_fieldLink 14 rfl (gk_methodLink 35 rfl (gk_instanceMethod 36 rfl (gk_selects 37 rfl (gk_code 38 rfl (gk_fieldLink 39 rfl (gk_fieldLink 7 rfl (gk_fieldLink 40 rfl (gk_methodLink 41 rfl (gk_instanceMethod 42 rfl (gk_selects 43 rfl (gk_code 44 rfl (gk_fieldLink 45 rfl (gk_fieldLink 46 rfl (gk_methodLink 47 rfl (gk_instanceMethod 48 rfl (gk_selects 49 rfl (gk_code 50 rfl (gk_fieldLink 4 rfl (gk_constantLong 51 rfl (gk_methodLink 52 rfl (gk_static 53 rfl (gk_code 54 rfl (gk_lays 85 rfl (gk_laysFinal 86 rfl (gk_lays 87 rfl (gk_laysFinal 88 rfl (gk_lays 89 rfl (gk_laysFinal 90 rfl (gk_laysFinal 91 rfl (gk_laysFinal 92 rfl (gk_laysFinal 93 rfl (gk_lays 94 rfl (gk_laysFinal 95 rfl (gk_laysFinal 96 rfl (gk_laysFinal 97 rfl (gk_laysFinal 98 rfl (gk_lays 99 rfl (gk_laysFinal 100 rfl (gk_laysFinal 101 rfl (gk_laysFinal 102 rfl (gk_laysFinal 103 rfl (gk_laysFinal 104 rfl (gk_laysFinal 105 rfl (gk_laysFinal 106 rfl (gk_laysFinal 107 rfl (gk_lays 108 rfl (gk_lays 109 rfl (gk_lays 110 rfl (gk_lays 111 rfl (gk_lays 112 rfl (gk_lays 113 rfl (gk_lays 114 rfl (gk_laysFinal 115 rfl (gk_lays 116 rfl (gk_laysFinal 117 rfl (gk_laysFinal 118 rfl (gk_laysFinal 119 rfl (gk_laysFinal 120 rfl (gk_laysFinal 121 rfl (gk_laysFinal 122 rfl (gk_laysFinal 123 rfl (gk_laysFinal 124 rfl (gk_laysFinal 125 rfl (gk_laysFinal 126 rfl (gk_lays 127 rfl (gk_laysFinal 128 rfl (gk_lays 129 rfl (gk_laysFinal 130 rfl (gk_laysFinal 131 rfl (gk_laysFinal 132 rfl (gk_laysFinal 133 rfl (gk_laysFinal 134 rfl (gk_laysFinal 135 rfl (gk_laysFinal 136 rfl (gk_laysFinal 137 rfl (gn)))))))))))))))))))))))))))))))))))))))))))))))))))))))))))))))))))))))))))))))))))))))))))))
set_option maxRecDepth 20000 in
theorem gX11_countTransfer_X11_tallyFirsts : GoodIn wsX11_countTransfer (wsV RX11 246 RX11 yX11_tallyFirsts wsX11_tallyFirsts) := goodIn_app (gk_methodLink 21 rfl (gk_instanceMethod 22 rfl (gk_selects 23 rfl (gk_initialized 11 rfl (gn))))) ggX11_countTransfer_X11_tallyFirsts
theorem dX11_countTransfer_48 : decode cX11_countTransfer 48 = .ok (.aload_n 0, 1) := dw42 (n := 32) (i := 16) kc_cX11_countTransfer_1 (by decide +kernel)
theorem dX11_countTransfer_49 : decode cX11_countTransfer 49 = .ok (.getfield 195, 3) := dw180 (n := 32) (i := 17) (a := 0) (b := 195) kc_cX11_countTransfer_1 (by decide +kernel) (by decide)
theorem dX11_countTransfer_52 : decode cX11_countTransfer 52 = .ok (.ifCond .ne (-33), 3) := dw154 (n := 32) (i := 20) (a := 255) (b := 223) kc_cX11_countTransfer_1 (by decide +kernel) (by decide)
theorem dX11_countTransfer_55 : decode cX11_countTransfer 55 = .ok (.aload_n 0, 1) := dw42 (n := 32) (i := 23) kc_cX11_countTransfer_1 (by decide +kernel)
theorem dX11_countTransfer_56 : decode cX11_countTransfer 56 = .ok (.invokevirtual 234, 3) := dw182 (n := 32) (i := 24) (a := 0) (b := 234) kc_cX11_countTransfer_1 (by decide +kernel) (by decide)
set_option maxRecDepth 20000 in
theorem ggX11_countTransfer_X11_greatest : GoodIn wsX11_countTransfer wsX11_greatest := (gk_code 58 rfl (gk_fieldLink 20 rfl (gk_fieldLink 59 rfl (gk_fieldLink 7 rfl (gk_fieldLink 5 rfl (gk_fieldLink 6 rfl (gk_methodLink 60 rfl (gk_static 61 rfl (gk_initialized 11 rfl (gk_code 62 rfl (gk_lays 85 rfl (gk_laysFinal 86 rfl (gk_lays 87 rfl (gk_laysFinal 88 rfl (gk_lays 89 rfl (gk_laysFinal 90 rfl (gk_laysFinal 91 rfl (gk_laysFinal 92 rfl (gk_laysFinal 93 rfl (gk_lays 94 rfl (gk_laysFinal 95 rfl (gk_laysFinal 96 rfl (gk_laysFinal 97 rfl (gk_laysFinal 98 rfl (gk_lays 99 rfl (gk_laysFinal 100 rfl (gk_laysFinal 101 rfl (gk_laysFinal 102 rfl (gk_laysFinal 103 rfl (gk_laysFinal 104 rfl (gk_laysFinal 105 rfl (gk_laysFinal 106 rfl (gk_laysFinal 107 rfl (gk_lays 108 rfl (gk_lays 109 rfl (gk_lays 110 rfl (gk_lays 111 rfl (gk_lays 112 rfl (gk_lays 113 rfl (gk_lays 114 rfl (gk_laysFinal 115 rfl (gk_lays 116 rfl (gk_laysFinal 117 rfl (gk_laysFinal 118 rfl (gk_laysFinal 119 rfl (gk_laysFinal 120 rfl (gk_laysFinal 121 rfl (gk_laysFinal 122 rfl (gk_laysFinal 123 rfl (gk_laysFinal 124 rfl (gk_laysFinal 125 rfl (gk_laysFinal 126 rfl (gk_lays 127 rfl (gk_laysFinal 128 rfl (gk_lays 129 rfl (gk_laysFinal 130 rfl (gk_laysFinal 131 rfl (gk_laysFinal 132 rfl (gk_laysFinal 133 rfl (gk_laysFinal 134 rfl (gk_laysFinal 135 rfl (gk_laysFinal 136 rfl (gk_laysFinal 137 rfl (gn))))))))))))))))))))))))))))))))))))))))))))))))))))))))))))))))
set_option maxRecDepth 20000 in
theorem gX11_countTransfer_X11_greatest : GoodIn wsX11_countTransfer (wsV RX11 234 RX11 yX11_greatest wsX11_greatest) := goodIn_app (gk_methodLink 55 rfl (gk_instanceMethod 56 rfl (gk_selects 57 rfl (gk_initialized 11 rfl (gn))))) ggX11_countTransfer_X11_greatest
theorem dX11_countTransfer_59 : decode cX11_countTransfer 59 = .ok (.istore_n 3, 1) := dw62 (n := 32) (i := 27) kc_cX11_countTransfer_1 (by decide +kernel)
theorem dX11_countTransfer_60 : decode cX11_countTransfer 60 = .ok (.aload_n 0, 1) := dw42 (n := 32) (i := 28) kc_cX11_countTransfer_1 (by decide +kernel)
theorem dX11_countTransfer_61 : decode cX11_countTransfer 61 = .ok (.invokevirtual 249, 3) := dw182 (n := 32) (i := 29) (a := 0) (b := 249) kc_cX11_countTransfer_1 (by decide +kernel) (by decide)
theorem dX11_countTransfer_64 : decode cX11_countTransfer 64 = .ok (.aload_n 0, 1) := dw42 (n := 64) (i := 0) kc_cX11_countTransfer_2 (by decide +kernel)
theorem dX11_countTransfer_65 : decode cX11_countTransfer 65 = .ok (.getfield 231, 3) := dw180 (n := 64) (i := 1) (a := 0) (b := 231) kc_cX11_countTransfer_2 (by decide +kernel) (by decide)
theorem dX11_countTransfer_68 : decode cX11_countTransfer 68 = .ok (.aload_n 0, 1) := dw42 (n := 64) (i := 4) kc_cX11_countTransfer_2 (by decide +kernel)
theorem dX11_countTransfer_69 : decode cX11_countTransfer 69 = .ok (.getfield 211, 3) := dw180 (n := 64) (i := 5) (a := 0) (b := 211) kc_cX11_countTransfer_2 (by decide +kernel) (by decide)
theorem dX11_countTransfer_72 : decode cX11_countTransfer 72 = .ok (.isub, 1) := dw100 (n := 64) (i := 8) kc_cX11_countTransfer_2 (by decide +kernel)
theorem dX11_countTransfer_73 : decode cX11_countTransfer 73 = .ok (.if_icmp .gt 7, 3) := dw163 (n := 64) (i := 9) (a := 0) (b := 7) kc_cX11_countTransfer_2 (by decide +kernel) (by decide)
theorem dX11_countTransfer_80 : decode cX11_countTransfer 80 = .ok (.iconst 0, 1) := dw3 (n := 64) (i := 16) kc_cX11_countTransfer_2 (by decide +kernel)
theorem dX11_countTransfer_81 : decode cX11_countTransfer 81 = .ok (.istore 4, 2) := dw54 (n := 64) (i := 17) (a := 4) kc_cX11_countTransfer_2 (by decide +kernel) (by decide)
theorem dX11_countTransfer_83 : decode cX11_countTransfer 83 = .ok (.iload 4, 2) := dw21 (n := 64) (i := 19) (a := 4) kc_cX11_countTransfer_2 (by decide +kernel) (by decide)
theorem dX11_countTransfer_85 : decode cX11_countTransfer 85 = .ok (.ifCond .ne 21, 3) := dw154 (n := 64) (i := 21) (a := 0) (b := 21) kc_cX11_countTransfer_2 (by decide +kernel) (by decide)
theorem dX11_countTransfer_88 : decode cX11_countTransfer 88 = .ok (.aload_n 0, 1) := dw42 (n := 64) (i := 24) kc_cX11_countTransfer_2 (by decide +kernel)
theorem dX11_countTransfer_89 : decode cX11_countTransfer 89 = .ok (.getfield 87, 3) := dw180 (n := 64) (i := 25) (a := 0) (b := 87) kc_cX11_countTransfer_2 (by decide +kernel) (by decide)
theorem dX11_countTransfer_92 : decode cX11_countTransfer 92 = .ok (.iload_n 3, 1) := dw29 (n := 64) (i := 28) kc_cX11_countTransfer_2 (by decide +kernel)
theorem dX11_countTransfer_93 : decode cX11_countTransfer 93 = .ok (.laload, 1) := dw47 (n := 64) (i := 29) kc_cX11_countTransfer_2 (by decide +kernel)
theorem dX11_countTransfer_94 : decode cX11_countTransfer 94 = .ok (.lload_n 1, 1) := dw31 (n := 64) (i := 30) kc_cX11_countTransfer_2 (by decide +kernel)
theorem dX11_countTransfer_95 : decode cX11_countTransfer 95 = .ok (.aload_n 0, 1) := dw42 (n := 64) (i := 31) kc_cX11_countTransfer_2 (by decide +kernel)
theorem dX11_countTransfer_96 : decode cX11_countTransfer 96 = .ok (.getfield 90, 3) := dw180 (n := 96) (i := 0) (a := 0) (b := 90) kc_cX11_countTransfer_3 (by decide +kernel) (by decide)
theorem dX11_countTransfer_99 : decode cX11_countTransfer 99 = .ok (.iload_n 3, 1) := dw29 (n := 96) (i := 3) kc_cX11_countTransfer_3 (by decide +kernel)
theorem dX11_countTransfer_100 : decode cX11_countTransfer 100 = .ok (.laload, 1) := dw47 (n := 96) (i := 4) kc_cX11_countTransfer_3 (by decide +kernel)
theorem dX11_countTransfer_101 : decode cX11_countTransfer 101 = .ok (.lmul, 1) := dw105 (n := 96) (i := 5) kc_cX11_countTransfer_3 (by decide +kernel)
theorem dX11_countTransfer_102 : decode cX11_countTransfer 102 = .ok (.lcmp, 1) := dw148 (n := 96) (i := 6) kc_cX11_countTransfer_3 (by decide +kernel)
theorem dX11_countTransfer_103 : decode cX11_countTransfer 103 = .ok (.ifCond .lt 28, 3) := dw155 (n := 96) (i := 7) (a := 0) (b := 28) kc_cX11_countTransfer_3 (by decide +kernel) (by decide)
theorem dX11_countTransfer_131 : decode cX11_countTransfer 131 = .ok (.aload_n 0, 1) := dw42 (n := 128) (i := 3) kc_cX11_countTransfer_4 (by decide +kernel)
theorem dX11_countTransfer_132 : decode cX11_countTransfer 132 = .ok (.invokevirtual 252, 3) := dw182 (n := 128) (i := 4) (a := 0) (b := 252) kc_cX11_countTransfer_4 (by decide +kernel) (by decide)
set_option maxRecDepth 20000 in
theorem ggX11_countTransfer_X11_least : GoodIn wsX11_countTransfer wsX11_least := (gk_code 84 rfl (gk_fieldLink 20 rfl (gk_fieldLink 59 rfl (gk_fieldLink 7 rfl (gk_fieldLink 5 rfl (gk_fieldLink 6 rfl (gk_methodLink 60 rfl (gk_static 61 rfl (gk_initialized 11 rfl (gk_code 62 rfl (gk_lays 85 rfl (gk_laysFinal 86 rfl (gk_lays 87 rfl (gk_laysFinal 88 rfl (gk_lays 89 rfl (gk_laysFinal 90 rfl (gk_laysFinal 91 rfl (gk_laysFinal 92 rfl (gk_laysFinal 93 rfl (gk_lays 94 rfl (gk_laysFinal 95 rfl (gk_laysFinal 96 rfl (gk_laysFinal 97 rfl (gk_laysFinal 98 rfl (gk_lays 99 rfl (gk_laysFinal 100 rfl (gk_laysFinal 101 rfl (gk_laysFinal 102 rfl (gk_laysFinal 103 rfl (gk_laysFinal 104 rfl (gk_laysFinal 105 rfl (gk_laysFinal 106 rfl (gk_laysFinal 107 rfl (gk_lays 108 rfl (gk_lays 109 rfl (gk_lays 110 rfl (gk_lays 111 rfl (gk_lays 112 rfl (gk_lays 113 rfl (gk_lays 114 rfl (gk_laysFinal 115 rfl (gk_lays 116 rfl (gk_laysFinal 117 rfl (gk_laysFinal 118 rfl (gk_laysFinal 119 rfl (gk_laysFinal 120 rfl (gk_laysFinal 121 rfl (gk_laysFinal 122 rfl (gk_laysFinal 123 rfl (gk_laysFinal 124 rfl (gk_laysFinal 125 rfl (gk_laysFinal 126 rfl (gk_lays 127 rfl (gk_laysFinal 128 rfl (gk_lays 129 rfl (gk_laysFinal 130 rfl (gk_laysFinal 131 rfl (gk_laysFinal 132 rfl (gk_laysFinal 133 rfl (gk_laysFinal 134 rfl (gk_laysFinal 135 rfl (gk_laysFinal 136 rfl (gk_laysFinal 137 rfl (gn))))))))))))))))))))))))))))))))))))))))))))))))))))))))))))))))
set_option maxRecDepth 20000 in
theorem gX11_countTransfer_X11_least : GoodIn wsX11_countTransfer (wsV RX11 252 RX11 yX11_least wsX11_least) := goodIn_app (gk_methodLink 81 rfl (gk_instanceMethod 82 rfl (gk_selects 83 rfl (gk_initialized 11 rfl (gn))))) ggX11_countTransfer_X11_least
theorem dX11_countTransfer_135 : decode cX11_countTransfer 135 = .ok (.istore_n 3, 1) := dw62 (n := 128) (i := 7) kc_cX11_countTransfer_4 (by decide +kernel)
theorem dX11_countTransfer_136 : decode cX11_countTransfer 136 = .ok (.aload_n 0, 1) := dw42 (n := 128) (i := 8) kc_cX11_countTransfer_4 (by decide +kernel)
theorem dX11_countTransfer_137 : decode cX11_countTransfer 137 = .ok (.iconst 2, 1) := dw5 (n := 128) (i := 9) kc_cX11_countTransfer_4 (by decide +kernel)
theorem dX11_countTransfer_138 : decode cX11_countTransfer 138 = .ok (.iload_n 3, 1) := dw29 (n := 128) (i := 10) kc_cX11_countTransfer_4 (by decide +kernel)
theorem dX11_countTransfer_139 : decode cX11_countTransfer 139 = .ok (.invokevirtual 238, 3) := dw182 (n := 128) (i := 11) (a := 0) (b := 238) kc_cX11_countTransfer_4 (by decide +kernel) (by decide)
set_option maxRecDepth 20000 in
theorem ggX11_countTransfer_X11_happens : GoodIn wsX11_countTransfer wsX11_happens := (gk_code 70 rfl (gk_fieldLink 71 rfl (gk_fieldLink 72 rfl (gk_fieldLink 73 rfl (gk_fieldLink 74 rfl (gk_fieldLink 5 rfl (gk_fieldLink 75 rfl (gk_fieldLink 6 rfl (gk_lays 85 rfl (gk_laysFinal 86 rfl (gk_lays 87 rfl (gk_laysFinal 88 rfl (gk_lays 89 rfl (gk_laysFinal 90 rfl (gk_laysFinal 91 rfl (gk_laysFinal 92 rfl (gk_laysFinal 93 rfl (gk_lays 94 rfl (gk_laysFinal 95 rfl (gk_laysFinal 96 rfl (gk_laysFinal 97 rfl (gk_laysFinal 98 rfl (gk_lays 99 rfl (gk_laysFinal 100 rfl (gk_laysFinal 101 rfl (gk_laysFinal 102 rfl (gk_laysFinal 103 rfl (gk_laysFinal 104 rfl (gk_laysFinal 105 rfl (gk_laysFinal 106 rfl (gk_laysFinal 107 rfl (gk_lays 108 rfl (gk_lays 109 rfl (gk_lays 110 rfl (gk_lays 111 rfl (gk_lays 112 rfl (gk_lays 113 rfl (gk_lays 114 rfl (gk_laysFinal 115 rfl (gk_lays 116 rfl (gk_laysFinal 117 rfl (gk_laysFinal 118 rfl (gk_laysFinal 119 rfl (gk_laysFinal 120 rfl (gk_laysFinal 121 rfl (gk_laysFinal 122 rfl (gk_laysFinal 123 rfl (gk_laysFinal 124 rfl (gk_laysFinal 125 rfl (gk_laysFinal 126 rfl (gk_lays 127 rfl (gk_laysFinal 128 rfl (gk_lays 129 rfl (gk_laysFinal 130 rfl (gk_laysFinal 131 rfl (gk_laysFinal 132 rfl (gk_laysFinal 133 rfl (gk_laysFinal 134 rfl (gk_laysFinal 135 rfl (gk_laysFinal 136 rfl (gk_laysFinal 137 rfl (gn))))))))))))))))))))))))))))))))))))))))))))))))))))))))))))))
set_option maxRecDepth 20000 in
theorem gX11_countTransfer_X11_happens : GoodIn wsX11_countTransfer (wsV RX11 238 RX11 yX11_happens wsX11_happens) := goodIn_app (gk_methodLink 67 rfl (gk_instanceMethod 68 rfl (gk_selects 69 rfl (gk_initialized 11 rfl (gn))))) ggX11_countTransfer_X11_happens
theorem dX11_countTransfer_142 : decode cX11_countTransfer 142 = .ok (.aload_n 0, 1) := dw42 (n := 128) (i := 14) kc_cX11_countTransfer_4 (by decide +kernel)
theorem dX11_countTransfer_143 : decode cX11_countTransfer 143 = .ok (.getfield 81, 3) := dw180 (n := 128) (i := 15) (a := 0) (b := 81) kc_cX11_countTransfer_4 (by decide +kernel) (by decide)
theorem dX11_countTransfer_146 : decode cX11_countTransfer 146 = .ok (.iload_n 3, 1) := dw29 (n := 128) (i := 18) kc_cX11_countTransfer_4 (by decide +kernel)
theorem dX11_countTransfer_147 : decode cX11_countTransfer 147 = .ok (.iconst 0, 1) := dw3 (n := 128) (i := 19) kc_cX11_countTransfer_4 (by decide +kernel)
theorem dX11_countTransfer_148 : decode cX11_countTransfer 148 = .ok (.bastore, 1) := dw84 (n := 128) (i := 20) kc_cX11_countTransfer_4 (by decide +kernel)
theorem dX11_countTransfer_149 : decode cX11_countTransfer 149 = .ok (.goto (-130), 3) := dw167 (n := 128) (i := 21) (a := 255) (b := 126) kc_cX11_countTransfer_4 (by decide +kernel) (by decide)
theorem dX11_countTransfer_106 : decode cX11_countTransfer 106 = .ok (.iload 4, 2) := dw21 (n := 96) (i := 10) (a := 4) kc_cX11_countTransfer_3 (by decide +kernel) (by decide)
theorem dX11_countTransfer_108 : decode cX11_countTransfer 108 = .ok (.ifCond .ne 9, 3) := dw154 (n := 96) (i := 12) (a := 0) (b := 9) kc_cX11_countTransfer_3 (by decide +kernel) (by decide)
theorem dX11_countTransfer_111 : decode cX11_countTransfer 111 = .ok (.aload_n 0, 1) := dw42 (n := 96) (i := 15) kc_cX11_countTransfer_3 (by decide +kernel)
theorem dX11_countTransfer_112 : decode cX11_countTransfer 112 = .ok (.iload_n 3, 1) := dw29 (n := 96) (i := 16) kc_cX11_countTransfer_3 (by decide +kernel)
theorem dX11_countTransfer_113 : decode cX11_countTransfer 113 = .ok (.lload_n 1, 1) := dw31 (n := 96) (i := 17) kc_cX11_countTransfer_3 (by decide +kernel)
theorem dX11_countTransfer_114 : decode cX11_countTransfer 114 = .ok (.invokevirtual 267, 3) := dw182 (n := 96) (i := 18) (a := 1) (b := 11) kc_cX11_countTransfer_3 (by decide +kernel) (by decide)
set_option maxRecDepth 20000 in
theorem ggX11_countTransfer_X11_lighten : GoodIn wsX11_countTransfer wsX11_lighten := (gk_code 66 rfl (gk_fieldLink 5 rfl (gk_fieldLink 6 rfl (gk_fieldLink 4 rfl (gk_fieldLink 45 rfl (gk_fieldLink 46 rfl (gk_fieldLink 13 rfl (gk_fieldLink 1 rfl (gk_fieldLink 25 rfl (gk_fieldLink 26 rfl (gk_methodLink 47 rfl (gk_instanceMethod 48 rfl (gk_selects 49 rfl (gk_initialized 11 rfl (gk_code 50 rfl (gk_constantLong 51 rfl (gk_methodLink 52 rfl (gk_static 53 rfl (gk_code 54 rfl (gk_methodLink 31 rfl (gk_instanceMethod 32 rfl (gk_selects 33 rfl (gk_code 34 rfl (gk_fieldLink 14 rfl (gk_methodLink 35 rfl (gk_instanceMethod 36 rfl (gk_selects 37 rfl (gk_code 38 rfl (gk_fieldLink 39 rfl (gk_fieldLink 7 rfl (gk_fieldLink 40 rfl (gk_lays 85 rfl (gk_laysFinal 86 rfl (gk_lays 87 rfl (gk_laysFinal 88 rfl (gk_lays 89 rfl (gk_laysFinal 90 rfl (gk_laysFinal 91 rfl (gk_laysFinal 92 rfl (gk_laysFinal 93 rfl (gk_lays 94 rfl (gk_laysFinal 95 rfl (gk_laysFinal 96 rfl (gk_laysFinal 97 rfl (gk_laysFinal 98 rfl (gk_lays 99 rfl (gk_laysFinal 100 rfl (gk_laysFinal 101 rfl (gk_laysFinal 102 rfl (gk_laysFinal 103 rfl (gk_laysFinal 104 rfl (gk_laysFinal 105 rfl (gk_laysFinal 106 rfl (gk_laysFinal 107 rfl (gk_lays 108 rfl (gk_lays 109 rfl (gk_lays 110 rfl (gk_lays 111 rfl (gk_lays 112 rfl (gk_lays 113 rfl (gk_lays 114 rfl (gk_laysFinal 115 rfl (gk_lays 116 rfl (gk_laysFinal 117 rfl (gk_laysFinal 118 rfl (gk_laysFinal 119 rfl (gk_laysFinal 120 rfl (gk_laysFinal 121 rfl (gk_laysFinal 122 rfl (gk_laysFinal 123 rfl (gk_laysFinal 124 rfl (gk_laysFinal 125 rfl (gk_laysFinal 126 rfl (gk_lays 127 rfl (gk_laysFinal 128 rfl (gk_lays 129 rfl (gk_laysFinal 130 rfl (gk_laysFinal 131 rfl (gk_laysFinal 132 rfl (gk_laysFinal 133 rfl (gk_laysFinal 134 rfl (gk_laysFinal 135 rfl (gk_laysFinal 136 rfl (gk_laysFinal 137 rfl (gn)))))))))))))))))))))))))))))))))))))))))))))))))))))))))))))))))))))))))))))))))))))
set_option maxRecDepth 20000 in
theorem gX11_countTransfer_X11_lighten : GoodIn wsX11_countTransfer (wsV RX11 267 RX11 yX11_lighten wsX11_lighten) := goodIn_app (gk_methodLink 63 rfl (gk_instanceMethod 64 rfl (gk_selects 65 rfl (gk_initialized 11 rfl (gn))))) ggX11_countTransfer_X11_lighten
theorem dX11_countTransfer_117 : decode cX11_countTransfer 117 = .ok (.aload_n 0, 1) := dw42 (n := 96) (i := 21) kc_cX11_countTransfer_3 (by decide +kernel)
theorem dX11_countTransfer_118 : decode cX11_countTransfer 118 = .ok (.iconst 1, 1) := dw4 (n := 96) (i := 22) kc_cX11_countTransfer_3 (by decide +kernel)
theorem dX11_countTransfer_119 : decode cX11_countTransfer 119 = .ok (.iload_n 3, 1) := dw29 (n := 96) (i := 23) kc_cX11_countTransfer_3 (by decide +kernel)
theorem dX11_countTransfer_120 : decode cX11_countTransfer 120 = .ok (.invokevirtual 238, 3) := dw182 (n := 96) (i := 24) (a := 0) (b := 238) kc_cX11_countTransfer_3 (by decide +kernel) (by decide)
theorem dX11_countTransfer_123 : decode cX11_countTransfer 123 = .ok (.aload_n 0, 1) := dw42 (n := 96) (i := 27) kc_cX11_countTransfer_3 (by decide +kernel)
theorem dX11_countTransfer_124 : decode cX11_countTransfer 124 = .ok (.iload_n 3, 1) := dw29 (n := 96) (i := 28) kc_cX11_countTransfer_3 (by decide +kernel)
theorem dX11_countTransfer_125 : decode cX11_countTransfer 125 = .ok (.invokevirtual 242, 3) := dw182 (n := 96) (i := 29) (a := 0) (b := 242) kc_cX11_countTransfer_3 (by decide +kernel) (by decide)
set_option maxRecDepth 20000 in
theorem ggX11_countTransfer_X11_gives : GoodIn wsX11_countTransfer wsX11_gives := (gk_code 79 rfl (gk_fieldLink 80 rfl (gk_fieldLink 3 rfl (gk_lays 85 rfl (gk_laysFinal 86 rfl (gk_lays 87 rfl (gk_laysFinal 88 rfl (gk_lays 89 rfl (gk_laysFinal 90 rfl (gk_laysFinal 91 rfl (gk_laysFinal 92 rfl (gk_laysFinal 93 rfl (gk_lays 94 rfl (gk_laysFinal 95 rfl (gk_laysFinal 96 rfl (gk_laysFinal 97 rfl (gk_laysFinal 98 rfl (gk_lays 99 rfl (gk_laysFinal 100 rfl (gk_laysFinal 101 rfl (gk_laysFinal 102 rfl (gk_laysFinal 103 rfl (gk_laysFinal 104 rfl (gk_laysFinal 105 rfl (gk_laysFinal 106 rfl (gk_laysFinal 107 rfl (gk_lays 108 rfl (gk_lays 109 rfl (gk_lays 110 rfl (gk_lays 111 rfl (gk_lays 112 rfl (gk_lays 113 rfl (gk_lays 114 rfl (gk_laysFinal 115 rfl (gk_lays 116 rfl (gk_laysFinal 117 rfl (gk_laysFinal 118 rfl (gk_laysFinal 119 rfl (gk_laysFinal 120 rfl (gk_laysFinal 121 rfl (gk_laysFinal 122 rfl (gk_laysFinal 123 rfl (gk_laysFinal 124 rfl (gk_laysFinal 125 rfl (gk_laysFinal 126 rfl (gk_lays 127 rfl (gk_laysFinal 128 rfl (gk_lays 129 rfl (gk_laysFinal 130 rfl (gk_laysFinal 131 rfl (gk_laysFinal 132 rfl (gk_laysFinal 133 rfl (gk_laysFinal 134 rfl (gk_laysFinal 135 rfl (gk_laysFinal 136 rfl (gk_laysFinal 137 rfl (gn)))))))))))))))))))))))))))))))))))))))))))))))))))))))))
set_option maxRecDepth 20000 in
theorem gX11_countTransfer_X11_gives : GoodIn wsX11_countTransfer (wsV RX11 242 RX11 yX11_gives wsX11_gives) := goodIn_app (gk_methodLink 76 rfl (gk_instanceMethod 77 rfl (gk_selects 78 rfl (gk_initialized 11 rfl (gn))))) ggX11_countTransfer_X11_gives
theorem dX11_countTransfer_128 : decode cX11_countTransfer 128 = .ok (.goto 14, 3) := dw167 (n := 128) (i := 0) (a := 0) (b := 14) kc_cX11_countTransfer_4 (by decide +kernel) (by decide)
theorem dX11_countTransfer_76 : decode cX11_countTransfer 76 = .ok (.iconst 1, 1) := dw4 (n := 64) (i := 12) kc_cX11_countTransfer_2 (by decide +kernel)
theorem dX11_countTransfer_77 : decode cX11_countTransfer 77 = .ok (.goto 4, 3) := dw167 (n := 64) (i := 13) (a := 0) (b := 4) kc_cX11_countTransfer_2 (by decide +kernel) (by decide)
set_option maxHeartbeats 4000000 in
set_option maxRecDepth 100000 in
theorem s_X11_countTransfer (l : Launch) (D : va_G) (ad : Nat → Nat) (cs : Nat → ClassId) (M : MI) (L : ML)  (hI : IR M) (hD : DP (vR M)) (hNI0 : NIn (M 282) (M 258 2).toInt) (hW : WT L) (hg0 : (M 258 29).toInt = 0) (hm0 : (M 258 31).toInt = 0) (hX : hasX (vR M) (M 258 27)) : Cv l yX11_countTransfer wsX11_countTransfer ({ frames := 4, cells := 0, slots := 0, locals := 103 }) D ad cs [.ref (ad 258)] M L (fun M1 L1 => (True) ∧ IR M1 ∧ (∀ k i, ¬ (k = 258 ∧ i = 25) ∧ ¬ (k = 258 ∧ i = 29) ∧ ¬ (k = 258 ∧ i = 31) ∧ k ≠ 277 ∧ k ≠ 278 ∧ k ≠ 279 ∧ k ≠ 282 → M1 k i = M k i) ∧ ∀ k i, ¬ (k = 258 ∧ i = 23) ∧ ¬ (k = 258 ∧ i = 24) ∧ k ≠ 284 ∧ k ≠ 285 ∧ k ≠ 280 ∧ k ≠ 281 ∧ k ≠ 286 ∧ k ≠ 287 → L1 k i = L k i) := by
  refine enter_v RX11 rfl [(0, .ref (ad 258))] rfl (Nat.le_of_ble_eq_true rfl) (by decide +kernel) rfl ?_
  intro p e s m below meth c C hr
  have hF : ∀ k i, ¬ (k = 258 ∧ i = 25) ∧ ¬ (k = 258 ∧ i = 29) ∧ ¬ (k = 258 ∧ i = 31) ∧ k ≠ 277 ∧ k ≠ 278 ∧ k ≠ 279 ∧ k ≠ 282 → M k i = M k i := fun _ _ _ => rfl
  have hG : ∀ k i, ¬ (k = 258 ∧ i = 23) ∧ ¬ (k = 258 ∧ i = 24) ∧ k ≠ 284 ∧ k ≠ 285 ∧ k ≠ 280 ∧ k ≠ 281 ∧ k ≠ 286 ∧ k ≠ 287 → L k i = L k i := fun _ _ _ => rfl
  obtain ⟨ca, cb⟩ := (show rg 0 10 (M 258 2) from hI 258 2)
  have n02 := ixn ca
  obtain ⟨sa, sb⟩ := (show rg 0 30 (M 258 28) from hI 258 28)
  have hle := cI_le (M 282) (M 258 2).toNatClampNeg
  have k25 : M 258 25 = M 258 25 := rfl
  have k29 : M 258 29 = M 258 29 := rfl
  have k31 : M 258 31 = M 258 31 := rfl
  have l23 : L 258 23 = L 258 23 := rfl
  have l24 : L 258 24 = L 258 24 := rfl
  have p280 : L 280 = L 280 := rfl
  have p281 : L 281 = L 281 := rfl
  have p284 : L 284 = L 284 := rfl
  have p285 : L 285 = L 285 := rfl
  have p286 : L 286 = L 286 := rfl
  have p287 : L 287 = L 287 := rfl
  have q277 : M 277 = M 277 := rfl
  have q278 : M 278 = M 278 := rfl
  have q279 : M 279 = M 279 := rfl
  have q282 : M 282 = M 282 := rfl
  refine g_aload_n C 0 dX11_countTransfer_0 rfl ?_
  refine g_aload_n C 0 dX11_countTransfer_1 rfl ?_
  refine g_get C (.int (M 258 27)) 27 in_X11_countTransfer_11 (List.mem_of_getElem? (i := 1) rfl) (by decide) (ce_model ad cs _ _) rfl (by decide) rfl rfl dX11_countTransfer_2 ?_
  refine g_ni (fun v1 ev1 => ?_)
  have gv1 : v1 = M 258 27 := ev1
  have tv1 := congrArg Int32.toInt gv1
  obtain ⟨bv1, dv1⟩ := (show rg 0 7 v1 from (by rw [ev1]; exact hI 258 27))
  refine g_callVi C (n := 1) (As := [.int v1]) (st := []) (s_X11_papersIn l D ad cs _ _ v1 hI (by rw [ev1]; exact hX)) gX11_countTransfer_X11_papersIn rfl rfl rfl (by decide +kernel) ⟨Nat.le_of_ble_eq_true rfl, Nat.le_of_ble_eq_true rfl⟩ rfl (Nat.le_of_ble_eq_true rfl) ⟨Nat.zero_le _, Nat.zero_le _⟩ (by decide) (ce_model ad cs _ _) rfl rfl dX11_countTransfer_5 (fun r2 M3 L4 hr2 => ?_)
  obtain ⟨hq1, hq2, hr2⟩ := hr2
  obtain rfl := hq1.symm
  obtain rfl := hq2.symm
  obtain ⟨hr2, bar2, bbr2⟩ := hr2
  refine g_aload_n C 0 dX11_countTransfer_8 rfl ?_
  refine g_get C (.int (M 258 28)) 28 in_X11_countTransfer_11 (List.mem_of_getElem? (i := 2) rfl) (by decide) (ce_model ad cs _ _) rfl (by decide) rfl rfl dX11_countTransfer_9 ?_
  refine g_ni (fun v5 ev5 => ?_)
  have gv5 : v5 = M 258 28 := ev5
  have tv5 := congrArg Int32.toInt gv5
  obtain ⟨bv5, dv5⟩ := (show rg 0 30 v5 from (by rw [ev5]; exact hI 258 28))
  refine g_iconst C 1 dX11_countTransfer_12 (by decide) ?_
  refine g_iadd C dX11_countTransfer_13 ?_
  refine g_ni (fun v6 ev6 => ?_)
  try have fv6 := fadd rfl (by decide : (1 : Int32).toInt = 1) ev6 (by omega) (by omega)
  refine g_idiv C dX11_countTransfer_14 (by intro h9; have h8 := congrArg Int32.toInt h9; have h7 : (0 : Int32).toInt = 0 := (by decide); omega) ?_
  refine g_ni (fun v7 ev7 => ?_)
  try have fv7 := idivI ev7 (by omega) (by omega)
  refine g_i2l C dX11_countTransfer_15 ?_
  refine g_nl (fun v8 ev8 => ?_)
  have fv8 := fi2l rfl ev8
  refine g_lconst C 1 dX11_countTransfer_16 (by decide) ?_
  refine g_ladd C dX11_countTransfer_17 ?_
  refine g_nl (fun v9 ev9 => ?_)
  try have fv9 := fladd rfl (by decide : (1 : Int64).toInt = 1) ev9 (by omega) (by omega)
  refine g_lstore_n C [(1, .long v9), (0, .ref (ad 258))] dX11_countTransfer_18 (by decide) rfl ?_
  refine g_loop (α := MI × ML) (fun a => cI (a.1 282) (M 258 2).toNatClampNeg * 2 + (1 - (a.1 258 25).toInt).toNat) (fun a => (NIn (a.1 282) (M 258 2).toInt) ∧ ((a.1 258 25).toInt = 0 → WT a.2) ∧ ((a.1 258 31).toInt + (cI (a.1 282) (M 258 2).toNatClampNeg : Int) ≤ 10) ∧ (0 ≤ (a.1 258 29).toInt ∧ (a.1 258 29).toInt ≤ (M 258 28).toInt) ∧ (0 ≤ (a.1 258 25).toInt ∧ (a.1 258 25).toInt ≤ 1) ∧ IR a.1 ∧ (∀ k i, ¬ (k = 258 ∧ i = 25) ∧ ¬ (k = 258 ∧ i = 29) ∧ ¬ (k = 258 ∧ i = 31) ∧ k ≠ 277 ∧ k ≠ 278 ∧ k ≠ 279 ∧ k ≠ 282 → a.1 k i = M k i) ∧ (∀ k i, ¬ (k = 258 ∧ i = 23) ∧ ¬ (k = 258 ∧ i = 24) ∧ k ≠ 284 ∧ k ≠ 285 ∧ k ≠ 280 ∧ k ≠ 281 ∧ k ≠ 286 ∧ k ≠ 287 → a.2 k i = L k i)) (fun a => a.1) (fun a => a.2) (fun a => [(1, .long v9), (0, .ref (ad 258))]) (M, L) ⟨by show NIn (M 282) (M 258 2).toInt; exact hNI0, by show (M 258 25).toInt = 0 → WT L; exact fun _ => hW, by show (M 258 31).toInt + (cI (M 282) (M 258 2).toNatClampNeg : Int) ≤ 10; omega, by show 0 ≤ (M 258 29).toInt ∧ (M 258 29).toInt ≤ (M 258 28).toInt; omega, by show 0 ≤ (M 258 25).toInt ∧ (M 258 25).toInt ≤ 1; exact hI 258 25, hI, hF, hG⟩ rfl rfl rfl ?_
  rintro ⟨M_19, L_19⟩ ⟨j19_0, j19_1, j19_2, j19_3, j19_4, hI, hF, hG⟩ ih_19
  dsimp only at j19_0 j19_1 j19_2 j19_3 j19_4 hI hF hG ih_19 ⊢
  have k25 : M_19 258 25 = M_19 258 25 := rfl
  have k29 : M_19 258 29 = M_19 258 29 := rfl
  have k31 : M_19 258 31 = M_19 258 31 := rfl
  have l23 : L_19 258 23 = L_19 258 23 := rfl
  have l24 : L_19 258 24 = L_19 258 24 := rfl
  have p280 : L_19 280 = L_19 280 := rfl
  have p281 : L_19 281 = L_19 281 := rfl
  have p284 : L_19 284 = L_19 284 := rfl
  have p285 : L_19 285 = L_19 285 := rfl
  have p286 : L_19 286 = L_19 286 := rfl
  have p287 : L_19 287 = L_19 287 := rfl
  have q277 : M_19 277 = M_19 277 := rfl
  have q278 : M_19 278 = M_19 278 := rfl
  have q279 : M_19 279 = M_19 279 := rfl
  have q282 : M_19 282 = M_19 282 := rfl
  have hNI := j19_0
  refine g_aload_n C 1 dX11_countTransfer_19 rfl ?_
  refine g_get C (.int (M_19 258 29)) 29 in_X11_countTransfer_11 (List.mem_of_getElem? (i := 3) rfl) (by decide) (ce_model ad cs _ _) rfl (by decide) rfl rfl dX11_countTransfer_20 ?_
  refine g_ni (fun v10 ev10 => ?_)
  have gv10 : v10 = M_19 258 29 := ev10.trans k29
  have tv10 := congrArg Int32.toInt gv10
  obtain ⟨bv10, dv10⟩ := (show rg 0 30 v10 from (by rw [ev10]; exact hI 258 29))
  refine g_aload_n C 1 dX11_countTransfer_23 rfl ?_
  refine g_get C (.int (M_19 258 28)) 28 in_X11_countTransfer_11 (List.mem_of_getElem? (i := 2) rfl) (by decide) (ce_model ad cs _ _) rfl (by decide) rfl rfl dX11_countTransfer_24 ?_
  refine g_ni (fun v11 ev11 => ?_)
  have gv11 : v11 = M 258 28 := ev11.trans (hF 258 28 (by omega))
  have tv11 := congrArg Int32.toInt gv11
  obtain ⟨bv11, dv11⟩ := (show rg 0 30 v11 from (by rw [ev11]; exact hI 258 28))
  refine g_icmp_ge C 152 dX11_countTransfer_27 (by decide) (fun c12 => ?_) (fun c12 => ?_)
  ·
    have f13 := fle rfl rfl c12
    exact g_vret C hr ⟨trivial, hI, hF, hG⟩ dX11_countTransfer_152
  ·
    have f14 := fnle rfl rfl c12
    refine g_aload_n C 1 dX11_countTransfer_30 rfl ?_
    refine g_callVi C (n := 0) (As := []) (st := []) (s_X11_inMany l D ad cs _ _  hI ) gX11_countTransfer_X11_inMany rfl rfl rfl (by decide +kernel) ⟨Nat.le_of_ble_eq_true rfl, Nat.le_of_ble_eq_true rfl⟩ rfl (Nat.le_of_ble_eq_true rfl) ⟨Nat.zero_le _, Nat.zero_le _⟩ (by decide) (ce_model ad cs _ _) rfl rfl dX11_countTransfer_31 (fun r15 M16 L17 hr15 => ?_)
    obtain ⟨hq1, hq2, hr15⟩ := hr15
    obtain rfl := hq1.symm
    obtain rfl := hq2.symm
    have tin := hr15
    rw [show (M_19 258 2).toNatClampNeg = (M 258 2).toNatClampNeg from congrArg Int32.toNatClampNeg (hF 258 2 (by omega)), q282] at tin
    refine g_if_le C 152 dX11_countTransfer_34 (by decide) (fun c18 => ?_) (fun c18 => ?_)
    ·
      have f19 := fle rfl (by decide : (0 : Int32).toInt = 0) c18
      exact g_vret C hr ⟨trivial, hI, hF, hG⟩ dX11_countTransfer_152
    ·
      have f20 := fnle rfl (by decide : (0 : Int32).toInt = 0) c18
      refine g_aload_n C 1 dX11_countTransfer_37 rfl ?_
      refine g_get C (.int (M_19 258 25)) 25 in_X11_countTransfer_11 (List.mem_of_getElem? (i := 4) rfl) (by decide) (ce_model ad cs _ _) rfl (by decide) rfl rfl dX11_countTransfer_38 ?_
      refine g_ni (fun v21 ev21 => ?_)
      have gv21 : v21 = M_19 258 25 := ev21.trans k25
      have tv21 := congrArg Int32.toInt gv21
      obtain ⟨bv21, dv21⟩ := (show rg 0 1 v21 from (by rw [ev21]; exact hI 258 25))
      refine g_if_ne C 152 dX11_countTransfer_41 (by decide) (fun c22 => ?_) (fun c22 => ?_)
      ·
        have f23 := fne rfl (by decide : (0 : Int32).toInt = 0) c22
        exact g_vret C hr ⟨trivial, hI, hF, hG⟩ dX11_countTransfer_152
      ·
        have f24 := feq rfl (by decide : (0 : Int32).toInt = 0) c22
        refine g_aload_n C 1 dX11_countTransfer_44 rfl ?_
        refine g_callVv C (n := 0) (As := []) (st := []) (s_X11_tallyFirsts l D ad cs _ _  hI (fun i hi => by rw [congrFun p286 i, congrFun p287 i]; exact j19_1 (by omega) i hi)) gX11_countTransfer_X11_tallyFirsts rfl rfl rfl (by decide +kernel) ⟨Nat.le_of_ble_eq_true rfl, Nat.le_of_ble_eq_true rfl⟩ rfl (Nat.le_of_ble_eq_true rfl) ⟨Nat.zero_le _, Nat.zero_le _⟩ (by decide) (ce_model ad cs _ _) rfl rfl dX11_countTransfer_45 (fun M26 L27 hr25 => ?_)
        obtain ⟨hr25, hI, hFr25, hGr25⟩ := hr25
        have hF : ∀ k i, ¬ (k = 258 ∧ i = 25) ∧ ¬ (k = 258 ∧ i = 29) ∧ ¬ (k = 258 ∧ i = 31) ∧ k ≠ 277 ∧ k ≠ 278 ∧ k ≠ 279 ∧ k ≠ 282 → M26 k i = M k i := fun k i hk => by (rw [hFr25 k i (by omega)]; try exact hF k i hk)
        have hG : ∀ k i, ¬ (k = 258 ∧ i = 23) ∧ ¬ (k = 258 ∧ i = 24) ∧ k ≠ 284 ∧ k ≠ 285 ∧ k ≠ 280 ∧ k ≠ 281 ∧ k ≠ 286 ∧ k ≠ 287 → L27 k i = L k i := fun k i hk => by (rw [hGr25 k i (by omega)]; try exact hG k i hk)
        have k29 : M26 258 29 = M_19 258 29 := (hFr25 258 29 (by omega)).trans k29
        have k31 : M26 258 31 = M_19 258 31 := (hFr25 258 31 (by omega)).trans k31
        have k25 : M26 258 25 = M26 258 25 := rfl
        have kt25 := congrArg Int32.toInt k25
        have kt29 := congrArg Int32.toInt k29
        have kt31 := congrArg Int32.toInt k31
        have l23 : L27 258 23 = L27 258 23 := rfl
        have l24 : L27 258 24 = L27 258 24 := rfl
        have p280 : L27 280 = L_19 280 := (funext (fun i => hGr25 280 i (by omega))).trans p280
        have p281 : L27 281 = L_19 281 := (funext (fun i => hGr25 281 i (by omega))).trans p281
        have p284 : L27 284 = L27 284 := rfl
        have p285 : L27 285 = L27 285 := rfl
        have p286 : L27 286 = L_19 286 := (funext (fun i => hGr25 286 i (by omega))).trans p286
        have p287 : L27 287 = L_19 287 := (funext (fun i => hGr25 287 i (by omega))).trans p287
        have q277 : M26 277 = M_19 277 := (funext (fun i => hFr25 277 i (by omega))).trans q277
        have q278 : M26 278 = M_19 278 := (funext (fun i => hFr25 278 i (by omega))).trans q278
        have q279 : M26 279 = M_19 279 := (funext (fun i => hFr25 279 i (by omega))).trans q279
        have q282 : M26 282 = M_19 282 := (funext (fun i => hFr25 282 i (by omega))).trans q282
        obtain ⟨hr25o, hr25k, hr25s⟩ := hr25
        refine g_aload_n C 1 dX11_countTransfer_48 rfl ?_
        refine g_get C (.int (M26 258 25)) 25 in_X11_countTransfer_11 (List.mem_of_getElem? (i := 4) rfl) (by decide) (ce_model ad cs _ _) rfl (by decide) rfl rfl dX11_countTransfer_49 ?_
        refine g_ni (fun v28 ev28 => ?_)
        have gv28 : v28 = M26 258 25 := ev28.trans k25
        have tv28 := congrArg Int32.toInt gv28
        obtain ⟨bv28, dv28⟩ := (show rg 0 1 v28 from (by rw [ev28]; exact hI 258 25))
        refine g_if_ne C 19 dX11_countTransfer_52 (by decide) (fun c29 => ?_) (fun c29 => ?_)
        ·
          have f30 := fne rfl (by decide : (0 : Int32).toInt = 0) c29
          obtain ⟨sp1, sp2⟩ := (show rg 0 1 (M26 258 25) from hI 258 25)
          have kt25 := congrArg Int32.toInt k25
          have kt29 := congrArg Int32.toInt k29
          have kt31 := congrArg Int32.toInt k31
          have e282 : M26 282 = M_19 282 := q282
          have hWe : (M26 258 25).toInt = 0 → WT L27 := fun h9 i hi => by rw [congrFun p286 i, congrFun p287 i]; exact j19_1 (by omega) i hi
          exact ih_19 (M26, L27) ⟨by show NIn (M26 282) (M 258 2).toInt; first | exact hNI2 | (rw [e282]; exact j19_0), by show (M26 258 25).toInt = 0 → WT L27; exact hWe, by show (M26 258 31).toInt + (cI (M26 282) (M 258 2).toNatClampNeg : Int) ≤ 10; rw [e282]; omega, by show 0 ≤ (M26 258 29).toInt ∧ (M26 258 29).toInt ≤ (M 258 28).toInt; omega, by show 0 ≤ (M26 258 25).toInt ∧ (M26 258 25).toInt ≤ 1; exact hI 258 25, hI, hF, hG⟩ (by show cI (M26 282) (M 258 2).toNatClampNeg * 2 + (1 - (M26 258 25).toInt).toNat < cI (M_19 282) (M 258 2).toNatClampNeg * 2 + (1 - (M_19 258 25).toInt).toNat; rw [e282]; omega)
        ·
          have f31 := feq rfl (by decide : (0 : Int32).toInt = 0) c29
          refine g_aload_n C 1 dX11_countTransfer_55 rfl ?_
          refine g_callVi C (n := 0) (As := []) (st := []) (s_X11_greatest l D ad cs _ _  hI (DP_k hD (hF 258 2 (by omega)) (fun i => hF 260 i (by omega)))) gX11_countTransfer_X11_greatest rfl rfl rfl (by decide +kernel) ⟨Nat.le_of_ble_eq_true rfl, Nat.le_of_ble_eq_true rfl⟩ rfl (Nat.le_of_ble_eq_true rfl) ⟨Nat.zero_le _, Nat.zero_le _⟩ (by decide) (ce_model ad cs _ _) rfl rfl dX11_countTransfer_56 (fun r32 M33 L34 hr32 => ?_)
          obtain ⟨hq1, hq2, hr32⟩ := hr32
          obtain rfl := hq1.symm
          obtain rfl := hq2.symm
          obtain ⟨br32, ir32, xr32⟩ := hr32
          have w9 : (vR M26 0 0).toInt = (M 258 2).toInt := congrArg Int32.toInt (hF 258 2 (by omega))
          have hc282 : M26 282 = M_19 282 := q282
          have hpos : 0 < cI (M_19 282) (M 258 2).toNatClampNeg := by omega
          obtain ⟨c9, hc9, hi9⟩ := cI_ex _ hpos
          have hne9 := xr32 ⟨c9, by omega, by rw [hc282]; exact hi9⟩
          have nr9 := ixn (x := r32) (by omega)
          have hin9 := ir32 (by omega)
          rw [hc282] at hin9
          have hlt9 := hNI r32.toNatClampNeg (by omega) hin9
          refine g_istore_n C [(3, .int r32), (1, .long v9), (0, .ref (ad 258))] dX11_countTransfer_59 (by decide) rfl ?_
          refine g_aload_n C 2 dX11_countTransfer_60 rfl ?_
          refine g_callVi C (n := 0) (As := []) (st := []) (s_X11_inMany l D ad cs _ _  hI ) gX11_countTransfer_X11_inMany rfl rfl rfl (by decide +kernel) ⟨Nat.le_of_ble_eq_true rfl, Nat.le_of_ble_eq_true rfl⟩ rfl (Nat.le_of_ble_eq_true rfl) ⟨Nat.zero_le _, Nat.zero_le _⟩ (by decide) (ce_model ad cs _ _) rfl rfl dX11_countTransfer_61 (fun r35 M36 L37 hr35 => ?_)
          obtain ⟨hq1, hq2, hr35⟩ := hr35
          obtain rfl := hq1.symm
          obtain rfl := hq2.symm
          have tin := hr35
          rw [show (M26 258 2).toNatClampNeg = (M 258 2).toNatClampNeg from congrArg Int32.toNatClampNeg (hF 258 2 (by omega)), q282] at tin
          refine g_aload_n C 2 dX11_countTransfer_64 rfl ?_
          refine g_get C (.int (M26 258 28)) 28 in_X11_countTransfer_11 (List.mem_of_getElem? (i := 2) rfl) (by decide) (ce_model ad cs _ _) rfl (by decide) rfl rfl dX11_countTransfer_65 ?_
          refine g_ni (fun v38 ev38 => ?_)
          have gv38 : v38 = M 258 28 := ev38.trans (hF 258 28 (by omega))
          have tv38 := congrArg Int32.toInt gv38
          obtain ⟨bv38, dv38⟩ := (show rg 0 30 v38 from (by rw [ev38]; exact hI 258 28))
          refine g_aload_n C 2 dX11_countTransfer_68 rfl ?_
          refine g_get C (.int (M26 258 29)) 29 in_X11_countTransfer_11 (List.mem_of_getElem? (i := 3) rfl) (by decide) (ce_model ad cs _ _) rfl (by decide) rfl rfl dX11_countTransfer_69 ?_
          refine g_ni (fun v39 ev39 => ?_)
          have gv39 : v39 = M_19 258 29 := ev39.trans k29
          have tv39 := congrArg Int32.toInt gv39
          obtain ⟨bv39, dv39⟩ := (show rg 0 30 v39 from (by rw [ev39]; exact hI 258 29))
          refine g_isub C dX11_countTransfer_72 ?_
          refine g_ni (fun v40 ev40 => ?_)
          try have fv40 := fsub rfl rfl ev40 (by omega) (by omega)
          refine g_icmp_gt C 80 dX11_countTransfer_73 (by decide) (fun c41 => ?_) (fun c41 => ?_)
          ·
            have f42 := fl rfl rfl c41
            refine g_iconst C 0 dX11_countTransfer_80 (by decide) ?_
            refine g_istore C [(4, .int 0), (3, .int r32), (1, .long v9), (0, .ref (ad 258))] dX11_countTransfer_81 (by decide) rfl ?_
            refine g_iload C 0 dX11_countTransfer_83 rfl ?_
            refine g_if_ne C 106 dX11_countTransfer_85 (by decide) (fun c43 => absurd c43 (by decide)) (fun _ => ?_)
            have hok := hr25k (by omega) r32.toNatClampNeg (by omega)
            unfold okF at hok
            refine g_aload_n C 3 dX11_countTransfer_88 rfl ?_
            refine g_get C (.ref (ad 284)) 38 in_X11_countTransfer_11 (List.mem_of_getElem? (i := 5) rfl) (by decide) (ce_model ad cs _ _) rfl (by decide) rfl rfl dX11_countTransfer_89 ?_
            refine g_iload_n C 1 dX11_countTransfer_92 rfl ?_
            refine g_lald C (by decide) (ce_m_ups ad cs _ _) (fin' (n := 10) rfl (by omega) (by omega)) dX11_countTransfer_93 ?_
            refine g_nl (fun v44 ev44 => ?_)
            have gv44 : v44 = L27 284 r32.toNatClampNeg := ev44.trans (congrFun p284 _)
            have tv44 := congrArg Int64.toInt gv44
            refine g_lload_n C 2 dX11_countTransfer_94 rfl ?_
            refine g_aload_n C 3 dX11_countTransfer_95 rfl ?_
            refine g_get C (.ref (ad 285)) 39 in_X11_countTransfer_11 (List.mem_of_getElem? (i := 6) rfl) (by decide) (ce_model ad cs _ _) rfl (by decide) rfl rfl dX11_countTransfer_96 ?_
            refine g_iload_n C 1 dX11_countTransfer_99 rfl ?_
            refine g_lald C (by decide) (ce_m_downs ad cs _ _) (fin' (n := 10) rfl (by omega) (by omega)) dX11_countTransfer_100 ?_
            refine g_nl (fun v45 ev45 => ?_)
            have gv45 : v45 = L27 285 r32.toNatClampNeg := ev45.trans (congrFun p285 _)
            have tv45 := congrArg Int64.toInt gv45
            refine g_lmul C dX11_countTransfer_101 ?_
            refine g_nl (fun v46 ev46 => ?_)
            try have fv46 := prodI ev46
            have m1 := mul_le9 (a := v9.toInt) (b := v45.toInt) (by omega) (by omega) (by omega) (by omega)
            rw [bmod_id (by omega) (by omega)] at fv46
            refine g_lcmp C dX11_countTransfer_102 ?_
            refine g_ni (fun v47 ev47 => ?_)
            refine g_if_lt C 131 dX11_countTransfer_103 (by decide) (fun c48 => ?_) (fun c48 => ?_)
            ·
              have f49 := clt rfl rfl ev47 c48
              refine g_aload_n C 3 dX11_countTransfer_131 rfl ?_
              refine g_callVi C (n := 0) (As := []) (st := []) (s_X11_least l D ad cs _ _  hI (DP_k hD (hF 258 2 (by omega)) (fun i => hF 260 i (by omega)))) gX11_countTransfer_X11_least rfl rfl rfl (by decide +kernel) ⟨Nat.le_of_ble_eq_true rfl, Nat.le_of_ble_eq_true rfl⟩ rfl (Nat.le_of_ble_eq_true rfl) ⟨Nat.zero_le _, Nat.zero_le _⟩ (by decide) (ce_model ad cs _ _) rfl rfl dX11_countTransfer_132 (fun r50 M51 L52 hr50 => ?_)
              obtain ⟨hq1, hq2, hr50⟩ := hr50
              obtain rfl := hq1.symm
              obtain rfl := hq2.symm
              obtain ⟨br50, ir50, xr50⟩ := hr50
              have w9 : (vR M26 0 0).toInt = (M 258 2).toInt := congrArg Int32.toInt (hF 258 2 (by omega))
              have hc282 : M26 282 = M_19 282 := q282
              have hpos : 0 < cI (M_19 282) (M 258 2).toNatClampNeg := by omega
              obtain ⟨c9, hc9, hi9⟩ := cI_ex _ hpos
              have hne9 := xr50 ⟨c9, by omega, by rw [hc282]; exact hi9⟩
              have nr9 := ixn (x := r50) (by omega)
              have hin9 := ir50 (by omega)
              rw [hc282] at hin9
              have hlt9 := hNI r50.toNatClampNeg (by omega) hin9
              refine g_istore_n C [(3, .int r50), (4, .int 0), (1, .long v9), (0, .ref (ad 258))] dX11_countTransfer_135 (by decide) rfl ?_
              refine g_aload_n C 3 dX11_countTransfer_136 rfl ?_
              refine g_iconst C 2 dX11_countTransfer_137 (by decide) ?_
              refine g_iload_n C 0 dX11_countTransfer_138 rfl ?_
              refine g_callVv C (n := 2) (As := [.int 2, .int r50]) (st := []) (s_X11_happens l D ad cs _ _ 2 r50 hI (by omega)) gX11_countTransfer_X11_happens rfl rfl rfl (by decide +kernel) ⟨Nat.le_of_ble_eq_true rfl, Nat.le_of_ble_eq_true rfl⟩ rfl (Nat.le_of_ble_eq_true rfl) ⟨Nat.zero_le _, Nat.zero_le _⟩ (by decide) (ce_model ad cs _ _) rfl rfl dX11_countTransfer_139 (fun M54 L55 hr53 => ?_)
              obtain ⟨hr53, hI, hFr53, hGr53⟩ := hr53
              have hF : ∀ k i, ¬ (k = 258 ∧ i = 25) ∧ ¬ (k = 258 ∧ i = 29) ∧ ¬ (k = 258 ∧ i = 31) ∧ k ≠ 277 ∧ k ≠ 278 ∧ k ≠ 279 ∧ k ≠ 282 → M54 k i = M k i := fun k i hk => by (rw [hFr53 k i (by omega)]; try exact hF k i hk)
              have hG : ∀ k i, ¬ (k = 258 ∧ i = 23) ∧ ¬ (k = 258 ∧ i = 24) ∧ k ≠ 284 ∧ k ≠ 285 ∧ k ≠ 280 ∧ k ≠ 281 ∧ k ≠ 286 ∧ k ≠ 287 → L55 k i = L k i := fun k i hk => by (rw [hGr53 k i (by omega)]; try exact hG k i hk)
              have k25 : M54 258 25 = M26 258 25 := (hFr53 258 25 (by omega)).trans k25
              have k29 : M54 258 29 = M_19 258 29 := (hFr53 258 29 (by omega)).trans k29
              have k31 : M54 258 31 = M54 258 31 := rfl
              have kt25 := congrArg Int32.toInt k25
              have kt29 := congrArg Int32.toInt k29
              have kt31 := congrArg Int32.toInt k31
              have l23 : L55 258 23 = L27 258 23 := (hGr53 258 23 (by omega)).trans l23
              have l24 : L55 258 24 = L27 258 24 := (hGr53 258 24 (by omega)).trans l24
              have p280 : L55 280 = L55 280 := rfl
              have p281 : L55 281 = L55 281 := rfl
              have p284 : L55 284 = L27 284 := (funext (fun i => hGr53 284 i (by omega))).trans p284
              have p285 : L55 285 = L27 285 := (funext (fun i => hGr53 285 i (by omega))).trans p285
              have p286 : L55 286 = L_19 286 := (funext (fun i => hGr53 286 i (by omega))).trans p286
              have p287 : L55 287 = L_19 287 := (funext (fun i => hGr53 287 i (by omega))).trans p287
              have q277 : M54 277 = M_19 277 := (funext (fun i => hFr53 277 i (by omega))).trans q277
              have q278 : M54 278 = M54 278 := rfl
              have q279 : M54 279 = M54 279 := rfl
              have q282 : M54 282 = M_19 282 := (funext (fun i => hFr53 282 i (by omega))).trans q282
              have ur53 := hr53
              refine g_aload_n C 3 dX11_countTransfer_142 rfl ?_
              refine g_get C (.ref (ad 282)) 36 in_X11_countTransfer_11 (List.mem_of_getElem? (i := 7) rfl) (by decide) (ce_model ad cs _ _) rfl (by decide) rfl rfl dX11_countTransfer_143 ?_
              refine g_iload_n C 0 dX11_countTransfer_146 rfl ?_
              refine g_iconst C 0 dX11_countTransfer_147 (by decide) ?_
              refine g_zast C (by decide) (ce_m_isIn ad cs _ _) (by rw [sI_k]; rfl) (fin' (n := 10) rfl (by omega) (by omega)) dX11_countTransfer_148 ?_
              refine g_nm (fun M56 hM56 => ?_)
              have zy57 : (0 : Int32).toInt = 0 := by decide
              have hI : IR M56 := by rw [hM56]; exact hI.st (show bR 282 _ _ from trivial)
              have hF : ∀ k i, ¬ (k = 258 ∧ i = 25) ∧ ¬ (k = 258 ∧ i = 29) ∧ ¬ (k = 258 ∧ i = 31) ∧ k ≠ 277 ∧ k ≠ 278 ∧ k ≠ 279 ∧ k ≠ 282 → M56 k i = M k i := fun k i hk => by (rw [hM56, sI_at, if_neg (by omega)]; try exact hF k i hk)
              have k25 : M56 258 25 = M26 258 25 := by rw [hM56, sI_n _ _ _ (by decide)]; try exact k25
              have k29 : M56 258 29 = M_19 258 29 := by rw [hM56, sI_n _ _ _ (by decide)]; try exact k29
              have k31 : M56 258 31 = M54 258 31 := by rw [hM56, sI_n _ _ _ (by decide)]; try exact k31
              have q277 : M56 277 = M_19 277 := by rw [hM56, sI_n _ _ _ (by decide)]; try exact q277
              have q278 : M56 278 = M54 278 := by rw [hM56, sI_n _ _ _ (by decide)]; try exact q278
              have q279 : M56 279 = M54 279 := by rw [hM56, sI_n _ _ _ (by decide)]; try exact q279
              have h282 : M56 282 = upd (M_19 282) r50.toNatClampNeg 0 := by rw [hM56, sI_k, q282]; rfl
              have hcu := cI_upd (T := M_19 282) (b := r50.toNatClampNeg) hin9 (M 258 2).toNatClampNeg
              rw [if_pos (by omega), ← h282] at hcu
              have hNI2 : NIn (M56 282) (M 258 2).toInt := by rw [h282]; exact NIn_upd hNI _
              have q282 : M56 282 = M56 282 := rfl
              refine g_goto C 19 dX11_countTransfer_149 (by decide) ?_
              refine g_lv [2, 3] [(1, .long v9), (0, .ref (ad 258))] rfl ?_
              obtain ⟨sp1, sp2⟩ := (show rg 0 1 (M56 258 25) from hI 258 25)
              have kt25 := congrArg Int32.toInt k25
              have kt29 := congrArg Int32.toInt k29
              have kt31 := congrArg Int32.toInt k31
              have e282 : M56 282 = M56 282 := q282
              have hWe : (M56 258 25).toInt = 0 → WT L55 := fun h9 i hi => by rw [congrFun p286 i, congrFun p287 i]; exact j19_1 (by omega) i hi
              exact ih_19 (M56, L55) ⟨by show NIn (M56 282) (M 258 2).toInt; first | exact hNI2 | (rw [e282]; exact j19_0), by show (M56 258 25).toInt = 0 → WT L55; exact hWe, by show (M56 258 31).toInt + (cI (M56 282) (M 258 2).toNatClampNeg : Int) ≤ 10; rw [e282]; omega, by show 0 ≤ (M56 258 29).toInt ∧ (M56 258 29).toInt ≤ (M 258 28).toInt; omega, by show 0 ≤ (M56 258 25).toInt ∧ (M56 258 25).toInt ≤ 1; exact hI 258 25, hI, hF, hG⟩ (by show cI (M56 282) (M 258 2).toNatClampNeg * 2 + (1 - (M56 258 25).toInt).toNat < cI (M_19 282) (M 258 2).toNatClampNeg * 2 + (1 - (M_19 258 25).toInt).toNat; rw [e282]; omega)
            ·
              have f58 := cnlt rfl rfl ev47 c48
              refine g_iload C 0 dX11_countTransfer_106 rfl ?_
              refine g_if_ne C 117 dX11_countTransfer_108 (by decide) (fun c59 => absurd c59 (by decide)) (fun _ => ?_)
              have hWc : WT L27 := fun i hi => by rw [congrFun p286 i, congrFun p287 i]; exact j19_1 (by omega) i hi
              have hkc : okF (L27 284 r32.toNatClampNeg) (L27 285 r32.toNatClampNeg) := hr25k (by omega) r32.toNatClampNeg (by omega)
              refine g_aload_n C 3 dX11_countTransfer_111 rfl ?_
              refine g_iload_n C 1 dX11_countTransfer_112 rfl ?_
              refine g_lload_n C 2 dX11_countTransfer_113 rfl ?_
              refine g_callVv C (n := 2) (As := [.int r32, .long v9]) (st := []) (s_X11_lighten l D ad cs _ _ r32 v9 hI ⟨by omega, by omega⟩ ⟨by omega, by omega⟩ hWc (by omega) hkc (by rw [← tv45, ← tv44]; omega)) gX11_countTransfer_X11_lighten rfl rfl rfl (by decide +kernel) ⟨Nat.le_of_ble_eq_true rfl, Nat.le_of_ble_eq_true rfl⟩ rfl (Nat.le_of_ble_eq_true rfl) ⟨Nat.zero_le _, Nat.zero_le _⟩ (by decide) (ce_model ad cs _ _) rfl rfl dX11_countTransfer_114 (fun M61 L62 hr60 => ?_)
              obtain ⟨hr60, hI, hFr60, hGr60⟩ := hr60
              have hF : ∀ k i, ¬ (k = 258 ∧ i = 25) ∧ ¬ (k = 258 ∧ i = 29) ∧ ¬ (k = 258 ∧ i = 31) ∧ k ≠ 277 ∧ k ≠ 278 ∧ k ≠ 279 ∧ k ≠ 282 → M61 k i = M k i := fun k i hk => by (rw [hFr60 k i (by omega)]; try exact hF k i hk)
              have hG : ∀ k i, ¬ (k = 258 ∧ i = 23) ∧ ¬ (k = 258 ∧ i = 24) ∧ k ≠ 284 ∧ k ≠ 285 ∧ k ≠ 280 ∧ k ≠ 281 ∧ k ≠ 286 ∧ k ≠ 287 → L62 k i = L k i := fun k i hk => by (rw [hGr60 k i (by omega)]; try exact hG k i hk)
              have k29 : M61 258 29 = M_19 258 29 := (hFr60 258 29 (by omega)).trans k29
              have k31 : M61 258 31 = M_19 258 31 := (hFr60 258 31 (by omega)).trans k31
              have k25 : M61 258 25 = M61 258 25 := rfl
              have kt25 := congrArg Int32.toInt k25
              have kt29 := congrArg Int32.toInt k29
              have kt31 := congrArg Int32.toInt k31
              have l23 : L62 258 23 = L62 258 23 := rfl
              have l24 : L62 258 24 = L62 258 24 := rfl
              have p280 : L62 280 = L_19 280 := (funext (fun i => hGr60 280 i (by omega))).trans p280
              have p281 : L62 281 = L_19 281 := (funext (fun i => hGr60 281 i (by omega))).trans p281
              have p284 : L62 284 = L27 284 := (funext (fun i => hGr60 284 i (by omega))).trans p284
              have p285 : L62 285 = L27 285 := (funext (fun i => hGr60 285 i (by omega))).trans p285
              have p286 : L62 286 = L62 286 := rfl
              have p287 : L62 287 = L62 287 := rfl
              have q277 : M61 277 = M_19 277 := (funext (fun i => hFr60 277 i (by omega))).trans q277
              have q278 : M61 278 = M_19 278 := (funext (fun i => hFr60 278 i (by omega))).trans q278
              have q279 : M61 279 = M_19 279 := (funext (fun i => hFr60 279 i (by omega))).trans q279
              have q282 : M61 282 = M_19 282 := (funext (fun i => hFr60 282 i (by omega))).trans q282
              refine g_aload_n C 3 dX11_countTransfer_117 rfl ?_
              refine g_iconst C 1 dX11_countTransfer_118 (by decide) ?_
              refine g_iload_n C 1 dX11_countTransfer_119 rfl ?_
              refine g_callVv C (n := 2) (As := [.int 1, .int r32]) (st := []) (s_X11_happens l D ad cs _ _ 1 r32 hI (by omega)) gX11_countTransfer_X11_happens rfl rfl rfl (by decide +kernel) ⟨Nat.le_of_ble_eq_true rfl, Nat.le_of_ble_eq_true rfl⟩ rfl (Nat.le_of_ble_eq_true rfl) ⟨Nat.zero_le _, Nat.zero_le _⟩ (by decide) (ce_model ad cs _ _) rfl rfl dX11_countTransfer_120 (fun M64 L65 hr63 => ?_)
              obtain ⟨hr63, hI, hFr63, hGr63⟩ := hr63
              have hF : ∀ k i, ¬ (k = 258 ∧ i = 25) ∧ ¬ (k = 258 ∧ i = 29) ∧ ¬ (k = 258 ∧ i = 31) ∧ k ≠ 277 ∧ k ≠ 278 ∧ k ≠ 279 ∧ k ≠ 282 → M64 k i = M k i := fun k i hk => by (rw [hFr63 k i (by omega)]; try exact hF k i hk)
              have hG : ∀ k i, ¬ (k = 258 ∧ i = 23) ∧ ¬ (k = 258 ∧ i = 24) ∧ k ≠ 284 ∧ k ≠ 285 ∧ k ≠ 280 ∧ k ≠ 281 ∧ k ≠ 286 ∧ k ≠ 287 → L65 k i = L k i := fun k i hk => by (rw [hGr63 k i (by omega)]; try exact hG k i hk)
              have k25 : M64 258 25 = M61 258 25 := (hFr63 258 25 (by omega)).trans k25
              have k29 : M64 258 29 = M_19 258 29 := (hFr63 258 29 (by omega)).trans k29
              have k31 : M64 258 31 = M64 258 31 := rfl
              have kt25 := congrArg Int32.toInt k25
              have kt29 := congrArg Int32.toInt k29
              have kt31 := congrArg Int32.toInt k31
              have l23 : L65 258 23 = L62 258 23 := (hGr63 258 23 (by omega)).trans l23
              have l24 : L65 258 24 = L62 258 24 := (hGr63 258 24 (by omega)).trans l24
              have p280 : L65 280 = L65 280 := rfl
              have p281 : L65 281 = L65 281 := rfl
              have p284 : L65 284 = L27 284 := (funext (fun i => hGr63 284 i (by omega))).trans p284
              have p285 : L65 285 = L27 285 := (funext (fun i => hGr63 285 i (by omega))).trans p285
              have p286 : L65 286 = L62 286 := (funext (fun i => hGr63 286 i (by omega))).trans p286
              have p287 : L65 287 = L62 287 := (funext (fun i => hGr63 287 i (by omega))).trans p287
              have q277 : M64 277 = M_19 277 := (funext (fun i => hFr63 277 i (by omega))).trans q277
              have q278 : M64 278 = M64 278 := rfl
              have q279 : M64 279 = M64 279 := rfl
              have q282 : M64 282 = M_19 282 := (funext (fun i => hFr63 282 i (by omega))).trans q282
              have ur63 := hr63
              refine g_aload_n C 3 dX11_countTransfer_123 rfl ?_
              refine g_iload_n C 1 dX11_countTransfer_124 rfl ?_
              refine g_callVv C (n := 1) (As := [.int r32]) (st := []) (s_X11_gives l D ad cs _ _ r32 hI (by omega)) gX11_countTransfer_X11_gives rfl rfl rfl (by decide +kernel) ⟨Nat.le_of_ble_eq_true rfl, Nat.le_of_ble_eq_true rfl⟩ rfl (Nat.le_of_ble_eq_true rfl) ⟨Nat.zero_le _, Nat.zero_le _⟩ (by decide) (ce_model ad cs _ _) rfl rfl dX11_countTransfer_125 (fun M67 L68 hr66 => ?_)
              obtain ⟨hr66, hI, hFr66, hGr66⟩ := hr66
              have hF : ∀ k i, ¬ (k = 258 ∧ i = 25) ∧ ¬ (k = 258 ∧ i = 29) ∧ ¬ (k = 258 ∧ i = 31) ∧ k ≠ 277 ∧ k ≠ 278 ∧ k ≠ 279 ∧ k ≠ 282 → M67 k i = M k i := fun k i hk => by (rw [hFr66 k i (by omega)]; try exact hF k i hk)
              have hG : ∀ k i, ¬ (k = 258 ∧ i = 23) ∧ ¬ (k = 258 ∧ i = 24) ∧ k ≠ 284 ∧ k ≠ 285 ∧ k ≠ 280 ∧ k ≠ 281 ∧ k ≠ 286 ∧ k ≠ 287 → L68 k i = L k i := fun k i hk => by (rw [hGr66 k i trivial]; try exact hG k i hk)
              have k25 : M67 258 25 = M61 258 25 := (hFr66 258 25 (by omega)).trans k25
              have k31 : M67 258 31 = M64 258 31 := (hFr66 258 31 (by omega)).trans k31
              have k29 : M67 258 29 = M67 258 29 := rfl
              have kt25 := congrArg Int32.toInt k25
              have kt29 := congrArg Int32.toInt k29
              have kt31 := congrArg Int32.toInt k31
              have l23 : L68 258 23 = L62 258 23 := (hGr66 258 23 trivial).trans l23
              have l24 : L68 258 24 = L62 258 24 := (hGr66 258 24 trivial).trans l24
              have p280 : L68 280 = L65 280 := (funext (fun i => hGr66 280 i trivial)).trans p280
              have p281 : L68 281 = L65 281 := (funext (fun i => hGr66 281 i trivial)).trans p281
              have p284 : L68 284 = L27 284 := (funext (fun i => hGr66 284 i trivial)).trans p284
              have p285 : L68 285 = L27 285 := (funext (fun i => hGr66 285 i trivial)).trans p285
              have p286 : L68 286 = L62 286 := (funext (fun i => hGr66 286 i trivial)).trans p286
              have p287 : L68 287 = L62 287 := (funext (fun i => hGr66 287 i trivial)).trans p287
              have q277 : M67 277 = M67 277 := rfl
              have q278 : M67 278 = M64 278 := (funext (fun i => hFr66 278 i (by omega))).trans q278
              have q279 : M67 279 = M64 279 := (funext (fun i => hFr66 279 i (by omega))).trans q279
              have q282 : M67 282 = M_19 282 := (funext (fun i => hFr66 282 i (by omega))).trans q282
              have ur66 := hr66
              refine g_goto C 142 dX11_countTransfer_128 (by decide) ?_
              refine g_aload_n C 3 dX11_countTransfer_142 rfl ?_
              refine g_get C (.ref (ad 282)) 36 in_X11_countTransfer_11 (List.mem_of_getElem? (i := 7) rfl) (by decide) (ce_model ad cs _ _) rfl (by decide) rfl rfl dX11_countTransfer_143 ?_
              refine g_iload_n C 1 dX11_countTransfer_146 rfl ?_
              refine g_iconst C 0 dX11_countTransfer_147 (by decide) ?_
              refine g_zast C (by decide) (ce_m_isIn ad cs _ _) (by rw [sI_k]; rfl) (fin' (n := 10) rfl (by omega) (by omega)) dX11_countTransfer_148 ?_
              refine g_nm (fun M69 hM69 => ?_)
              have zy70 : (0 : Int32).toInt = 0 := by decide
              have hI : IR M69 := by rw [hM69]; exact hI.st (show bR 282 _ _ from trivial)
              have hF : ∀ k i, ¬ (k = 258 ∧ i = 25) ∧ ¬ (k = 258 ∧ i = 29) ∧ ¬ (k = 258 ∧ i = 31) ∧ k ≠ 277 ∧ k ≠ 278 ∧ k ≠ 279 ∧ k ≠ 282 → M69 k i = M k i := fun k i hk => by (rw [hM69, sI_at, if_neg (by omega)]; try exact hF k i hk)
              have k25 : M69 258 25 = M61 258 25 := by rw [hM69, sI_n _ _ _ (by decide)]; try exact k25
              have k29 : M69 258 29 = M67 258 29 := by rw [hM69, sI_n _ _ _ (by decide)]; try exact k29
              have k31 : M69 258 31 = M64 258 31 := by rw [hM69, sI_n _ _ _ (by decide)]; try exact k31
              have q277 : M69 277 = M67 277 := by rw [hM69, sI_n _ _ _ (by decide)]; try exact q277
              have q278 : M69 278 = M64 278 := by rw [hM69, sI_n _ _ _ (by decide)]; try exact q278
              have q279 : M69 279 = M64 279 := by rw [hM69, sI_n _ _ _ (by decide)]; try exact q279
              have h282 : M69 282 = upd (M_19 282) r32.toNatClampNeg 0 := by rw [hM69, sI_k, q282]; rfl
              have hcu := cI_upd (T := M_19 282) (b := r32.toNatClampNeg) hin9 (M 258 2).toNatClampNeg
              rw [if_pos (by omega), ← h282] at hcu
              have hNI2 : NIn (M69 282) (M 258 2).toInt := by rw [h282]; exact NIn_upd hNI _
              have q282 : M69 282 = M69 282 := rfl
              refine g_goto C 19 dX11_countTransfer_149 (by decide) ?_
              refine g_lv [2, 3] [(1, .long v9), (0, .ref (ad 258))] rfl ?_
              obtain ⟨sp1, sp2⟩ := (show rg 0 1 (M69 258 25) from hI 258 25)
              have kt25 := congrArg Int32.toInt k25
              have kt29 := congrArg Int32.toInt k29
              have kt31 := congrArg Int32.toInt k31
              have e282 : M69 282 = M69 282 := q282
              have hWe : (M69 258 25).toInt = 0 → WT L68 := fun h9 i hi => by rw [congrFun p286 i, congrFun p287 i]; exact hr60 (by rw [k25] at h9; exact h9) i hi
              exact ih_19 (M69, L68) ⟨by show NIn (M69 282) (M 258 2).toInt; first | exact hNI2 | (rw [e282]; exact j19_0), by show (M69 258 25).toInt = 0 → WT L68; exact hWe, by show (M69 258 31).toInt + (cI (M69 282) (M 258 2).toNatClampNeg : Int) ≤ 10; rw [e282]; omega, by show 0 ≤ (M69 258 29).toInt ∧ (M69 258 29).toInt ≤ (M 258 28).toInt; omega, by show 0 ≤ (M69 258 25).toInt ∧ (M69 258 25).toInt ≤ 1; exact hI 258 25, hI, hF, hG⟩ (by show cI (M69 282) (M 258 2).toNatClampNeg * 2 + (1 - (M69 258 25).toInt).toNat < cI (M_19 282) (M 258 2).toNatClampNeg * 2 + (1 - (M_19 258 25).toInt).toNat; rw [e282]; omega)
          ·
            have f71 := fnl rfl rfl c41
            refine g_iconst C 1 dX11_countTransfer_76 (by decide) ?_
            refine g_goto C 81 dX11_countTransfer_77 (by decide) ?_
            refine g_istore C [(4, .int 1), (3, .int r32), (1, .long v9), (0, .ref (ad 258))] dX11_countTransfer_81 (by decide) rfl ?_
            refine g_iload C 0 dX11_countTransfer_83 rfl ?_
            refine g_if_ne C 106 dX11_countTransfer_85 (by decide) (fun _ => ?_) (fun c72 => absurd c72 (by decide))
            refine g_iload C 0 dX11_countTransfer_106 rfl ?_
            refine g_if_ne C 117 dX11_countTransfer_108 (by decide) (fun _ => ?_) (fun c73 => absurd c73 (by decide))
            refine g_aload_n C 3 dX11_countTransfer_117 rfl ?_
            refine g_iconst C 1 dX11_countTransfer_118 (by decide) ?_
            refine g_iload_n C 1 dX11_countTransfer_119 rfl ?_
            refine g_callVv C (n := 2) (As := [.int 1, .int r32]) (st := []) (s_X11_happens l D ad cs _ _ 1 r32 hI (by omega)) gX11_countTransfer_X11_happens rfl rfl rfl (by decide +kernel) ⟨Nat.le_of_ble_eq_true rfl, Nat.le_of_ble_eq_true rfl⟩ rfl (Nat.le_of_ble_eq_true rfl) ⟨Nat.zero_le _, Nat.zero_le _⟩ (by decide) (ce_model ad cs _ _) rfl rfl dX11_countTransfer_120 (fun M75 L76 hr74 => ?_)
            obtain ⟨hr74, hI, hFr74, hGr74⟩ := hr74
            have hF : ∀ k i, ¬ (k = 258 ∧ i = 25) ∧ ¬ (k = 258 ∧ i = 29) ∧ ¬ (k = 258 ∧ i = 31) ∧ k ≠ 277 ∧ k ≠ 278 ∧ k ≠ 279 ∧ k ≠ 282 → M75 k i = M k i := fun k i hk => by (rw [hFr74 k i (by omega)]; try exact hF k i hk)
            have hG : ∀ k i, ¬ (k = 258 ∧ i = 23) ∧ ¬ (k = 258 ∧ i = 24) ∧ k ≠ 284 ∧ k ≠ 285 ∧ k ≠ 280 ∧ k ≠ 281 ∧ k ≠ 286 ∧ k ≠ 287 → L76 k i = L k i := fun k i hk => by (rw [hGr74 k i (by omega)]; try exact hG k i hk)
            have k25 : M75 258 25 = M26 258 25 := (hFr74 258 25 (by omega)).trans k25
            have k29 : M75 258 29 = M_19 258 29 := (hFr74 258 29 (by omega)).trans k29
            have k31 : M75 258 31 = M75 258 31 := rfl
            have kt25 := congrArg Int32.toInt k25
            have kt29 := congrArg Int32.toInt k29
            have kt31 := congrArg Int32.toInt k31
            have l23 : L76 258 23 = L27 258 23 := (hGr74 258 23 (by omega)).trans l23
            have l24 : L76 258 24 = L27 258 24 := (hGr74 258 24 (by omega)).trans l24
            have p280 : L76 280 = L76 280 := rfl
            have p281 : L76 281 = L76 281 := rfl
            have p284 : L76 284 = L27 284 := (funext (fun i => hGr74 284 i (by omega))).trans p284
            have p285 : L76 285 = L27 285 := (funext (fun i => hGr74 285 i (by omega))).trans p285
            have p286 : L76 286 = L_19 286 := (funext (fun i => hGr74 286 i (by omega))).trans p286
            have p287 : L76 287 = L_19 287 := (funext (fun i => hGr74 287 i (by omega))).trans p287
            have q277 : M75 277 = M_19 277 := (funext (fun i => hFr74 277 i (by omega))).trans q277
            have q278 : M75 278 = M75 278 := rfl
            have q279 : M75 279 = M75 279 := rfl
            have q282 : M75 282 = M_19 282 := (funext (fun i => hFr74 282 i (by omega))).trans q282
            have ur74 := hr74
            refine g_aload_n C 3 dX11_countTransfer_123 rfl ?_
            refine g_iload_n C 1 dX11_countTransfer_124 rfl ?_
            refine g_callVv C (n := 1) (As := [.int r32]) (st := []) (s_X11_gives l D ad cs _ _ r32 hI (by omega)) gX11_countTransfer_X11_gives rfl rfl rfl (by decide +kernel) ⟨Nat.le_of_ble_eq_true rfl, Nat.le_of_ble_eq_true rfl⟩ rfl (Nat.le_of_ble_eq_true rfl) ⟨Nat.zero_le _, Nat.zero_le _⟩ (by decide) (ce_model ad cs _ _) rfl rfl dX11_countTransfer_125 (fun M78 L79 hr77 => ?_)
            obtain ⟨hr77, hI, hFr77, hGr77⟩ := hr77
            have hF : ∀ k i, ¬ (k = 258 ∧ i = 25) ∧ ¬ (k = 258 ∧ i = 29) ∧ ¬ (k = 258 ∧ i = 31) ∧ k ≠ 277 ∧ k ≠ 278 ∧ k ≠ 279 ∧ k ≠ 282 → M78 k i = M k i := fun k i hk => by (rw [hFr77 k i (by omega)]; try exact hF k i hk)
            have hG : ∀ k i, ¬ (k = 258 ∧ i = 23) ∧ ¬ (k = 258 ∧ i = 24) ∧ k ≠ 284 ∧ k ≠ 285 ∧ k ≠ 280 ∧ k ≠ 281 ∧ k ≠ 286 ∧ k ≠ 287 → L79 k i = L k i := fun k i hk => by (rw [hGr77 k i trivial]; try exact hG k i hk)
            have k25 : M78 258 25 = M26 258 25 := (hFr77 258 25 (by omega)).trans k25
            have k31 : M78 258 31 = M75 258 31 := (hFr77 258 31 (by omega)).trans k31
            have k29 : M78 258 29 = M78 258 29 := rfl
            have kt25 := congrArg Int32.toInt k25
            have kt29 := congrArg Int32.toInt k29
            have kt31 := congrArg Int32.toInt k31
            have l23 : L79 258 23 = L27 258 23 := (hGr77 258 23 trivial).trans l23
            have l24 : L79 258 24 = L27 258 24 := (hGr77 258 24 trivial).trans l24
            have p280 : L79 280 = L76 280 := (funext (fun i => hGr77 280 i trivial)).trans p280
            have p281 : L79 281 = L76 281 := (funext (fun i => hGr77 281 i trivial)).trans p281
            have p284 : L79 284 = L27 284 := (funext (fun i => hGr77 284 i trivial)).trans p284
            have p285 : L79 285 = L27 285 := (funext (fun i => hGr77 285 i trivial)).trans p285
            have p286 : L79 286 = L_19 286 := (funext (fun i => hGr77 286 i trivial)).trans p286
            have p287 : L79 287 = L_19 287 := (funext (fun i => hGr77 287 i trivial)).trans p287
            have q277 : M78 277 = M78 277 := rfl
            have q278 : M78 278 = M75 278 := (funext (fun i => hFr77 278 i (by omega))).trans q278
            have q279 : M78 279 = M75 279 := (funext (fun i => hFr77 279 i (by omega))).trans q279
            have q282 : M78 282 = M_19 282 := (funext (fun i => hFr77 282 i (by omega))).trans q282
            have ur77 := hr77
            refine g_goto C 142 dX11_countTransfer_128 (by decide) ?_
            refine g_aload_n C 3 dX11_countTransfer_142 rfl ?_
            refine g_get C (.ref (ad 282)) 36 in_X11_countTransfer_11 (List.mem_of_getElem? (i := 7) rfl) (by decide) (ce_model ad cs _ _) rfl (by decide) rfl rfl dX11_countTransfer_143 ?_
            refine g_iload_n C 1 dX11_countTransfer_146 rfl ?_
            refine g_iconst C 0 dX11_countTransfer_147 (by decide) ?_
            refine g_zast C (by decide) (ce_m_isIn ad cs _ _) (by rw [sI_k]; rfl) (fin' (n := 10) rfl (by omega) (by omega)) dX11_countTransfer_148 ?_
            refine g_nm (fun M80 hM80 => ?_)
            have zy81 : (0 : Int32).toInt = 0 := by decide
            have hI : IR M80 := by rw [hM80]; exact hI.st (show bR 282 _ _ from trivial)
            have hF : ∀ k i, ¬ (k = 258 ∧ i = 25) ∧ ¬ (k = 258 ∧ i = 29) ∧ ¬ (k = 258 ∧ i = 31) ∧ k ≠ 277 ∧ k ≠ 278 ∧ k ≠ 279 ∧ k ≠ 282 → M80 k i = M k i := fun k i hk => by (rw [hM80, sI_at, if_neg (by omega)]; try exact hF k i hk)
            have k25 : M80 258 25 = M26 258 25 := by rw [hM80, sI_n _ _ _ (by decide)]; try exact k25
            have k29 : M80 258 29 = M78 258 29 := by rw [hM80, sI_n _ _ _ (by decide)]; try exact k29
            have k31 : M80 258 31 = M75 258 31 := by rw [hM80, sI_n _ _ _ (by decide)]; try exact k31
            have q277 : M80 277 = M78 277 := by rw [hM80, sI_n _ _ _ (by decide)]; try exact q277
            have q278 : M80 278 = M75 278 := by rw [hM80, sI_n _ _ _ (by decide)]; try exact q278
            have q279 : M80 279 = M75 279 := by rw [hM80, sI_n _ _ _ (by decide)]; try exact q279
            have h282 : M80 282 = upd (M_19 282) r32.toNatClampNeg 0 := by rw [hM80, sI_k, q282]; rfl
            have hcu := cI_upd (T := M_19 282) (b := r32.toNatClampNeg) hin9 (M 258 2).toNatClampNeg
            rw [if_pos (by omega), ← h282] at hcu
            have hNI2 : NIn (M80 282) (M 258 2).toInt := by rw [h282]; exact NIn_upd hNI _
            have q282 : M80 282 = M80 282 := rfl
            refine g_goto C 19 dX11_countTransfer_149 (by decide) ?_
            refine g_lv [2, 3] [(1, .long v9), (0, .ref (ad 258))] rfl ?_
            obtain ⟨sp1, sp2⟩ := (show rg 0 1 (M80 258 25) from hI 258 25)
            have kt25 := congrArg Int32.toInt k25
            have kt29 := congrArg Int32.toInt k29
            have kt31 := congrArg Int32.toInt k31
            have e282 : M80 282 = M80 282 := q282
            have hWe : (M80 258 25).toInt = 0 → WT L79 := fun h9 i hi => by rw [congrFun p286 i, congrFun p287 i]; exact j19_1 (by omega) i hi
            exact ih_19 (M80, L79) ⟨by show NIn (M80 282) (M 258 2).toInt; first | exact hNI2 | (rw [e282]; exact j19_0), by show (M80 258 25).toInt = 0 → WT L79; exact hWe, by show (M80 258 31).toInt + (cI (M80 282) (M 258 2).toNatClampNeg : Int) ≤ 10; rw [e282]; omega, by show 0 ≤ (M80 258 29).toInt ∧ (M80 258 29).toInt ≤ (M 258 28).toInt; omega, by show 0 ≤ (M80 258 25).toInt ∧ (M80 258 25).toInt ≤ 1; exact hI 258 25, hI, hF, hG⟩ (by show cI (M80 282) (M 258 2).toNatClampNeg * 2 + (1 - (M80 258 25).toInt).toNat < cI (M_19 282) (M 258 2).toNatClampNeg * 2 + (1 - (M_19 258 25).toInt).toNat; rw [e282]; omega)
theorem dX11_begin_0 : decode cX11_begin 0 = .ok (.aload_n 0, 1) := dw42 (n := 0) (i := 0) kc_cX11_begin_0 (by decide +kernel)
theorem dX11_begin_1 : decode cX11_begin 1 = .ok (.iload_n 1, 1) := dw27 (n := 0) (i := 1) kc_cX11_begin_0 (by decide +kernel)
theorem dX11_begin_2 : decode cX11_begin 2 = .ok (.putfield 201, 3) := dw181 (n := 0) (i := 2) (a := 0) (b := 201) kc_cX11_begin_0 (by decide +kernel) (by decide)
theorem in_X11_begin_11 : ∀ w ∈ u_ws RX11 TX11 53, w ∈ wsX11_begin := fun _ h => List.mem_cons_of_mem _ (List.mem_append_right _ h)
theorem dX11_begin_5 : decode cX11_begin 5 = .ok (.aload_n 0, 1) := dw42 (n := 0) (i := 5) kc_cX11_begin_0 (by decide +kernel)
theorem dX11_begin_6 : decode cX11_begin 6 = .ok (.iload_n 2, 1) := dw28 (n := 0) (i := 6) kc_cX11_begin_0 (by decide +kernel)
theorem dX11_begin_7 : decode cX11_begin 7 = .ok (.putfield 231, 3) := dw181 (n := 0) (i := 7) (a := 0) (b := 231) kc_cX11_begin_0 (by decide +kernel) (by decide)
theorem dX11_begin_10 : decode cX11_begin 10 = .ok (.aload_n 0, 1) := dw42 (n := 0) (i := 10) kc_cX11_begin_0 (by decide +kernel)
theorem dX11_begin_11 : decode cX11_begin 11 = .ok (.iconst 0, 1) := dw3 (n := 0) (i := 11) kc_cX11_begin_0 (by decide +kernel)
theorem dX11_begin_12 : decode cX11_begin 12 = .ok (.putfield 211, 3) := dw181 (n := 0) (i := 12) (a := 0) (b := 211) kc_cX11_begin_0 (by decide +kernel) (by decide)
theorem dX11_begin_15 : decode cX11_begin 15 = .ok (.aload_n 0, 1) := dw42 (n := 0) (i := 15) kc_cX11_begin_0 (by decide +kernel)
theorem dX11_begin_16 : decode cX11_begin 16 = .ok (.iconst 0, 1) := dw3 (n := 0) (i := 16) kc_cX11_begin_0 (by decide +kernel)
theorem dX11_begin_17 : decode cX11_begin 17 = .ok (.putfield 208, 3) := dw181 (n := 0) (i := 17) (a := 0) (b := 208) kc_cX11_begin_0 (by decide +kernel) (by decide)
theorem dX11_begin_20 : decode cX11_begin 20 = .ok (.aload_n 0, 1) := dw42 (n := 0) (i := 20) kc_cX11_begin_0 (by decide +kernel)
theorem dX11_begin_21 : decode cX11_begin 21 = .ok (.iconst 0, 1) := dw3 (n := 0) (i := 21) kc_cX11_begin_0 (by decide +kernel)
theorem dX11_begin_22 : decode cX11_begin 22 = .ok (.putfield 195, 3) := dw181 (n := 0) (i := 22) (a := 0) (b := 195) kc_cX11_begin_0 (by decide +kernel) (by decide)
theorem dX11_begin_25 : decode cX11_begin 25 = .ok (.iconst 0, 1) := dw3 (n := 0) (i := 25) kc_cX11_begin_0 (by decide +kernel)
theorem dX11_begin_26 : decode cX11_begin 26 = .ok (.istore_n 3, 1) := dw62 (n := 0) (i := 26) kc_cX11_begin_0 (by decide +kernel)
theorem dX11_begin_27 : decode cX11_begin 27 = .ok (.iload_n 3, 1) := dw29 (n := 0) (i := 27) kc_cX11_begin_0 (by decide +kernel)
theorem dX11_begin_28 : decode cX11_begin 28 = .ok (.bipush 10, 2) := dw16 (n := 0) (i := 28) (a := 10) kc_cX11_begin_0 (by decide +kernel) (by decide)
theorem dX11_begin_30 : decode cX11_begin 30 = .ok (.if_icmp .ge 28, 3) := dw162 (n := 0) (i := 30) (a := 0) (b := 28) kc_cX11_begin_0 (by decide +kernel) (by decide)
theorem dX11_begin_58 : decode cX11_begin 58 = .ok (.iconst 0, 1) := dw3 (n := 32) (i := 26) kc_cX11_begin_1 (by decide +kernel)
theorem dX11_begin_59 : decode cX11_begin 59 = .ok (.istore_n 3, 1) := dw62 (n := 32) (i := 27) kc_cX11_begin_1 (by decide +kernel)
theorem dX11_begin_60 : decode cX11_begin 60 = .ok (.iload_n 3, 1) := dw29 (n := 32) (i := 28) kc_cX11_begin_1 (by decide +kernel)
theorem dX11_begin_61 : decode cX11_begin 61 = .ok (.bipush 40, 2) := dw16 (n := 32) (i := 29) (a := 40) kc_cX11_begin_1 (by decide +kernel) (by decide)
theorem dX11_begin_63 : decode cX11_begin 63 = .ok (.if_icmp .ge 54, 3) := dw162 (n := 32) (i := 31) (a := 0) (b := 54) kc_cX11_begin_1 (by decide +kernel) (by decide)
theorem dX11_begin_117 : decode cX11_begin 117 = .ok (.return_, 1) := dw177 (n := 96) (i := 21) kc_cX11_begin_3 (by decide +kernel)
theorem dX11_begin_66 : decode cX11_begin 66 = .ok (.aload_n 0, 1) := dw42 (n := 64) (i := 2) kc_cX11_begin_2 (by decide +kernel)
theorem dX11_begin_67 : decode cX11_begin 67 = .ok (.getfield 34, 3) := dw180 (n := 64) (i := 3) (a := 0) (b := 34) kc_cX11_begin_2 (by decide +kernel) (by decide)
theorem dX11_begin_70 : decode cX11_begin 70 = .ok (.bipush 40, 2) := dw16 (n := 64) (i := 6) (a := 40) kc_cX11_begin_2 (by decide +kernel) (by decide)
theorem dX11_begin_72 : decode cX11_begin 72 = .ok (.iload_n 1, 1) := dw27 (n := 64) (i := 8) kc_cX11_begin_2 (by decide +kernel)
theorem dX11_begin_73 : decode cX11_begin 73 = .ok (.imul, 1) := dw104 (n := 64) (i := 9) kc_cX11_begin_2 (by decide +kernel)
theorem dX11_begin_74 : decode cX11_begin 74 = .ok (.iload_n 3, 1) := dw29 (n := 64) (i := 10) kc_cX11_begin_2 (by decide +kernel)
theorem dX11_begin_75 : decode cX11_begin 75 = .ok (.iadd, 1) := dw96 (n := 64) (i := 11) kc_cX11_begin_2 (by decide +kernel)
theorem dX11_begin_76 : decode cX11_begin 76 = .ok (.iaload, 1) := dw46 (n := 64) (i := 12) kc_cX11_begin_2 (by decide +kernel)
theorem dX11_begin_77 : decode cX11_begin 77 = .ok (.istore 4, 2) := dw54 (n := 64) (i := 13) (a := 4) kc_cX11_begin_2 (by decide +kernel) (by decide)
theorem dX11_begin_79 : decode cX11_begin 79 = .ok (.aload_n 0, 1) := dw42 (n := 64) (i := 15) kc_cX11_begin_2 (by decide +kernel)
theorem dX11_begin_80 : decode cX11_begin 80 = .ok (.getfield 93, 3) := dw180 (n := 64) (i := 16) (a := 0) (b := 93) kc_cX11_begin_2 (by decide +kernel) (by decide)
theorem dX11_begin_83 : decode cX11_begin 83 = .ok (.iload_n 3, 1) := dw29 (n := 64) (i := 19) kc_cX11_begin_2 (by decide +kernel)
theorem dX11_begin_84 : decode cX11_begin 84 = .ok (.iload 4, 2) := dw21 (n := 64) (i := 20) (a := 4) kc_cX11_begin_2 (by decide +kernel) (by decide)
theorem dX11_begin_86 : decode cX11_begin 86 = .ok (.bipush (-9), 2) := dw16 (n := 64) (i := 22) (a := 247) kc_cX11_begin_2 (by decide +kernel) (by decide)
theorem dX11_begin_88 : decode cX11_begin 88 = .ok (.if_icmp .ne 7, 3) := dw160 (n := 64) (i := 24) (a := 0) (b := 7) kc_cX11_begin_2 (by decide +kernel) (by decide)
theorem dX11_begin_95 : decode cX11_begin 95 = .ok (.aload_n 0, 1) := dw42 (n := 64) (i := 31) kc_cX11_begin_2 (by decide +kernel)
theorem dX11_begin_96 : decode cX11_begin 96 = .ok (.getfield 19, 3) := dw180 (n := 96) (i := 0) (a := 0) (b := 19) kc_cX11_begin_3 (by decide +kernel) (by decide)
theorem dX11_begin_99 : decode cX11_begin 99 = .ok (.iload 4, 2) := dw21 (n := 96) (i := 3) (a := 4) kc_cX11_begin_3 (by decide +kernel) (by decide)
theorem dX11_begin_101 : decode cX11_begin 101 = .ok (.iaload, 1) := dw46 (n := 96) (i := 5) kc_cX11_begin_3 (by decide +kernel)
theorem dX11_begin_102 : decode cX11_begin 102 = .ok (.i2l, 1) := dw133 (n := 96) (i := 6) kc_cX11_begin_3 (by decide +kernel)
theorem dX11_begin_103 : decode cX11_begin 103 = .ok (.lastore, 1) := dw80 (n := 96) (i := 7) kc_cX11_begin_3 (by decide +kernel)
theorem dX11_begin_104 : decode cX11_begin 104 = .ok (.aload_n 0, 1) := dw42 (n := 96) (i := 8) kc_cX11_begin_3 (by decide +kernel)
theorem dX11_begin_105 : decode cX11_begin 105 = .ok (.getfield 96, 3) := dw180 (n := 96) (i := 9) (a := 0) (b := 96) kc_cX11_begin_3 (by decide +kernel) (by decide)
theorem dX11_begin_108 : decode cX11_begin 108 = .ok (.iload_n 3, 1) := dw29 (n := 96) (i := 12) kc_cX11_begin_3 (by decide +kernel)
theorem dX11_begin_109 : decode cX11_begin 109 = .ok (.lconst 1, 1) := dw10 (n := 96) (i := 13) kc_cX11_begin_3 (by decide +kernel)
theorem dX11_begin_110 : decode cX11_begin 110 = .ok (.lastore, 1) := dw80 (n := 96) (i := 14) kc_cX11_begin_3 (by decide +kernel)
theorem dX11_begin_111 : decode cX11_begin 111 = .ok (.iinc 3 1, 3) := by decide +kernel
theorem dX11_begin_114 : decode cX11_begin 114 = .ok (.goto (-54), 3) := dw167 (n := 96) (i := 18) (a := 255) (b := 202) kc_cX11_begin_3 (by decide +kernel) (by decide)
theorem dX11_begin_91 : decode cX11_begin 91 = .ok (.lconst 0, 1) := dw9 (n := 64) (i := 27) kc_cX11_begin_2 (by decide +kernel)
theorem dX11_begin_92 : decode cX11_begin 92 = .ok (.goto 11, 3) := dw167 (n := 64) (i := 28) (a := 0) (b := 11) kc_cX11_begin_2 (by decide +kernel) (by decide)
theorem dX11_begin_33 : decode cX11_begin 33 = .ok (.aload_n 0, 1) := dw42 (n := 32) (i := 1) kc_cX11_begin_1 (by decide +kernel)
theorem dX11_begin_34 : decode cX11_begin 34 = .ok (.getfield 81, 3) := dw180 (n := 32) (i := 2) (a := 0) (b := 81) kc_cX11_begin_1 (by decide +kernel) (by decide)
theorem dX11_begin_37 : decode cX11_begin 37 = .ok (.iload_n 3, 1) := dw29 (n := 32) (i := 5) kc_cX11_begin_1 (by decide +kernel)
theorem dX11_begin_38 : decode cX11_begin 38 = .ok (.iload_n 3, 1) := dw29 (n := 32) (i := 6) kc_cX11_begin_1 (by decide +kernel)
theorem dX11_begin_39 : decode cX11_begin 39 = .ok (.aload_n 0, 1) := dw42 (n := 32) (i := 7) kc_cX11_begin_1 (by decide +kernel)
theorem dX11_begin_40 : decode cX11_begin 40 = .ok (.getfield 137, 3) := dw180 (n := 32) (i := 8) (a := 0) (b := 137) kc_cX11_begin_1 (by decide +kernel) (by decide)
theorem dX11_begin_43 : decode cX11_begin 43 = .ok (.if_icmp .ge 7, 3) := dw162 (n := 32) (i := 11) (a := 0) (b := 7) kc_cX11_begin_1 (by decide +kernel) (by decide)
theorem dX11_begin_50 : decode cX11_begin 50 = .ok (.iconst 0, 1) := dw3 (n := 32) (i := 18) kc_cX11_begin_1 (by decide +kernel)
theorem dX11_begin_51 : decode cX11_begin 51 = .ok (.bastore, 1) := dw84 (n := 32) (i := 19) kc_cX11_begin_1 (by decide +kernel)
theorem dX11_begin_52 : decode cX11_begin 52 = .ok (.iinc 3 1, 3) := by decide +kernel
theorem dX11_begin_55 : decode cX11_begin 55 = .ok (.goto (-28), 3) := dw167 (n := 32) (i := 23) (a := 255) (b := 228) kc_cX11_begin_1 (by decide +kernel) (by decide)
theorem dX11_begin_46 : decode cX11_begin 46 = .ok (.iconst 1, 1) := dw4 (n := 32) (i := 14) kc_cX11_begin_1 (by decide +kernel)
theorem dX11_begin_47 : decode cX11_begin 47 = .ok (.goto 4, 3) := dw167 (n := 32) (i := 15) (a := 0) (b := 4) kc_cX11_begin_1 (by decide +kernel) (by decide)
set_option maxHeartbeats 4000000 in
set_option maxRecDepth 100000 in
theorem s_X11_begin (l : Launch) (D : va_G) (ad : Nat → Nat) (cs : Nat → ClassId) (M : MI) (L : ML) (x : Int32) (y : Int32) (hI : IR M) (hx : 0 ≤ x.toInt ∧ x.toInt < 8) (hy : 1 ≤ y.toInt ∧ y.toInt ≤ 30) : Cv l yX11_begin wsX11_begin ({ frames := 0, cells := 0, slots := 0, locals := 0 }) D ad cs [.ref (ad 258), .int x, .int y] M L (fun M1 L1 => (M1 258 27 = x ∧ M1 258 28 = y ∧ M1 258 29 = 0 ∧ M1 258 31 = 0 ∧ M1 258 25 = 0 ∧ (∀ c : Nat, c < 10 → (M1 282 c).toInt = if (c : Int) < (M 258 2).toInt then 1 else 0) ∧ WT L1) ∧ IR M1 ∧ (∀ k i, ¬ (k = 258 ∧ i = 25) ∧ ¬ (k = 258 ∧ i = 27) ∧ ¬ (k = 258 ∧ i = 28) ∧ ¬ (k = 258 ∧ i = 29) ∧ ¬ (k = 258 ∧ i = 31) ∧ k ≠ 282 → M1 k i = M k i) ∧ ∀ k i, k ≠ 286 ∧ k ≠ 287 → L1 k i = L k i) := by
  refine enter_v RX11 rfl [(0, .ref (ad 258)), (1, .int x), (2, .int y)] rfl (Nat.le_of_ble_eq_true rfl) (by decide +kernel) rfl ?_
  intro p e s m below meth c C hr
  have hF : ∀ k i, ¬ (k = 258 ∧ i = 25) ∧ ¬ (k = 258 ∧ i = 27) ∧ ¬ (k = 258 ∧ i = 28) ∧ ¬ (k = 258 ∧ i = 29) ∧ ¬ (k = 258 ∧ i = 31) ∧ k ≠ 282 → M k i = M k i := fun _ _ _ => rfl
  have hG : ∀ k i, k ≠ 286 ∧ k ≠ 287 → L k i = L k i := fun _ _ _ => rfl
  obtain ⟨hx1, hx2⟩ := hx
  obtain ⟨hy1, hy2⟩ := hy
  have k25 : M 258 25 = M 258 25 := rfl
  have k27 : M 258 27 = M 258 27 := rfl
  have k28 : M 258 28 = M 258 28 := rfl
  have k29 : M 258 29 = M 258 29 := rfl
  have k31 : M 258 31 = M 258 31 := rfl
  have p286 : L 286 = L 286 := rfl
  have p287 : L 287 = L 287 := rfl
  have q282 : M 282 = M 282 := rfl
  refine g_aload_n C 0 dX11_begin_0 rfl ?_
  refine g_iload_n C 1 dX11_begin_1 rfl ?_
  refine g_putI C 27 in_X11_begin_11 (List.mem_of_getElem? (i := 1) rfl) (by decide) (ce_model ad cs _ _) rfl (by decide) rfl tyX11 tyX11_ok nmX11 rfl rfl rfl rfl (Nat.le_of_ble_eq_true rfl) (by rw [sI_k]; rfl) dX11_begin_2 ?_
  refine g_nm (fun M1 hM1 => ?_)
  have hI : IR M1 := by rw [hM1]; exact hI.st (show bR 258 27 _ from ⟨by first | omega | decide, by first | omega | decide⟩)
  have hF : ∀ k i, ¬ (k = 258 ∧ i = 25) ∧ ¬ (k = 258 ∧ i = 27) ∧ ¬ (k = 258 ∧ i = 28) ∧ ¬ (k = 258 ∧ i = 29) ∧ ¬ (k = 258 ∧ i = 31) ∧ k ≠ 282 → M1 k i = M k i := fun k i hk => by (rw [hM1, sI_at, if_neg (by omega)]; try exact hF k i hk)
  have k25 : M1 258 25 = M 258 25 := by rw [hM1, sI_at, if_neg (by decide)]; try exact k25
  have k28 : M1 258 28 = M 258 28 := by rw [hM1, sI_at, if_neg (by decide)]; try exact k28
  have k29 : M1 258 29 = M 258 29 := by rw [hM1, sI_at, if_neg (by decide)]; try exact k29
  have k31 : M1 258 31 = M 258 31 := by rw [hM1, sI_at, if_neg (by decide)]; try exact k31
  have k27 : M1 258 27 = x := by rw [hM1, sI_at, if_pos (by decide)]
  have q282 : M1 282 = M 282 := by rw [hM1, sI_n _ _ _ (by decide)]; try exact q282
  refine g_aload_n C 0 dX11_begin_5 rfl ?_
  refine g_iload_n C 2 dX11_begin_6 rfl ?_
  refine g_putI C 28 in_X11_begin_11 (List.mem_of_getElem? (i := 2) rfl) (by decide) (ce_model ad cs _ _) rfl (by decide) rfl tyX11 tyX11_ok nmX11 rfl rfl rfl rfl (Nat.le_of_ble_eq_true rfl) (by rw [sI_k]; rfl) dX11_begin_7 ?_
  refine g_nm (fun M2 hM2 => ?_)
  have hI : IR M2 := by rw [hM2]; exact hI.st (show bR 258 28 _ from ⟨by first | omega | decide, by first | omega | decide⟩)
  have hF : ∀ k i, ¬ (k = 258 ∧ i = 25) ∧ ¬ (k = 258 ∧ i = 27) ∧ ¬ (k = 258 ∧ i = 28) ∧ ¬ (k = 258 ∧ i = 29) ∧ ¬ (k = 258 ∧ i = 31) ∧ k ≠ 282 → M2 k i = M k i := fun k i hk => by (rw [hM2, sI_at, if_neg (by omega)]; try exact hF k i hk)
  have k25 : M2 258 25 = M 258 25 := by rw [hM2, sI_at, if_neg (by decide)]; try exact k25
  have k27 : M2 258 27 = x := by rw [hM2, sI_at, if_neg (by decide)]; try exact k27
  have k29 : M2 258 29 = M 258 29 := by rw [hM2, sI_at, if_neg (by decide)]; try exact k29
  have k31 : M2 258 31 = M 258 31 := by rw [hM2, sI_at, if_neg (by decide)]; try exact k31
  have k28 : M2 258 28 = y := by rw [hM2, sI_at, if_pos (by decide)]
  have q282 : M2 282 = M 282 := by rw [hM2, sI_n _ _ _ (by decide)]; try exact q282
  refine g_aload_n C 0 dX11_begin_10 rfl ?_
  refine g_iconst C 0 dX11_begin_11 (by decide) ?_
  refine g_putI C 29 in_X11_begin_11 (List.mem_of_getElem? (i := 3) rfl) (by decide) (ce_model ad cs _ _) rfl (by decide) rfl tyX11 tyX11_ok nmX11 rfl rfl rfl rfl (Nat.le_of_ble_eq_true rfl) (by rw [sI_k]; rfl) dX11_begin_12 ?_
  refine g_nm (fun M3 hM3 => ?_)
  have zy4 : (0 : Int32).toInt = 0 := by decide
  have hI : IR M3 := by rw [hM3]; exact hI.st (show bR 258 29 _ from ⟨by first | omega | decide, by first | omega | decide⟩)
  have hF : ∀ k i, ¬ (k = 258 ∧ i = 25) ∧ ¬ (k = 258 ∧ i = 27) ∧ ¬ (k = 258 ∧ i = 28) ∧ ¬ (k = 258 ∧ i = 29) ∧ ¬ (k = 258 ∧ i = 31) ∧ k ≠ 282 → M3 k i = M k i := fun k i hk => by (rw [hM3, sI_at, if_neg (by omega)]; try exact hF k i hk)
  have k25 : M3 258 25 = M 258 25 := by rw [hM3, sI_at, if_neg (by decide)]; try exact k25
  have k27 : M3 258 27 = x := by rw [hM3, sI_at, if_neg (by decide)]; try exact k27
  have k28 : M3 258 28 = y := by rw [hM3, sI_at, if_neg (by decide)]; try exact k28
  have k31 : M3 258 31 = M 258 31 := by rw [hM3, sI_at, if_neg (by decide)]; try exact k31
  have k29 : M3 258 29 = 0 := by rw [hM3, sI_at, if_pos (by decide)]
  have q282 : M3 282 = M 282 := by rw [hM3, sI_n _ _ _ (by decide)]; try exact q282
  refine g_aload_n C 0 dX11_begin_15 rfl ?_
  refine g_iconst C 0 dX11_begin_16 (by decide) ?_
  refine g_putI C 31 in_X11_begin_11 (List.mem_of_getElem? (i := 4) rfl) (by decide) (ce_model ad cs _ _) rfl (by decide) rfl tyX11 tyX11_ok nmX11 rfl rfl rfl rfl (Nat.le_of_ble_eq_true rfl) (by rw [sI_k]; rfl) dX11_begin_17 ?_
  refine g_nm (fun M5 hM5 => ?_)
  have zy6 : (0 : Int32).toInt = 0 := by decide
  have hI : IR M5 := by rw [hM5]; exact hI.st (show bR 258 31 _ from ⟨by first | omega | decide, by first | omega | decide⟩)
  have hF : ∀ k i, ¬ (k = 258 ∧ i = 25) ∧ ¬ (k = 258 ∧ i = 27) ∧ ¬ (k = 258 ∧ i = 28) ∧ ¬ (k = 258 ∧ i = 29) ∧ ¬ (k = 258 ∧ i = 31) ∧ k ≠ 282 → M5 k i = M k i := fun k i hk => by (rw [hM5, sI_at, if_neg (by omega)]; try exact hF k i hk)
  have k25 : M5 258 25 = M 258 25 := by rw [hM5, sI_at, if_neg (by decide)]; try exact k25
  have k27 : M5 258 27 = x := by rw [hM5, sI_at, if_neg (by decide)]; try exact k27
  have k28 : M5 258 28 = y := by rw [hM5, sI_at, if_neg (by decide)]; try exact k28
  have k29 : M5 258 29 = 0 := by rw [hM5, sI_at, if_neg (by decide)]; try exact k29
  have k31 : M5 258 31 = 0 := by rw [hM5, sI_at, if_pos (by decide)]
  have q282 : M5 282 = M 282 := by rw [hM5, sI_n _ _ _ (by decide)]; try exact q282
  refine g_aload_n C 0 dX11_begin_20 rfl ?_
  refine g_iconst C 0 dX11_begin_21 (by decide) ?_
  refine g_putI C 25 in_X11_begin_11 (List.mem_of_getElem? (i := 5) rfl) (by decide) (ce_model ad cs _ _) rfl (by decide) rfl tyX11 tyX11_ok nmX11 rfl rfl rfl rfl (Nat.le_of_ble_eq_true rfl) (by rw [sI_k]; rfl) dX11_begin_22 ?_
  refine g_nm (fun M7 hM7 => ?_)
  have zy8 : (0 : Int32).toInt = 0 := by decide
  have hI : IR M7 := by rw [hM7]; exact hI.st (show bR 258 25 _ from ⟨by first | omega | decide, by first | omega | decide⟩)
  have hF : ∀ k i, ¬ (k = 258 ∧ i = 25) ∧ ¬ (k = 258 ∧ i = 27) ∧ ¬ (k = 258 ∧ i = 28) ∧ ¬ (k = 258 ∧ i = 29) ∧ ¬ (k = 258 ∧ i = 31) ∧ k ≠ 282 → M7 k i = M k i := fun k i hk => by (rw [hM7, sI_at, if_neg (by omega)]; try exact hF k i hk)
  have k27 : M7 258 27 = x := by rw [hM7, sI_at, if_neg (by decide)]; try exact k27
  have k28 : M7 258 28 = y := by rw [hM7, sI_at, if_neg (by decide)]; try exact k28
  have k29 : M7 258 29 = 0 := by rw [hM7, sI_at, if_neg (by decide)]; try exact k29
  have k31 : M7 258 31 = 0 := by rw [hM7, sI_at, if_neg (by decide)]; try exact k31
  have k25 : M7 258 25 = 0 := by rw [hM7, sI_at, if_pos (by decide)]
  have q282 : M7 282 = M 282 := by rw [hM7, sI_n _ _ _ (by decide)]; try exact q282
  refine g_iconst C 0 dX11_begin_25 (by decide) ?_
  refine g_istore_n C [(3, .int 0), (0, .ref (ad 258)), (1, .int x), (2, .int y)] dX11_begin_26 (by decide) rfl ?_
  have zy9 : (0 : Int32).toInt = 0 := by decide
  refine g_loop (α := Int32 × MI × ML) (fun a => (11 - a.1.toInt).toNat) (fun a => (0 ≤ a.1.toInt) ∧ (a.1.toInt ≤ 10) ∧ (a.2.1 258 27 = x) ∧ (a.2.1 258 28 = y) ∧ (a.2.1 258 29 = 0) ∧ (a.2.1 258 31 = 0) ∧ (a.2.1 258 25 = 0) ∧ (∀ c : Nat, c < a.1.toNatClampNeg → (a.2.1 282 c).toInt = if (c : Int) < (M 258 2).toInt then 1 else 0) ∧ IR a.2.1 ∧ (∀ k i, ¬ (k = 258 ∧ i = 25) ∧ ¬ (k = 258 ∧ i = 27) ∧ ¬ (k = 258 ∧ i = 28) ∧ ¬ (k = 258 ∧ i = 29) ∧ ¬ (k = 258 ∧ i = 31) ∧ k ≠ 282 → a.2.1 k i = M k i) ∧ (∀ k i, k ≠ 286 ∧ k ≠ 287 → a.2.2 k i = L k i)) (fun a => a.2.1) (fun a => a.2.2) (fun a => [(3, .int a.1), (0, .ref (ad 258)), (1, .int x), (2, .int y)]) ((0 : Int32), M7, L) ⟨by show 0 ≤ (0 : Int32).toInt; omega, by show (0 : Int32).toInt ≤ 10; omega, by show M7 258 27 = x; exact k27, by show M7 258 28 = y; exact k28, by show M7 258 29 = 0; exact k29, by show M7 258 31 = 0; exact k31, by show M7 258 25 = 0; exact k25, by show ∀ c : Nat, c < (0 : Int32).toNatClampNeg → (M7 282 c).toInt = if (c : Int) < (M 258 2).toInt then 1 else 0; intro c hc; exact absurd hc (by show ¬ c < 0; omega), hI, hF, hG⟩ rfl rfl rfl ?_
  rintro ⟨x3_27, M_27, L_27⟩ ⟨j27_0, j27_1, j27_2, j27_3, j27_4, j27_5, j27_6, j27_7, hI, hF, hG⟩ ih_27
  dsimp only at j27_0 j27_1 j27_2 j27_3 j27_4 j27_5 j27_6 j27_7 hI hF hG ih_27 ⊢
  have k25 : M_27 258 25 = M_27 258 25 := rfl
  have k27 : M_27 258 27 = M_27 258 27 := rfl
  have k28 : M_27 258 28 = M_27 258 28 := rfl
  have k29 : M_27 258 29 = M_27 258 29 := rfl
  have k31 : M_27 258 31 = M_27 258 31 := rfl
  have p286 : L_27 286 = L_27 286 := rfl
  have p287 : L_27 287 = L_27 287 := rfl
  have q282 : M_27 282 = M_27 282 := rfl
  have n3 := ixn (x := x3_27) (by omega)
  refine g_iload_n C 0 dX11_begin_27 rfl ?_
  refine g_bipush C 10 dX11_begin_28 (by decide) ?_
  refine g_icmp_ge C 58 dX11_begin_30 (by decide) (fun c10 => ?_) (fun c10 => ?_)
  ·
    have f11 := fle (by decide : (10 : Int32).toInt = 10) rfl c10
    refine g_iconst C 0 dX11_begin_58 (by decide) ?_
    refine g_istore_n C [(3, .int 0), (0, .ref (ad 258)), (1, .int x), (2, .int y)] dX11_begin_59 (by decide) rfl ?_
    have zy12 : (0 : Int32).toInt = 0 := by decide
    refine g_loop (α := Int32 × MI × ML) (fun a => (41 - a.1.toInt).toNat) (fun a => (0 ≤ a.1.toInt) ∧ (a.1.toInt ≤ 40) ∧ (a.2.1 = M_27) ∧ (∀ i : Nat, i < a.1.toNatClampNeg → okF (a.2.2 286 i) (a.2.2 287 i)) ∧ IR a.2.1 ∧ (∀ k i, ¬ (k = 258 ∧ i = 25) ∧ ¬ (k = 258 ∧ i = 27) ∧ ¬ (k = 258 ∧ i = 28) ∧ ¬ (k = 258 ∧ i = 29) ∧ ¬ (k = 258 ∧ i = 31) ∧ k ≠ 282 → a.2.1 k i = M k i) ∧ (∀ k i, k ≠ 286 ∧ k ≠ 287 → a.2.2 k i = L k i)) (fun a => a.2.1) (fun a => a.2.2) (fun a => [(3, .int a.1), (0, .ref (ad 258)), (1, .int x), (2, .int y)]) ((0 : Int32), M_27, L_27) ⟨by show 0 ≤ (0 : Int32).toInt; omega, by show (0 : Int32).toInt ≤ 40; omega, by show M_27 = M_27; rfl, by show ∀ i : Nat, i < (0 : Int32).toNatClampNeg → okF (L_27 286 i) (L_27 287 i); intro i hi; exact absurd hi (by show ¬ i < 0; omega), hI, hF, hG⟩ rfl rfl rfl ?_
    rintro ⟨x3_60, M_60, L_60⟩ ⟨j60_0, j60_1, j60_2, j60_3, hI, hF, hG⟩ ih_60
    dsimp only at j60_0 j60_1 j60_2 j60_3 hI hF hG ih_60 ⊢
    have k25 : M_60 258 25 = M_60 258 25 := rfl
    have k27 : M_60 258 27 = M_60 258 27 := rfl
    have k28 : M_60 258 28 = M_60 258 28 := rfl
    have k29 : M_60 258 29 = M_60 258 29 := rfl
    have k31 : M_60 258 31 = M_60 258 31 := rfl
    have p286 : L_60 286 = L_60 286 := rfl
    have p287 : L_60 287 = L_60 287 := rfl
    have q282 : M_60 282 = M_60 282 := rfl
    have n3b := ixn (x := x3_60) (by omega)
    refine g_iload_n C 0 dX11_begin_60 rfl ?_
    refine g_bipush C 40 dX11_begin_61 (by decide) ?_
    refine g_icmp_ge C 117 dX11_begin_63 (by decide) (fun c13 => ?_) (fun c13 => ?_)
    ·
      have f14 := fle (by decide : (40 : Int32).toInt = 40) rfl c13
      exact g_vret C hr ⟨⟨by rw [j60_2]; exact j27_2, by rw [j60_2]; exact j27_3, by rw [j60_2]; exact j27_4, by rw [j60_2]; exact j27_5, by rw [j60_2]; exact j27_6, by (intro c hc; rw [j60_2]; exact j27_7 c (by omega)), fun i hi => j60_3 i (by omega)⟩, hI, hF, hG⟩ dX11_begin_117
    ·
      have f15 := fnle (by decide : (40 : Int32).toInt = 40) rfl c13
      refine g_aload_n C 1 dX11_begin_66 rfl ?_
      refine g_get C (.ref (ad 267)) 12 in_X11_begin_11 (List.mem_of_getElem? (i := 8) rfl) (by decide) (ce_model ad cs _ _) rfl (by decide) rfl rfl dX11_begin_67 ?_
      refine g_bipush C 40 dX11_begin_70 (by decide) ?_
      refine g_iload_n C 2 dX11_begin_72 rfl ?_
      refine g_imul C dX11_begin_73 ?_
      refine g_ni (fun v16 ev16 => ?_)
      try have fv16 := fmul (by decide : (40 : Int32).toInt = 40) rfl ev16 (by omega) (by omega)
      refine g_iload_n C 0 dX11_begin_74 rfl ?_
      refine g_iadd C dX11_begin_75 ?_
      refine g_ni (fun v17 ev17 => ?_)
      try have fv17 := fadd rfl rfl ev17 (by omega) (by omega)
      refine g_iald C (by decide) (ce_m_boxed ad cs _ _) (fin' (n := 320) rfl (by omega) (by omega)) dX11_begin_76 ?_
      have nx := ixn (x := x) (by omega)
      have nx3_60 := ixn (x := x3_60) (by omega)
      have nv17 := ixn (x := v17) (by omega)
      have iv17 : v17.toNatClampNeg = 40 * x.toNatClampNeg + x3_60.toNatClampNeg := by omega
      refine g_ni (fun v18 ev18 => ?_)
      have gv18 : v18 = M 267 v17.toNatClampNeg := ev18.trans (hF 267 v17.toNatClampNeg (by omega))
      have gv18 := cg1 (f := M 267) gv18 iv17
      have tv18 := congrArg Int32.toInt gv18
      have bv18 : bxd v18 := (by rw [ev18]; exact hI 267 v17.toNatClampNeg)
      unfold bxd at bv18
      refine g_istore C [(4, .int v18), (3, .int x3_60), (0, .ref (ad 258)), (1, .int x), (2, .int y)] dX11_begin_77 (by decide) rfl ?_
      refine g_aload_n C 2 dX11_begin_79 rfl ?_
      refine g_get C (.ref (ad 286)) 40 in_X11_begin_11 (List.mem_of_getElem? (i := 9) rfl) (by decide) (ce_model ad cs _ _) rfl (by decide) rfl rfl dX11_begin_80 ?_
      refine g_iload_n C 1 dX11_begin_83 rfl ?_
      refine g_iload C 0 dX11_begin_84 rfl ?_
      refine g_bipush C (-9) dX11_begin_86 (by decide) ?_
      refine g_icmp_ne C 95 dX11_begin_88 (by decide) (fun c19 => ?_) (fun c19 => ?_)
      ·
        have f20 := fne rfl (by decide : ((-9) : Int32).toInt = (-9)) c19
        refine g_aload_n C 2 dX11_begin_95 rfl ?_
        refine g_get C (.ref (ad 262)) 6 in_X11_begin_11 (List.mem_of_getElem? (i := 10) rfl) (by decide) (ce_model ad cs _ _) rfl (by decide) rfl rfl dX11_begin_96 ?_
        refine g_iload C 0 dX11_begin_99 rfl ?_
        refine g_iald C (by decide) (ce_m_papersOf ad cs _ _) (fin' (n := 60) rfl (by omega) (by omega)) dX11_begin_101 ?_
        refine g_ni (fun v21 ev21 => ?_)
        have gv21 : v21 = M 262 v18.toNatClampNeg := ev21.trans (hF 262 v18.toNatClampNeg (by omega))
        have tv21 := congrArg Int32.toInt gv21
        obtain ⟨bv21, dv21⟩ := (show rg 0 100000 v21 from (by rw [ev21]; exact hI 262 v18.toNatClampNeg))
        refine g_i2l C dX11_begin_102 ?_
        refine g_nl (fun v22 ev22 => ?_)
        have fv22 := fi2l rfl ev22
        refine g_last C (by decide) (ce_m_weightUp ad cs _ _) (by rw [sJ_k]; rfl) (fin' (n := 40) rfl (by omega) (by omega)) dX11_begin_103 ?_
        refine g_nmL (fun L23 hL23 => ?_)
        have hG : ∀ k i, k ≠ 286 ∧ k ≠ 287 → L23 k i = L k i := fun k i hk => by (rw [hL23, sJ_at, if_neg (by omega)]; try exact hG k i hk)
        have p287 : L23 287 = L_60 287 := by rw [hL23, sJ_n _ _ _ (by decide)]; try exact p287
        refine g_aload_n C 2 dX11_begin_104 rfl ?_
        refine g_get C (.ref (ad 287)) 41 in_X11_begin_11 (List.mem_of_getElem? (i := 11) rfl) (by decide) (ce_model ad cs _ _) rfl (by decide) rfl rfl dX11_begin_105 ?_
        refine g_iload_n C 1 dX11_begin_108 rfl ?_
        refine g_lconst C 1 dX11_begin_109 (by decide) ?_
        refine g_last C (by decide) (ce_m_weightDown ad cs _ _) (by rw [sJ_k]; rfl) (fin' (n := 40) rfl (by omega) (by omega)) dX11_begin_110 ?_
        refine g_nmL (fun L24 hL24 => ?_)
        have hG : ∀ k i, k ≠ 286 ∧ k ≠ 287 → L24 k i = L k i := fun k i hk => by (rw [hL24, sJ_at, if_neg (by omega)]; try exact hG k i hk)
        obtain ⟨v25, ev25⟩ : ∃ y : Int32, y = x3_60 + 1 := ⟨_, rfl⟩
        try have fv25 := fadd rfl (by decide : (1 : Int32).toInt = 1) ev25 (by omega) (by omega)
        refine g_iinc C 1 v25 [(3, .int v25), (4, .int v18), (0, .ref (ad 258)), (1, .int x), (2, .int y)] dX11_begin_111 rfl (by rw [ev25]; rfl) (by decide) rfl ?_
        refine g_goto C 60 dX11_begin_114 (by decide) ?_
        refine g_lv [0, 2, 3, 4] [(3, .int v25), (0, .ref (ad 258)), (1, .int x), (2, .int y)] rfl ?_
        have nv := ixn (x := v25) (by omega)
        have hall : ∀ i : Nat, i < v25.toNatClampNeg → okF (L24 286 i) (L24 287 i) := by
          intro i hi
          rw [hL24, sJ_n _ _ _ (by decide), sJ_at, hL23, sJ_at, sJ_n _ _ _ (by decide)]
          by_cases e9 : i = x3_60.toNatClampNeg
          · rw [if_pos ⟨rfl, e9⟩, if_pos ⟨rfl, e9⟩]; unfold okF; have z1 : (1 : Int64).toInt = 1 := by decide
            have z0 : (0 : Int64).toInt = 0 := by decide
            omega
          · rw [if_neg (fun h => e9 h.2), if_neg (fun h => e9 h.2)]; exact j60_3 i (by omega)
        exact ih_60 (v25, M_60, L24) ⟨by show 0 ≤ v25.toInt; omega, by show v25.toInt ≤ 40; omega, by show M_60 = M_27; exact j60_2, by show ∀ i : Nat, i < v25.toNatClampNeg → okF (L24 286 i) (L24 287 i); exact hall, hI, hF, hG⟩ (by show (41 - v25.toInt).toNat < (41 - x3_60.toInt).toNat; omega)
      ·
        have f26 := feq rfl (by decide : ((-9) : Int32).toInt = (-9)) c19
        refine g_lconst C 0 dX11_begin_91 (by decide) ?_
        refine g_goto C 103 dX11_begin_92 (by decide) ?_
        refine g_last C (by decide) (ce_m_weightUp ad cs _ _) (by rw [sJ_k]; rfl) (fin' (n := 40) rfl (by omega) (by omega)) dX11_begin_103 ?_
        refine g_nmL (fun L27 hL27 => ?_)
        have hG : ∀ k i, k ≠ 286 ∧ k ≠ 287 → L27 k i = L k i := fun k i hk => by (rw [hL27, sJ_at, if_neg (by omega)]; try exact hG k i hk)
        have p287 : L27 287 = L_60 287 := by rw [hL27, sJ_n _ _ _ (by decide)]; try exact p287
        refine g_aload_n C 2 dX11_begin_104 rfl ?_
        refine g_get C (.ref (ad 287)) 41 in_X11_begin_11 (List.mem_of_getElem? (i := 11) rfl) (by decide) (ce_model ad cs _ _) rfl (by decide) rfl rfl dX11_begin_105 ?_
        refine g_iload_n C 1 dX11_begin_108 rfl ?_
        refine g_lconst C 1 dX11_begin_109 (by decide) ?_
        refine g_last C (by decide) (ce_m_weightDown ad cs _ _) (by rw [sJ_k]; rfl) (fin' (n := 40) rfl (by omega) (by omega)) dX11_begin_110 ?_
        refine g_nmL (fun L28 hL28 => ?_)
        have hG : ∀ k i, k ≠ 286 ∧ k ≠ 287 → L28 k i = L k i := fun k i hk => by (rw [hL28, sJ_at, if_neg (by omega)]; try exact hG k i hk)
        obtain ⟨v29, ev29⟩ : ∃ y : Int32, y = x3_60 + 1 := ⟨_, rfl⟩
        try have fv29 := fadd rfl (by decide : (1 : Int32).toInt = 1) ev29 (by omega) (by omega)
        refine g_iinc C 1 v29 [(3, .int v29), (4, .int v18), (0, .ref (ad 258)), (1, .int x), (2, .int y)] dX11_begin_111 rfl (by rw [ev29]; rfl) (by decide) rfl ?_
        refine g_goto C 60 dX11_begin_114 (by decide) ?_
        refine g_lv [0, 2, 3, 4] [(3, .int v29), (0, .ref (ad 258)), (1, .int x), (2, .int y)] rfl ?_
        have nv := ixn (x := v29) (by omega)
        have hall : ∀ i : Nat, i < v29.toNatClampNeg → okF (L28 286 i) (L28 287 i) := by
          intro i hi
          rw [hL28, sJ_n _ _ _ (by decide), sJ_at, hL27, sJ_at, sJ_n _ _ _ (by decide)]
          by_cases e9 : i = x3_60.toNatClampNeg
          · rw [if_pos ⟨rfl, e9⟩, if_pos ⟨rfl, e9⟩]; unfold okF; have z1 : (1 : Int64).toInt = 1 := by decide
            have z0 : (0 : Int64).toInt = 0 := by decide
            omega
          · rw [if_neg (fun h => e9 h.2), if_neg (fun h => e9 h.2)]; exact j60_3 i (by omega)
        exact ih_60 (v29, M_60, L28) ⟨by show 0 ≤ v29.toInt; omega, by show v29.toInt ≤ 40; omega, by show M_60 = M_27; exact j60_2, by show ∀ i : Nat, i < v29.toNatClampNeg → okF (L28 286 i) (L28 287 i); exact hall, hI, hF, hG⟩ (by show (41 - v29.toInt).toNat < (41 - x3_60.toInt).toNat; omega)
  ·
    have f30 := fnle (by decide : (10 : Int32).toInt = 10) rfl c10
    refine g_aload_n C 1 dX11_begin_33 rfl ?_
    refine g_get C (.ref (ad 282)) 36 in_X11_begin_11 (List.mem_of_getElem? (i := 6) rfl) (by decide) (ce_model ad cs _ _) rfl (by decide) rfl rfl dX11_begin_34 ?_
    refine g_iload_n C 0 dX11_begin_37 rfl ?_
    refine g_iload_n C 0 dX11_begin_38 rfl ?_
    refine g_aload_n C 1 dX11_begin_39 rfl ?_
    refine g_get C (.int (M_27 258 2)) 2 in_X11_begin_11 (List.mem_of_getElem? (i := 7) rfl) (by decide) (ce_model ad cs _ _) rfl (by decide) rfl rfl dX11_begin_40 ?_
    refine g_ni (fun v31 ev31 => ?_)
    have gv31 : v31 = M 258 2 := ev31.trans (hF 258 2 (by omega))
    have tv31 := congrArg Int32.toInt gv31
    obtain ⟨bv31, dv31⟩ := (show rg 0 10 v31 from (by rw [ev31]; exact hI 258 2))
    refine g_icmp_ge C 50 dX11_begin_43 (by decide) (fun c32 => ?_) (fun c32 => ?_)
    ·
      have f33 := fle rfl rfl c32
      refine g_iconst C 0 dX11_begin_50 (by decide) ?_
      refine g_zast C (by decide) (ce_m_isIn ad cs _ _) (by rw [sI_k]; rfl) (fin' (n := 10) rfl (by omega) (by omega)) dX11_begin_51 ?_
      refine g_nm (fun M34 hM34 => ?_)
      have zy35 : (0 : Int32).toInt = 0 := by decide
      have hI : IR M34 := by rw [hM34]; exact hI.st (show bR 282 _ _ from trivial)
      have hF : ∀ k i, ¬ (k = 258 ∧ i = 25) ∧ ¬ (k = 258 ∧ i = 27) ∧ ¬ (k = 258 ∧ i = 28) ∧ ¬ (k = 258 ∧ i = 29) ∧ ¬ (k = 258 ∧ i = 31) ∧ k ≠ 282 → M34 k i = M k i := fun k i hk => by (rw [hM34, sI_at, if_neg (by omega)]; try exact hF k i hk)
      have k25 : M34 258 25 = M_27 258 25 := by rw [hM34, sI_n _ _ _ (by decide)]; try exact k25
      have k27 : M34 258 27 = M_27 258 27 := by rw [hM34, sI_n _ _ _ (by decide)]; try exact k27
      have k28 : M34 258 28 = M_27 258 28 := by rw [hM34, sI_n _ _ _ (by decide)]; try exact k28
      have k29 : M34 258 29 = M_27 258 29 := by rw [hM34, sI_n _ _ _ (by decide)]; try exact k29
      have k31 : M34 258 31 = M_27 258 31 := by rw [hM34, sI_n _ _ _ (by decide)]; try exact k31
      obtain ⟨v36, ev36⟩ : ∃ y : Int32, y = x3_27 + 1 := ⟨_, rfl⟩
      try have fv36 := fadd rfl (by decide : (1 : Int32).toInt = 1) ev36 (by omega) (by omega)
      refine g_iinc C 0 v36 [(3, .int v36), (0, .ref (ad 258)), (1, .int x), (2, .int y)] dX11_begin_52 rfl (by rw [ev36]; rfl) (by decide) rfl ?_
      refine g_goto C 27 dX11_begin_55 (by decide) ?_
      have nv := ixn (x := v36) (by omega)
      have hall : ∀ c : Nat, c < v36.toNatClampNeg → (M34 282 c).toInt = if (c : Int) < (M 258 2).toInt then 1 else 0 := by
        intro c hc
        rw [hM34, sI_at]
        by_cases e9 : c = x3_27.toNatClampNeg
        · rw [if_pos ⟨rfl, e9⟩]; first | (rw [if_pos (by omega)]; rfl) | (rw [if_neg (by omega)]; rfl)
        · rw [if_neg (fun h => e9 h.2)]; exact j27_7 c (by omega)
      exact ih_27 (v36, M34, L_27) ⟨by show 0 ≤ v36.toInt; omega, by show v36.toInt ≤ 10; omega, by show M34 258 27 = x; exact k27.trans j27_2, by show M34 258 28 = y; exact k28.trans j27_3, by show M34 258 29 = 0; exact k29.trans j27_4, by show M34 258 31 = 0; exact k31.trans j27_5, by show M34 258 25 = 0; exact k25.trans j27_6, by show ∀ c : Nat, c < v36.toNatClampNeg → (M34 282 c).toInt = if (c : Int) < (M 258 2).toInt then 1 else 0; exact hall, hI, hF, hG⟩ (by show (11 - v36.toInt).toNat < (11 - x3_27.toInt).toNat; omega)
    ·
      have f37 := fnle rfl rfl c32
      refine g_iconst C 1 dX11_begin_46 (by decide) ?_
      refine g_goto C 51 dX11_begin_47 (by decide) ?_
      refine g_zast C (by decide) (ce_m_isIn ad cs _ _) (by rw [sI_k]; rfl) (fin' (n := 10) rfl (by omega) (by omega)) dX11_begin_51 ?_
      refine g_nm (fun M38 hM38 => ?_)
      have zy39 : (1 : Int32).toInt = 1 := by decide
      have hI : IR M38 := by rw [hM38]; exact hI.st (show bR 282 _ _ from trivial)
      have hF : ∀ k i, ¬ (k = 258 ∧ i = 25) ∧ ¬ (k = 258 ∧ i = 27) ∧ ¬ (k = 258 ∧ i = 28) ∧ ¬ (k = 258 ∧ i = 29) ∧ ¬ (k = 258 ∧ i = 31) ∧ k ≠ 282 → M38 k i = M k i := fun k i hk => by (rw [hM38, sI_at, if_neg (by omega)]; try exact hF k i hk)
      have k25 : M38 258 25 = M_27 258 25 := by rw [hM38, sI_n _ _ _ (by decide)]; try exact k25
      have k27 : M38 258 27 = M_27 258 27 := by rw [hM38, sI_n _ _ _ (by decide)]; try exact k27
      have k28 : M38 258 28 = M_27 258 28 := by rw [hM38, sI_n _ _ _ (by decide)]; try exact k28
      have k29 : M38 258 29 = M_27 258 29 := by rw [hM38, sI_n _ _ _ (by decide)]; try exact k29
      have k31 : M38 258 31 = M_27 258 31 := by rw [hM38, sI_n _ _ _ (by decide)]; try exact k31
      obtain ⟨v40, ev40⟩ : ∃ y : Int32, y = x3_27 + 1 := ⟨_, rfl⟩
      try have fv40 := fadd rfl (by decide : (1 : Int32).toInt = 1) ev40 (by omega) (by omega)
      refine g_iinc C 0 v40 [(3, .int v40), (0, .ref (ad 258)), (1, .int x), (2, .int y)] dX11_begin_52 rfl (by rw [ev40]; rfl) (by decide) rfl ?_
      refine g_goto C 27 dX11_begin_55 (by decide) ?_
      have nv := ixn (x := v40) (by omega)
      have hall : ∀ c : Nat, c < v40.toNatClampNeg → (M38 282 c).toInt = if (c : Int) < (M 258 2).toInt then 1 else 0 := by
        intro c hc
        rw [hM38, sI_at]
        by_cases e9 : c = x3_27.toNatClampNeg
        · rw [if_pos ⟨rfl, e9⟩]; first | (rw [if_pos (by omega)]; rfl) | (rw [if_neg (by omega)]; rfl)
        · rw [if_neg (fun h => e9 h.2)]; exact j27_7 c (by omega)
      exact ih_27 (v40, M38, L_27) ⟨by show 0 ≤ v40.toInt; omega, by show v40.toInt ≤ 10; omega, by show M38 258 27 = x; exact k27.trans j27_2, by show M38 258 28 = y; exact k28.trans j27_3, by show M38 258 29 = 0; exact k29.trans j27_4, by show M38 258 31 = 0; exact k31.trans j27_5, by show M38 258 25 = 0; exact k25.trans j27_6, by show ∀ c : Nat, c < v40.toNatClampNeg → (M38 282 c).toInt = if (c : Int) < (M 258 2).toInt then 1 else 0; exact hall, hI, hF, hG⟩ (by show (11 - v40.toInt).toNat < (11 - x3_27.toInt).toNat; omega)
theorem dX11_takeOver_0 : decode cX11_takeOver 0 = .ok (.aload_n 0, 1) := dw42 (n := 0) (i := 0) kc_cX11_takeOver_0 (by decide +kernel)
theorem dX11_takeOver_1 : decode cX11_takeOver 1 = .ok (.aload_n 0, 1) := dw42 (n := 0) (i := 1) kc_cX11_takeOver_0 (by decide +kernel)
theorem dX11_takeOver_2 : decode cX11_takeOver 2 = .ok (.getfield 211, 3) := dw180 (n := 0) (i := 2) (a := 0) (b := 211) kc_cX11_takeOver_0 (by decide +kernel) (by decide)
theorem in_X11_takeOver_11 : ∀ w ∈ u_ws RX11 TX11 53, w ∈ wsX11_takeOver := fun _ h => List.mem_cons_of_mem _ (List.mem_append_right _ h)
theorem dX11_takeOver_5 : decode cX11_takeOver 5 = .ok (.putfield 290, 3) := dw181 (n := 0) (i := 5) (a := 1) (b := 34) kc_cX11_takeOver_0 (by decide +kernel) (by decide)
theorem dX11_takeOver_8 : decode cX11_takeOver 8 = .ok (.aload_n 0, 1) := dw42 (n := 0) (i := 8) kc_cX11_takeOver_0 (by decide +kernel)
theorem dX11_takeOver_9 : decode cX11_takeOver 9 = .ok (.aload_n 0, 1) := dw42 (n := 0) (i := 9) kc_cX11_takeOver_0 (by decide +kernel)
theorem dX11_takeOver_10 : decode cX11_takeOver 10 = .ok (.getfield 208, 3) := dw180 (n := 0) (i := 10) (a := 0) (b := 208) kc_cX11_takeOver_0 (by decide +kernel) (by decide)
theorem dX11_takeOver_13 : decode cX11_takeOver 13 = .ok (.putfield 293, 3) := dw181 (n := 0) (i := 13) (a := 1) (b := 37) kc_cX11_takeOver_0 (by decide +kernel) (by decide)
theorem dX11_takeOver_16 : decode cX11_takeOver 16 = .ok (.iconst 0, 1) := dw3 (n := 0) (i := 16) kc_cX11_takeOver_0 (by decide +kernel)
theorem dX11_takeOver_17 : decode cX11_takeOver 17 = .ok (.istore_n 1, 1) := dw60 (n := 0) (i := 17) kc_cX11_takeOver_0 (by decide +kernel)
theorem dX11_takeOver_18 : decode cX11_takeOver 18 = .ok (.iload_n 1, 1) := dw27 (n := 0) (i := 18) kc_cX11_takeOver_0 (by decide +kernel)
theorem dX11_takeOver_19 : decode cX11_takeOver 19 = .ok (.bipush 30, 2) := dw16 (n := 0) (i := 19) (a := 30) kc_cX11_takeOver_0 (by decide +kernel) (by decide)
theorem dX11_takeOver_21 : decode cX11_takeOver 21 = .ok (.if_icmp .ge 21, 3) := dw162 (n := 0) (i := 21) (a := 0) (b := 21) kc_cX11_takeOver_0 (by decide +kernel) (by decide)
theorem dX11_takeOver_42 : decode cX11_takeOver 42 = .ok (.iconst 0, 1) := dw3 (n := 32) (i := 10) kc_cX11_takeOver_1 (by decide +kernel)
theorem dX11_takeOver_43 : decode cX11_takeOver 43 = .ok (.istore_n 1, 1) := dw60 (n := 32) (i := 11) kc_cX11_takeOver_1 (by decide +kernel)
theorem dX11_takeOver_44 : decode cX11_takeOver 44 = .ok (.iload_n 1, 1) := dw27 (n := 32) (i := 12) kc_cX11_takeOver_1 (by decide +kernel)
theorem dX11_takeOver_45 : decode cX11_takeOver 45 = .ok (.bipush 40, 2) := dw16 (n := 32) (i := 13) (a := 40) kc_cX11_takeOver_1 (by decide +kernel) (by decide)
theorem dX11_takeOver_47 : decode cX11_takeOver 47 = .ok (.if_icmp .ge 33, 3) := dw162 (n := 32) (i := 15) (a := 0) (b := 33) kc_cX11_takeOver_1 (by decide +kernel) (by decide)
theorem dX11_takeOver_80 : decode cX11_takeOver 80 = .ok (.iconst 0, 1) := dw3 (n := 64) (i := 16) kc_cX11_takeOver_2 (by decide +kernel)
theorem dX11_takeOver_81 : decode cX11_takeOver 81 = .ok (.istore_n 1, 1) := dw60 (n := 64) (i := 17) kc_cX11_takeOver_2 (by decide +kernel)
theorem dX11_takeOver_82 : decode cX11_takeOver 82 = .ok (.iload_n 1, 1) := dw27 (n := 64) (i := 18) kc_cX11_takeOver_2 (by decide +kernel)
theorem dX11_takeOver_83 : decode cX11_takeOver 83 = .ok (.sipush 400, 3) := dw17 (n := 64) (i := 19) (a := 1) (b := 144) kc_cX11_takeOver_2 (by decide +kernel) (by decide)
theorem dX11_takeOver_86 : decode cX11_takeOver 86 = .ok (.if_icmp .ge 33, 3) := dw162 (n := 64) (i := 22) (a := 0) (b := 33) kc_cX11_takeOver_2 (by decide +kernel) (by decide)
theorem dX11_takeOver_119 : decode cX11_takeOver 119 = .ok (.return_, 1) := dw177 (n := 96) (i := 23) kc_cX11_takeOver_3 (by decide +kernel)
theorem dX11_takeOver_89 : decode cX11_takeOver 89 = .ok (.aload_n 0, 1) := dw42 (n := 64) (i := 25) kc_cX11_takeOver_2 (by decide +kernel)
theorem dX11_takeOver_90 : decode cX11_takeOver 90 = .ok (.getfield 108, 3) := dw180 (n := 64) (i := 26) (a := 0) (b := 108) kc_cX11_takeOver_2 (by decide +kernel) (by decide)
theorem dX11_takeOver_93 : decode cX11_takeOver 93 = .ok (.iload_n 1, 1) := dw27 (n := 64) (i := 29) kc_cX11_takeOver_2 (by decide +kernel)
theorem dX11_takeOver_94 : decode cX11_takeOver 94 = .ok (.aload_n 0, 1) := dw42 (n := 64) (i := 30) kc_cX11_takeOver_2 (by decide +kernel)
theorem dX11_takeOver_95 : decode cX11_takeOver 95 = .ok (.getfield 74, 3) := dw180 (n := 64) (i := 31) (a := 0) (b := 74) kc_cX11_takeOver_2 (by decide +kernel) (by decide)
theorem dX11_takeOver_98 : decode cX11_takeOver 98 = .ok (.iload_n 1, 1) := dw27 (n := 96) (i := 2) kc_cX11_takeOver_3 (by decide +kernel)
theorem dX11_takeOver_99 : decode cX11_takeOver 99 = .ok (.laload, 1) := dw47 (n := 96) (i := 3) kc_cX11_takeOver_3 (by decide +kernel)
theorem dX11_takeOver_100 : decode cX11_takeOver 100 = .ok (.lastore, 1) := dw80 (n := 96) (i := 4) kc_cX11_takeOver_3 (by decide +kernel)
theorem dX11_takeOver_101 : decode cX11_takeOver 101 = .ok (.aload_n 0, 1) := dw42 (n := 96) (i := 5) kc_cX11_takeOver_3 (by decide +kernel)
theorem dX11_takeOver_102 : decode cX11_takeOver 102 = .ok (.getfield 111, 3) := dw180 (n := 96) (i := 6) (a := 0) (b := 111) kc_cX11_takeOver_3 (by decide +kernel) (by decide)
theorem dX11_takeOver_105 : decode cX11_takeOver 105 = .ok (.iload_n 1, 1) := dw27 (n := 96) (i := 9) kc_cX11_takeOver_3 (by decide +kernel)
theorem dX11_takeOver_106 : decode cX11_takeOver 106 = .ok (.aload_n 0, 1) := dw42 (n := 96) (i := 10) kc_cX11_takeOver_3 (by decide +kernel)
theorem dX11_takeOver_107 : decode cX11_takeOver 107 = .ok (.getfield 78, 3) := dw180 (n := 96) (i := 11) (a := 0) (b := 78) kc_cX11_takeOver_3 (by decide +kernel) (by decide)
theorem dX11_takeOver_110 : decode cX11_takeOver 110 = .ok (.iload_n 1, 1) := dw27 (n := 96) (i := 14) kc_cX11_takeOver_3 (by decide +kernel)
theorem dX11_takeOver_111 : decode cX11_takeOver 111 = .ok (.laload, 1) := dw47 (n := 96) (i := 15) kc_cX11_takeOver_3 (by decide +kernel)
theorem dX11_takeOver_112 : decode cX11_takeOver 112 = .ok (.lastore, 1) := dw80 (n := 96) (i := 16) kc_cX11_takeOver_3 (by decide +kernel)
theorem dX11_takeOver_113 : decode cX11_takeOver 113 = .ok (.iinc 1 1, 3) := by decide +kernel
theorem dX11_takeOver_116 : decode cX11_takeOver 116 = .ok (.goto (-34), 3) := dw167 (n := 96) (i := 20) (a := 255) (b := 222) kc_cX11_takeOver_3 (by decide +kernel) (by decide)
theorem dX11_takeOver_50 : decode cX11_takeOver 50 = .ok (.aload_n 0, 1) := dw42 (n := 32) (i := 18) kc_cX11_takeOver_1 (by decide +kernel)
theorem dX11_takeOver_51 : decode cX11_takeOver 51 = .ok (.getfield 102, 3) := dw180 (n := 32) (i := 19) (a := 0) (b := 102) kc_cX11_takeOver_1 (by decide +kernel) (by decide)
theorem dX11_takeOver_54 : decode cX11_takeOver 54 = .ok (.iload_n 1, 1) := dw27 (n := 32) (i := 22) kc_cX11_takeOver_1 (by decide +kernel)
theorem dX11_takeOver_55 : decode cX11_takeOver 55 = .ok (.aload_n 0, 1) := dw42 (n := 32) (i := 23) kc_cX11_takeOver_1 (by decide +kernel)
theorem dX11_takeOver_56 : decode cX11_takeOver 56 = .ok (.getfield 68, 3) := dw180 (n := 32) (i := 24) (a := 0) (b := 68) kc_cX11_takeOver_1 (by decide +kernel) (by decide)
theorem dX11_takeOver_59 : decode cX11_takeOver 59 = .ok (.iload_n 1, 1) := dw27 (n := 32) (i := 27) kc_cX11_takeOver_1 (by decide +kernel)
theorem dX11_takeOver_60 : decode cX11_takeOver 60 = .ok (.iaload, 1) := dw46 (n := 32) (i := 28) kc_cX11_takeOver_1 (by decide +kernel)
theorem dX11_takeOver_61 : decode cX11_takeOver 61 = .ok (.iastore, 1) := dw79 (n := 32) (i := 29) kc_cX11_takeOver_1 (by decide +kernel)
theorem dX11_takeOver_62 : decode cX11_takeOver 62 = .ok (.aload_n 0, 1) := dw42 (n := 32) (i := 30) kc_cX11_takeOver_1 (by decide +kernel)
theorem dX11_takeOver_63 : decode cX11_takeOver 63 = .ok (.getfield 105, 3) := dw180 (n := 32) (i := 31) (a := 0) (b := 105) kc_cX11_takeOver_1 (by decide +kernel) (by decide)
theorem dX11_takeOver_66 : decode cX11_takeOver 66 = .ok (.iload_n 1, 1) := dw27 (n := 64) (i := 2) kc_cX11_takeOver_2 (by decide +kernel)
theorem dX11_takeOver_67 : decode cX11_takeOver 67 = .ok (.aload_n 0, 1) := dw42 (n := 64) (i := 3) kc_cX11_takeOver_2 (by decide +kernel)
theorem dX11_takeOver_68 : decode cX11_takeOver 68 = .ok (.getfield 71, 3) := dw180 (n := 64) (i := 4) (a := 0) (b := 71) kc_cX11_takeOver_2 (by decide +kernel) (by decide)
theorem dX11_takeOver_71 : decode cX11_takeOver 71 = .ok (.iload_n 1, 1) := dw27 (n := 64) (i := 7) kc_cX11_takeOver_2 (by decide +kernel)
theorem dX11_takeOver_72 : decode cX11_takeOver 72 = .ok (.iaload, 1) := dw46 (n := 64) (i := 8) kc_cX11_takeOver_2 (by decide +kernel)
theorem dX11_takeOver_73 : decode cX11_takeOver 73 = .ok (.iastore, 1) := dw79 (n := 64) (i := 9) kc_cX11_takeOver_2 (by decide +kernel)
theorem dX11_takeOver_74 : decode cX11_takeOver 74 = .ok (.iinc 1 1, 3) := by decide +kernel
theorem dX11_takeOver_77 : decode cX11_takeOver 77 = .ok (.goto (-33), 3) := dw167 (n := 64) (i := 13) (a := 255) (b := 223) kc_cX11_takeOver_2 (by decide +kernel) (by decide)
theorem dX11_takeOver_24 : decode cX11_takeOver 24 = .ok (.aload_n 0, 1) := dw42 (n := 0) (i := 24) kc_cX11_takeOver_0 (by decide +kernel)
theorem dX11_takeOver_25 : decode cX11_takeOver 25 = .ok (.getfield 99, 3) := dw180 (n := 0) (i := 25) (a := 0) (b := 99) kc_cX11_takeOver_0 (by decide +kernel) (by decide)
theorem dX11_takeOver_28 : decode cX11_takeOver 28 = .ok (.iload_n 1, 1) := dw27 (n := 0) (i := 28) kc_cX11_takeOver_0 (by decide +kernel)
theorem dX11_takeOver_29 : decode cX11_takeOver 29 = .ok (.aload_n 0, 1) := dw42 (n := 0) (i := 29) kc_cX11_takeOver_0 (by decide +kernel)
theorem dX11_takeOver_30 : decode cX11_takeOver 30 = .ok (.getfield 65, 3) := dw180 (n := 0) (i := 30) (a := 0) (b := 65) kc_cX11_takeOver_0 (by decide +kernel) (by decide)
theorem dX11_takeOver_33 : decode cX11_takeOver 33 = .ok (.iload_n 1, 1) := dw27 (n := 32) (i := 1) kc_cX11_takeOver_1 (by decide +kernel)
theorem dX11_takeOver_34 : decode cX11_takeOver 34 = .ok (.iaload, 1) := dw46 (n := 32) (i := 2) kc_cX11_takeOver_1 (by decide +kernel)
theorem dX11_takeOver_35 : decode cX11_takeOver 35 = .ok (.iastore, 1) := dw79 (n := 32) (i := 3) kc_cX11_takeOver_1 (by decide +kernel)
theorem dX11_takeOver_36 : decode cX11_takeOver 36 = .ok (.iinc 1 1, 3) := by decide +kernel
theorem dX11_takeOver_39 : decode cX11_takeOver 39 = .ok (.goto (-21), 3) := dw167 (n := 32) (i := 7) (a := 255) (b := 235) kc_cX11_takeOver_1 (by decide +kernel) (by decide)
set_option maxHeartbeats 4000000 in
set_option maxRecDepth 100000 in
theorem s_X11_takeOver (l : Launch) (D : va_G) (ad : Nat → Nat) (cs : Nat → ClassId) (M : MI) (L : ML)  (hI : IR M) : Cv l yX11_takeOver wsX11_takeOver ({ frames := 0, cells := 0, slots := 0, locals := 0 }) D ad cs [.ref (ad 258)] M L (fun M1 L1 => (True) ∧ IR M1 ∧ (∀ k i, ¬ (k = 258 ∧ i = 42) ∧ ¬ (k = 258 ∧ i = 44) ∧ k ≠ 288 ∧ k ≠ 289 ∧ k ≠ 290 → M1 k i = M k i) ∧ ∀ k i, k ≠ 291 ∧ k ≠ 292 → L1 k i = L k i) := by
  refine enter_v RX11 rfl [(0, .ref (ad 258))] rfl (Nat.le_of_ble_eq_true rfl) (by decide +kernel) rfl ?_
  intro p e s m below meth c C hr
  have hF : ∀ k i, ¬ (k = 258 ∧ i = 42) ∧ ¬ (k = 258 ∧ i = 44) ∧ k ≠ 288 ∧ k ≠ 289 ∧ k ≠ 290 → M k i = M k i := fun _ _ _ => rfl
  have hG : ∀ k i, k ≠ 291 ∧ k ≠ 292 → L k i = L k i := fun _ _ _ => rfl
  have k42 : M 258 42 = M 258 42 := rfl
  have k44 : M 258 44 = M 258 44 := rfl
  have p291 : L 291 = L 291 := rfl
  have p292 : L 292 = L 292 := rfl
  have q288 : M 288 = M 288 := rfl
  have q289 : M 289 = M 289 := rfl
  have q290 : M 290 = M 290 := rfl
  refine g_aload_n C 0 dX11_takeOver_0 rfl ?_
  refine g_aload_n C 0 dX11_takeOver_1 rfl ?_
  refine g_get C (.int (M 258 29)) 29 in_X11_takeOver_11 (List.mem_of_getElem? (i := 1) rfl) (by decide) (ce_model ad cs _ _) rfl (by decide) rfl rfl dX11_takeOver_2 ?_
  refine g_ni (fun v1 ev1 => ?_)
  have gv1 : v1 = M 258 29 := ev1
  have tv1 := congrArg Int32.toInt gv1
  obtain ⟨bv1, dv1⟩ := (show rg 0 30 v1 from (by rw [ev1]; exact hI 258 29))
  refine g_putI C 42 in_X11_takeOver_11 (List.mem_of_getElem? (i := 2) rfl) (by decide) (ce_model ad cs _ _) rfl (by decide) rfl tyX11 tyX11_ok nmX11 rfl rfl rfl rfl (Nat.le_of_ble_eq_true rfl) (by rw [sI_k]; rfl) dX11_takeOver_5 ?_
  refine g_nm (fun M2 hM2 => ?_)
  have hI : IR M2 := by rw [hM2]; exact hI.st (show bR 258 42 _ from ⟨by first | omega | decide, by first | omega | decide⟩)
  have hF : ∀ k i, ¬ (k = 258 ∧ i = 42) ∧ ¬ (k = 258 ∧ i = 44) ∧ k ≠ 288 ∧ k ≠ 289 ∧ k ≠ 290 → M2 k i = M k i := fun k i hk => by (rw [hM2, sI_at, if_neg (by omega)]; try exact hF k i hk)
  have k44 : M2 258 44 = M 258 44 := by rw [hM2, sI_at, if_neg (by decide)]; try exact k44
  have k42 : M2 258 42 = v1 := by rw [hM2, sI_at, if_pos (by decide)]
  have q288 : M2 288 = M 288 := by rw [hM2, sI_n _ _ _ (by decide)]; try exact q288
  have q289 : M2 289 = M 289 := by rw [hM2, sI_n _ _ _ (by decide)]; try exact q289
  have q290 : M2 290 = M 290 := by rw [hM2, sI_n _ _ _ (by decide)]; try exact q290
  refine g_aload_n C 0 dX11_takeOver_8 rfl ?_
  refine g_aload_n C 0 dX11_takeOver_9 rfl ?_
  refine g_get C (.int (M2 258 31)) 31 in_X11_takeOver_11 (List.mem_of_getElem? (i := 3) rfl) (by decide) (ce_model ad cs _ _) rfl (by decide) rfl rfl dX11_takeOver_10 ?_
  refine g_ni (fun v3 ev3 => ?_)
  have gv3 : v3 = M 258 31 := ev3.trans (hF 258 31 (by omega))
  have tv3 := congrArg Int32.toInt gv3
  obtain ⟨bv3, dv3⟩ := (show rg 0 40 v3 from (by rw [ev3]; exact hI 258 31))
  refine g_putI C 44 in_X11_takeOver_11 (List.mem_of_getElem? (i := 4) rfl) (by decide) (ce_model ad cs _ _) rfl (by decide) rfl tyX11 tyX11_ok nmX11 rfl rfl rfl rfl (Nat.le_of_ble_eq_true rfl) (by rw [sI_k]; rfl) dX11_takeOver_13 ?_
  refine g_nm (fun M4 hM4 => ?_)
  have hI : IR M4 := by rw [hM4]; exact hI.st (show bR 258 44 _ from ⟨by first | omega | decide, by first | omega | decide⟩)
  have hF : ∀ k i, ¬ (k = 258 ∧ i = 42) ∧ ¬ (k = 258 ∧ i = 44) ∧ k ≠ 288 ∧ k ≠ 289 ∧ k ≠ 290 → M4 k i = M k i := fun k i hk => by (rw [hM4, sI_at, if_neg (by omega)]; try exact hF k i hk)
  have k42 : M4 258 42 = v1 := by rw [hM4, sI_at, if_neg (by decide)]; try exact k42
  have k44 : M4 258 44 = v3 := by rw [hM4, sI_at, if_pos (by decide)]
  have q288 : M4 288 = M 288 := by rw [hM4, sI_n _ _ _ (by decide)]; try exact q288
  have q289 : M4 289 = M 289 := by rw [hM4, sI_n _ _ _ (by decide)]; try exact q289
  have q290 : M4 290 = M 290 := by rw [hM4, sI_n _ _ _ (by decide)]; try exact q290
  refine g_iconst C 0 dX11_takeOver_16 (by decide) ?_
  refine g_istore_n C [(1, .int 0), (0, .ref (ad 258))] dX11_takeOver_17 (by decide) rfl ?_
  have zy5 : (0 : Int32).toInt = 0 := by decide
  refine g_loop (α := Int32 × MI × ML) (fun a => (31 - a.1.toInt).toNat) (fun a => (0 ≤ a.1.toInt) ∧ (a.1.toInt ≤ 30) ∧ IR a.2.1 ∧ (∀ k i, ¬ (k = 258 ∧ i = 42) ∧ ¬ (k = 258 ∧ i = 44) ∧ k ≠ 288 ∧ k ≠ 289 ∧ k ≠ 290 → a.2.1 k i = M k i) ∧ (∀ k i, k ≠ 291 ∧ k ≠ 292 → a.2.2 k i = L k i)) (fun a => a.2.1) (fun a => a.2.2) (fun a => [(1, .int a.1), (0, .ref (ad 258))]) ((0 : Int32), M4, L) ⟨by show 0 ≤ (0 : Int32).toInt; omega, by show (0 : Int32).toInt ≤ 30; omega, hI, hF, hG⟩ rfl rfl rfl ?_
  rintro ⟨x1_18, M_18, L_18⟩ ⟨j18_0, j18_1, hI, hF, hG⟩ ih_18
  dsimp only at j18_0 j18_1 hI hF hG ih_18 ⊢
  have k42 : M_18 258 42 = M_18 258 42 := rfl
  have k44 : M_18 258 44 = M_18 258 44 := rfl
  have p291 : L_18 291 = L_18 291 := rfl
  have p292 : L_18 292 = L_18 292 := rfl
  have q288 : M_18 288 = M_18 288 := rfl
  have q289 : M_18 289 = M_18 289 := rfl
  have q290 : M_18 290 = M_18 290 := rfl
  refine g_iload_n C 0 dX11_takeOver_18 rfl ?_
  refine g_bipush C 30 dX11_takeOver_19 (by decide) ?_
  refine g_icmp_ge C 42 dX11_takeOver_21 (by decide) (fun c6 => ?_) (fun c6 => ?_)
  ·
    have f7 := fle (by decide : (30 : Int32).toInt = 30) rfl c6
    refine g_iconst C 0 dX11_takeOver_42 (by decide) ?_
    refine g_istore_n C [(1, .int 0), (0, .ref (ad 258))] dX11_takeOver_43 (by decide) rfl ?_
    have zy8 : (0 : Int32).toInt = 0 := by decide
    refine g_loop (α := Int32 × MI × ML) (fun a => (41 - a.1.toInt).toNat) (fun a => (0 ≤ a.1.toInt) ∧ (a.1.toInt ≤ 40) ∧ IR a.2.1 ∧ (∀ k i, ¬ (k = 258 ∧ i = 42) ∧ ¬ (k = 258 ∧ i = 44) ∧ k ≠ 288 ∧ k ≠ 289 ∧ k ≠ 290 → a.2.1 k i = M k i) ∧ (∀ k i, k ≠ 291 ∧ k ≠ 292 → a.2.2 k i = L k i)) (fun a => a.2.1) (fun a => a.2.2) (fun a => [(1, .int a.1), (0, .ref (ad 258))]) ((0 : Int32), M_18, L_18) ⟨by show 0 ≤ (0 : Int32).toInt; omega, by show (0 : Int32).toInt ≤ 40; omega, hI, hF, hG⟩ rfl rfl rfl ?_
    rintro ⟨x1_44, M_44, L_44⟩ ⟨j44_0, j44_1, hI, hF, hG⟩ ih_44
    dsimp only at j44_0 j44_1 hI hF hG ih_44 ⊢
    have k42 : M_44 258 42 = M_44 258 42 := rfl
    have k44 : M_44 258 44 = M_44 258 44 := rfl
    have p291 : L_44 291 = L_44 291 := rfl
    have p292 : L_44 292 = L_44 292 := rfl
    have q288 : M_44 288 = M_44 288 := rfl
    have q289 : M_44 289 = M_44 289 := rfl
    have q290 : M_44 290 = M_44 290 := rfl
    refine g_iload_n C 0 dX11_takeOver_44 rfl ?_
    refine g_bipush C 40 dX11_takeOver_45 (by decide) ?_
    refine g_icmp_ge C 80 dX11_takeOver_47 (by decide) (fun c9 => ?_) (fun c9 => ?_)
    ·
      have f10 := fle (by decide : (40 : Int32).toInt = 40) rfl c9
      refine g_iconst C 0 dX11_takeOver_80 (by decide) ?_
      refine g_istore_n C [(1, .int 0), (0, .ref (ad 258))] dX11_takeOver_81 (by decide) rfl ?_
      have zy11 : (0 : Int32).toInt = 0 := by decide
      refine g_loop (α := Int32 × MI × ML) (fun a => (401 - a.1.toInt).toNat) (fun a => (0 ≤ a.1.toInt) ∧ (a.1.toInt ≤ 400) ∧ IR a.2.1 ∧ (∀ k i, ¬ (k = 258 ∧ i = 42) ∧ ¬ (k = 258 ∧ i = 44) ∧ k ≠ 288 ∧ k ≠ 289 ∧ k ≠ 290 → a.2.1 k i = M k i) ∧ (∀ k i, k ≠ 291 ∧ k ≠ 292 → a.2.2 k i = L k i)) (fun a => a.2.1) (fun a => a.2.2) (fun a => [(1, .int a.1), (0, .ref (ad 258))]) ((0 : Int32), M_44, L_44) ⟨by show 0 ≤ (0 : Int32).toInt; omega, by show (0 : Int32).toInt ≤ 400; omega, hI, hF, hG⟩ rfl rfl rfl ?_
      rintro ⟨x1_82, M_82, L_82⟩ ⟨j82_0, j82_1, hI, hF, hG⟩ ih_82
      dsimp only at j82_0 j82_1 hI hF hG ih_82 ⊢
      have k42 : M_82 258 42 = M_82 258 42 := rfl
      have k44 : M_82 258 44 = M_82 258 44 := rfl
      have p291 : L_82 291 = L_82 291 := rfl
      have p292 : L_82 292 = L_82 292 := rfl
      have q288 : M_82 288 = M_82 288 := rfl
      have q289 : M_82 289 = M_82 289 := rfl
      have q290 : M_82 290 = M_82 290 := rfl
      refine g_iload_n C 0 dX11_takeOver_82 rfl ?_
      refine g_sipush C 400 dX11_takeOver_83 (by decide) ?_
      refine g_icmp_ge C 119 dX11_takeOver_86 (by decide) (fun c12 => ?_) (fun c12 => ?_)
      ·
        have f13 := fle (by decide : (400 : Int32).toInt = 400) rfl c12
        exact g_vret C hr ⟨trivial, hI, hF, hG⟩ dX11_takeOver_119
      ·
        have f14 := fnle (by decide : (400 : Int32).toInt = 400) rfl c12
        refine g_aload_n C 1 dX11_takeOver_89 rfl ?_
        refine g_get C (.ref (ad 291)) 47 in_X11_takeOver_11 (List.mem_of_getElem? (i := 11) rfl) (by decide) (ce_model ad cs _ _) rfl (by decide) rfl rfl dX11_takeOver_90 ?_
        refine g_iload_n C 0 dX11_takeOver_93 rfl ?_
        refine g_aload_n C 1 dX11_takeOver_94 rfl ?_
        refine g_get C (.ref (ad 280)) 34 in_X11_takeOver_11 (List.mem_of_getElem? (i := 12) rfl) (by decide) (ce_model ad cs _ _) rfl (by decide) rfl rfl dX11_takeOver_95 ?_
        refine g_iload_n C 0 dX11_takeOver_98 rfl ?_
        refine g_lald C (by decide) (ce_m_tallyUp ad cs _ _) (fin' (n := 400) rfl (by omega) (by omega)) dX11_takeOver_99 ?_
        refine g_nl (fun v15 ev15 => ?_)
        have gv15 : v15 = L 280 x1_82.toNatClampNeg := ev15.trans (hG 280 _ (by omega))
        have tv15 := congrArg Int64.toInt gv15
        refine g_last C (by decide) (ce_m_toldUp ad cs _ _) (by rw [sJ_k]; rfl) (fin' (n := 400) rfl (by omega) (by omega)) dX11_takeOver_100 ?_
        refine g_nmL (fun L16 hL16 => ?_)
        have hG : ∀ k i, k ≠ 291 ∧ k ≠ 292 → L16 k i = L k i := fun k i hk => by (rw [hL16, sJ_at, if_neg (by omega)]; try exact hG k i hk)
        have p292 : L16 292 = L_82 292 := by rw [hL16, sJ_n _ _ _ (by decide)]; try exact p292
        refine g_aload_n C 1 dX11_takeOver_101 rfl ?_
        refine g_get C (.ref (ad 292)) 48 in_X11_takeOver_11 (List.mem_of_getElem? (i := 13) rfl) (by decide) (ce_model ad cs _ _) rfl (by decide) rfl rfl dX11_takeOver_102 ?_
        refine g_iload_n C 0 dX11_takeOver_105 rfl ?_
        refine g_aload_n C 1 dX11_takeOver_106 rfl ?_
        refine g_get C (.ref (ad 281)) 35 in_X11_takeOver_11 (List.mem_of_getElem? (i := 14) rfl) (by decide) (ce_model ad cs _ _) rfl (by decide) rfl rfl dX11_takeOver_107 ?_
        refine g_iload_n C 0 dX11_takeOver_110 rfl ?_
        refine g_lald C (by decide) (ce_m_tallyDown ad cs _ _) (fin' (n := 400) rfl (by omega) (by omega)) dX11_takeOver_111 ?_
        refine g_nl (fun v17 ev17 => ?_)
        have gv17 : v17 = L 281 x1_82.toNatClampNeg := ev17.trans (hG 281 _ (by omega))
        have tv17 := congrArg Int64.toInt gv17
        refine g_last C (by decide) (ce_m_toldDown ad cs _ _) (by rw [sJ_k]; rfl) (fin' (n := 400) rfl (by omega) (by omega)) dX11_takeOver_112 ?_
        refine g_nmL (fun L18 hL18 => ?_)
        have hG : ∀ k i, k ≠ 291 ∧ k ≠ 292 → L18 k i = L k i := fun k i hk => by (rw [hL18, sJ_at, if_neg (by omega)]; try exact hG k i hk)
        obtain ⟨v19, ev19⟩ : ∃ y : Int32, y = x1_82 + 1 := ⟨_, rfl⟩
        try have fv19 := fadd rfl (by decide : (1 : Int32).toInt = 1) ev19 (by omega) (by omega)
        refine g_iinc C 0 v19 [(1, .int v19), (0, .ref (ad 258))] dX11_takeOver_113 rfl (by rw [ev19]; rfl) (by decide) rfl ?_
        refine g_goto C 82 dX11_takeOver_116 (by decide) ?_
        exact ih_82 (v19, M_82, L18) ⟨by show 0 ≤ v19.toInt; omega, by show v19.toInt ≤ 400; omega, hI, hF, hG⟩ (by show (401 - v19.toInt).toNat < (401 - x1_82.toInt).toNat; omega)
    ·
      have f20 := fnle (by decide : (40 : Int32).toInt = 40) rfl c9
      refine g_aload_n C 1 dX11_takeOver_50 rfl ?_
      refine g_get C (.ref (ad 289)) 45 in_X11_takeOver_11 (List.mem_of_getElem? (i := 7) rfl) (by decide) (ce_model ad cs _ _) rfl (by decide) rfl rfl dX11_takeOver_51 ?_
      refine g_iload_n C 0 dX11_takeOver_54 rfl ?_
      refine g_aload_n C 1 dX11_takeOver_55 rfl ?_
      refine g_get C (.ref (ad 278)) 32 in_X11_takeOver_11 (List.mem_of_getElem? (i := 8) rfl) (by decide) (ce_model ad cs _ _) rfl (by decide) rfl rfl dX11_takeOver_56 ?_
      refine g_iload_n C 0 dX11_takeOver_59 rfl ?_
      refine g_iald C (by decide) (ce_m_roundWhat ad cs _ _) (fin' (n := 40) rfl (by omega) (by omega)) dX11_takeOver_60 ?_
      refine g_ni (fun v21 ev21 => ?_)
      have gv21 : v21 = M 278 x1_44.toNatClampNeg := ev21.trans (hF 278 x1_44.toNatClampNeg (by omega))
      have tv21 := congrArg Int32.toInt gv21
      refine g_iast C (by decide) (ce_m_toldWhat ad cs _ _) (by rw [sI_k]; rfl) (fin' (n := 40) rfl (by omega) (by omega)) dX11_takeOver_61 ?_
      refine g_nm (fun M22 hM22 => ?_)
      have hI : IR M22 := by rw [hM22]; exact hI.st (show bR 289 _ _ from trivial)
      have hF : ∀ k i, ¬ (k = 258 ∧ i = 42) ∧ ¬ (k = 258 ∧ i = 44) ∧ k ≠ 288 ∧ k ≠ 289 ∧ k ≠ 290 → M22 k i = M k i := fun k i hk => by (rw [hM22, sI_at, if_neg (by omega)]; try exact hF k i hk)
      have k42 : M22 258 42 = M_44 258 42 := by rw [hM22, sI_n _ _ _ (by decide)]; try exact k42
      have k44 : M22 258 44 = M_44 258 44 := by rw [hM22, sI_n _ _ _ (by decide)]; try exact k44
      have q288 : M22 288 = M_44 288 := by rw [hM22, sI_n _ _ _ (by decide)]; try exact q288
      have q290 : M22 290 = M_44 290 := by rw [hM22, sI_n _ _ _ (by decide)]; try exact q290
      refine g_aload_n C 1 dX11_takeOver_62 rfl ?_
      refine g_get C (.ref (ad 290)) 46 in_X11_takeOver_11 (List.mem_of_getElem? (i := 9) rfl) (by decide) (ce_model ad cs _ _) rfl (by decide) rfl rfl dX11_takeOver_63 ?_
      refine g_iload_n C 0 dX11_takeOver_66 rfl ?_
      refine g_aload_n C 1 dX11_takeOver_67 rfl ?_
      refine g_get C (.ref (ad 279)) 33 in_X11_takeOver_11 (List.mem_of_getElem? (i := 10) rfl) (by decide) (ce_model ad cs _ _) rfl (by decide) rfl rfl dX11_takeOver_68 ?_
      refine g_iload_n C 0 dX11_takeOver_71 rfl ?_
      refine g_iald C (by decide) (ce_m_roundWho ad cs _ _) (fin' (n := 40) rfl (by omega) (by omega)) dX11_takeOver_72 ?_
      refine g_ni (fun v23 ev23 => ?_)
      have gv23 : v23 = M 279 x1_44.toNatClampNeg := ev23.trans (hF 279 x1_44.toNatClampNeg (by omega))
      have tv23 := congrArg Int32.toInt gv23
      refine g_iast C (by decide) (ce_m_toldWho ad cs _ _) (by rw [sI_k]; rfl) (fin' (n := 40) rfl (by omega) (by omega)) dX11_takeOver_73 ?_
      refine g_nm (fun M24 hM24 => ?_)
      have hI : IR M24 := by rw [hM24]; exact hI.st (show bR 290 _ _ from trivial)
      have hF : ∀ k i, ¬ (k = 258 ∧ i = 42) ∧ ¬ (k = 258 ∧ i = 44) ∧ k ≠ 288 ∧ k ≠ 289 ∧ k ≠ 290 → M24 k i = M k i := fun k i hk => by (rw [hM24, sI_at, if_neg (by omega)]; try exact hF k i hk)
      have k42 : M24 258 42 = M_44 258 42 := by rw [hM24, sI_n _ _ _ (by decide)]; try exact k42
      have k44 : M24 258 44 = M_44 258 44 := by rw [hM24, sI_n _ _ _ (by decide)]; try exact k44
      have q288 : M24 288 = M_44 288 := by rw [hM24, sI_n _ _ _ (by decide)]; try exact q288
      obtain ⟨v25, ev25⟩ : ∃ y : Int32, y = x1_44 + 1 := ⟨_, rfl⟩
      try have fv25 := fadd rfl (by decide : (1 : Int32).toInt = 1) ev25 (by omega) (by omega)
      refine g_iinc C 0 v25 [(1, .int v25), (0, .ref (ad 258))] dX11_takeOver_74 rfl (by rw [ev25]; rfl) (by decide) rfl ?_
      refine g_goto C 44 dX11_takeOver_77 (by decide) ?_
      exact ih_44 (v25, M24, L_44) ⟨by show 0 ≤ v25.toInt; omega, by show v25.toInt ≤ 40; omega, hI, hF, hG⟩ (by show (41 - v25.toInt).toNat < (41 - x1_44.toInt).toNat; omega)
  ·
    have f26 := fnle (by decide : (30 : Int32).toInt = 30) rfl c6
    refine g_aload_n C 1 dX11_takeOver_24 rfl ?_
    refine g_get C (.ref (ad 288)) 43 in_X11_takeOver_11 (List.mem_of_getElem? (i := 5) rfl) (by decide) (ce_model ad cs _ _) rfl (by decide) rfl rfl dX11_takeOver_25 ?_
    refine g_iload_n C 0 dX11_takeOver_28 rfl ?_
    refine g_aload_n C 1 dX11_takeOver_29 rfl ?_
    refine g_get C (.ref (ad 277)) 30 in_X11_takeOver_11 (List.mem_of_getElem? (i := 6) rfl) (by decide) (ce_model ad cs _ _) rfl (by decide) rfl rfl dX11_takeOver_30 ?_
    refine g_iload_n C 0 dX11_takeOver_33 rfl ?_
    refine g_iald C (by decide) (ce_m_seat ad cs _ _) (fin' (n := 30) rfl (by omega) (by omega)) dX11_takeOver_34 ?_
    refine g_ni (fun v27 ev27 => ?_)
    have gv27 : v27 = M 277 x1_18.toNatClampNeg := ev27.trans (hF 277 x1_18.toNatClampNeg (by omega))
    have tv27 := congrArg Int32.toInt gv27
    refine g_iast C (by decide) (ce_m_toldSeat ad cs _ _) (by rw [sI_k]; rfl) (fin' (n := 30) rfl (by omega) (by omega)) dX11_takeOver_35 ?_
    refine g_nm (fun M28 hM28 => ?_)
    have hI : IR M28 := by rw [hM28]; exact hI.st (show bR 288 _ _ from trivial)
    have hF : ∀ k i, ¬ (k = 258 ∧ i = 42) ∧ ¬ (k = 258 ∧ i = 44) ∧ k ≠ 288 ∧ k ≠ 289 ∧ k ≠ 290 → M28 k i = M k i := fun k i hk => by (rw [hM28, sI_at, if_neg (by omega)]; try exact hF k i hk)
    have k42 : M28 258 42 = M_18 258 42 := by rw [hM28, sI_n _ _ _ (by decide)]; try exact k42
    have k44 : M28 258 44 = M_18 258 44 := by rw [hM28, sI_n _ _ _ (by decide)]; try exact k44
    have q289 : M28 289 = M_18 289 := by rw [hM28, sI_n _ _ _ (by decide)]; try exact q289
    have q290 : M28 290 = M_18 290 := by rw [hM28, sI_n _ _ _ (by decide)]; try exact q290
    obtain ⟨v29, ev29⟩ : ∃ y : Int32, y = x1_18 + 1 := ⟨_, rfl⟩
    try have fv29 := fadd rfl (by decide : (1 : Int32).toInt = 1) ev29 (by omega) (by omega)
    refine g_iinc C 0 v29 [(1, .int v29), (0, .ref (ad 258))] dX11_takeOver_36 rfl (by rw [ev29]; rfl) (by decide) rfl ?_
    refine g_goto C 18 dX11_takeOver_39 (by decide) ?_
    exact ih_18 (v29, M28, L_18) ⟨by show 0 ≤ v29.toInt; omega, by show v29.toInt ≤ 30; omega, hI, hF, hG⟩ (by show (31 - v29.toInt).toNat < (31 - x1_18.toInt).toNat; omega)
theorem dX11_unlikeAt_0 : decode cX11_unlikeAt 0 = .ok (.iload_n 1, 1) := dw27 (n := 0) (i := 0) kc_cX11_unlikeAt_0 (by decide +kernel)
theorem dX11_unlikeAt_1 : decode cX11_unlikeAt 1 = .ok (.iconst 1, 1) := dw4 (n := 0) (i := 1) kc_cX11_unlikeAt_0 (by decide +kernel)
theorem dX11_unlikeAt_2 : decode cX11_unlikeAt 2 = .ok (.if_icmp .ne 7, 3) := dw160 (n := 0) (i := 2) (a := 0) (b := 7) kc_cX11_unlikeAt_0 (by decide +kernel) (by decide)
theorem dX11_unlikeAt_9 : decode cX11_unlikeAt 9 = .ok (.iconst 1, 1) := dw4 (n := 0) (i := 9) kc_cX11_unlikeAt_0 (by decide +kernel)
theorem dX11_unlikeAt_10 : decode cX11_unlikeAt 10 = .ok (.istore_n 3, 1) := dw62 (n := 0) (i := 10) kc_cX11_unlikeAt_0 (by decide +kernel)
theorem dX11_unlikeAt_11 : decode cX11_unlikeAt 11 = .ok (.iconst 0, 1) := dw3 (n := 0) (i := 11) kc_cX11_unlikeAt_0 (by decide +kernel)
theorem dX11_unlikeAt_12 : decode cX11_unlikeAt 12 = .ok (.istore 4, 2) := dw54 (n := 0) (i := 12) (a := 4) kc_cX11_unlikeAt_0 (by decide +kernel) (by decide)
theorem dX11_unlikeAt_14 : decode cX11_unlikeAt 14 = .ok (.iload 4, 2) := dw21 (n := 0) (i := 14) (a := 4) kc_cX11_unlikeAt_0 (by decide +kernel) (by decide)
theorem dX11_unlikeAt_16 : decode cX11_unlikeAt 16 = .ok (.aload_n 0, 1) := dw42 (n := 0) (i := 16) kc_cX11_unlikeAt_0 (by decide +kernel)
theorem dX11_unlikeAt_17 : decode cX11_unlikeAt 17 = .ok (.getfield 31, 3) := dw180 (n := 0) (i := 17) (a := 0) (b := 31) kc_cX11_unlikeAt_0 (by decide +kernel) (by decide)
theorem in_X11_unlikeAt_11 : ∀ w ∈ u_ws RX11 TX11 53, w ∈ wsX11_unlikeAt := fun _ h => List.mem_cons_of_mem _ (List.mem_append_right _ h)
theorem dX11_unlikeAt_20 : decode cX11_unlikeAt 20 = .ok (.iload_n 2, 1) := dw28 (n := 0) (i := 20) kc_cX11_unlikeAt_0 (by decide +kernel)
theorem dX11_unlikeAt_21 : decode cX11_unlikeAt 21 = .ok (.iaload, 1) := dw46 (n := 0) (i := 21) kc_cX11_unlikeAt_0 (by decide +kernel)
theorem dX11_unlikeAt_22 : decode cX11_unlikeAt 22 = .ok (.if_icmp .ge 47, 3) := dw162 (n := 0) (i := 22) (a := 0) (b := 47) kc_cX11_unlikeAt_0 (by decide +kernel) (by decide)
theorem dX11_unlikeAt_69 : decode cX11_unlikeAt 69 = .ok (.bipush (-9), 2) := dw16 (n := 64) (i := 5) (a := 247) kc_cX11_unlikeAt_2 (by decide +kernel) (by decide)
theorem dX11_unlikeAt_71 : decode cX11_unlikeAt 71 = .ok (.ireturn, 1) := dw172 (n := 64) (i := 7) kc_cX11_unlikeAt_2 (by decide +kernel)
theorem dX11_unlikeAt_25 : decode cX11_unlikeAt 25 = .ok (.aload_n 0, 1) := dw42 (n := 0) (i := 25) kc_cX11_unlikeAt_0 (by decide +kernel)
theorem dX11_unlikeAt_26 : decode cX11_unlikeAt 26 = .ok (.getfield 34, 3) := dw180 (n := 0) (i := 26) (a := 0) (b := 34) kc_cX11_unlikeAt_0 (by decide +kernel) (by decide)
theorem dX11_unlikeAt_29 : decode cX11_unlikeAt 29 = .ok (.bipush 40, 2) := dw16 (n := 0) (i := 29) (a := 40) kc_cX11_unlikeAt_0 (by decide +kernel) (by decide)
theorem dX11_unlikeAt_31 : decode cX11_unlikeAt 31 = .ok (.iload_n 2, 1) := dw28 (n := 0) (i := 31) kc_cX11_unlikeAt_0 (by decide +kernel)
theorem dX11_unlikeAt_32 : decode cX11_unlikeAt 32 = .ok (.imul, 1) := dw104 (n := 32) (i := 0) kc_cX11_unlikeAt_1 (by decide +kernel)
theorem dX11_unlikeAt_33 : decode cX11_unlikeAt 33 = .ok (.iload 4, 2) := dw21 (n := 32) (i := 1) (a := 4) kc_cX11_unlikeAt_1 (by decide +kernel) (by decide)
theorem dX11_unlikeAt_35 : decode cX11_unlikeAt 35 = .ok (.iadd, 1) := dw96 (n := 32) (i := 3) kc_cX11_unlikeAt_1 (by decide +kernel)
theorem dX11_unlikeAt_36 : decode cX11_unlikeAt 36 = .ok (.iaload, 1) := dw46 (n := 32) (i := 4) kc_cX11_unlikeAt_1 (by decide +kernel)
theorem dX11_unlikeAt_37 : decode cX11_unlikeAt 37 = .ok (.istore 5, 2) := dw54 (n := 32) (i := 5) (a := 5) kc_cX11_unlikeAt_1 (by decide +kernel) (by decide)
theorem dX11_unlikeAt_39 : decode cX11_unlikeAt 39 = .ok (.iload 5, 2) := dw21 (n := 32) (i := 7) (a := 5) kc_cX11_unlikeAt_1 (by decide +kernel) (by decide)
theorem dX11_unlikeAt_41 : decode cX11_unlikeAt 41 = .ok (.bipush (-9), 2) := dw16 (n := 32) (i := 9) (a := 247) kc_cX11_unlikeAt_1 (by decide +kernel) (by decide)
theorem dX11_unlikeAt_43 : decode cX11_unlikeAt 43 = .ok (.if_icmp .eq 20, 3) := dw159 (n := 32) (i := 11) (a := 0) (b := 20) kc_cX11_unlikeAt_1 (by decide +kernel) (by decide)
theorem dX11_unlikeAt_63 : decode cX11_unlikeAt 63 = .ok (.iinc 4 1, 3) := by decide +kernel
theorem dX11_unlikeAt_66 : decode cX11_unlikeAt 66 = .ok (.goto (-52), 3) := dw167 (n := 64) (i := 2) (a := 255) (b := 204) kc_cX11_unlikeAt_2 (by decide +kernel) (by decide)
theorem dX11_unlikeAt_46 : decode cX11_unlikeAt 46 = .ok (.aload_n 0, 1) := dw42 (n := 32) (i := 14) kc_cX11_unlikeAt_1 (by decide +kernel)
theorem dX11_unlikeAt_47 : decode cX11_unlikeAt 47 = .ok (.getfield 16, 3) := dw180 (n := 32) (i := 15) (a := 0) (b := 16) kc_cX11_unlikeAt_1 (by decide +kernel) (by decide)
theorem dX11_unlikeAt_50 : decode cX11_unlikeAt 50 = .ok (.iload 5, 2) := dw21 (n := 32) (i := 18) (a := 5) kc_cX11_unlikeAt_1 (by decide +kernel) (by decide)
theorem dX11_unlikeAt_52 : decode cX11_unlikeAt 52 = .ok (.iaload, 1) := dw46 (n := 32) (i := 20) kc_cX11_unlikeAt_1 (by decide +kernel)
theorem dX11_unlikeAt_53 : decode cX11_unlikeAt 53 = .ok (.iload_n 3, 1) := dw29 (n := 32) (i := 21) kc_cX11_unlikeAt_1 (by decide +kernel)
theorem dX11_unlikeAt_54 : decode cX11_unlikeAt 54 = .ok (.invokestatic 151, 3) := dw184 (n := 32) (i := 22) (a := 0) (b := 151) kc_cX11_unlikeAt_1 (by decide +kernel) (by decide)
set_option maxRecDepth 20000 in
theorem ggX11_unlikeAt_X11_isOf : GoodIn wsX11_unlikeAt wsX11_isOf := (gk_code 7 rfl (gn))
set_option maxRecDepth 20000 in
theorem gX11_unlikeAt_X11_isOf : GoodIn wsX11_unlikeAt (va_wsS RX11 151 yX11_isOf wsX11_isOf) := goodIn_app (gk_methodLink 4 rfl (gk_static 5 rfl (gk_initialized 6 rfl (gn)))) ggX11_unlikeAt_X11_isOf
theorem dX11_unlikeAt_57 : decode cX11_unlikeAt 57 = .ok (.ifCond .ne 6, 3) := dw154 (n := 32) (i := 25) (a := 0) (b := 6) kc_cX11_unlikeAt_1 (by decide +kernel) (by decide)
theorem dX11_unlikeAt_60 : decode cX11_unlikeAt 60 = .ok (.iload 4, 2) := dw21 (n := 32) (i := 28) (a := 4) kc_cX11_unlikeAt_1 (by decide +kernel) (by decide)
theorem dX11_unlikeAt_62 : decode cX11_unlikeAt 62 = .ok (.ireturn, 1) := dw172 (n := 32) (i := 30) kc_cX11_unlikeAt_1 (by decide +kernel)
theorem dX11_unlikeAt_5 : decode cX11_unlikeAt 5 = .ok (.iconst 3, 1) := dw6 (n := 0) (i := 5) kc_cX11_unlikeAt_0 (by decide +kernel)
theorem dX11_unlikeAt_6 : decode cX11_unlikeAt 6 = .ok (.goto 4, 3) := dw167 (n := 0) (i := 6) (a := 0) (b := 4) kc_cX11_unlikeAt_0 (by decide +kernel) (by decide)
set_option maxHeartbeats 4000000 in
set_option maxRecDepth 100000 in
theorem s_X11_unlikeAt (l : Launch) (D : va_G) (ad : Nat → Nat) (cs : Nat → ClassId) (M : MI) (L : ML) (x : Int32) (y : Int32) (hI : IR M) (hy : hasX (vR M) y) : Ci l yX11_unlikeAt wsX11_unlikeAt ({ frames := 1, cells := 0, slots := 0, locals := 21 }) D ad cs [.ref (ad 258), .int x, .int y] M L (fun r M1 L1 => M1 = M ∧ L1 = L ∧ (r = unV (vR M) y x ∧ (r.toInt = -9 ∨ (0 ≤ r.toInt ∧ r.toInt < 40)))) := by
  refine enter_i RX11 rfl [(0, .ref (ad 258)), (1, .int x), (2, .int y)] rfl (Nat.le_of_ble_eq_true rfl) (by decide +kernel) rfl ?_
  intro p e s m below meth c C hr
  have hF : ∀ k i, True → M k i = M k i := fun _ _ _ => rfl
  have hG : ∀ k i, True → L k i = L k i := fun _ _ _ => rfl
  have w0 : (vR M 0 0).toInt = (M 258 2).toInt := rfl
  have w1 : (vR M 0 1).toInt = (M 258 4).toInt := rfl
  have w2 : (vR M 0 2).toInt = (M 258 9).toInt := rfl
  have w3 : (vR M 0 3).toInt = (M 258 14).toInt := rfl
  obtain ⟨y0a, y0b⟩ := (show rg 0 10 (M 258 2) from hI 258 2)
  obtain ⟨y1a, y1b⟩ := (show rg 0 60 (M 258 4) from hI 258 4)
  obtain ⟨y2a, y2b⟩ := (show rg 0 8 (M 258 9) from hI 258 9)
  obtain ⟨y3a, y3b⟩ := (show rg 0 20 (M 258 14) from hI 258 14)
  obtain ⟨hy1, hy2⟩ := hy
  obtain ⟨sa, sb⟩ := (show rg 0 40 (vR M 7 y.toNatClampNeg) from hI 266 _)
  have ns := ixn (x := vR M 7 y.toNatClampNeg) sa
  have ny := ixn (x := y) (by omega)
  refine g_iload_n C 1 dX11_unlikeAt_0 rfl ?_
  refine g_iconst C 1 dX11_unlikeAt_1 (by decide) ?_
  refine g_icmp_ne C 9 dX11_unlikeAt_2 (by decide) (fun c1 => ?_) (fun c1 => ?_)
  ·
    have f2 := fne rfl (by decide : (1 : Int32).toInt = 1) c1
    refine g_iconst C 1 dX11_unlikeAt_9 (by decide) ?_
    refine g_istore_n C [(3, .int 1), (0, .ref (ad 258)), (1, .int x), (2, .int y)] dX11_unlikeAt_10 (by decide) rfl ?_
    refine g_iconst C 0 dX11_unlikeAt_11 (by decide) ?_
    refine g_istore C [(4, .int 0), (3, .int 1), (0, .ref (ad 258)), (1, .int x), (2, .int y)] dX11_unlikeAt_12 (by decide) rfl ?_
    have zy3 : (0 : Int32).toInt = 0 := by decide
    refine g_loop (α := Int32 × MI × ML) (fun a => (41 - a.1.toInt).toNat) (fun a => (0 ≤ a.1.toInt) ∧ (a.1.toInt ≤ 40) ∧ (unF (vR M) y.toNatClampNeg 1 ((vR M 7 y.toNatClampNeg).toNatClampNeg - a.1.toNatClampNeg) a.1.toNatClampNeg = unV (vR M) y x) ∧ IR a.2.1 ∧ (∀ k i, True → a.2.1 k i = M k i) ∧ (∀ k i, True → a.2.2 k i = L k i)) (fun a => a.2.1) (fun a => a.2.2) (fun a => [(4, .int a.1), (3, .int 1), (0, .ref (ad 258)), (1, .int x), (2, .int y)]) ((0 : Int32), M, L) ⟨by show 0 ≤ (0 : Int32).toInt; omega, by show (0 : Int32).toInt ≤ 40; omega, by show unF (vR M) y.toNatClampNeg 1 ((vR M 7 y.toNatClampNeg).toNatClampNeg - (0 : Int32).toNatClampNeg) (0 : Int32).toNatClampNeg = unV (vR M) y x; (dsimp only [unV]; first | rw [if_pos (by omega)] | rw [if_neg (by omega)]); rfl, hI, hF, hG⟩ rfl rfl rfl ?_
    rintro ⟨x4_14, M_14, L_14⟩ ⟨j14_0, j14_1, j14_2, hI, hF, hG⟩ ih_14
    dsimp only at j14_0 j14_1 j14_2 hI hF hG ih_14 ⊢
    have n4 := ixn (x := x4_14) (by omega)
    refine g_iload C 0 dX11_unlikeAt_14 rfl ?_
    refine g_aload_n C 2 dX11_unlikeAt_16 rfl ?_
    refine g_get C (.ref (ad 266)) 11 in_X11_unlikeAt_11 (List.mem_of_getElem? (i := 1) rfl) (by decide) (ce_model ad cs _ _) rfl (by decide) rfl rfl dX11_unlikeAt_17 ?_
    refine g_iload_n C 4 dX11_unlikeAt_20 rfl ?_
    refine g_iald C (by decide) (ce_m_boxSize ad cs _ _) (fin' (n := 8) rfl (by omega) (by omega)) dX11_unlikeAt_21 ?_
    refine g_ni (fun v4 ev4 => ?_)
    have gv4 : v4 = vR M 7 y.toNatClampNeg := ev4.trans (hF 266 y.toNatClampNeg trivial)
    have tv4 := congrArg Int32.toInt gv4
    obtain ⟨bv4, dv4⟩ := (show rg 0 40 v4 from (by rw [ev4]; exact hI 266 y.toNatClampNeg))
    refine g_icmp_ge C 69 dX11_unlikeAt_22 (by decide) (fun c5 => ?_) (fun c5 => ?_)
    ·
      have f6 := fle rfl rfl c5
      refine g_bipush C (-9) dX11_unlikeAt_69 (by decide) ?_
      have zr9 : ((-9) : Int32).toInt = (-9) := by decide
      exact g_iret C hr ⟨funext (fun k => funext (fun i => hF k i trivial)), funext (fun k => funext (fun i => hG k i trivial)), ⟨by rw [← j14_2, unF_end (by omega)], Or.inl (by decide)⟩⟩ dX11_unlikeAt_71
    ·
      have f7 := fnle rfl rfl c5
      refine g_aload_n C 2 dX11_unlikeAt_25 rfl ?_
      refine g_get C (.ref (ad 267)) 12 in_X11_unlikeAt_11 (List.mem_of_getElem? (i := 2) rfl) (by decide) (ce_model ad cs _ _) rfl (by decide) rfl rfl dX11_unlikeAt_26 ?_
      refine g_bipush C 40 dX11_unlikeAt_29 (by decide) ?_
      refine g_iload_n C 4 dX11_unlikeAt_31 rfl ?_
      refine g_imul C dX11_unlikeAt_32 ?_
      refine g_ni (fun v8 ev8 => ?_)
      try have fv8 := fmul (by decide : (40 : Int32).toInt = 40) rfl ev8 (by omega) (by omega)
      refine g_iload C 0 dX11_unlikeAt_33 rfl ?_
      refine g_iadd C dX11_unlikeAt_35 ?_
      refine g_ni (fun v9 ev9 => ?_)
      try have fv9 := fadd rfl rfl ev9 (by omega) (by omega)
      refine g_iald C (by decide) (ce_m_boxed ad cs _ _) (fin' (n := 320) rfl (by omega) (by omega)) dX11_unlikeAt_36 ?_
      have ny := ixn (x := y) (by omega)
      have nx4_14 := ixn (x := x4_14) (by omega)
      have nv9 := ixn (x := v9) (by omega)
      have iv9 : v9.toNatClampNeg = 40 * y.toNatClampNeg + x4_14.toNatClampNeg := by omega
      refine g_ni (fun v10 ev10 => ?_)
      have gv10 : v10 = M 267 v9.toNatClampNeg := ev10.trans (hF 267 v9.toNatClampNeg trivial)
      have gv10 := cg1 (f := M 267) gv10 iv9
      have gv10 := gv10.trans (vR8 (M := M) (by omega)).symm
      have tv10 := congrArg Int32.toInt gv10
      have bv10 : bxd v10 := (by rw [ev10]; exact hI 267 v9.toNatClampNeg)
      unfold bxd at bv10
      refine g_istore C [(5, .int v10), (4, .int x4_14), (3, .int 1), (0, .ref (ad 258)), (1, .int x), (2, .int y)] dX11_unlikeAt_37 (by decide) rfl ?_
      refine g_iload C 0 dX11_unlikeAt_39 rfl ?_
      refine g_bipush C (-9) dX11_unlikeAt_41 (by decide) ?_
      refine g_icmp_eq C 63 dX11_unlikeAt_43 (by decide) (fun c11 => ?_) (fun c11 => ?_)
      ·
        have f12 := feq rfl (by decide : ((-9) : Int32).toInt = (-9)) c11
        obtain ⟨v13, ev13⟩ : ∃ y : Int32, y = x4_14 + 1 := ⟨_, rfl⟩
        try have fv13 := fadd rfl (by decide : (1 : Int32).toInt = 1) ev13 (by omega) (by omega)
        refine g_iinc C 1 v13 [(4, .int v13), (5, .int v10), (3, .int 1), (0, .ref (ad 258)), (1, .int x), (2, .int y)] dX11_unlikeAt_63 rfl (by rw [ev13]; rfl) (by decide) rfl ?_
        refine g_goto C 14 dX11_unlikeAt_66 (by decide) ?_
        refine g_lv [0, 2, 3, 4, 5] [(4, .int v13), (3, .int 1), (0, .ref (ad 258)), (1, .int x), (2, .int y)] rfl ?_
        have nv := ixn (x := v13) (by omega)
        have g8 := gv10
        have e2 : vR M 2 (vR M 8 (40 * y.toNatClampNeg + x4_14.toNatClampNeg)).toNatClampNeg = vR M 2 v10.toNatClampNeg := by rw [g8]
        have hcd : ¬ ((vR M 8 (40 * y.toNatClampNeg + x4_14.toNatClampNeg)).toInt ≠ -9 ∧ ¬ ofS (vR M 2 (vR M 8 (40 * y.toNatClampNeg + x4_14.toNatClampNeg)).toNatClampNeg) 1) := by
          rw [e2]
          have zw : (1 : Int32).toInt = 1 := by decide
          dsimp only [ofS]
          omega
        exact ih_14 (v13, M_14, L_14) ⟨by show 0 ≤ v13.toInt; omega, by show v13.toInt ≤ 40; omega, by show unF (vR M) y.toNatClampNeg 1 ((vR M 7 y.toNatClampNeg).toNatClampNeg - v13.toNatClampNeg) v13.toNatClampNeg = unV (vR M) y x; rw [← j14_2, unF_go (k := x4_14.toNatClampNeg) (by omega) hcd]; congr 1 <;> omega, hI, hF, hG⟩ (by show (41 - v13.toInt).toNat < (41 - x4_14.toInt).toNat; omega)
      ·
        have f14 := fne rfl (by decide : ((-9) : Int32).toInt = (-9)) c11
        refine g_aload_n C 3 dX11_unlikeAt_46 rfl ?_
        refine g_get C (.ref (ad 261)) 5 in_X11_unlikeAt_11 (List.mem_of_getElem? (i := 3) rfl) (by decide) (ce_model ad cs _ _) rfl (by decide) rfl rfl dX11_unlikeAt_47 ?_
        refine g_iload C 0 dX11_unlikeAt_50 rfl ?_
        refine g_iald C (by decide) (ce_m_sortOf ad cs _ _) (fin' (n := 60) rfl (by omega) (by omega)) dX11_unlikeAt_52 ?_
        refine g_ni (fun v15 ev15 => ?_)
        have gv15 : v15 = vR M 2 v10.toNatClampNeg := ev15.trans (hF 261 v10.toNatClampNeg trivial)
        have tv15 := congrArg Int32.toInt gv15
        refine g_iload_n C 2 dX11_unlikeAt_53 rfl ?_
        refine g_callSi C (n := 2) (As := [.int v15, .int 1]) (st := []) (s_X11_isOf l D ad cs _ _ v15 1 hI ) gX11_unlikeAt_X11_isOf rfl rfl rfl (by decide +kernel) ⟨Nat.le_of_ble_eq_true rfl, Nat.le_of_ble_eq_true rfl⟩ rfl (Nat.le_of_ble_eq_true rfl) ⟨Nat.zero_le _, Nat.zero_le _⟩ rfl dX11_unlikeAt_54 (fun r16 M17 L18 hr16 => ?_)
        obtain ⟨hq1, hq2, hr16⟩ := hr16
        obtain rfl := hq1.symm
        obtain rfl := hq2.symm
        obtain ⟨bar16, bbr16⟩ := zo_b hr16
        refine g_if_ne C 63 dX11_unlikeAt_57 (by decide) (fun c19 => ?_) (fun c19 => ?_)
        ·
          have f20 := fne rfl (by decide : (0 : Int32).toInt = 0) c19
          have pr16 := zo_t hr16 c19
          try dsimp only [hasC, hasB, hasX, hasM, ofS, ofK, bt] at pr16
          obtain ⟨v21, ev21⟩ : ∃ y : Int32, y = x4_14 + 1 := ⟨_, rfl⟩
          try have fv21 := fadd rfl (by decide : (1 : Int32).toInt = 1) ev21 (by omega) (by omega)
          refine g_iinc C 1 v21 [(4, .int v21), (5, .int v10), (3, .int 1), (0, .ref (ad 258)), (1, .int x), (2, .int y)] dX11_unlikeAt_63 rfl (by rw [ev21]; rfl) (by decide) rfl ?_
          refine g_goto C 14 dX11_unlikeAt_66 (by decide) ?_
          refine g_lv [0, 2, 3, 4, 5] [(4, .int v21), (3, .int 1), (0, .ref (ad 258)), (1, .int x), (2, .int y)] rfl ?_
          have nv := ixn (x := v21) (by omega)
          have g8 := gv10
          have e2 : vR M 2 (vR M 8 (40 * y.toNatClampNeg + x4_14.toNatClampNeg)).toNatClampNeg = vR M 2 v10.toNatClampNeg := by rw [g8]
          have hcd : ¬ ((vR M 8 (40 * y.toNatClampNeg + x4_14.toNatClampNeg)).toInt ≠ -9 ∧ ¬ ofS (vR M 2 (vR M 8 (40 * y.toNatClampNeg + x4_14.toNatClampNeg)).toNatClampNeg) 1) := by
            rw [e2]
            have zw : (1 : Int32).toInt = 1 := by decide
            dsimp only [ofS]
            omega
          exact ih_14 (v21, M_14, L_14) ⟨by show 0 ≤ v21.toInt; omega, by show v21.toInt ≤ 40; omega, by show unF (vR M) y.toNatClampNeg 1 ((vR M 7 y.toNatClampNeg).toNatClampNeg - v21.toNatClampNeg) v21.toNatClampNeg = unV (vR M) y x; rw [← j14_2, unF_go (k := x4_14.toNatClampNeg) (by omega) hcd]; congr 1 <;> omega, hI, hF, hG⟩ (by show (41 - v21.toInt).toNat < (41 - x4_14.toInt).toNat; omega)
        ·
          have f22 := feq rfl (by decide : (0 : Int32).toInt = 0) c19
          have pr16 := zo_f hr16 c19
          try dsimp only [hasC, hasB, hasX, hasM, ofS, ofK, bt] at pr16
          refine g_iload C 1 dX11_unlikeAt_60 rfl ?_
          have g8 := gv10
          have e2 : vR M 2 (vR M 8 (40 * y.toNatClampNeg + x4_14.toNatClampNeg)).toNatClampNeg = vR M 2 v10.toNatClampNeg := by rw [g8]
          have hcd : (vR M 8 (40 * y.toNatClampNeg + x4_14.toNatClampNeg)).toInt ≠ -9 ∧ ¬ ofS (vR M 2 (vR M 8 (40 * y.toNatClampNeg + x4_14.toNatClampNeg)).toNatClampNeg) 1 := by
            rw [e2]
            have zw : (1 : Int32).toInt = 1 := by decide
            refine ⟨by omega, ?_⟩
            dsimp only [ofS]
            omega
          exact g_iret C hr ⟨funext (fun k => funext (fun i => hF k i trivial)), funext (fun k => funext (fun i => hG k i trivial)), ⟨by rw [← j14_2, unF_hit (by omega) hcd, of_ix (by omega)], Or.inr ⟨by omega, by omega⟩⟩⟩ dX11_unlikeAt_62
  ·
    have f23 := feq rfl (by decide : (1 : Int32).toInt = 1) c1
    refine g_iconst C 3 dX11_unlikeAt_5 (by decide) ?_
    refine g_goto C 10 dX11_unlikeAt_6 (by decide) ?_
    refine g_istore_n C [(3, .int 3), (0, .ref (ad 258)), (1, .int x), (2, .int y)] dX11_unlikeAt_10 (by decide) rfl ?_
    refine g_iconst C 0 dX11_unlikeAt_11 (by decide) ?_
    refine g_istore C [(4, .int 0), (3, .int 3), (0, .ref (ad 258)), (1, .int x), (2, .int y)] dX11_unlikeAt_12 (by decide) rfl ?_
    have zy24 : (0 : Int32).toInt = 0 := by decide
    refine g_loop (α := Int32 × MI × ML) (fun a => (41 - a.1.toInt).toNat) (fun a => (0 ≤ a.1.toInt) ∧ (a.1.toInt ≤ 40) ∧ (unF (vR M) y.toNatClampNeg 3 ((vR M 7 y.toNatClampNeg).toNatClampNeg - a.1.toNatClampNeg) a.1.toNatClampNeg = unV (vR M) y x) ∧ IR a.2.1 ∧ (∀ k i, True → a.2.1 k i = M k i) ∧ (∀ k i, True → a.2.2 k i = L k i)) (fun a => a.2.1) (fun a => a.2.2) (fun a => [(4, .int a.1), (3, .int 3), (0, .ref (ad 258)), (1, .int x), (2, .int y)]) ((0 : Int32), M, L) ⟨by show 0 ≤ (0 : Int32).toInt; omega, by show (0 : Int32).toInt ≤ 40; omega, by show unF (vR M) y.toNatClampNeg 3 ((vR M 7 y.toNatClampNeg).toNatClampNeg - (0 : Int32).toNatClampNeg) (0 : Int32).toNatClampNeg = unV (vR M) y x; (dsimp only [unV]; first | rw [if_pos (by omega)] | rw [if_neg (by omega)]); rfl, hI, hF, hG⟩ rfl rfl rfl ?_
    rintro ⟨x4_14, M_14, L_14⟩ ⟨j14_0, j14_1, j14_2, hI, hF, hG⟩ ih_14
    dsimp only at j14_0 j14_1 j14_2 hI hF hG ih_14 ⊢
    have n4 := ixn (x := x4_14) (by omega)
    refine g_iload C 0 dX11_unlikeAt_14 rfl ?_
    refine g_aload_n C 2 dX11_unlikeAt_16 rfl ?_
    refine g_get C (.ref (ad 266)) 11 in_X11_unlikeAt_11 (List.mem_of_getElem? (i := 1) rfl) (by decide) (ce_model ad cs _ _) rfl (by decide) rfl rfl dX11_unlikeAt_17 ?_
    refine g_iload_n C 4 dX11_unlikeAt_20 rfl ?_
    refine g_iald C (by decide) (ce_m_boxSize ad cs _ _) (fin' (n := 8) rfl (by omega) (by omega)) dX11_unlikeAt_21 ?_
    refine g_ni (fun v25 ev25 => ?_)
    have gv25 : v25 = vR M 7 y.toNatClampNeg := ev25.trans (hF 266 y.toNatClampNeg trivial)
    have tv25 := congrArg Int32.toInt gv25
    obtain ⟨bv25, dv25⟩ := (show rg 0 40 v25 from (by rw [ev25]; exact hI 266 y.toNatClampNeg))
    refine g_icmp_ge C 69 dX11_unlikeAt_22 (by decide) (fun c26 => ?_) (fun c26 => ?_)
    ·
      have f27 := fle rfl rfl c26
      refine g_bipush C (-9) dX11_unlikeAt_69 (by decide) ?_
      have zr9 : ((-9) : Int32).toInt = (-9) := by decide
      exact g_iret C hr ⟨funext (fun k => funext (fun i => hF k i trivial)), funext (fun k => funext (fun i => hG k i trivial)), ⟨by rw [← j14_2, unF_end (by omega)], Or.inl (by decide)⟩⟩ dX11_unlikeAt_71
    ·
      have f28 := fnle rfl rfl c26
      refine g_aload_n C 2 dX11_unlikeAt_25 rfl ?_
      refine g_get C (.ref (ad 267)) 12 in_X11_unlikeAt_11 (List.mem_of_getElem? (i := 2) rfl) (by decide) (ce_model ad cs _ _) rfl (by decide) rfl rfl dX11_unlikeAt_26 ?_
      refine g_bipush C 40 dX11_unlikeAt_29 (by decide) ?_
      refine g_iload_n C 4 dX11_unlikeAt_31 rfl ?_
      refine g_imul C dX11_unlikeAt_32 ?_
      refine g_ni (fun v29 ev29 => ?_)
      try have fv29 := fmul (by decide : (40 : Int32).toInt = 40) rfl ev29 (by omega) (by omega)
      refine g_iload C 0 dX11_unlikeAt_33 rfl ?_
      refine g_iadd C dX11_unlikeAt_35 ?_
      refine g_ni (fun v30 ev30 => ?_)
      try have fv30 := fadd rfl rfl ev30 (by omega) (by omega)
      refine g_iald C (by decide) (ce_m_boxed ad cs _ _) (fin' (n := 320) rfl (by omega) (by omega)) dX11_unlikeAt_36 ?_
      have ny := ixn (x := y) (by omega)
      have nx4_14 := ixn (x := x4_14) (by omega)
      have nv30 := ixn (x := v30) (by omega)
      have iv30 : v30.toNatClampNeg = 40 * y.toNatClampNeg + x4_14.toNatClampNeg := by omega
      refine g_ni (fun v31 ev31 => ?_)
      have gv31 : v31 = M 267 v30.toNatClampNeg := ev31.trans (hF 267 v30.toNatClampNeg trivial)
      have gv31 := cg1 (f := M 267) gv31 iv30
      have gv31 := gv31.trans (vR8 (M := M) (by omega)).symm
      have tv31 := congrArg Int32.toInt gv31
      have bv31 : bxd v31 := (by rw [ev31]; exact hI 267 v30.toNatClampNeg)
      unfold bxd at bv31
      refine g_istore C [(5, .int v31), (4, .int x4_14), (3, .int 3), (0, .ref (ad 258)), (1, .int x), (2, .int y)] dX11_unlikeAt_37 (by decide) rfl ?_
      refine g_iload C 0 dX11_unlikeAt_39 rfl ?_
      refine g_bipush C (-9) dX11_unlikeAt_41 (by decide) ?_
      refine g_icmp_eq C 63 dX11_unlikeAt_43 (by decide) (fun c32 => ?_) (fun c32 => ?_)
      ·
        have f33 := feq rfl (by decide : ((-9) : Int32).toInt = (-9)) c32
        obtain ⟨v34, ev34⟩ : ∃ y : Int32, y = x4_14 + 1 := ⟨_, rfl⟩
        try have fv34 := fadd rfl (by decide : (1 : Int32).toInt = 1) ev34 (by omega) (by omega)
        refine g_iinc C 1 v34 [(4, .int v34), (5, .int v31), (3, .int 3), (0, .ref (ad 258)), (1, .int x), (2, .int y)] dX11_unlikeAt_63 rfl (by rw [ev34]; rfl) (by decide) rfl ?_
        refine g_goto C 14 dX11_unlikeAt_66 (by decide) ?_
        refine g_lv [0, 2, 3, 4, 5] [(4, .int v34), (3, .int 3), (0, .ref (ad 258)), (1, .int x), (2, .int y)] rfl ?_
        have nv := ixn (x := v34) (by omega)
        have g8 := gv31
        have e2 : vR M 2 (vR M 8 (40 * y.toNatClampNeg + x4_14.toNatClampNeg)).toNatClampNeg = vR M 2 v31.toNatClampNeg := by rw [g8]
        have hcd : ¬ ((vR M 8 (40 * y.toNatClampNeg + x4_14.toNatClampNeg)).toInt ≠ -9 ∧ ¬ ofS (vR M 2 (vR M 8 (40 * y.toNatClampNeg + x4_14.toNatClampNeg)).toNatClampNeg) 3) := by
          rw [e2]
          have zw : (3 : Int32).toInt = 3 := by decide
          dsimp only [ofS]
          omega
        exact ih_14 (v34, M_14, L_14) ⟨by show 0 ≤ v34.toInt; omega, by show v34.toInt ≤ 40; omega, by show unF (vR M) y.toNatClampNeg 3 ((vR M 7 y.toNatClampNeg).toNatClampNeg - v34.toNatClampNeg) v34.toNatClampNeg = unV (vR M) y x; rw [← j14_2, unF_go (k := x4_14.toNatClampNeg) (by omega) hcd]; congr 1 <;> omega, hI, hF, hG⟩ (by show (41 - v34.toInt).toNat < (41 - x4_14.toInt).toNat; omega)
      ·
        have f35 := fne rfl (by decide : ((-9) : Int32).toInt = (-9)) c32
        refine g_aload_n C 3 dX11_unlikeAt_46 rfl ?_
        refine g_get C (.ref (ad 261)) 5 in_X11_unlikeAt_11 (List.mem_of_getElem? (i := 3) rfl) (by decide) (ce_model ad cs _ _) rfl (by decide) rfl rfl dX11_unlikeAt_47 ?_
        refine g_iload C 0 dX11_unlikeAt_50 rfl ?_
        refine g_iald C (by decide) (ce_m_sortOf ad cs _ _) (fin' (n := 60) rfl (by omega) (by omega)) dX11_unlikeAt_52 ?_
        refine g_ni (fun v36 ev36 => ?_)
        have gv36 : v36 = vR M 2 v31.toNatClampNeg := ev36.trans (hF 261 v31.toNatClampNeg trivial)
        have tv36 := congrArg Int32.toInt gv36
        refine g_iload_n C 2 dX11_unlikeAt_53 rfl ?_
        refine g_callSi C (n := 2) (As := [.int v36, .int 3]) (st := []) (s_X11_isOf l D ad cs _ _ v36 3 hI ) gX11_unlikeAt_X11_isOf rfl rfl rfl (by decide +kernel) ⟨Nat.le_of_ble_eq_true rfl, Nat.le_of_ble_eq_true rfl⟩ rfl (Nat.le_of_ble_eq_true rfl) ⟨Nat.zero_le _, Nat.zero_le _⟩ rfl dX11_unlikeAt_54 (fun r37 M38 L39 hr37 => ?_)
        obtain ⟨hq1, hq2, hr37⟩ := hr37
        obtain rfl := hq1.symm
        obtain rfl := hq2.symm
        obtain ⟨bar37, bbr37⟩ := zo_b hr37
        refine g_if_ne C 63 dX11_unlikeAt_57 (by decide) (fun c40 => ?_) (fun c40 => ?_)
        ·
          have f41 := fne rfl (by decide : (0 : Int32).toInt = 0) c40
          have pr37 := zo_t hr37 c40
          try dsimp only [hasC, hasB, hasX, hasM, ofS, ofK, bt] at pr37
          obtain ⟨v42, ev42⟩ : ∃ y : Int32, y = x4_14 + 1 := ⟨_, rfl⟩
          try have fv42 := fadd rfl (by decide : (1 : Int32).toInt = 1) ev42 (by omega) (by omega)
          refine g_iinc C 1 v42 [(4, .int v42), (5, .int v31), (3, .int 3), (0, .ref (ad 258)), (1, .int x), (2, .int y)] dX11_unlikeAt_63 rfl (by rw [ev42]; rfl) (by decide) rfl ?_
          refine g_goto C 14 dX11_unlikeAt_66 (by decide) ?_
          refine g_lv [0, 2, 3, 4, 5] [(4, .int v42), (3, .int 3), (0, .ref (ad 258)), (1, .int x), (2, .int y)] rfl ?_
          have nv := ixn (x := v42) (by omega)
          have g8 := gv31
          have e2 : vR M 2 (vR M 8 (40 * y.toNatClampNeg + x4_14.toNatClampNeg)).toNatClampNeg = vR M 2 v31.toNatClampNeg := by rw [g8]
          have hcd : ¬ ((vR M 8 (40 * y.toNatClampNeg + x4_14.toNatClampNeg)).toInt ≠ -9 ∧ ¬ ofS (vR M 2 (vR M 8 (40 * y.toNatClampNeg + x4_14.toNatClampNeg)).toNatClampNeg) 3) := by
            rw [e2]
            have zw : (3 : Int32).toInt = 3 := by decide
            dsimp only [ofS]
            omega
          exact ih_14 (v42, M_14, L_14) ⟨by show 0 ≤ v42.toInt; omega, by show v42.toInt ≤ 40; omega, by show unF (vR M) y.toNatClampNeg 3 ((vR M 7 y.toNatClampNeg).toNatClampNeg - v42.toNatClampNeg) v42.toNatClampNeg = unV (vR M) y x; rw [← j14_2, unF_go (k := x4_14.toNatClampNeg) (by omega) hcd]; congr 1 <;> omega, hI, hF, hG⟩ (by show (41 - v42.toInt).toNat < (41 - x4_14.toInt).toNat; omega)
        ·
          have f43 := feq rfl (by decide : (0 : Int32).toInt = 0) c40
          have pr37 := zo_f hr37 c40
          try dsimp only [hasC, hasB, hasX, hasM, ofS, ofK, bt] at pr37
          refine g_iload C 1 dX11_unlikeAt_60 rfl ?_
          have g8 := gv31
          have e2 : vR M 2 (vR M 8 (40 * y.toNatClampNeg + x4_14.toNatClampNeg)).toNatClampNeg = vR M 2 v31.toNatClampNeg := by rw [g8]
          have hcd : (vR M 8 (40 * y.toNatClampNeg + x4_14.toNatClampNeg)).toInt ≠ -9 ∧ ¬ ofS (vR M 2 (vR M 8 (40 * y.toNatClampNeg + x4_14.toNatClampNeg)).toNatClampNeg) 3 := by
            rw [e2]
            have zw : (3 : Int32).toInt = 3 := by decide
            refine ⟨by omega, ?_⟩
            dsimp only [ofS]
            omega
          exact g_iret C hr ⟨funext (fun k => funext (fun i => hF k i trivial)), funext (fun k => funext (fun i => hG k i trivial)), ⟨by rw [← j14_2, unF_hit (by omega) hcd, of_ix (by omega)], Or.inr ⟨by omega, by omega⟩⟩⟩ dX11_unlikeAt_62
