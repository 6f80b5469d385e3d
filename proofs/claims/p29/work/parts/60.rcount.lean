theorem dX11_countBy_0 : decode cX11_countBy 0 = .ok (.iload_n 1, 1) := dw27 (n := 0) (i := 0) kc_cX11_countBy_0 (by decide +kernel)
theorem dX11_countBy_1 : decode cX11_countBy 1 = .ok (.tableswitch 92 0 5 #[39, 50, 50, 71, 78, 85], 39) := by decide +kernel
theorem dX11_countBy_93 : decode cX11_countBy 93 = .ok (.aload_n 0, 1) := dw42 (n := 64) (i := 29) kc_cX11_countBy_2 (by decide +kernel)
theorem dX11_countBy_94 : decode cX11_countBy 94 = .ok (.iload_n 1, 1) := dw27 (n := 64) (i := 30) kc_cX11_countBy_2 (by decide +kernel)
theorem dX11_countBy_95 : decode cX11_countBy 95 = .ok (.bipush 7, 2) := dw16 (n := 64) (i := 31) (a := 7) kc_cX11_countBy_2 (by decide +kernel) (by decide)
theorem dX11_countBy_97 : decode cX11_countBy 97 = .ok (.if_icmp .ne 7, 3) := dw160 (n := 96) (i := 1) (a := 0) (b := 7) kc_cX11_countBy_3 (by decide +kernel) (by decide)
theorem dX11_countBy_104 : decode cX11_countBy 104 = .ok (.iconst 1, 1) := dw4 (n := 96) (i := 8) kc_cX11_countBy_3 (by decide +kernel)
theorem dX11_countBy_105 : decode cX11_countBy 105 = .ok (.invokevirtual 287, 3) := dw182 (n := 96) (i := 9) (a := 1) (b := 31) kc_cX11_countBy_3 (by decide +kernel) (by decide)
set_option maxRecDepth 20000 in
theorem ggX11_countBy_X11_countDivisors : GoodIn wsX11_countBy wsX11_countDivisors := (gk_code 131 rfl (gk_fieldLink 132 rfl (gk_fieldLink 47 rfl (gk_fieldLink 52 rfl (gk_fieldLink 53 rfl (gk_fieldLink 14 rfl (gk_methodLink 1 rfl (gk_instanceMethod 2 rfl (gk_selects 3 rfl (gk_initialized 4 rfl (gk_code 5 rfl (gk_fieldLink 6 rfl (gk_fieldLink 7 rfl (gk_fieldLink 8 rfl (gk_fieldLink 9 rfl (gk_methodLink 10 rfl (gk_instanceMethod 11 rfl (gk_selects 12 rfl (gk_code 13 rfl (gk_fieldLink 15 rfl (gk_methodLink 16 rfl (gk_instanceMethod 17 rfl (gk_selects 18 rfl (gk_code 19 rfl (gk_fieldLink 20 rfl (gk_methodLink 21 rfl (gk_instanceMethod 22 rfl (gk_selects 23 rfl (gk_code 24 rfl (gk_fieldLink 25 rfl (gk_fieldLink 26 rfl (gk_fieldLink 27 rfl (gk_methodLink 28 rfl (gk_instanceMethod 29 rfl (gk_selects 30 rfl (gk_code 31 rfl (gk_fieldLink 32 rfl (gk_fieldLink 33 rfl (gk_methodLink 34 rfl (gk_instanceMethod 35 rfl (gk_selects 36 rfl (gk_code 37 rfl (gk_fieldLink 38 rfl (gk_constantLong 39 rfl (gk_methodLink 40 rfl (gk_static 41 rfl (gk_code 42 rfl (gk_methodLink 54 rfl (gk_static 55 rfl (gk_code 56 rfl (gk_methodLink 57 rfl (gk_instanceMethod 58 rfl (gk_selects 59 rfl (gk_code 60 rfl (gk_fieldLink 61 rfl (gk_fieldLink 62 rfl (gk_fieldLink 63 rfl (gk_fieldLink 64 rfl (gk_fieldLink 65 rfl (gk_methodLink 66 rfl (gk_instanceMethod 67 rfl (gk_selects 68 rfl (gk_code 69 rfl (gk_fieldLink 70 rfl (gk_fieldLink 71 rfl (gk_lays 133 rfl (gk_laysFinal 134 rfl (gk_lays 135 rfl (gk_laysFinal 136 rfl (gk_lays 137 rfl (gk_laysFinal 138 rfl (gk_laysFinal 139 rfl (gk_laysFinal 140 rfl (gk_laysFinal 141 rfl (gk_lays 142 rfl (gk_laysFinal 143 rfl (gk_laysFinal 144 rfl (gk_laysFinal 145 rfl (gk_laysFinal 146 rfl (gk_lays 147 rfl (gk_laysFinal 148 rfl (gk_laysFinal 149 rfl (gk_laysFinal 150 rfl (gk_laysFinal 151 rfl (gk_laysFinal 152 rfl (gk_laysFinal 153 rfl (gk_laysFinal 154 rfl (gk_laysFinal 155 rfl (gk_lays 156 rfl (gk_lays 157 rfl (gk_lays 158 rfl (gk_lays 159 rfl (gk_lays 160 rfl (gk_lays 161 rfl (gk_lays 162 rfl (gk_laysFinal 163 rfl (gk_lays 164 rfl (gk_laysFinal 165 rfl (gk_laysFinal 166 rfl (gk_laysFinal 167 rfl (gk_laysFinal 168 rfl (gk_laysFinal 169 rfl (gk_laysFinal 170 rfl (gk_laysFinal 171 rfl (gk_laysFinal 172 rfl (gk_laysFinal 173 rfl (gk_laysFinal 174 rfl (gk_lays 175 rfl (gk_laysFinal 176 rfl (gk_lays 177 rfl (gk_laysFinal 178 rfl (gk_laysFinal 179 rfl (gk_laysFinal 180 rfl (gk_laysFinal 181 rfl (gk_laysFinal 182 rfl (gk_laysFinal 183 rfl (gk_laysFinal 184 rfl (gk_laysFinal 185 rfl (gn)))))))))))))))))))))))))))))))))))))))))))))))))))))))))))))))))))))))))))))))))))))))))))))))))))))))))))))))))))))))
set_option maxRecDepth 20000 in
theorem gX11_countBy_X11_countDivisors : GoodIn wsX11_countBy (wsV RX11 287 RX11 yX11_countDivisors wsX11_countDivisors) := goodIn_app (gk_methodLink 128 rfl (gk_instanceMethod 129 rfl (gk_selects 130 rfl (gk_initialized 4 rfl (gn))))) ggX11_countBy_X11_countDivisors
theorem dX11_countBy_108 : decode cX11_countBy 108 = .ok (.return_, 1) := dw177 (n := 96) (i := 12) kc_cX11_countBy_3 (by decide +kernel)
theorem dX11_countBy_100 : decode cX11_countBy 100 = .ok (.iconst 2, 1) := dw5 (n := 96) (i := 4) kc_cX11_countBy_3 (by decide +kernel)
theorem dX11_countBy_101 : decode cX11_countBy 101 = .ok (.goto 4, 3) := dw167 (n := 96) (i := 5) (a := 0) (b := 4) kc_cX11_countBy_3 (by decide +kernel) (by decide)
theorem dX11_countBy_40 : decode cX11_countBy 40 = .ok (.aload_n 0, 1) := dw42 (n := 32) (i := 8) kc_cX11_countBy_1 (by decide +kernel)
theorem dX11_countBy_41 : decode cX11_countBy 41 = .ok (.invokevirtual 246, 3) := dw182 (n := 32) (i := 9) (a := 0) (b := 246) kc_cX11_countBy_1 (by decide +kernel) (by decide)
set_option maxRecDepth 20000 in
theorem ggX11_countBy_X11_tallyFirsts : GoodIn wsX11_countBy wsX11_tallyFirsts := (gk_code 5 rfl (gk_fieldLink 6 rfl (gk_fieldLink 7 rfl (gk_fieldLink 8 rfl (gk_fieldLink 9 rfl (gk_methodLink 10 rfl (gk_instanceMethod 11 rfl (gk_selects 12 rfl (gk_initialized 4 rfl (gk_code 13 rfl (gk_fieldLink 14 rfl (gk_fieldLink 15 rfl (gk_methodLink 16 rfl (gk_instanceMethod 17 rfl (gk_selects 18 rfl (gk_code 19 rfl (gk_fieldLink 20 rfl (gk_methodLink 21 rfl (gk_instanceMethod 22 rfl (gk_selects 23 rfl (gk_code 24 rfl (gk_fieldLink 25 rfl (gk_fieldLink 26 rfl (gk_fieldLink 27 rfl (gk_methodLink 28 rfl (gk_instanceMethod 29 rfl (gk_selects 30 rfl (gk_code 31 rfl (gk_fieldLink 32 rfl (gk_fieldLink 33 rfl (gk_methodLink 34 rfl (gk_instanceMethod 35 rfl (gk_selects 36 rfl (gk_code 37 rfl (gk_fieldLink 38 rfl (gk_constantLong 39 rfl (gk_methodLink 40 rfl (gk_static 41 rfl (gk_code 42 rfl (gk_lays 133 rfl (gk_laysFinal 134 rfl (gk_lays 135 rfl (gk_laysFinal 136 rfl (gk_lays 137 rfl (gk_laysFinal 138 rfl (gk_laysFinal 139 rfl (gk_laysFinal 140 rfl (gk_laysFinal 141 rfl (gk_lays 142 rfl (gk_laysFinal 143 rfl (gk_laysFinal 144 rfl (gk_laysFinal 145 rfl (gk_laysFinal 146 rfl (gk_lays 147 rfl (gk_laysFinal 148 rfl (gk_laysFinal 149 rfl (gk_laysFinal 150 rfl (gk_laysFinal 151 rfl (gk_laysFinal 152 rfl (gk_laysFinal 153 rfl (gk_laysFinal 154 rfl (gk_laysFinal 155 rfl (gk_lays 156 rfl (gk_lays 157 rfl (gk_lays 158 rfl (gk_lays 159 rfl (gk_lays 160 rfl (gk_lays 161 rfl (gk_lays 162 rfl (gk_laysFinal 163 rfl (gk_lays 164 rfl (gk_laysFinal 165 rfl (gk_laysFinal 166 rfl (gk_laysFinal 167 rfl (gk_laysFinal 168 rfl (gk_laysFinal 169 rfl (gk_laysFinal 170 rfl (gk_laysFinal 171 rfl (gk_laysFinal 172 rfl (gk_laysFinal 173 rfl (gk_laysFinal 174 rfl (gk_lays 175 rfl (gk_laysFinal 176 rfl (gk_lays 177 rfl (gk_laysFinal 178 rfl (gk_laysFinal 179 rfl (gk_laysFinal 180 rfl (gk_laysFinal 181 rfl (gk_laysFinal 182 rfl (gk_laysFinal 183 rfl (gk_laysFinal 184 rfl (gk_laysFinal 185 rfl (gn)))))))))))))))))))))))))))))))))))))))))))))))))))))))))))))))))))))))))))))))))))))))))))))
set_option maxRecDepth 20000 in
theorem gX11_countBy_X11_tallyFirsts : GoodIn wsX11_countBy (wsV RX11 246 RX11 yX11_tallyFirsts wsX11_tallyFirsts) := goodIn_app (gk_methodLink 1 rfl (gk_instanceMethod 2 rfl (gk_selects 3 rfl (gk_initialized 4 rfl (gn))))) ggX11_countBy_X11_tallyFirsts
theorem dX11_countBy_44 : decode cX11_countBy 44 = .ok (.aload_n 0, 1) := dw42 (n := 32) (i := 12) kc_cX11_countBy_1 (by decide +kernel)
theorem dX11_countBy_45 : decode cX11_countBy 45 = .ok (.invokevirtual 271, 3) := dw182 (n := 32) (i := 13) (a := 1) (b := 15) kc_cX11_countBy_1 (by decide +kernel) (by decide)
set_option maxRecDepth 20000 in
theorem ggX11_countBy_X11_countByTallies : GoodIn wsX11_countBy wsX11_countByTallies := (gk_code 46 rfl (gk_fieldLink 47 rfl (gk_fieldLink 26 rfl (gk_methodLink 48 rfl (gk_instanceMethod 49 rfl (gk_selects 50 rfl (gk_initialized 4 rfl (gk_code 51 rfl (gk_fieldLink 52 rfl (gk_fieldLink 53 rfl (gk_fieldLink 14 rfl (gk_fieldLink 15 rfl (gk_methodLink 54 rfl (gk_static 55 rfl (gk_code 56 rfl (gk_methodLink 57 rfl (gk_instanceMethod 58 rfl (gk_selects 59 rfl (gk_code 60 rfl (gk_fieldLink 61 rfl (gk_fieldLink 62 rfl (gk_fieldLink 63 rfl (gk_fieldLink 64 rfl (gk_fieldLink 65 rfl (gk_methodLink 66 rfl (gk_instanceMethod 67 rfl (gk_selects 68 rfl (gk_code 69 rfl (gk_fieldLink 70 rfl (gk_fieldLink 71 rfl (gk_lays 133 rfl (gk_laysFinal 134 rfl (gk_lays 135 rfl (gk_laysFinal 136 rfl (gk_lays 137 rfl (gk_laysFinal 138 rfl (gk_laysFinal 139 rfl (gk_laysFinal 140 rfl (gk_laysFinal 141 rfl (gk_lays 142 rfl (gk_laysFinal 143 rfl (gk_laysFinal 144 rfl (gk_laysFinal 145 rfl (gk_laysFinal 146 rfl (gk_lays 147 rfl (gk_laysFinal 148 rfl (gk_laysFinal 149 rfl (gk_laysFinal 150 rfl (gk_laysFinal 151 rfl (gk_laysFinal 152 rfl (gk_laysFinal 153 rfl (gk_laysFinal 154 rfl (gk_laysFinal 155 rfl (gk_lays 156 rfl (gk_lays 157 rfl (gk_lays 158 rfl (gk_lays 159 rfl (gk_lays 160 rfl (gk_lays 161 rfl (gk_lays 162 rfl (gk_laysFinal 163 rfl (gk_lays 164 rfl (gk_laysFinal 165 rfl (gk_laysFinal 166 rfl (gk_laysFinal 167 rfl (gk_laysFinal 168 rfl (gk_laysFinal 169 rfl (gk_laysFinal 170 rfl (gk_laysFinal 171 rfl (gk_laysFinal 172 rfl (gk_laysFinal 173 rfl (gk_laysFinal 174 rfl (gk_lays 175 rfl (gk_laysFinal 176 rfl (gk_lays 177 rfl (gk_laysFinal 178 rfl (gk_laysFinal 179 rfl (gk_laysFinal 180 rfl (gk_laysFinal 181 rfl (gk_laysFinal 182 rfl (gk_laysFinal 183 rfl (gk_laysFinal 184 rfl (gk_laysFinal 185 rfl (gn))))))))))))))))))))))))))))))))))))))))))))))))))))))))))))))))))))))))))))))))))))
set_option maxRecDepth 20000 in
theorem gX11_countBy_X11_countByTallies : GoodIn wsX11_countBy (wsV RX11 271 RX11 yX11_countByTallies wsX11_countByTallies) := goodIn_app (gk_methodLink 43 rfl (gk_instanceMethod 44 rfl (gk_selects 45 rfl (gk_initialized 4 rfl (gn))))) ggX11_countBy_X11_countByTallies
theorem dX11_countBy_48 : decode cX11_countBy 48 = .ok (.goto 60, 3) := dw167 (n := 32) (i := 16) (a := 0) (b := 60) kc_cX11_countBy_1 (by decide +kernel) (by decide)
theorem dX11_countBy_51 : decode cX11_countBy 51 = .ok (.aload_n 0, 1) := dw42 (n := 32) (i := 19) kc_cX11_countBy_1 (by decide +kernel)
theorem dX11_countBy_52 : decode cX11_countBy 52 = .ok (.iload_n 1, 1) := dw27 (n := 32) (i := 20) kc_cX11_countBy_1 (by decide +kernel)
theorem dX11_countBy_53 : decode cX11_countBy 53 = .ok (.iconst 2, 1) := dw5 (n := 32) (i := 21) kc_cX11_countBy_1 (by decide +kernel)
theorem dX11_countBy_54 : decode cX11_countBy 54 = .ok (.if_icmp .ne 7, 3) := dw160 (n := 32) (i := 22) (a := 0) (b := 7) kc_cX11_countBy_1 (by decide +kernel) (by decide)
theorem dX11_countBy_61 : decode cX11_countBy 61 = .ok (.iconst 0, 1) := dw3 (n := 32) (i := 29) kc_cX11_countBy_1 (by decide +kernel)
theorem dX11_countBy_62 : decode cX11_countBy 62 = .ok (.invokevirtual 274, 3) := dw182 (n := 32) (i := 30) (a := 1) (b := 18) kc_cX11_countBy_1 (by decide +kernel) (by decide)
set_option maxRecDepth 20000 in
theorem ggX11_countBy_X11_tallyPoints : GoodIn wsX11_countBy wsX11_tallyPoints := (gk_code 75 rfl (gk_fieldLink 6 rfl (gk_fieldLink 7 rfl (gk_fieldLink 52 rfl (gk_fieldLink 27 rfl (gk_fieldLink 76 rfl (gk_methodLink 10 rfl (gk_instanceMethod 11 rfl (gk_selects 12 rfl (gk_initialized 4 rfl (gk_code 13 rfl (gk_fieldLink 14 rfl (gk_fieldLink 15 rfl (gk_methodLink 16 rfl (gk_instanceMethod 17 rfl (gk_selects 18 rfl (gk_code 19 rfl (gk_fieldLink 20 rfl (gk_methodLink 77 rfl (gk_instanceMethod 78 rfl (gk_selects 79 rfl (gk_code 80 rfl (gk_fieldLink 25 rfl (gk_methodLink 28 rfl (gk_instanceMethod 29 rfl (gk_selects 30 rfl (gk_code 31 rfl (gk_fieldLink 32 rfl (gk_fieldLink 33 rfl (gk_methodLink 34 rfl (gk_instanceMethod 35 rfl (gk_selects 36 rfl (gk_code 37 rfl (gk_fieldLink 38 rfl (gk_constantLong 39 rfl (gk_methodLink 40 rfl (gk_static 41 rfl (gk_code 42 rfl (gk_lays 133 rfl (gk_laysFinal 134 rfl (gk_lays 135 rfl (gk_laysFinal 136 rfl (gk_lays 137 rfl (gk_laysFinal 138 rfl (gk_laysFinal 139 rfl (gk_laysFinal 140 rfl (gk_laysFinal 141 rfl (gk_lays 142 rfl (gk_laysFinal 143 rfl (gk_laysFinal 144 rfl (gk_laysFinal 145 rfl (gk_laysFinal 146 rfl (gk_lays 147 rfl (gk_laysFinal 148 rfl (gk_laysFinal 149 rfl (gk_laysFinal 150 rfl (gk_laysFinal 151 rfl (gk_laysFinal 152 rfl (gk_laysFinal 153 rfl (gk_laysFinal 154 rfl (gk_laysFinal 155 rfl (gk_lays 156 rfl (gk_lays 157 rfl (gk_lays 158 rfl (gk_lays 159 rfl (gk_lays 160 rfl (gk_lays 161 rfl (gk_lays 162 rfl (gk_laysFinal 163 rfl (gk_lays 164 rfl (gk_laysFinal 165 rfl (gk_laysFinal 166 rfl (gk_laysFinal 167 rfl (gk_laysFinal 168 rfl (gk_laysFinal 169 rfl (gk_laysFinal 170 rfl (gk_laysFinal 171 rfl (gk_laysFinal 172 rfl (gk_laysFinal 173 rfl (gk_laysFinal 174 rfl (gk_lays 175 rfl (gk_laysFinal 176 rfl (gk_lays 177 rfl (gk_laysFinal 178 rfl (gk_laysFinal 179 rfl (gk_laysFinal 180 rfl (gk_laysFinal 181 rfl (gk_laysFinal 182 rfl (gk_laysFinal 183 rfl (gk_laysFinal 184 rfl (gk_laysFinal 185 rfl (gn))))))))))))))))))))))))))))))))))))))))))))))))))))))))))))))))))))))))))))))))))))))))))))
set_option maxRecDepth 20000 in
theorem gX11_countBy_X11_tallyPoints : GoodIn wsX11_countBy (wsV RX11 274 RX11 yX11_tallyPoints wsX11_tallyPoints) := goodIn_app (gk_methodLink 72 rfl (gk_instanceMethod 73 rfl (gk_selects 74 rfl (gk_initialized 4 rfl (gn))))) ggX11_countBy_X11_tallyPoints
theorem dX11_countBy_65 : decode cX11_countBy 65 = .ok (.aload_n 0, 1) := dw42 (n := 64) (i := 1) kc_cX11_countBy_2 (by decide +kernel)
theorem dX11_countBy_66 : decode cX11_countBy 66 = .ok (.invokevirtual 271, 3) := dw182 (n := 64) (i := 2) (a := 1) (b := 15) kc_cX11_countBy_2 (by decide +kernel) (by decide)
theorem dX11_countBy_69 : decode cX11_countBy 69 = .ok (.goto 39, 3) := dw167 (n := 64) (i := 5) (a := 0) (b := 39) kc_cX11_countBy_2 (by decide +kernel) (by decide)
theorem dX11_countBy_57 : decode cX11_countBy 57 = .ok (.iconst 1, 1) := dw4 (n := 32) (i := 25) kc_cX11_countBy_1 (by decide +kernel)
theorem dX11_countBy_58 : decode cX11_countBy 58 = .ok (.goto 4, 3) := dw167 (n := 32) (i := 26) (a := 0) (b := 4) kc_cX11_countBy_1 (by decide +kernel) (by decide)
theorem dX11_countBy_72 : decode cX11_countBy 72 = .ok (.aload_n 0, 1) := dw42 (n := 64) (i := 8) kc_cX11_countBy_2 (by decide +kernel)
theorem dX11_countBy_73 : decode cX11_countBy 73 = .ok (.invokevirtual 278, 3) := dw182 (n := 64) (i := 9) (a := 1) (b := 22) kc_cX11_countBy_2 (by decide +kernel) (by decide)
set_option maxRecDepth 20000 in
theorem ggX11_countBy_X11_countRunOff : GoodIn wsX11_countBy wsX11_countRunOff := (gk_code 84 rfl (gk_fieldLink 26 rfl (gk_fieldLink 85 rfl (gk_fieldLink 71 rfl (gk_fieldLink 47 rfl (gk_methodLink 86 rfl (gk_instanceMethod 87 rfl (gk_selects 88 rfl (gk_initialized 4 rfl (gk_code 89 rfl (gk_fieldLink 52 rfl (gk_methodLink 1 rfl (gk_instanceMethod 2 rfl (gk_selects 3 rfl (gk_code 5 rfl (gk_fieldLink 6 rfl (gk_fieldLink 7 rfl (gk_fieldLink 8 rfl (gk_fieldLink 9 rfl (gk_methodLink 10 rfl (gk_instanceMethod 11 rfl (gk_selects 12 rfl (gk_code 13 rfl (gk_fieldLink 14 rfl (gk_fieldLink 15 rfl (gk_methodLink 16 rfl (gk_instanceMethod 17 rfl (gk_selects 18 rfl (gk_code 19 rfl (gk_fieldLink 20 rfl (gk_methodLink 21 rfl (gk_instanceMethod 22 rfl (gk_selects 23 rfl (gk_code 24 rfl (gk_fieldLink 25 rfl (gk_fieldLink 27 rfl (gk_methodLink 28 rfl (gk_instanceMethod 29 rfl (gk_selects 30 rfl (gk_code 31 rfl (gk_fieldLink 32 rfl (gk_fieldLink 33 rfl (gk_methodLink 34 rfl (gk_instanceMethod 35 rfl (gk_selects 36 rfl (gk_code 37 rfl (gk_fieldLink 38 rfl (gk_constantLong 39 rfl (gk_methodLink 40 rfl (gk_static 41 rfl (gk_code 42 rfl (gk_methodLink 90 rfl (gk_instanceMethod 91 rfl (gk_selects 92 rfl (gk_code 93 rfl (gk_fieldLink 53 rfl (gk_methodLink 54 rfl (gk_static 55 rfl (gk_code 56 rfl (gk_methodLink 57 rfl (gk_instanceMethod 58 rfl (gk_selects 59 rfl (gk_code 60 rfl (gk_fieldLink 61 rfl (gk_fieldLink 62 rfl (gk_fieldLink 63 rfl (gk_fieldLink 64 rfl (gk_fieldLink 65 rfl (gk_methodLink 48 rfl (gk_instanceMethod 49 rfl (gk_selects 50 rfl (gk_code 51 rfl (gk_methodLink 66 rfl (gk_instanceMethod 67 rfl (gk_selects 68 rfl (gk_code 69 rfl (gk_fieldLink 70 rfl (gk_lays 133 rfl (gk_laysFinal 134 rfl (gk_lays 135 rfl (gk_laysFinal 136 rfl (gk_lays 137 rfl (gk_laysFinal 138 rfl (gk_laysFinal 139 rfl (gk_laysFinal 140 rfl (gk_laysFinal 141 rfl (gk_lays 142 rfl (gk_laysFinal 143 rfl (gk_laysFinal 144 rfl (gk_laysFinal 145 rfl (gk_laysFinal 146 rfl (gk_lays 147 rfl (gk_laysFinal 148 rfl (gk_laysFinal 149 rfl (gk_laysFinal 150 rfl (gk_laysFinal 151 rfl (gk_laysFinal 152 rfl (gk_laysFinal 153 rfl (gk_laysFinal 154 rfl (gk_laysFinal 155 rfl (gk_lays 156 rfl (gk_lays 157 rfl (gk_lays 158 rfl (gk_lays 159 rfl (gk_lays 160 rfl (gk_lays 161 rfl (gk_lays 162 rfl (gk_laysFinal 163 rfl (gk_lays 164 rfl (gk_laysFinal 165 rfl (gk_laysFinal 166 rfl (gk_laysFinal 167 rfl (gk_laysFinal 168 rfl (gk_laysFinal 169 rfl (gk_laysFinal 170 rfl (gk_laysFinal 171 rfl (gk_laysFinal 172 rfl (gk_laysFinal 173 rfl (gk_laysFinal 174 rfl (gk_lays 175 rfl (gk_laysFinal 176 rfl (gk_lays 177 rfl (gk_laysFinal 178 rfl (gk_laysFinal 179 rfl (gk_laysFinal 180 rfl (gk_laysFinal 181 rfl (gk_laysFinal 182 rfl (gk_laysFinal 183 rfl (gk_laysFinal 184 rfl (gk_laysFinal 185 rfl (gn)))))))))))))))))))))))))))))))))))))))))))))))))))))))))))))))))))))))))))))))))))))))))))))))))))))))))))))))))))))))))))))))))))
set_option maxRecDepth 20000 in
theorem gX11_countBy_X11_countRunOff : GoodIn wsX11_countBy (wsV RX11 278 RX11 yX11_countRunOff wsX11_countRunOff) := goodIn_app (gk_methodLink 81 rfl (gk_instanceMethod 82 rfl (gk_selects 83 rfl (gk_initialized 4 rfl (gn))))) ggX11_countBy_X11_countRunOff
theorem dX11_countBy_76 : decode cX11_countBy 76 = .ok (.goto 32, 3) := dw167 (n := 64) (i := 12) (a := 0) (b := 32) kc_cX11_countBy_2 (by decide +kernel) (by decide)
theorem dX11_countBy_79 : decode cX11_countBy 79 = .ok (.aload_n 0, 1) := dw42 (n := 64) (i := 15) kc_cX11_countBy_2 (by decide +kernel)
theorem dX11_countBy_80 : decode cX11_countBy 80 = .ok (.invokevirtual 281, 3) := dw182 (n := 64) (i := 16) (a := 1) (b := 25) kc_cX11_countBy_2 (by decide +kernel) (by decide)
set_option maxRecDepth 20000 in
theorem ggX11_countBy_X11_countWays : GoodIn wsX11_countBy wsX11_countWays := (gk_code 97 rfl (gk_fieldLink 47 rfl (gk_fieldLink 26 rfl (gk_fieldLink 53 rfl (gk_methodLink 98 rfl (gk_instanceMethod 99 rfl (gk_selects 100 rfl (gk_initialized 4 rfl (gk_code 101 rfl (gk_fieldLink 52 rfl (gk_fieldLink 102 rfl (gk_fieldLink 6 rfl (gk_fieldLink 7 rfl (gk_fieldLink 76 rfl (gk_fieldLink 103 rfl (gk_methodLink 16 rfl (gk_instanceMethod 17 rfl (gk_selects 18 rfl (gk_code 19 rfl (gk_fieldLink 20 rfl (gk_methodLink 104 rfl (gk_instanceMethod 105 rfl (gk_selects 106 rfl (gk_code 107 rfl (gk_methodLink 77 rfl (gk_instanceMethod 78 rfl (gk_selects 79 rfl (gk_code 80 rfl (gk_fieldLink 25 rfl (gk_fieldLink 27 rfl (gk_methodLink 108 rfl (gk_instanceMethod 109 rfl (gk_selects 110 rfl (gk_code 111 rfl (gk_fieldLink 14 rfl (gk_methodLink 10 rfl (gk_instanceMethod 11 rfl (gk_selects 12 rfl (gk_code 13 rfl (gk_fieldLink 15 rfl (gk_methodLink 112 rfl (gk_instanceMethod 113 rfl (gk_selects 114 rfl (gk_code 115 rfl (gk_methodLink 57 rfl (gk_instanceMethod 58 rfl (gk_selects 59 rfl (gk_code 60 rfl (gk_fieldLink 61 rfl (gk_fieldLink 62 rfl (gk_fieldLink 63 rfl (gk_fieldLink 64 rfl (gk_fieldLink 65 rfl (gk_methodLink 66 rfl (gk_instanceMethod 67 rfl (gk_selects 68 rfl (gk_code 69 rfl (gk_fieldLink 70 rfl (gk_fieldLink 71 rfl (gk_lays 133 rfl (gk_laysFinal 134 rfl (gk_lays 135 rfl (gk_laysFinal 136 rfl (gk_lays 137 rfl (gk_laysFinal 138 rfl (gk_laysFinal 139 rfl (gk_laysFinal 140 rfl (gk_laysFinal 141 rfl (gk_lays 142 rfl (gk_laysFinal 143 rfl (gk_laysFinal 144 rfl (gk_laysFinal 145 rfl (gk_laysFinal 146 rfl (gk_lays 147 rfl (gk_laysFinal 148 rfl (gk_laysFinal 149 rfl (gk_laysFinal 150 rfl (gk_laysFinal 151 rfl (gk_laysFinal 152 rfl (gk_laysFinal 153 rfl (gk_laysFinal 154 rfl (gk_laysFinal 155 rfl (gk_lays 156 rfl (gk_lays 157 rfl (gk_lays 158 rfl (gk_lays 159 rfl (gk_lays 160 rfl (gk_lays 161 rfl (gk_lays 162 rfl (gk_laysFinal 163 rfl (gk_lays 164 rfl (gk_laysFinal 165 rfl (gk_laysFinal 166 rfl (gk_laysFinal 167 rfl (gk_laysFinal 168 rfl (gk_laysFinal 169 rfl (gk_laysFinal 170 rfl (gk_laysFinal 171 rfl (gk_laysFinal 172 rfl (gk_laysFinal 173 rfl (gk_laysFinal 174 rfl (gk_lays 175 rfl (gk_laysFinal 176 rfl (gk_lays 177 rfl (gk_laysFinal 178 rfl (gk_laysFinal 179 rfl (gk_laysFinal 180 rfl (gk_laysFinal 181 rfl (gk_laysFinal 182 rfl (gk_laysFinal 183 rfl (gk_laysFinal 184 rfl (gk_laysFinal 185 rfl (gn)))))))))))))))))))))))))))))))))))))))))))))))))))))))))))))))))))))))))))))))))))))))))))))))))))))))))))))))))
set_option maxRecDepth 20000 in
theorem gX11_countBy_X11_countWays : GoodIn wsX11_countBy (wsV RX11 281 RX11 yX11_countWays wsX11_countWays) := goodIn_app (gk_methodLink 94 rfl (gk_instanceMethod 95 rfl (gk_selects 96 rfl (gk_initialized 4 rfl (gn))))) ggX11_countBy_X11_countWays
theorem dX11_countBy_83 : decode cX11_countBy 83 = .ok (.goto 25, 3) := dw167 (n := 64) (i := 19) (a := 0) (b := 25) kc_cX11_countBy_2 (by decide +kernel) (by decide)
theorem dX11_countBy_86 : decode cX11_countBy 86 = .ok (.aload_n 0, 1) := dw42 (n := 64) (i := 22) kc_cX11_countBy_2 (by decide +kernel)
theorem dX11_countBy_87 : decode cX11_countBy 87 = .ok (.invokevirtual 284, 3) := dw182 (n := 64) (i := 23) (a := 1) (b := 28) kc_cX11_countBy_2 (by decide +kernel) (by decide)
set_option maxRecDepth 20000 in
theorem ggX11_countBy_X11_countTransfer : GoodIn wsX11_countBy wsX11_countTransfer := (gk_code 119 rfl (gk_fieldLink 7 rfl (gk_fieldLink 47 rfl (gk_fieldLink 71 rfl (gk_fieldLink 38 rfl (gk_fieldLink 14 rfl (gk_fieldLink 15 rfl (gk_fieldLink 26 rfl (gk_methodLink 120 rfl (gk_instanceMethod 121 rfl (gk_selects 122 rfl (gk_initialized 4 rfl (gk_code 123 rfl (gk_fieldLink 6 rfl (gk_fieldLink 20 rfl (gk_fieldLink 76 rfl (gk_methodLink 86 rfl (gk_instanceMethod 87 rfl (gk_selects 88 rfl (gk_code 89 rfl (gk_fieldLink 52 rfl (gk_methodLink 1 rfl (gk_instanceMethod 2 rfl (gk_selects 3 rfl (gk_code 5 rfl (gk_fieldLink 8 rfl (gk_fieldLink 9 rfl (gk_methodLink 10 rfl (gk_instanceMethod 11 rfl (gk_selects 12 rfl (gk_code 13 rfl (gk_methodLink 16 rfl (gk_instanceMethod 17 rfl (gk_selects 18 rfl (gk_code 19 rfl (gk_methodLink 21 rfl (gk_instanceMethod 22 rfl (gk_selects 23 rfl (gk_code 24 rfl (gk_fieldLink 25 rfl (gk_fieldLink 27 rfl (gk_methodLink 28 rfl (gk_instanceMethod 29 rfl (gk_selects 30 rfl (gk_code 31 rfl (gk_fieldLink 32 rfl (gk_fieldLink 33 rfl (gk_methodLink 34 rfl (gk_instanceMethod 35 rfl (gk_selects 36 rfl (gk_code 37 rfl (gk_constantLong 39 rfl (gk_methodLink 40 rfl (gk_static 41 rfl (gk_code 42 rfl (gk_methodLink 48 rfl (gk_instanceMethod 49 rfl (gk_selects 50 rfl (gk_code 51 rfl (gk_fieldLink 53 rfl (gk_methodLink 54 rfl (gk_static 55 rfl (gk_code 56 rfl (gk_methodLink 124 rfl (gk_instanceMethod 125 rfl (gk_selects 126 rfl (gk_code 127 rfl (gk_methodLink 57 rfl (gk_instanceMethod 58 rfl (gk_selects 59 rfl (gk_code 60 rfl (gk_fieldLink 61 rfl (gk_fieldLink 62 rfl (gk_fieldLink 63 rfl (gk_fieldLink 64 rfl (gk_fieldLink 65 rfl (gk_methodLink 66 rfl (gk_instanceMethod 67 rfl (gk_selects 68 rfl (gk_code 69 rfl (gk_fieldLink 70 rfl (gk_methodLink 90 rfl (gk_instanceMethod 91 rfl (gk_selects 92 rfl (gk_code 93 rfl (gk_lays 133 rfl (gk_laysFinal 134 rfl (gk_lays 135 rfl (gk_laysFinal 136 rfl (gk_lays 137 rfl (gk_laysFinal 138 rfl (gk_laysFinal 139 rfl (gk_laysFinal 140 rfl (gk_laysFinal 141 rfl (gk_lays 142 rfl (gk_laysFinal 143 rfl (gk_laysFinal 144 rfl (gk_laysFinal 145 rfl (gk_laysFinal 146 rfl (gk_lays 147 rfl (gk_laysFinal 148 rfl (gk_laysFinal 149 rfl (gk_laysFinal 150 rfl (gk_laysFinal 151 rfl (gk_laysFinal 152 rfl (gk_laysFinal 153 rfl (gk_laysFinal 154 rfl (gk_laysFinal 155 rfl (gk_lays 156 rfl (gk_lays 157 rfl (gk_lays 158 rfl (gk_lays 159 rfl (gk_lays 160 rfl (gk_lays 161 rfl (gk_lays 162 rfl (gk_laysFinal 163 rfl (gk_lays 164 rfl (gk_laysFinal 165 rfl (gk_laysFinal 166 rfl (gk_laysFinal 167 rfl (gk_laysFinal 168 rfl (gk_laysFinal 169 rfl (gk_laysFinal 170 rfl (gk_laysFinal 171 rfl (gk_laysFinal 172 rfl (gk_laysFinal 173 rfl (gk_laysFinal 174 rfl (gk_lays 175 rfl (gk_laysFinal 176 rfl (gk_lays 177 rfl (gk_laysFinal 178 rfl (gk_laysFinal 179 rfl (gk_laysFinal 180 rfl (gk_laysFinal 181 rfl (gk_laysFinal 182 rfl (gk_laysFinal 183 rfl (gk_laysFinal 184 rfl (gk_laysFinal 185 rfl (gn)))))))))))))))))))))))))))))))))))))))))))))))))))))))))))))))))))))))))))))))))))))))))))))))))))))))))))))))))))))))))))))))))))))))))))
set_option maxRecDepth 20000 in
theorem gX11_countBy_X11_countTransfer : GoodIn wsX11_countBy (wsV RX11 284 RX11 yX11_countTransfer wsX11_countTransfer) := goodIn_app (gk_methodLink 116 rfl (gk_instanceMethod 117 rfl (gk_selects 118 rfl (gk_initialized 4 rfl (gn))))) ggX11_countBy_X11_countTransfer
theorem dX11_countBy_90 : decode cX11_countBy 90 = .ok (.goto 18, 3) := dw167 (n := 64) (i := 26) (a := 0) (b := 18) kc_cX11_countBy_2 (by decide +kernel) (by decide)
set_option maxHeartbeats 4000000 in
set_option maxRecDepth 100000 in
theorem s_X11_countBy (l : Launch) (D : va_G) (ad : Nat → Nat) (cs : Nat → ClassId) (M : MI) (L : ML) (x : Int32) (hI : IR M) (hD : DP (vR M)) (hNI0 : NIn (M 282) (M 258 2).toInt) (hW : WT L) (hg0 : (M 258 29).toInt = 0) (hm0 : (M 258 31).toInt = 0) (hX : hasX (vR M) (M 258 27)) (hC : x.toInt ≠ 6 → x.toInt ≠ 7 → (M 258 28).toInt ≤ (cI (M 282) (M 258 2).toNatClampNeg : Int)) (hC1 : 1 ≤ cI (M 282) (M 258 2).toNatClampNeg) (hs1 : 1 ≤ (M 258 28).toInt) (hn1 : 1 ≤ (M 258 2).toInt) : Cv l yX11_countBy wsX11_countBy ({ frames := 5, cells := 0, slots := 0, locals := 128 }) D ad cs [.ref (ad 258), .int x] M L (fun M1 L1 => (True) ∧ IR M1 ∧ (∀ k i, ¬ (k = 258 ∧ i = 25) ∧ ¬ (k = 258 ∧ i = 29) ∧ ¬ (k = 258 ∧ i = 31) ∧ k ≠ 277 ∧ k ≠ 278 ∧ k ≠ 279 ∧ k ≠ 282 ∧ k ≠ 293 ∧ k ≠ 294 → M1 k i = M k i) ∧ ∀ k i, ¬ (k = 258 ∧ i = 23) ∧ ¬ (k = 258 ∧ i = 24) ∧ k ≠ 284 ∧ k ≠ 285 ∧ k ≠ 280 ∧ k ≠ 281 ∧ k ≠ 286 ∧ k ≠ 287 ∧ k ≠ 295 ∧ k ≠ 296 → L1 k i = L k i) := by
  refine enter_v RX11 rfl [(0, .ref (ad 258)), (1, .int x)] rfl (Nat.le_of_ble_eq_true rfl) (by decide +kernel) rfl ?_
  intro p e s m below meth c C hr
  have hF : ∀ k i, ¬ (k = 258 ∧ i = 25) ∧ ¬ (k = 258 ∧ i = 29) ∧ ¬ (k = 258 ∧ i = 31) ∧ k ≠ 277 ∧ k ≠ 278 ∧ k ≠ 279 ∧ k ≠ 282 ∧ k ≠ 293 ∧ k ≠ 294 → M k i = M k i := fun _ _ _ => rfl
  have hG : ∀ k i, ¬ (k = 258 ∧ i = 23) ∧ ¬ (k = 258 ∧ i = 24) ∧ k ≠ 284 ∧ k ≠ 285 ∧ k ≠ 280 ∧ k ≠ 281 ∧ k ≠ 286 ∧ k ≠ 287 ∧ k ≠ 295 ∧ k ≠ 296 → L k i = L k i := fun _ _ _ => rfl
  have k25 : M 258 25 = M 258 25 := rfl
  have k29 : M 258 29 = M 258 29 := rfl
  have k31 : M 258 31 = M 258 31 := rfl
  have l23 : L 258 23 = L 258 23 := rfl
  have l24 : L 258 24 = L 258 24 := rfl
  have p280 : L 280 = L 280 := rfl
  have p281 : L 281 = L 281 := rfl
  have p284 : L 284 = L 284 := rfl
  have p285 : L 285 = L 285 := rfl
  have p286 : L 286 = L 286 := rfl
  have p287 : L 287 = L 287 := rfl
  have p295 : L 295 = L 295 := rfl
  have p296 : L 296 = L 296 := rfl
  have q277 : M 277 = M 277 := rfl
  have q278 : M 278 = M 278 := rfl
  have q279 : M 279 = M 279 := rfl
  have q282 : M 282 = M 282 := rfl
  have q293 : M 293 = M 293 := rfl
  have q294 : M 294 = M 294 := rfl
  refine g_iload_n C 1 dX11_countBy_0 rfl ?_
  by_cases hsw : x.toInt < 0 ∨ 5 < x.toInt
  ·
    refine g_tableOut C 93 dX11_countBy_1 hsw (by decide) ?_
    refine g_aload_n C 0 dX11_countBy_93 rfl ?_
    refine g_iload_n C 1 dX11_countBy_94 rfl ?_
    refine g_bipush C 7 dX11_countBy_95 (by decide) ?_
    refine g_icmp_ne C 104 dX11_countBy_97 (by decide) (fun c1 => ?_) (fun c1 => ?_)
    ·
      have f2 := fne rfl (by decide : (7 : Int32).toInt = 7) c1
      refine g_iconst C 1 dX11_countBy_104 (by decide) ?_
      refine g_callVv C (n := 1) (As := [.int 1]) (st := []) (s_X11_countDivisors l D ad cs _ _ 1 hI hW (by rw [(show M 258 2 = M 258 2 from rfl)]; exact hn1) (by rw [k29]; exact hg0) (by rw [k31]; exact hm0)) gX11_countBy_X11_countDivisors rfl rfl rfl (by decide +kernel) ⟨Nat.le_of_ble_eq_true rfl, Nat.le_of_ble_eq_true rfl⟩ rfl (Nat.le_of_ble_eq_true rfl) ⟨Nat.zero_le _, Nat.zero_le _⟩ (by decide) (ce_model ad cs _ _) rfl rfl dX11_countBy_105 (fun M4 L5 hr3 => ?_)
      obtain ⟨hr3, hI, hFr3, hGr3⟩ := hr3
      have hF : ∀ k i, ¬ (k = 258 ∧ i = 25) ∧ ¬ (k = 258 ∧ i = 29) ∧ ¬ (k = 258 ∧ i = 31) ∧ k ≠ 277 ∧ k ≠ 278 ∧ k ≠ 279 ∧ k ≠ 282 ∧ k ≠ 293 ∧ k ≠ 294 → M4 k i = M k i := fun k i hk => by (rw [hFr3 k i (by omega)]; try exact hF k i hk)
      have hG : ∀ k i, ¬ (k = 258 ∧ i = 23) ∧ ¬ (k = 258 ∧ i = 24) ∧ k ≠ 284 ∧ k ≠ 285 ∧ k ≠ 280 ∧ k ≠ 281 ∧ k ≠ 286 ∧ k ≠ 287 ∧ k ≠ 295 ∧ k ≠ 296 → L5 k i = L k i := fun k i hk => by (rw [hGr3 k i (by omega)]; try exact hG k i hk)
      have k25 : M4 258 25 = M4 258 25 := rfl
      have k29 : M4 258 29 = M4 258 29 := rfl
      have k31 : M4 258 31 = M4 258 31 := rfl
      have kt25 := congrArg Int32.toInt k25
      have kt29 := congrArg Int32.toInt k29
      have kt31 := congrArg Int32.toInt k31
      have l23 : L5 258 23 = L5 258 23 := rfl
      have l24 : L5 258 24 = L5 258 24 := rfl
      have p280 : L5 280 = L5 280 := rfl
      have p281 : L5 281 = L5 281 := rfl
      have p284 : L5 284 = L5 284 := rfl
      have p285 : L5 285 = L5 285 := rfl
      have p286 : L5 286 = L 286 := (funext (fun i => hGr3 286 i (by omega))).trans p286
      have p287 : L5 287 = L 287 := (funext (fun i => hGr3 287 i (by omega))).trans p287
      have p295 : L5 295 = L 295 := (funext (fun i => hGr3 295 i (by omega))).trans p295
      have p296 : L5 296 = L 296 := (funext (fun i => hGr3 296 i (by omega))).trans p296
      have q277 : M4 277 = M4 277 := rfl
      have q278 : M4 278 = M4 278 := rfl
      have q279 : M4 279 = M4 279 := rfl
      have q282 : M4 282 = M 282 := (funext (fun i => hFr3 282 i (by omega))).trans q282
      have q293 : M4 293 = M4 293 := rfl
      have q294 : M4 294 = M 294 := (funext (fun i => hFr3 294 i (by omega))).trans q294
      exact g_vret C hr ⟨trivial, hI, hF, hG⟩ dX11_countBy_108
    ·
      have f6 := feq rfl (by decide : (7 : Int32).toInt = 7) c1
      refine g_iconst C 2 dX11_countBy_100 (by decide) ?_
      refine g_goto C 105 dX11_countBy_101 (by decide) ?_
      refine g_callVv C (n := 1) (As := [.int 2]) (st := []) (s_X11_countDivisors l D ad cs _ _ 2 hI hW (by rw [(show M 258 2 = M 258 2 from rfl)]; exact hn1) (by rw [k29]; exact hg0) (by rw [k31]; exact hm0)) gX11_countBy_X11_countDivisors rfl rfl rfl (by decide +kernel) ⟨Nat.le_of_ble_eq_true rfl, Nat.le_of_ble_eq_true rfl⟩ rfl (Nat.le_of_ble_eq_true rfl) ⟨Nat.zero_le _, Nat.zero_le _⟩ (by decide) (ce_model ad cs _ _) rfl rfl dX11_countBy_105 (fun M8 L9 hr7 => ?_)
      obtain ⟨hr7, hI, hFr7, hGr7⟩ := hr7
      have hF : ∀ k i, ¬ (k = 258 ∧ i = 25) ∧ ¬ (k = 258 ∧ i = 29) ∧ ¬ (k = 258 ∧ i = 31) ∧ k ≠ 277 ∧ k ≠ 278 ∧ k ≠ 279 ∧ k ≠ 282 ∧ k ≠ 293 ∧ k ≠ 294 → M8 k i = M k i := fun k i hk => by (rw [hFr7 k i (by omega)]; try exact hF k i hk)
      have hG : ∀ k i, ¬ (k = 258 ∧ i = 23) ∧ ¬ (k = 258 ∧ i = 24) ∧ k ≠ 284 ∧ k ≠ 285 ∧ k ≠ 280 ∧ k ≠ 281 ∧ k ≠ 286 ∧ k ≠ 287 ∧ k ≠ 295 ∧ k ≠ 296 → L9 k i = L k i := fun k i hk => by (rw [hGr7 k i (by omega)]; try exact hG k i hk)
      have k25 : M8 258 25 = M8 258 25 := rfl
      have k29 : M8 258 29 = M8 258 29 := rfl
      have k31 : M8 258 31 = M8 258 31 := rfl
      have kt25 := congrArg Int32.toInt k25
      have kt29 := congrArg Int32.toInt k29
      have kt31 := congrArg Int32.toInt k31
      have l23 : L9 258 23 = L9 258 23 := rfl
      have l24 : L9 258 24 = L9 258 24 := rfl
      have p280 : L9 280 = L9 280 := rfl
      have p281 : L9 281 = L9 281 := rfl
      have p284 : L9 284 = L9 284 := rfl
      have p285 : L9 285 = L9 285 := rfl
      have p286 : L9 286 = L 286 := (funext (fun i => hGr7 286 i (by omega))).trans p286
      have p287 : L9 287 = L 287 := (funext (fun i => hGr7 287 i (by omega))).trans p287
      have p295 : L9 295 = L 295 := (funext (fun i => hGr7 295 i (by omega))).trans p295
      have p296 : L9 296 = L 296 := (funext (fun i => hGr7 296 i (by omega))).trans p296
      have q277 : M8 277 = M8 277 := rfl
      have q278 : M8 278 = M8 278 := rfl
      have q279 : M8 279 = M8 279 := rfl
      have q282 : M8 282 = M 282 := (funext (fun i => hFr7 282 i (by omega))).trans q282
      have q293 : M8 293 = M8 293 := rfl
      have q294 : M8 294 = M 294 := (funext (fun i => hFr7 294 i (by omega))).trans q294
      exact g_vret C hr ⟨trivial, hI, hF, hG⟩ dX11_countBy_108
  ·
    have hsw1 : ¬ x.toInt < 0 := fun h => hsw (Or.inl h)
    have hsw2 : ¬ 5 < x.toInt := fun h => hsw (Or.inr h)
    rcases (show x.toInt = 0 ∨ x.toInt = 1 ∨ x.toInt = 2 ∨ x.toInt = 3 ∨ x.toInt = 4 ∨ x.toInt = 5 by omega) with hq | hq | hq | hq | hq | hq
    ·
      refine g_tableIn C 40 dX11_countBy_1 hsw1 hsw2 (off := 39) (by rw [hq]; rfl) (by decide) ?_
      refine g_aload_n C 0 dX11_countBy_40 rfl ?_
      refine g_callVv C (n := 0) (As := []) (st := []) (s_X11_tallyFirsts l D ad cs _ _  hI hW) gX11_countBy_X11_tallyFirsts rfl rfl rfl (by decide +kernel) ⟨Nat.le_of_ble_eq_true rfl, Nat.le_of_ble_eq_true rfl⟩ rfl (Nat.le_of_ble_eq_true rfl) ⟨Nat.zero_le _, Nat.zero_le _⟩ (by decide) (ce_model ad cs _ _) rfl rfl dX11_countBy_41 (fun M11 L12 hr10 => ?_)
      obtain ⟨hr10, hI, hFr10, hGr10⟩ := hr10
      have hF : ∀ k i, ¬ (k = 258 ∧ i = 25) ∧ ¬ (k = 258 ∧ i = 29) ∧ ¬ (k = 258 ∧ i = 31) ∧ k ≠ 277 ∧ k ≠ 278 ∧ k ≠ 279 ∧ k ≠ 282 ∧ k ≠ 293 ∧ k ≠ 294 → M11 k i = M k i := fun k i hk => by (rw [hFr10 k i (by omega)]; try exact hF k i hk)
      have hG : ∀ k i, ¬ (k = 258 ∧ i = 23) ∧ ¬ (k = 258 ∧ i = 24) ∧ k ≠ 284 ∧ k ≠ 285 ∧ k ≠ 280 ∧ k ≠ 281 ∧ k ≠ 286 ∧ k ≠ 287 ∧ k ≠ 295 ∧ k ≠ 296 → L12 k i = L k i := fun k i hk => by (rw [hGr10 k i (by omega)]; try exact hG k i hk)
      have k29 : M11 258 29 = M 258 29 := (hFr10 258 29 (by omega)).trans k29
      have k31 : M11 258 31 = M 258 31 := (hFr10 258 31 (by omega)).trans k31
      have k25 : M11 258 25 = M11 258 25 := rfl
      have kt25 := congrArg Int32.toInt k25
      have kt29 := congrArg Int32.toInt k29
      have kt31 := congrArg Int32.toInt k31
      have l23 : L12 258 23 = L12 258 23 := rfl
      have l24 : L12 258 24 = L12 258 24 := rfl
      have p280 : L12 280 = L 280 := (funext (fun i => hGr10 280 i (by omega))).trans p280
      have p281 : L12 281 = L 281 := (funext (fun i => hGr10 281 i (by omega))).trans p281
      have p284 : L12 284 = L12 284 := rfl
      have p285 : L12 285 = L12 285 := rfl
      have p286 : L12 286 = L 286 := (funext (fun i => hGr10 286 i (by omega))).trans p286
      have p287 : L12 287 = L 287 := (funext (fun i => hGr10 287 i (by omega))).trans p287
      have p295 : L12 295 = L 295 := (funext (fun i => hGr10 295 i (by omega))).trans p295
      have p296 : L12 296 = L 296 := (funext (fun i => hGr10 296 i (by omega))).trans p296
      have q277 : M11 277 = M 277 := (funext (fun i => hFr10 277 i (by omega))).trans q277
      have q278 : M11 278 = M 278 := (funext (fun i => hFr10 278 i (by omega))).trans q278
      have q279 : M11 279 = M 279 := (funext (fun i => hFr10 279 i (by omega))).trans q279
      have q282 : M11 282 = M 282 := (funext (fun i => hFr10 282 i (by omega))).trans q282
      have q293 : M11 293 = M 293 := (funext (fun i => hFr10 293 i (by omega))).trans q293
      have q294 : M11 294 = M 294 := (funext (fun i => hFr10 294 i (by omega))).trans q294
      refine g_aload_n C 0 dX11_countBy_44 rfl ?_
      refine g_callVv C (n := 0) (As := []) (st := []) (s_X11_countByTallies l D ad cs _ _  hI (DP_k hD (hF 258 2 (by omega)) (fun i => hF 260 i (by omega))) (by rw [(show M11 282 = M 282 from q282), (show M11 258 2 = M 258 2 from hF 258 2 (by omega))]; exact hNI0) (by rw [k29]; exact hg0) (by rw [k31]; exact hm0) (by rw [(show M11 258 28 = M 258 28 from hF 258 28 (by omega)), (show M11 282 = M 282 from q282), (show M11 258 2 = M 258 2 from hF 258 2 (by omega))]; exact hC (by omega) (by omega))) gX11_countBy_X11_countByTallies rfl rfl rfl (by decide +kernel) ⟨Nat.le_of_ble_eq_true rfl, Nat.le_of_ble_eq_true rfl⟩ rfl (Nat.le_of_ble_eq_true rfl) ⟨Nat.zero_le _, Nat.zero_le _⟩ (by decide) (ce_model ad cs _ _) rfl rfl dX11_countBy_45 (fun M14 L15 hr13 => ?_)
      obtain ⟨hr13, hI, hFr13, hGr13⟩ := hr13
      have hF : ∀ k i, ¬ (k = 258 ∧ i = 25) ∧ ¬ (k = 258 ∧ i = 29) ∧ ¬ (k = 258 ∧ i = 31) ∧ k ≠ 277 ∧ k ≠ 278 ∧ k ≠ 279 ∧ k ≠ 282 ∧ k ≠ 293 ∧ k ≠ 294 → M14 k i = M k i := fun k i hk => by (rw [hFr13 k i (by omega)]; try exact hF k i hk)
      have hG : ∀ k i, ¬ (k = 258 ∧ i = 23) ∧ ¬ (k = 258 ∧ i = 24) ∧ k ≠ 284 ∧ k ≠ 285 ∧ k ≠ 280 ∧ k ≠ 281 ∧ k ≠ 286 ∧ k ≠ 287 ∧ k ≠ 295 ∧ k ≠ 296 → L15 k i = L k i := fun k i hk => by (rw [hGr13 k i (by omega)]; try exact hG k i hk)
      have k25 : M14 258 25 = M11 258 25 := (hFr13 258 25 (by omega)).trans k25
      have k29 : M14 258 29 = M14 258 29 := rfl
      have k31 : M14 258 31 = M14 258 31 := rfl
      have kt25 := congrArg Int32.toInt k25
      have kt29 := congrArg Int32.toInt k29
      have kt31 := congrArg Int32.toInt k31
      have l23 : L15 258 23 = L12 258 23 := (hGr13 258 23 (by omega)).trans l23
      have l24 : L15 258 24 = L12 258 24 := (hGr13 258 24 (by omega)).trans l24
      have p280 : L15 280 = L15 280 := rfl
      have p281 : L15 281 = L15 281 := rfl
      have p284 : L15 284 = L12 284 := (funext (fun i => hGr13 284 i (by omega))).trans p284
      have p285 : L15 285 = L12 285 := (funext (fun i => hGr13 285 i (by omega))).trans p285
      have p286 : L15 286 = L 286 := (funext (fun i => hGr13 286 i (by omega))).trans p286
      have p287 : L15 287 = L 287 := (funext (fun i => hGr13 287 i (by omega))).trans p287
      have p295 : L15 295 = L 295 := (funext (fun i => hGr13 295 i (by omega))).trans p295
      have p296 : L15 296 = L 296 := (funext (fun i => hGr13 296 i (by omega))).trans p296
      have q277 : M14 277 = M14 277 := rfl
      have q278 : M14 278 = M14 278 := rfl
      have q279 : M14 279 = M14 279 := rfl
      have q282 : M14 282 = M14 282 := rfl
      have q293 : M14 293 = M 293 := (funext (fun i => hFr13 293 i (by omega))).trans q293
      have q294 : M14 294 = M 294 := (funext (fun i => hFr13 294 i (by omega))).trans q294
      refine g_goto C 108 dX11_countBy_48 (by decide) ?_
      exact g_vret C hr ⟨trivial, hI, hF, hG⟩ dX11_countBy_108
    ·
      refine g_tableIn C 51 dX11_countBy_1 hsw1 hsw2 (off := 50) (by rw [hq]; rfl) (by decide) ?_
      refine g_aload_n C 0 dX11_countBy_51 rfl ?_
      refine g_iload_n C 1 dX11_countBy_52 rfl ?_
      refine g_iconst C 2 dX11_countBy_53 (by decide) ?_
      refine g_icmp_ne C 61 dX11_countBy_54 (by decide) (fun c16 => ?_) (fun c16 => ?_)
      ·
        have f17 := fne rfl (by decide : (2 : Int32).toInt = 2) c16
        refine g_iconst C 0 dX11_countBy_61 (by decide) ?_
        refine g_callVv C (n := 1) (As := [.int 0]) (st := []) (s_X11_tallyPoints l D ad cs _ _ 0 hI ) gX11_countBy_X11_tallyPoints rfl rfl rfl (by decide +kernel) ⟨Nat.le_of_ble_eq_true rfl, Nat.le_of_ble_eq_true rfl⟩ rfl (Nat.le_of_ble_eq_true rfl) ⟨Nat.zero_le _, Nat.zero_le _⟩ (by decide) (ce_model ad cs _ _) rfl rfl dX11_countBy_62 (fun M19 L20 hr18 => ?_)
        obtain ⟨hr18, hI, hFr18, hGr18⟩ := hr18
        have hF : ∀ k i, ¬ (k = 258 ∧ i = 25) ∧ ¬ (k = 258 ∧ i = 29) ∧ ¬ (k = 258 ∧ i = 31) ∧ k ≠ 277 ∧ k ≠ 278 ∧ k ≠ 279 ∧ k ≠ 282 ∧ k ≠ 293 ∧ k ≠ 294 → M19 k i = M k i := fun k i hk => by (rw [hFr18 k i (by omega)]; try exact hF k i hk)
        have hG : ∀ k i, ¬ (k = 258 ∧ i = 23) ∧ ¬ (k = 258 ∧ i = 24) ∧ k ≠ 284 ∧ k ≠ 285 ∧ k ≠ 280 ∧ k ≠ 281 ∧ k ≠ 286 ∧ k ≠ 287 ∧ k ≠ 295 ∧ k ≠ 296 → L20 k i = L k i := fun k i hk => by (rw [hGr18 k i (by omega)]; try exact hG k i hk)
        have k29 : M19 258 29 = M 258 29 := (hFr18 258 29 (by omega)).trans k29
        have k31 : M19 258 31 = M 258 31 := (hFr18 258 31 (by omega)).trans k31
        have k25 : M19 258 25 = M19 258 25 := rfl
        have kt25 := congrArg Int32.toInt k25
        have kt29 := congrArg Int32.toInt k29
        have kt31 := congrArg Int32.toInt k31
        have l23 : L20 258 23 = L20 258 23 := rfl
        have l24 : L20 258 24 = L20 258 24 := rfl
        have p280 : L20 280 = L 280 := (funext (fun i => hGr18 280 i (by omega))).trans p280
        have p281 : L20 281 = L 281 := (funext (fun i => hGr18 281 i (by omega))).trans p281
        have p284 : L20 284 = L20 284 := rfl
        have p285 : L20 285 = L20 285 := rfl
        have p286 : L20 286 = L 286 := (funext (fun i => hGr18 286 i (by omega))).trans p286
        have p287 : L20 287 = L 287 := (funext (fun i => hGr18 287 i (by omega))).trans p287
        have p295 : L20 295 = L 295 := (funext (fun i => hGr18 295 i (by omega))).trans p295
        have p296 : L20 296 = L 296 := (funext (fun i => hGr18 296 i (by omega))).trans p296
        have q277 : M19 277 = M 277 := (funext (fun i => hFr18 277 i (by omega))).trans q277
        have q278 : M19 278 = M 278 := (funext (fun i => hFr18 278 i (by omega))).trans q278
        have q279 : M19 279 = M 279 := (funext (fun i => hFr18 279 i (by omega))).trans q279
        have q282 : M19 282 = M 282 := (funext (fun i => hFr18 282 i (by omega))).trans q282
        have q293 : M19 293 = M 293 := (funext (fun i => hFr18 293 i (by omega))).trans q293
        have q294 : M19 294 = M 294 := (funext (fun i => hFr18 294 i (by omega))).trans q294
        refine g_aload_n C 0 dX11_countBy_65 rfl ?_
        refine g_callVv C (n := 0) (As := []) (st := []) (s_X11_countByTallies l D ad cs _ _  hI (DP_k hD (hF 258 2 (by omega)) (fun i => hF 260 i (by omega))) (by rw [(show M19 282 = M 282 from q282), (show M19 258 2 = M 258 2 from hF 258 2 (by omega))]; exact hNI0) (by rw [k29]; exact hg0) (by rw [k31]; exact hm0) (by rw [(show M19 258 28 = M 258 28 from hF 258 28 (by omega)), (show M19 282 = M 282 from q282), (show M19 258 2 = M 258 2 from hF 258 2 (by omega))]; exact hC (by omega) (by omega))) gX11_countBy_X11_countByTallies rfl rfl rfl (by decide +kernel) ⟨Nat.le_of_ble_eq_true rfl, Nat.le_of_ble_eq_true rfl⟩ rfl (Nat.le_of_ble_eq_true rfl) ⟨Nat.zero_le _, Nat.zero_le _⟩ (by decide) (ce_model ad cs _ _) rfl rfl dX11_countBy_66 (fun M22 L23 hr21 => ?_)
        obtain ⟨hr21, hI, hFr21, hGr21⟩ := hr21
        have hF : ∀ k i, ¬ (k = 258 ∧ i = 25) ∧ ¬ (k = 258 ∧ i = 29) ∧ ¬ (k = 258 ∧ i = 31) ∧ k ≠ 277 ∧ k ≠ 278 ∧ k ≠ 279 ∧ k ≠ 282 ∧ k ≠ 293 ∧ k ≠ 294 → M22 k i = M k i := fun k i hk => by (rw [hFr21 k i (by omega)]; try exact hF k i hk)
        have hG : ∀ k i, ¬ (k = 258 ∧ i = 23) ∧ ¬ (k = 258 ∧ i = 24) ∧ k ≠ 284 ∧ k ≠ 285 ∧ k ≠ 280 ∧ k ≠ 281 ∧ k ≠ 286 ∧ k ≠ 287 ∧ k ≠ 295 ∧ k ≠ 296 → L23 k i = L k i := fun k i hk => by (rw [hGr21 k i (by omega)]; try exact hG k i hk)
        have k25 : M22 258 25 = M19 258 25 := (hFr21 258 25 (by omega)).trans k25
        have k29 : M22 258 29 = M22 258 29 := rfl
        have k31 : M22 258 31 = M22 258 31 := rfl
        have kt25 := congrArg Int32.toInt k25
        have kt29 := congrArg Int32.toInt k29
        have kt31 := congrArg Int32.toInt k31
        have l23 : L23 258 23 = L20 258 23 := (hGr21 258 23 (by omega)).trans l23
        have l24 : L23 258 24 = L20 258 24 := (hGr21 258 24 (by omega)).trans l24
        have p280 : L23 280 = L23 280 := rfl
        have p281 : L23 281 = L23 281 := rfl
        have p284 : L23 284 = L20 284 := (funext (fun i => hGr21 284 i (by omega))).trans p284
        have p285 : L23 285 = L20 285 := (funext (fun i => hGr21 285 i (by omega))).trans p285
        have p286 : L23 286 = L 286 := (funext (fun i => hGr21 286 i (by omega))).trans p286
        have p287 : L23 287 = L 287 := (funext (fun i => hGr21 287 i (by omega))).trans p287
        have p295 : L23 295 = L 295 := (funext (fun i => hGr21 295 i (by omega))).trans p295
        have p296 : L23 296 = L 296 := (funext (fun i => hGr21 296 i (by omega))).trans p296
        have q277 : M22 277 = M22 277 := rfl
        have q278 : M22 278 = M22 278 := rfl
        have q279 : M22 279 = M22 279 := rfl
        have q282 : M22 282 = M22 282 := rfl
        have q293 : M22 293 = M 293 := (funext (fun i => hFr21 293 i (by omega))).trans q293
        have q294 : M22 294 = M 294 := (funext (fun i => hFr21 294 i (by omega))).trans q294
        refine g_goto C 108 dX11_countBy_69 (by decide) ?_
        exact g_vret C hr ⟨trivial, hI, hF, hG⟩ dX11_countBy_108
      ·
        have f24 := feq rfl (by decide : (2 : Int32).toInt = 2) c16
        refine g_iconst C 1 dX11_countBy_57 (by decide) ?_
        refine g_goto C 62 dX11_countBy_58 (by decide) ?_
        refine g_callVv C (n := 1) (As := [.int 1]) (st := []) (s_X11_tallyPoints l D ad cs _ _ 1 hI ) gX11_countBy_X11_tallyPoints rfl rfl rfl (by decide +kernel) ⟨Nat.le_of_ble_eq_true rfl, Nat.le_of_ble_eq_true rfl⟩ rfl (Nat.le_of_ble_eq_true rfl) ⟨Nat.zero_le _, Nat.zero_le _⟩ (by decide) (ce_model ad cs _ _) rfl rfl dX11_countBy_62 (fun M26 L27 hr25 => ?_)
        obtain ⟨hr25, hI, hFr25, hGr25⟩ := hr25
        have hF : ∀ k i, ¬ (k = 258 ∧ i = 25) ∧ ¬ (k = 258 ∧ i = 29) ∧ ¬ (k = 258 ∧ i = 31) ∧ k ≠ 277 ∧ k ≠ 278 ∧ k ≠ 279 ∧ k ≠ 282 ∧ k ≠ 293 ∧ k ≠ 294 → M26 k i = M k i := fun k i hk => by (rw [hFr25 k i (by omega)]; try exact hF k i hk)
        have hG : ∀ k i, ¬ (k = 258 ∧ i = 23) ∧ ¬ (k = 258 ∧ i = 24) ∧ k ≠ 284 ∧ k ≠ 285 ∧ k ≠ 280 ∧ k ≠ 281 ∧ k ≠ 286 ∧ k ≠ 287 ∧ k ≠ 295 ∧ k ≠ 296 → L27 k i = L k i := fun k i hk => by (rw [hGr25 k i (by omega)]; try exact hG k i hk)
        have k29 : M26 258 29 = M 258 29 := (hFr25 258 29 (by omega)).trans k29
        have k31 : M26 258 31 = M 258 31 := (hFr25 258 31 (by omega)).trans k31
        have k25 : M26 258 25 = M26 258 25 := rfl
        have kt25 := congrArg Int32.toInt k25
        have kt29 := congrArg Int32.toInt k29
        have kt31 := congrArg Int32.toInt k31
        have l23 : L27 258 23 = L27 258 23 := rfl
        have l24 : L27 258 24 = L27 258 24 := rfl
        have p280 : L27 280 = L 280 := (funext (fun i => hGr25 280 i (by omega))).trans p280
        have p281 : L27 281 = L 281 := (funext (fun i => hGr25 281 i (by omega))).trans p281
        have p284 : L27 284 = L27 284 := rfl
        have p285 : L27 285 = L27 285 := rfl
        have p286 : L27 286 = L 286 := (funext (fun i => hGr25 286 i (by omega))).trans p286
        have p287 : L27 287 = L 287 := (funext (fun i => hGr25 287 i (by omega))).trans p287
        have p295 : L27 295 = L 295 := (funext (fun i => hGr25 295 i (by omega))).trans p295
        have p296 : L27 296 = L 296 := (funext (fun i => hGr25 296 i (by omega))).trans p296
        have q277 : M26 277 = M 277 := (funext (fun i => hFr25 277 i (by omega))).trans q277
        have q278 : M26 278 = M 278 := (funext (fun i => hFr25 278 i (by omega))).trans q278
        have q279 : M26 279 = M 279 := (funext (fun i => hFr25 279 i (by omega))).trans q279
        have q282 : M26 282 = M 282 := (funext (fun i => hFr25 282 i (by omega))).trans q282
        have q293 : M26 293 = M 293 := (funext (fun i => hFr25 293 i (by omega))).trans q293
        have q294 : M26 294 = M 294 := (funext (fun i => hFr25 294 i (by omega))).trans q294
        refine g_aload_n C 0 dX11_countBy_65 rfl ?_
        refine g_callVv C (n := 0) (As := []) (st := []) (s_X11_countByTallies l D ad cs _ _  hI (DP_k hD (hF 258 2 (by omega)) (fun i => hF 260 i (by omega))) (by rw [(show M26 282 = M 282 from q282), (show M26 258 2 = M 258 2 from hF 258 2 (by omega))]; exact hNI0) (by rw [k29]; exact hg0) (by rw [k31]; exact hm0) (by rw [(show M26 258 28 = M 258 28 from hF 258 28 (by omega)), (show M26 282 = M 282 from q282), (show M26 258 2 = M 258 2 from hF 258 2 (by omega))]; exact hC (by omega) (by omega))) gX11_countBy_X11_countByTallies rfl rfl rfl (by decide +kernel) ⟨Nat.le_of_ble_eq_true rfl, Nat.le_of_ble_eq_true rfl⟩ rfl (Nat.le_of_ble_eq_true rfl) ⟨Nat.zero_le _, Nat.zero_le _⟩ (by decide) (ce_model ad cs _ _) rfl rfl dX11_countBy_66 (fun M29 L30 hr28 => ?_)
        obtain ⟨hr28, hI, hFr28, hGr28⟩ := hr28
        have hF : ∀ k i, ¬ (k = 258 ∧ i = 25) ∧ ¬ (k = 258 ∧ i = 29) ∧ ¬ (k = 258 ∧ i = 31) ∧ k ≠ 277 ∧ k ≠ 278 ∧ k ≠ 279 ∧ k ≠ 282 ∧ k ≠ 293 ∧ k ≠ 294 → M29 k i = M k i := fun k i hk => by (rw [hFr28 k i (by omega)]; try exact hF k i hk)
        have hG : ∀ k i, ¬ (k = 258 ∧ i = 23) ∧ ¬ (k = 258 ∧ i = 24) ∧ k ≠ 284 ∧ k ≠ 285 ∧ k ≠ 280 ∧ k ≠ 281 ∧ k ≠ 286 ∧ k ≠ 287 ∧ k ≠ 295 ∧ k ≠ 296 → L30 k i = L k i := fun k i hk => by (rw [hGr28 k i (by omega)]; try exact hG k i hk)
        have k25 : M29 258 25 = M26 258 25 := (hFr28 258 25 (by omega)).trans k25
        have k29 : M29 258 29 = M29 258 29 := rfl
        have k31 : M29 258 31 = M29 258 31 := rfl
        have kt25 := congrArg Int32.toInt k25
        have kt29 := congrArg Int32.toInt k29
        have kt31 := congrArg Int32.toInt k31
        have l23 : L30 258 23 = L27 258 23 := (hGr28 258 23 (by omega)).trans l23
        have l24 : L30 258 24 = L27 258 24 := (hGr28 258 24 (by omega)).trans l24
        have p280 : L30 280 = L30 280 := rfl
        have p281 : L30 281 = L30 281 := rfl
        have p284 : L30 284 = L27 284 := (funext (fun i => hGr28 284 i (by omega))).trans p284
        have p285 : L30 285 = L27 285 := (funext (fun i => hGr28 285 i (by omega))).trans p285
        have p286 : L30 286 = L 286 := (funext (fun i => hGr28 286 i (by omega))).trans p286
        have p287 : L30 287 = L 287 := (funext (fun i => hGr28 287 i (by omega))).trans p287
        have p295 : L30 295 = L 295 := (funext (fun i => hGr28 295 i (by omega))).trans p295
        have p296 : L30 296 = L 296 := (funext (fun i => hGr28 296 i (by omega))).trans p296
        have q277 : M29 277 = M29 277 := rfl
        have q278 : M29 278 = M29 278 := rfl
        have q279 : M29 279 = M29 279 := rfl
        have q282 : M29 282 = M29 282 := rfl
        have q293 : M29 293 = M 293 := (funext (fun i => hFr28 293 i (by omega))).trans q293
        have q294 : M29 294 = M 294 := (funext (fun i => hFr28 294 i (by omega))).trans q294
        refine g_goto C 108 dX11_countBy_69 (by decide) ?_
        exact g_vret C hr ⟨trivial, hI, hF, hG⟩ dX11_countBy_108
    ·
      refine g_tableIn C 51 dX11_countBy_1 hsw1 hsw2 (off := 50) (by rw [hq]; rfl) (by decide) ?_
      refine g_aload_n C 0 dX11_countBy_51 rfl ?_
      refine g_iload_n C 1 dX11_countBy_52 rfl ?_
      refine g_iconst C 2 dX11_countBy_53 (by decide) ?_
      refine g_icmp_ne C 61 dX11_countBy_54 (by decide) (fun c31 => ?_) (fun c31 => ?_)
      ·
        have f32 := fne rfl (by decide : (2 : Int32).toInt = 2) c31
        refine g_iconst C 0 dX11_countBy_61 (by decide) ?_
        refine g_callVv C (n := 1) (As := [.int 0]) (st := []) (s_X11_tallyPoints l D ad cs _ _ 0 hI ) gX11_countBy_X11_tallyPoints rfl rfl rfl (by decide +kernel) ⟨Nat.le_of_ble_eq_true rfl, Nat.le_of_ble_eq_true rfl⟩ rfl (Nat.le_of_ble_eq_true rfl) ⟨Nat.zero_le _, Nat.zero_le _⟩ (by decide) (ce_model ad cs _ _) rfl rfl dX11_countBy_62 (fun M34 L35 hr33 => ?_)
        obtain ⟨hr33, hI, hFr33, hGr33⟩ := hr33
        have hF : ∀ k i, ¬ (k = 258 ∧ i = 25) ∧ ¬ (k = 258 ∧ i = 29) ∧ ¬ (k = 258 ∧ i = 31) ∧ k ≠ 277 ∧ k ≠ 278 ∧ k ≠ 279 ∧ k ≠ 282 ∧ k ≠ 293 ∧ k ≠ 294 → M34 k i = M k i := fun k i hk => by (rw [hFr33 k i (by omega)]; try exact hF k i hk)
        have hG : ∀ k i, ¬ (k = 258 ∧ i = 23) ∧ ¬ (k = 258 ∧ i = 24) ∧ k ≠ 284 ∧ k ≠ 285 ∧ k ≠ 280 ∧ k ≠ 281 ∧ k ≠ 286 ∧ k ≠ 287 ∧ k ≠ 295 ∧ k ≠ 296 → L35 k i = L k i := fun k i hk => by (rw [hGr33 k i (by omega)]; try exact hG k i hk)
        have k29 : M34 258 29 = M 258 29 := (hFr33 258 29 (by omega)).trans k29
        have k31 : M34 258 31 = M 258 31 := (hFr33 258 31 (by omega)).trans k31
        have k25 : M34 258 25 = M34 258 25 := rfl
        have kt25 := congrArg Int32.toInt k25
        have kt29 := congrArg Int32.toInt k29
        have kt31 := congrArg Int32.toInt k31
        have l23 : L35 258 23 = L35 258 23 := rfl
        have l24 : L35 258 24 = L35 258 24 := rfl
        have p280 : L35 280 = L 280 := (funext (fun i => hGr33 280 i (by omega))).trans p280
        have p281 : L35 281 = L 281 := (funext (fun i => hGr33 281 i (by omega))).trans p281
        have p284 : L35 284 = L35 284 := rfl
        have p285 : L35 285 = L35 285 := rfl
        have p286 : L35 286 = L 286 := (funext (fun i => hGr33 286 i (by omega))).trans p286
        have p287 : L35 287 = L 287 := (funext (fun i => hGr33 287 i (by omega))).trans p287
        have p295 : L35 295 = L 295 := (funext (fun i => hGr33 295 i (by omega))).trans p295
        have p296 : L35 296 = L 296 := (funext (fun i => hGr33 296 i (by omega))).trans p296
        have q277 : M34 277 = M 277 := (funext (fun i => hFr33 277 i (by omega))).trans q277
        have q278 : M34 278 = M 278 := (funext (fun i => hFr33 278 i (by omega))).trans q278
        have q279 : M34 279 = M 279 := (funext (fun i => hFr33 279 i (by omega))).trans q279
        have q282 : M34 282 = M 282 := (funext (fun i => hFr33 282 i (by omega))).trans q282
        have q293 : M34 293 = M 293 := (funext (fun i => hFr33 293 i (by omega))).trans q293
        have q294 : M34 294 = M 294 := (funext (fun i => hFr33 294 i (by omega))).trans q294
        refine g_aload_n C 0 dX11_countBy_65 rfl ?_
        refine g_callVv C (n := 0) (As := []) (st := []) (s_X11_countByTallies l D ad cs _ _  hI (DP_k hD (hF 258 2 (by omega)) (fun i => hF 260 i (by omega))) (by rw [(show M34 282 = M 282 from q282), (show M34 258 2 = M 258 2 from hF 258 2 (by omega))]; exact hNI0) (by rw [k29]; exact hg0) (by rw [k31]; exact hm0) (by rw [(show M34 258 28 = M 258 28 from hF 258 28 (by omega)), (show M34 282 = M 282 from q282), (show M34 258 2 = M 258 2 from hF 258 2 (by omega))]; exact hC (by omega) (by omega))) gX11_countBy_X11_countByTallies rfl rfl rfl (by decide +kernel) ⟨Nat.le_of_ble_eq_true rfl, Nat.le_of_ble_eq_true rfl⟩ rfl (Nat.le_of_ble_eq_true rfl) ⟨Nat.zero_le _, Nat.zero_le _⟩ (by decide) (ce_model ad cs _ _) rfl rfl dX11_countBy_66 (fun M37 L38 hr36 => ?_)
        obtain ⟨hr36, hI, hFr36, hGr36⟩ := hr36
        have hF : ∀ k i, ¬ (k = 258 ∧ i = 25) ∧ ¬ (k = 258 ∧ i = 29) ∧ ¬ (k = 258 ∧ i = 31) ∧ k ≠ 277 ∧ k ≠ 278 ∧ k ≠ 279 ∧ k ≠ 282 ∧ k ≠ 293 ∧ k ≠ 294 → M37 k i = M k i := fun k i hk => by (rw [hFr36 k i (by omega)]; try exact hF k i hk)
        have hG : ∀ k i, ¬ (k = 258 ∧ i = 23) ∧ ¬ (k = 258 ∧ i = 24) ∧ k ≠ 284 ∧ k ≠ 285 ∧ k ≠ 280 ∧ k ≠ 281 ∧ k ≠ 286 ∧ k ≠ 287 ∧ k ≠ 295 ∧ k ≠ 296 → L38 k i = L k i := fun k i hk => by (rw [hGr36 k i (by omega)]; try exact hG k i hk)
        have k25 : M37 258 25 = M34 258 25 := (hFr36 258 25 (by omega)).trans k25
        have k29 : M37 258 29 = M37 258 29 := rfl
        have k31 : M37 258 31 = M37 258 31 := rfl
        have kt25 := congrArg Int32.toInt k25
        have kt29 := congrArg Int32.toInt k29
        have kt31 := congrArg Int32.toInt k31
        have l23 : L38 258 23 = L35 258 23 := (hGr36 258 23 (by omega)).trans l23
        have l24 : L38 258 24 = L35 258 24 := (hGr36 258 24 (by omega)).trans l24
        have p280 : L38 280 = L38 280 := rfl
        have p281 : L38 281 = L38 281 := rfl
        have p284 : L38 284 = L35 284 := (funext (fun i => hGr36 284 i (by omega))).trans p284
        have p285 : L38 285 = L35 285 := (funext (fun i => hGr36 285 i (by omega))).trans p285
        have p286 : L38 286 = L 286 := (funext (fun i => hGr36 286 i (by omega))).trans p286
        have p287 : L38 287 = L 287 := (funext (fun i => hGr36 287 i (by omega))).trans p287
        have p295 : L38 295 = L 295 := (funext (fun i => hGr36 295 i (by omega))).trans p295
        have p296 : L38 296 = L 296 := (funext (fun i => hGr36 296 i (by omega))).trans p296
        have q277 : M37 277 = M37 277 := rfl
        have q278 : M37 278 = M37 278 := rfl
        have q279 : M37 279 = M37 279 := rfl
        have q282 : M37 282 = M37 282 := rfl
        have q293 : M37 293 = M 293 := (funext (fun i => hFr36 293 i (by omega))).trans q293
        have q294 : M37 294 = M 294 := (funext (fun i => hFr36 294 i (by omega))).trans q294
        refine g_goto C 108 dX11_countBy_69 (by decide) ?_
        exact g_vret C hr ⟨trivial, hI, hF, hG⟩ dX11_countBy_108
      ·
        have f39 := feq rfl (by decide : (2 : Int32).toInt = 2) c31
        refine g_iconst C 1 dX11_countBy_57 (by decide) ?_
        refine g_goto C 62 dX11_countBy_58 (by decide) ?_
        refine g_callVv C (n := 1) (As := [.int 1]) (st := []) (s_X11_tallyPoints l D ad cs _ _ 1 hI ) gX11_countBy_X11_tallyPoints rfl rfl rfl (by decide +kernel) ⟨Nat.le_of_ble_eq_true rfl, Nat.le_of_ble_eq_true rfl⟩ rfl (Nat.le_of_ble_eq_true rfl) ⟨Nat.zero_le _, Nat.zero_le _⟩ (by decide) (ce_model ad cs _ _) rfl rfl dX11_countBy_62 (fun M41 L42 hr40 => ?_)
        obtain ⟨hr40, hI, hFr40, hGr40⟩ := hr40
        have hF : ∀ k i, ¬ (k = 258 ∧ i = 25) ∧ ¬ (k = 258 ∧ i = 29) ∧ ¬ (k = 258 ∧ i = 31) ∧ k ≠ 277 ∧ k ≠ 278 ∧ k ≠ 279 ∧ k ≠ 282 ∧ k ≠ 293 ∧ k ≠ 294 → M41 k i = M k i := fun k i hk => by (rw [hFr40 k i (by omega)]; try exact hF k i hk)
        have hG : ∀ k i, ¬ (k = 258 ∧ i = 23) ∧ ¬ (k = 258 ∧ i = 24) ∧ k ≠ 284 ∧ k ≠ 285 ∧ k ≠ 280 ∧ k ≠ 281 ∧ k ≠ 286 ∧ k ≠ 287 ∧ k ≠ 295 ∧ k ≠ 296 → L42 k i = L k i := fun k i hk => by (rw [hGr40 k i (by omega)]; try exact hG k i hk)
        have k29 : M41 258 29 = M 258 29 := (hFr40 258 29 (by omega)).trans k29
        have k31 : M41 258 31 = M 258 31 := (hFr40 258 31 (by omega)).trans k31
        have k25 : M41 258 25 = M41 258 25 := rfl
        have kt25 := congrArg Int32.toInt k25
        have kt29 := congrArg Int32.toInt k29
        have kt31 := congrArg Int32.toInt k31
        have l23 : L42 258 23 = L42 258 23 := rfl
        have l24 : L42 258 24 = L42 258 24 := rfl
        have p280 : L42 280 = L 280 := (funext (fun i => hGr40 280 i (by omega))).trans p280
        have p281 : L42 281 = L 281 := (funext (fun i => hGr40 281 i (by omega))).trans p281
        have p284 : L42 284 = L42 284 := rfl
        have p285 : L42 285 = L42 285 := rfl
        have p286 : L42 286 = L 286 := (funext (fun i => hGr40 286 i (by omega))).trans p286
        have p287 : L42 287 = L 287 := (funext (fun i => hGr40 287 i (by omega))).trans p287
        have p295 : L42 295 = L 295 := (funext (fun i => hGr40 295 i (by omega))).trans p295
        have p296 : L42 296 = L 296 := (funext (fun i => hGr40 296 i (by omega))).trans p296
        have q277 : M41 277 = M 277 := (funext (fun i => hFr40 277 i (by omega))).trans q277
        have q278 : M41 278 = M 278 := (funext (fun i => hFr40 278 i (by omega))).trans q278
        have q279 : M41 279 = M 279 := (funext (fun i => hFr40 279 i (by omega))).trans q279
        have q282 : M41 282 = M 282 := (funext (fun i => hFr40 282 i (by omega))).trans q282
        have q293 : M41 293 = M 293 := (funext (fun i => hFr40 293 i (by omega))).trans q293
        have q294 : M41 294 = M 294 := (funext (fun i => hFr40 294 i (by omega))).trans q294
        refine g_aload_n C 0 dX11_countBy_65 rfl ?_
        refine g_callVv C (n := 0) (As := []) (st := []) (s_X11_countByTallies l D ad cs _ _  hI (DP_k hD (hF 258 2 (by omega)) (fun i => hF 260 i (by omega))) (by rw [(show M41 282 = M 282 from q282), (show M41 258 2 = M 258 2 from hF 258 2 (by omega))]; exact hNI0) (by rw [k29]; exact hg0) (by rw [k31]; exact hm0) (by rw [(show M41 258 28 = M 258 28 from hF 258 28 (by omega)), (show M41 282 = M 282 from q282), (show M41 258 2 = M 258 2 from hF 258 2 (by omega))]; exact hC (by omega) (by omega))) gX11_countBy_X11_countByTallies rfl rfl rfl (by decide +kernel) ⟨Nat.le_of_ble_eq_true rfl, Nat.le_of_ble_eq_true rfl⟩ rfl (Nat.le_of_ble_eq_true rfl) ⟨Nat.zero_le _, Nat.zero_le _⟩ (by decide) (ce_model ad cs _ _) rfl rfl dX11_countBy_66 (fun M44 L45 hr43 => ?_)
        obtain ⟨hr43, hI, hFr43, hGr43⟩ := hr43
        have hF : ∀ k i, ¬ (k = 258 ∧ i = 25) ∧ ¬ (k = 258 ∧ i = 29) ∧ ¬ (k = 258 ∧ i = 31) ∧ k ≠ 277 ∧ k ≠ 278 ∧ k ≠ 279 ∧ k ≠ 282 ∧ k ≠ 293 ∧ k ≠ 294 → M44 k i = M k i := fun k i hk => by (rw [hFr43 k i (by omega)]; try exact hF k i hk)
        have hG : ∀ k i, ¬ (k = 258 ∧ i = 23) ∧ ¬ (k = 258 ∧ i = 24) ∧ k ≠ 284 ∧ k ≠ 285 ∧ k ≠ 280 ∧ k ≠ 281 ∧ k ≠ 286 ∧ k ≠ 287 ∧ k ≠ 295 ∧ k ≠ 296 → L45 k i = L k i := fun k i hk => by (rw [hGr43 k i (by omega)]; try exact hG k i hk)
        have k25 : M44 258 25 = M41 258 25 := (hFr43 258 25 (by omega)).trans k25
        have k29 : M44 258 29 = M44 258 29 := rfl
        have k31 : M44 258 31 = M44 258 31 := rfl
        have kt25 := congrArg Int32.toInt k25
        have kt29 := congrArg Int32.toInt k29
        have kt31 := congrArg Int32.toInt k31
        have l23 : L45 258 23 = L42 258 23 := (hGr43 258 23 (by omega)).trans l23
        have l24 : L45 258 24 = L42 258 24 := (hGr43 258 24 (by omega)).trans l24
        have p280 : L45 280 = L45 280 := rfl
        have p281 : L45 281 = L45 281 := rfl
        have p284 : L45 284 = L42 284 := (funext (fun i => hGr43 284 i (by omega))).trans p284
        have p285 : L45 285 = L42 285 := (funext (fun i => hGr43 285 i (by omega))).trans p285
        have p286 : L45 286 = L 286 := (funext (fun i => hGr43 286 i (by omega))).trans p286
        have p287 : L45 287 = L 287 := (funext (fun i => hGr43 287 i (by omega))).trans p287
        have p295 : L45 295 = L 295 := (funext (fun i => hGr43 295 i (by omega))).trans p295
        have p296 : L45 296 = L 296 := (funext (fun i => hGr43 296 i (by omega))).trans p296
        have q277 : M44 277 = M44 277 := rfl
        have q278 : M44 278 = M44 278 := rfl
        have q279 : M44 279 = M44 279 := rfl
        have q282 : M44 282 = M44 282 := rfl
        have q293 : M44 293 = M 293 := (funext (fun i => hFr43 293 i (by omega))).trans q293
        have q294 : M44 294 = M 294 := (funext (fun i => hFr43 294 i (by omega))).trans q294
        refine g_goto C 108 dX11_countBy_69 (by decide) ?_
        exact g_vret C hr ⟨trivial, hI, hF, hG⟩ dX11_countBy_108
    ·
      refine g_tableIn C 72 dX11_countBy_1 hsw1 hsw2 (off := 71) (by rw [hq]; rfl) (by decide) ?_
      refine g_aload_n C 0 dX11_countBy_72 rfl ?_
      refine g_callVv C (n := 0) (As := []) (st := []) (s_X11_countRunOff l D ad cs _ _  hI (DP_k hD rfl (fun _ => rfl)) (by rw [(show M 282 = M 282 from q282), (show M 258 2 = M 258 2 from rfl)]; exact hNI0) hW (by rw [k29]; exact hg0) (by rw [k31]; exact hm0) (by rw [(show M 282 = M 282 from q282), (show M 258 2 = M 258 2 from rfl)]; exact hC1) (by rw [(show M 258 28 = M 258 28 from rfl)]; exact hs1)) gX11_countBy_X11_countRunOff rfl rfl rfl (by decide +kernel) ⟨Nat.le_of_ble_eq_true rfl, Nat.le_of_ble_eq_true rfl⟩ rfl (Nat.le_of_ble_eq_true rfl) ⟨Nat.zero_le _, Nat.zero_le _⟩ (by decide) (ce_model ad cs _ _) rfl rfl dX11_countBy_73 (fun M47 L48 hr46 => ?_)
      obtain ⟨hr46, hI, hFr46, hGr46⟩ := hr46
      have hF : ∀ k i, ¬ (k = 258 ∧ i = 25) ∧ ¬ (k = 258 ∧ i = 29) ∧ ¬ (k = 258 ∧ i = 31) ∧ k ≠ 277 ∧ k ≠ 278 ∧ k ≠ 279 ∧ k ≠ 282 ∧ k ≠ 293 ∧ k ≠ 294 → M47 k i = M k i := fun k i hk => by (rw [hFr46 k i (by omega)]; try exact hF k i hk)
      have hG : ∀ k i, ¬ (k = 258 ∧ i = 23) ∧ ¬ (k = 258 ∧ i = 24) ∧ k ≠ 284 ∧ k ≠ 285 ∧ k ≠ 280 ∧ k ≠ 281 ∧ k ≠ 286 ∧ k ≠ 287 ∧ k ≠ 295 ∧ k ≠ 296 → L48 k i = L k i := fun k i hk => by (rw [hGr46 k i (by omega)]; try exact hG k i hk)
      have k25 : M47 258 25 = M47 258 25 := rfl
      have k29 : M47 258 29 = M47 258 29 := rfl
      have k31 : M47 258 31 = M47 258 31 := rfl
      have kt25 := congrArg Int32.toInt k25
      have kt29 := congrArg Int32.toInt k29
      have kt31 := congrArg Int32.toInt k31
      have l23 : L48 258 23 = L48 258 23 := rfl
      have l24 : L48 258 24 = L48 258 24 := rfl
      have p280 : L48 280 = L48 280 := rfl
      have p281 : L48 281 = L48 281 := rfl
      have p284 : L48 284 = L48 284 := rfl
      have p285 : L48 285 = L48 285 := rfl
      have p286 : L48 286 = L 286 := (funext (fun i => hGr46 286 i (by omega))).trans p286
      have p287 : L48 287 = L 287 := (funext (fun i => hGr46 287 i (by omega))).trans p287
      have p295 : L48 295 = L 295 := (funext (fun i => hGr46 295 i (by omega))).trans p295
      have p296 : L48 296 = L 296 := (funext (fun i => hGr46 296 i (by omega))).trans p296
      have q277 : M47 277 = M47 277 := rfl
      have q278 : M47 278 = M47 278 := rfl
      have q279 : M47 279 = M47 279 := rfl
      have q282 : M47 282 = M47 282 := rfl
      have q293 : M47 293 = M 293 := (funext (fun i => hFr46 293 i (by omega))).trans q293
      have q294 : M47 294 = M47 294 := rfl
      refine g_goto C 108 dX11_countBy_76 (by decide) ?_
      exact g_vret C hr ⟨trivial, hI, hF, hG⟩ dX11_countBy_108
    ·
      refine g_tableIn C 79 dX11_countBy_1 hsw1 hsw2 (off := 78) (by rw [hq]; rfl) (by decide) ?_
      refine g_aload_n C 0 dX11_countBy_79 rfl ?_
      refine g_callVv C (n := 0) (As := []) (st := []) (s_X11_countWays l D ad cs _ _  hI (DP_k hD rfl (fun _ => rfl)) (by rw [(show M 282 = M 282 from q282), (show M 258 2 = M 258 2 from rfl)]; exact hNI0) (by rw [k29]; exact hg0) (by rw [k31]; exact hm0) (by rw [(show M 258 28 = M 258 28 from rfl), (show M 282 = M 282 from q282), (show M 258 2 = M 258 2 from rfl)]; exact hC (by omega) (by omega))) gX11_countBy_X11_countWays rfl rfl rfl (by decide +kernel) ⟨Nat.le_of_ble_eq_true rfl, Nat.le_of_ble_eq_true rfl⟩ rfl (Nat.le_of_ble_eq_true rfl) ⟨Nat.zero_le _, Nat.zero_le _⟩ (by decide) (ce_model ad cs _ _) rfl rfl dX11_countBy_80 (fun M50 L51 hr49 => ?_)
      obtain ⟨hr49, hI, hFr49, hGr49⟩ := hr49
      have hF : ∀ k i, ¬ (k = 258 ∧ i = 25) ∧ ¬ (k = 258 ∧ i = 29) ∧ ¬ (k = 258 ∧ i = 31) ∧ k ≠ 277 ∧ k ≠ 278 ∧ k ≠ 279 ∧ k ≠ 282 ∧ k ≠ 293 ∧ k ≠ 294 → M50 k i = M k i := fun k i hk => by (rw [hFr49 k i (by omega)]; try exact hF k i hk)
      have hG : ∀ k i, ¬ (k = 258 ∧ i = 23) ∧ ¬ (k = 258 ∧ i = 24) ∧ k ≠ 284 ∧ k ≠ 285 ∧ k ≠ 280 ∧ k ≠ 281 ∧ k ≠ 286 ∧ k ≠ 287 ∧ k ≠ 295 ∧ k ≠ 296 → L51 k i = L k i := fun k i hk => by (rw [hGr49 k i (by omega)]; try exact hG k i hk)
      have k25 : M50 258 25 = M 258 25 := (hFr49 258 25 (by omega)).trans k25
      have k29 : M50 258 29 = M50 258 29 := rfl
      have k31 : M50 258 31 = M50 258 31 := rfl
      have kt25 := congrArg Int32.toInt k25
      have kt29 := congrArg Int32.toInt k29
      have kt31 := congrArg Int32.toInt k31
      have l23 : L51 258 23 = L 258 23 := (hGr49 258 23 (by omega)).trans l23
      have l24 : L51 258 24 = L 258 24 := (hGr49 258 24 (by omega)).trans l24
      have p280 : L51 280 = L51 280 := rfl
      have p281 : L51 281 = L51 281 := rfl
      have p284 : L51 284 = L51 284 := rfl
      have p285 : L51 285 = L51 285 := rfl
      have p286 : L51 286 = L 286 := (funext (fun i => hGr49 286 i (by omega))).trans p286
      have p287 : L51 287 = L 287 := (funext (fun i => hGr49 287 i (by omega))).trans p287
      have p295 : L51 295 = L51 295 := rfl
      have p296 : L51 296 = L51 296 := rfl
      have q277 : M50 277 = M50 277 := rfl
      have q278 : M50 278 = M50 278 := rfl
      have q279 : M50 279 = M50 279 := rfl
      have q282 : M50 282 = M50 282 := rfl
      have q293 : M50 293 = M 293 := (funext (fun i => hFr49 293 i (by omega))).trans q293
      have q294 : M50 294 = M 294 := (funext (fun i => hFr49 294 i (by omega))).trans q294
      refine g_goto C 108 dX11_countBy_83 (by decide) ?_
      exact g_vret C hr ⟨trivial, hI, hF, hG⟩ dX11_countBy_108
    ·
      refine g_tableIn C 86 dX11_countBy_1 hsw1 hsw2 (off := 85) (by rw [hq]; rfl) (by decide) ?_
      refine g_aload_n C 0 dX11_countBy_86 rfl ?_
      refine g_callVv C (n := 0) (As := []) (st := []) (s_X11_countTransfer l D ad cs _ _  hI (DP_k hD rfl (fun _ => rfl)) (by rw [(show M 282 = M 282 from q282), (show M 258 2 = M 258 2 from rfl)]; exact hNI0) hW (by rw [k29]; exact hg0) (by rw [k31]; exact hm0) hX) gX11_countBy_X11_countTransfer rfl rfl rfl (by decide +kernel) ⟨Nat.le_of_ble_eq_true rfl, Nat.le_of_ble_eq_true rfl⟩ rfl (Nat.le_of_ble_eq_true rfl) ⟨Nat.zero_le _, Nat.zero_le _⟩ (by decide) (ce_model ad cs _ _) rfl rfl dX11_countBy_87 (fun M53 L54 hr52 => ?_)
      obtain ⟨hr52, hI, hFr52, hGr52⟩ := hr52
      have hF : ∀ k i, ¬ (k = 258 ∧ i = 25) ∧ ¬ (k = 258 ∧ i = 29) ∧ ¬ (k = 258 ∧ i = 31) ∧ k ≠ 277 ∧ k ≠ 278 ∧ k ≠ 279 ∧ k ≠ 282 ∧ k ≠ 293 ∧ k ≠ 294 → M53 k i = M k i := fun k i hk => by (rw [hFr52 k i (by omega)]; try exact hF k i hk)
      have hG : ∀ k i, ¬ (k = 258 ∧ i = 23) ∧ ¬ (k = 258 ∧ i = 24) ∧ k ≠ 284 ∧ k ≠ 285 ∧ k ≠ 280 ∧ k ≠ 281 ∧ k ≠ 286 ∧ k ≠ 287 ∧ k ≠ 295 ∧ k ≠ 296 → L54 k i = L k i := fun k i hk => by (rw [hGr52 k i (by omega)]; try exact hG k i hk)
      have k25 : M53 258 25 = M53 258 25 := rfl
      have k29 : M53 258 29 = M53 258 29 := rfl
      have k31 : M53 258 31 = M53 258 31 := rfl
      have kt25 := congrArg Int32.toInt k25
      have kt29 := congrArg Int32.toInt k29
      have kt31 := congrArg Int32.toInt k31
      have l23 : L54 258 23 = L54 258 23 := rfl
      have l24 : L54 258 24 = L54 258 24 := rfl
      have p280 : L54 280 = L54 280 := rfl
      have p281 : L54 281 = L54 281 := rfl
      have p284 : L54 284 = L54 284 := rfl
      have p285 : L54 285 = L54 285 := rfl
      have p286 : L54 286 = L54 286 := rfl
      have p287 : L54 287 = L54 287 := rfl
      have p295 : L54 295 = L 295 := (funext (fun i => hGr52 295 i (by omega))).trans p295
      have p296 : L54 296 = L 296 := (funext (fun i => hGr52 296 i (by omega))).trans p296
      have q277 : M53 277 = M53 277 := rfl
      have q278 : M53 278 = M53 278 := rfl
      have q279 : M53 279 = M53 279 := rfl
      have q282 : M53 282 = M53 282 := rfl
      have q293 : M53 293 = M 293 := (funext (fun i => hFr52 293 i (by omega))).trans q293
      have q294 : M53 294 = M 294 := (funext (fun i => hFr52 294 i (by omega))).trans q294
      refine g_goto C 108 dX11_countBy_90 (by decide) ?_
      exact g_vret C hr ⟨trivial, hI, hF, hG⟩ dX11_countBy_108
theorem dX11_count_0 : decode cX11_count 0 = .ok (.aload_n 0, 1) := dw42 (n := 0) (i := 0) kc_cX11_count_0 (by decide +kernel)
theorem dX11_count_1 : decode cX11_count 1 = .ok (.bipush (-9), 2) := dw16 (n := 0) (i := 1) (a := 247) kc_cX11_count_0 (by decide +kernel) (by decide)
theorem dX11_count_3 : decode cX11_count 3 = .ok (.putfield 126, 3) := dw181 (n := 0) (i := 3) (a := 0) (b := 126) kc_cX11_count_0 (by decide +kernel) (by decide)
theorem in_X11_count_11 : ∀ w ∈ u_ws RX11 TX11 53, w ∈ wsX11_count := fun _ h => List.mem_cons_of_mem _ (List.mem_append_right _ h)
theorem dX11_count_6 : decode cX11_count 6 = .ok (.aload_n 0, 1) := dw42 (n := 0) (i := 6) kc_cX11_count_0 (by decide +kernel)
theorem dX11_count_7 : decode cX11_count 7 = .ok (.iload_n 1, 1) := dw27 (n := 0) (i := 7) kc_cX11_count_0 (by decide +kernel)
theorem dX11_count_8 : decode cX11_count 8 = .ok (.invokevirtual 178, 3) := dw182 (n := 0) (i := 8) (a := 0) (b := 178) kc_cX11_count_0 (by decide +kernel) (by decide)
set_option maxRecDepth 20000 in
theorem ggX11_count_X11_isMethod : GoodIn wsX11_count wsX11_isMethod := (gk_code 10 rfl (gk_fieldLink 11 rfl (gk_methodLink 12 rfl (gk_static 13 rfl (gk_initialized 9 rfl (gk_code 14 rfl (gk_lays 189 rfl (gk_laysFinal 190 rfl (gk_lays 191 rfl (gk_laysFinal 192 rfl (gk_lays 193 rfl (gk_laysFinal 194 rfl (gk_laysFinal 195 rfl (gk_laysFinal 196 rfl (gk_laysFinal 197 rfl (gk_lays 198 rfl (gk_laysFinal 199 rfl (gk_laysFinal 200 rfl (gk_laysFinal 201 rfl (gk_laysFinal 202 rfl (gk_lays 203 rfl (gk_laysFinal 204 rfl (gk_laysFinal 205 rfl (gk_laysFinal 206 rfl (gk_laysFinal 207 rfl (gk_laysFinal 208 rfl (gk_laysFinal 209 rfl (gk_laysFinal 210 rfl (gk_laysFinal 211 rfl (gk_lays 212 rfl (gk_lays 213 rfl (gk_lays 214 rfl (gk_lays 215 rfl (gk_lays 216 rfl (gk_lays 217 rfl (gk_lays 218 rfl (gk_laysFinal 219 rfl (gk_lays 220 rfl (gk_laysFinal 221 rfl (gk_laysFinal 222 rfl (gk_laysFinal 223 rfl (gk_laysFinal 224 rfl (gk_laysFinal 225 rfl (gk_laysFinal 226 rfl (gk_laysFinal 227 rfl (gk_laysFinal 228 rfl (gk_laysFinal 229 rfl (gk_laysFinal 230 rfl (gk_lays 231 rfl (gk_laysFinal 232 rfl (gk_lays 233 rfl (gk_laysFinal 234 rfl (gk_laysFinal 235 rfl (gk_laysFinal 236 rfl (gk_laysFinal 237 rfl (gk_laysFinal 238 rfl (gk_laysFinal 239 rfl (gk_laysFinal 240 rfl (gk_laysFinal 241 rfl (gn))))))))))))))))))))))))))))))))))))))))))))))))))))))))))))
set_option maxRecDepth 20000 in
theorem gX11_count_X11_isMethod : GoodIn wsX11_count (wsV RX11 178 RX11 yX11_isMethod wsX11_isMethod) := goodIn_app (gk_methodLink 6 rfl (gk_instanceMethod 7 rfl (gk_selects 8 rfl (gk_initialized 9 rfl (gn))))) ggX11_count_X11_isMethod
theorem dX11_count_11 : decode cX11_count 11 = .ok (.ifCond .eq 28, 3) := dw153 (n := 0) (i := 11) (a := 0) (b := 28) kc_cX11_count_0 (by decide +kernel) (by decide)
theorem dX11_count_39 : decode cX11_count 39 = .ok (.iconst (-1), 1) := dw2 (n := 32) (i := 7) kc_cX11_count_1 (by decide +kernel)
theorem dX11_count_40 : decode cX11_count 40 = .ok (.ireturn, 1) := dw172 (n := 32) (i := 8) kc_cX11_count_1 (by decide +kernel)
theorem dX11_count_14 : decode cX11_count 14 = .ok (.aload_n 0, 1) := dw42 (n := 0) (i := 14) kc_cX11_count_0 (by decide +kernel)
theorem dX11_count_15 : decode cX11_count 15 = .ok (.iload_n 2, 1) := dw28 (n := 0) (i := 15) kc_cX11_count_0 (by decide +kernel)
theorem dX11_count_16 : decode cX11_count 16 = .ok (.invokevirtual 166, 3) := dw182 (n := 0) (i := 16) (a := 0) (b := 166) kc_cX11_count_0 (by decide +kernel) (by decide)
set_option maxRecDepth 20000 in
theorem ggX11_count_X11_isBox : GoodIn wsX11_count wsX11_isBox := (gk_code 18 rfl (gk_fieldLink 19 rfl (gk_methodLink 12 rfl (gk_static 13 rfl (gk_initialized 9 rfl (gk_code 14 rfl (gk_lays 189 rfl (gk_laysFinal 190 rfl (gk_lays 191 rfl (gk_laysFinal 192 rfl (gk_lays 193 rfl (gk_laysFinal 194 rfl (gk_laysFinal 195 rfl (gk_laysFinal 196 rfl (gk_laysFinal 197 rfl (gk_lays 198 rfl (gk_laysFinal 199 rfl (gk_laysFinal 200 rfl (gk_laysFinal 201 rfl (gk_laysFinal 202 rfl (gk_lays 203 rfl (gk_laysFinal 204 rfl (gk_laysFinal 205 rfl (gk_laysFinal 206 rfl (gk_laysFinal 207 rfl (gk_laysFinal 208 rfl (gk_laysFinal 209 rfl (gk_laysFinal 210 rfl (gk_laysFinal 211 rfl (gk_lays 212 rfl (gk_lays 213 rfl (gk_lays 214 rfl (gk_lays 215 rfl (gk_lays 216 rfl (gk_lays 217 rfl (gk_lays 218 rfl (gk_laysFinal 219 rfl (gk_lays 220 rfl (gk_laysFinal 221 rfl (gk_laysFinal 222 rfl (gk_laysFinal 223 rfl (gk_laysFinal 224 rfl (gk_laysFinal 225 rfl (gk_laysFinal 226 rfl (gk_laysFinal 227 rfl (gk_laysFinal 228 rfl (gk_laysFinal 229 rfl (gk_laysFinal 230 rfl (gk_lays 231 rfl (gk_laysFinal 232 rfl (gk_lays 233 rfl (gk_laysFinal 234 rfl (gk_laysFinal 235 rfl (gk_laysFinal 236 rfl (gk_laysFinal 237 rfl (gk_laysFinal 238 rfl (gk_laysFinal 239 rfl (gk_laysFinal 240 rfl (gk_laysFinal 241 rfl (gn))))))))))))))))))))))))))))))))))))))))))))))))))))))))))))
set_option maxRecDepth 20000 in
theorem gX11_count_X11_isBox : GoodIn wsX11_count (wsV RX11 166 RX11 yX11_isBox wsX11_isBox) := goodIn_app (gk_methodLink 15 rfl (gk_instanceMethod 16 rfl (gk_selects 17 rfl (gk_initialized 9 rfl (gn))))) ggX11_count_X11_isBox
theorem dX11_count_19 : decode cX11_count 19 = .ok (.ifCond .eq 20, 3) := dw153 (n := 0) (i := 19) (a := 0) (b := 20) kc_cX11_count_0 (by decide +kernel) (by decide)
theorem dX11_count_22 : decode cX11_count 22 = .ok (.iload_n 3, 1) := dw29 (n := 0) (i := 22) kc_cX11_count_0 (by decide +kernel)
theorem dX11_count_23 : decode cX11_count 23 = .ok (.iconst 1, 1) := dw4 (n := 0) (i := 23) kc_cX11_count_0 (by decide +kernel)
theorem dX11_count_24 : decode cX11_count 24 = .ok (.bipush 30, 2) := dw16 (n := 0) (i := 24) (a := 30) kc_cX11_count_0 (by decide +kernel) (by decide)
theorem dX11_count_26 : decode cX11_count 26 = .ok (.invokestatic 133, 3) := dw184 (n := 0) (i := 26) (a := 0) (b := 133) kc_cX11_count_0 (by decide +kernel) (by decide)
set_option maxRecDepth 20000 in
theorem ggX11_count_X11_in : GoodIn wsX11_count wsX11_in := (gk_code 14 rfl (gn))
set_option maxRecDepth 20000 in
theorem gX11_count_X11_in : GoodIn wsX11_count (va_wsS RX11 133 yX11_in wsX11_in) := goodIn_app (gk_methodLink 12 rfl (gk_static 13 rfl (gk_initialized 9 rfl (gn)))) ggX11_count_X11_in
theorem dX11_count_29 : decode cX11_count 29 = .ok (.ifCond .eq 10, 3) := dw153 (n := 0) (i := 29) (a := 0) (b := 10) kc_cX11_count_0 (by decide +kernel) (by decide)
theorem dX11_count_32 : decode cX11_count 32 = .ok (.aload_n 0, 1) := dw42 (n := 32) (i := 0) kc_cX11_count_1 (by decide +kernel)
theorem dX11_count_33 : decode cX11_count 33 = .ok (.getfield 137, 3) := dw180 (n := 32) (i := 1) (a := 0) (b := 137) kc_cX11_count_1 (by decide +kernel) (by decide)
theorem dX11_count_36 : decode cX11_count 36 = .ok (.ifCond .ne 5, 3) := dw154 (n := 32) (i := 4) (a := 0) (b := 5) kc_cX11_count_1 (by decide +kernel) (by decide)
theorem dX11_count_41 : decode cX11_count 41 = .ok (.aload_n 0, 1) := dw42 (n := 32) (i := 9) kc_cX11_count_1 (by decide +kernel)
theorem dX11_count_42 : decode cX11_count 42 = .ok (.getfield 40, 3) := dw180 (n := 32) (i := 10) (a := 0) (b := 40) kc_cX11_count_1 (by decide +kernel) (by decide)
theorem dX11_count_45 : decode cX11_count 45 = .ok (.iload_n 1, 1) := dw27 (n := 32) (i := 13) kc_cX11_count_1 (by decide +kernel)
theorem dX11_count_46 : decode cX11_count 46 = .ok (.iaload, 1) := dw46 (n := 32) (i := 14) kc_cX11_count_1 (by decide +kernel)
theorem dX11_count_47 : decode cX11_count 47 = .ok (.istore 4, 2) := dw54 (n := 32) (i := 15) (a := 4) kc_cX11_count_1 (by decide +kernel) (by decide)
theorem dX11_count_49 : decode cX11_count 49 = .ok (.iload_n 3, 1) := dw29 (n := 32) (i := 17) kc_cX11_count_1 (by decide +kernel)
theorem dX11_count_50 : decode cX11_count 50 = .ok (.aload_n 0, 1) := dw42 (n := 32) (i := 18) kc_cX11_count_1 (by decide +kernel)
theorem dX11_count_51 : decode cX11_count 51 = .ok (.getfield 137, 3) := dw180 (n := 32) (i := 19) (a := 0) (b := 137) kc_cX11_count_1 (by decide +kernel) (by decide)
theorem dX11_count_54 : decode cX11_count 54 = .ok (.if_icmp .le 19, 3) := dw164 (n := 32) (i := 22) (a := 0) (b := 19) kc_cX11_count_1 (by decide +kernel) (by decide)
theorem dX11_count_57 : decode cX11_count 57 = .ok (.iload 4, 2) := dw21 (n := 32) (i := 25) (a := 4) kc_cX11_count_1 (by decide +kernel) (by decide)
theorem dX11_count_59 : decode cX11_count 59 = .ok (.bipush 6, 2) := dw16 (n := 32) (i := 27) (a := 6) kc_cX11_count_1 (by decide +kernel) (by decide)
theorem dX11_count_61 : decode cX11_count 61 = .ok (.if_icmp .eq 12, 3) := dw159 (n := 32) (i := 29) (a := 0) (b := 12) kc_cX11_count_1 (by decide +kernel) (by decide)
theorem dX11_count_64 : decode cX11_count 64 = .ok (.iload 4, 2) := dw21 (n := 64) (i := 0) (a := 4) kc_cX11_count_2 (by decide +kernel) (by decide)
theorem dX11_count_66 : decode cX11_count 66 = .ok (.bipush 7, 2) := dw16 (n := 64) (i := 2) (a := 7) kc_cX11_count_2 (by decide +kernel) (by decide)
theorem dX11_count_68 : decode cX11_count 68 = .ok (.if_icmp .eq 5, 3) := dw159 (n := 64) (i := 4) (a := 0) (b := 5) kc_cX11_count_2 (by decide +kernel) (by decide)
theorem dX11_count_71 : decode cX11_count 71 = .ok (.iconst (-1), 1) := dw2 (n := 64) (i := 7) kc_cX11_count_2 (by decide +kernel)
theorem dX11_count_72 : decode cX11_count 72 = .ok (.ireturn, 1) := dw172 (n := 64) (i := 8) kc_cX11_count_2 (by decide +kernel)
theorem dX11_count_73 : decode cX11_count 73 = .ok (.aload_n 0, 1) := dw42 (n := 64) (i := 9) kc_cX11_count_2 (by decide +kernel)
theorem dX11_count_74 : decode cX11_count 74 = .ok (.iload_n 1, 1) := dw27 (n := 64) (i := 10) kc_cX11_count_2 (by decide +kernel)
theorem dX11_count_75 : decode cX11_count 75 = .ok (.invokevirtual 181, 3) := dw182 (n := 64) (i := 11) (a := 0) (b := 181) kc_cX11_count_2 (by decide +kernel) (by decide)
set_option maxRecDepth 20000 in
theorem ggX11_count_X11_started : GoodIn wsX11_count wsX11_started := (gk_code 23 rfl (gk_fieldLink 24 rfl (gk_fieldLink 25 rfl (gk_fieldLink 26 rfl (gk_fieldLink 27 rfl (gk_fieldLink 3 rfl (gk_lays 189 rfl (gk_laysFinal 190 rfl (gk_lays 191 rfl (gk_laysFinal 192 rfl (gk_lays 193 rfl (gk_laysFinal 194 rfl (gk_laysFinal 195 rfl (gk_laysFinal 196 rfl (gk_laysFinal 197 rfl (gk_lays 198 rfl (gk_laysFinal 199 rfl (gk_laysFinal 200 rfl (gk_laysFinal 201 rfl (gk_laysFinal 202 rfl (gk_lays 203 rfl (gk_laysFinal 204 rfl (gk_laysFinal 205 rfl (gk_laysFinal 206 rfl (gk_laysFinal 207 rfl (gk_laysFinal 208 rfl (gk_laysFinal 209 rfl (gk_laysFinal 210 rfl (gk_laysFinal 211 rfl (gk_lays 212 rfl (gk_lays 213 rfl (gk_lays 214 rfl (gk_lays 215 rfl (gk_lays 216 rfl (gk_lays 217 rfl (gk_lays 218 rfl (gk_laysFinal 219 rfl (gk_lays 220 rfl (gk_laysFinal 221 rfl (gk_laysFinal 222 rfl (gk_laysFinal 223 rfl (gk_laysFinal 224 rfl (gk_laysFinal 225 rfl (gk_laysFinal 226 rfl (gk_laysFinal 227 rfl (gk_laysFinal 228 rfl (gk_laysFinal 229 rfl (gk_laysFinal 230 rfl (gk_lays 231 rfl (gk_laysFinal 232 rfl (gk_lays 233 rfl (gk_laysFinal 234 rfl (gk_laysFinal 235 rfl (gk_laysFinal 236 rfl (gk_laysFinal 237 rfl (gk_laysFinal 238 rfl (gk_laysFinal 239 rfl (gk_laysFinal 240 rfl (gk_laysFinal 241 rfl (gn))))))))))))))))))))))))))))))))))))))))))))))))))))))))))))
set_option maxRecDepth 20000 in
theorem gX11_count_X11_started : GoodIn wsX11_count (wsV RX11 181 RX11 yX11_started wsX11_started) := goodIn_app (gk_methodLink 20 rfl (gk_instanceMethod 21 rfl (gk_selects 22 rfl (gk_initialized 9 rfl (gn))))) ggX11_count_X11_started
theorem dX11_count_78 : decode cX11_count 78 = .ok (.iconst 2, 1) := dw5 (n := 64) (i := 14) kc_cX11_count_2 (by decide +kernel)
theorem dX11_count_79 : decode cX11_count 79 = .ok (.if_icmp .ne 6, 3) := dw160 (n := 64) (i := 15) (a := 0) (b := 6) kc_cX11_count_2 (by decide +kernel) (by decide)
theorem dX11_count_85 : decode cX11_count 85 = .ok (.aload_n 0, 1) := dw42 (n := 64) (i := 21) kc_cX11_count_2 (by decide +kernel)
theorem dX11_count_86 : decode cX11_count 86 = .ok (.iload 4, 2) := dw21 (n := 64) (i := 22) (a := 4) kc_cX11_count_2 (by decide +kernel) (by decide)
theorem dX11_count_88 : decode cX11_count 88 = .ok (.iload_n 2, 1) := dw28 (n := 64) (i := 24) kc_cX11_count_2 (by decide +kernel)
theorem dX11_count_89 : decode cX11_count 89 = .ok (.invokevirtual 296, 3) := dw182 (n := 64) (i := 25) (a := 1) (b := 40) kc_cX11_count_2 (by decide +kernel) (by decide)
set_option maxRecDepth 20000 in
theorem ggX11_count_X11_unlikeAt : GoodIn wsX11_count wsX11_unlikeAt := (gk_code 31 rfl (gk_fieldLink 32 rfl (gk_fieldLink 33 rfl (gk_fieldLink 34 rfl (gk_methodLink 35 rfl (gk_static 36 rfl (gk_initialized 9 rfl (gk_code 37 rfl (gk_lays 189 rfl (gk_laysFinal 190 rfl (gk_lays 191 rfl (gk_laysFinal 192 rfl (gk_lays 193 rfl (gk_laysFinal 194 rfl (gk_laysFinal 195 rfl (gk_laysFinal 196 rfl (gk_laysFinal 197 rfl (gk_lays 198 rfl (gk_laysFinal 199 rfl (gk_laysFinal 200 rfl (gk_laysFinal 201 rfl (gk_laysFinal 202 rfl (gk_lays 203 rfl (gk_laysFinal 204 rfl (gk_laysFinal 205 rfl (gk_laysFinal 206 rfl (gk_laysFinal 207 rfl (gk_laysFinal 208 rfl (gk_laysFinal 209 rfl (gk_laysFinal 210 rfl (gk_laysFinal 211 rfl (gk_lays 212 rfl (gk_lays 213 rfl (gk_lays 214 rfl (gk_lays 215 rfl (gk_lays 216 rfl (gk_lays 217 rfl (gk_lays 218 rfl (gk_laysFinal 219 rfl (gk_lays 220 rfl (gk_laysFinal 221 rfl (gk_laysFinal 222 rfl (gk_laysFinal 223 rfl (gk_laysFinal 224 rfl (gk_laysFinal 225 rfl (gk_laysFinal 226 rfl (gk_laysFinal 227 rfl (gk_laysFinal 228 rfl (gk_laysFinal 229 rfl (gk_laysFinal 230 rfl (gk_lays 231 rfl (gk_laysFinal 232 rfl (gk_lays 233 rfl (gk_laysFinal 234 rfl (gk_laysFinal 235 rfl (gk_laysFinal 236 rfl (gk_laysFinal 237 rfl (gk_laysFinal 238 rfl (gk_laysFinal 239 rfl (gk_laysFinal 240 rfl (gk_laysFinal 241 rfl (gn))))))))))))))))))))))))))))))))))))))))))))))))))))))))))))))
set_option maxRecDepth 20000 in
theorem gX11_count_X11_unlikeAt : GoodIn wsX11_count (wsV RX11 296 RX11 yX11_unlikeAt wsX11_unlikeAt) := goodIn_app (gk_methodLink 28 rfl (gk_instanceMethod 29 rfl (gk_selects 30 rfl (gk_initialized 9 rfl (gn))))) ggX11_count_X11_unlikeAt
theorem dX11_count_92 : decode cX11_count 92 = .ok (.istore 5, 2) := dw54 (n := 64) (i := 28) (a := 5) kc_cX11_count_2 (by decide +kernel) (by decide)
theorem dX11_count_94 : decode cX11_count 94 = .ok (.iload 5, 2) := dw21 (n := 64) (i := 30) (a := 5) kc_cX11_count_2 (by decide +kernel) (by decide)
theorem dX11_count_96 : decode cX11_count 96 = .ok (.bipush (-9), 2) := dw16 (n := 96) (i := 0) (a := 247) kc_cX11_count_3 (by decide +kernel) (by decide)
theorem dX11_count_98 : decode cX11_count 98 = .ok (.if_icmp .eq 15, 3) := dw159 (n := 96) (i := 2) (a := 0) (b := 15) kc_cX11_count_3 (by decide +kernel) (by decide)
theorem dX11_count_113 : decode cX11_count 113 = .ok (.aload_n 0, 1) := dw42 (n := 96) (i := 17) kc_cX11_count_3 (by decide +kernel)
theorem dX11_count_114 : decode cX11_count 114 = .ok (.iload_n 2, 1) := dw28 (n := 96) (i := 18) kc_cX11_count_3 (by decide +kernel)
theorem dX11_count_115 : decode cX11_count 115 = .ok (.iload_n 3, 1) := dw29 (n := 96) (i := 19) kc_cX11_count_3 (by decide +kernel)
theorem dX11_count_116 : decode cX11_count 116 = .ok (.invokevirtual 299, 3) := dw182 (n := 96) (i := 20) (a := 1) (b := 43) kc_cX11_count_3 (by decide +kernel) (by decide)
set_option maxRecDepth 20000 in
theorem ggX11_count_X11_begin : GoodIn wsX11_count wsX11_begin := (gk_code 47 rfl (gk_fieldLink 48 rfl (gk_fieldLink 49 rfl (gk_fieldLink 5 rfl (gk_fieldLink 50 rfl (gk_fieldLink 4 rfl (gk_fieldLink 51 rfl (gk_fieldLink 2 rfl (gk_fieldLink 33 rfl (gk_fieldLink 52 rfl (gk_fieldLink 53 rfl (gk_fieldLink 54 rfl (gk_lays 189 rfl (gk_laysFinal 190 rfl (gk_lays 191 rfl (gk_laysFinal 192 rfl (gk_lays 193 rfl (gk_laysFinal 194 rfl (gk_laysFinal 195 rfl (gk_laysFinal 196 rfl (gk_laysFinal 197 rfl (gk_lays 198 rfl (gk_laysFinal 199 rfl (gk_laysFinal 200 rfl (gk_laysFinal 201 rfl (gk_laysFinal 202 rfl (gk_lays 203 rfl (gk_laysFinal 204 rfl (gk_laysFinal 205 rfl (gk_laysFinal 206 rfl (gk_laysFinal 207 rfl (gk_laysFinal 208 rfl (gk_laysFinal 209 rfl (gk_laysFinal 210 rfl (gk_laysFinal 211 rfl (gk_lays 212 rfl (gk_lays 213 rfl (gk_lays 214 rfl (gk_lays 215 rfl (gk_lays 216 rfl (gk_lays 217 rfl (gk_lays 218 rfl (gk_laysFinal 219 rfl (gk_lays 220 rfl (gk_laysFinal 221 rfl (gk_laysFinal 222 rfl (gk_laysFinal 223 rfl (gk_laysFinal 224 rfl (gk_laysFinal 225 rfl (gk_laysFinal 226 rfl (gk_laysFinal 227 rfl (gk_laysFinal 228 rfl (gk_laysFinal 229 rfl (gk_laysFinal 230 rfl (gk_lays 231 rfl (gk_laysFinal 232 rfl (gk_lays 233 rfl (gk_laysFinal 234 rfl (gk_laysFinal 235 rfl (gk_laysFinal 236 rfl (gk_laysFinal 237 rfl (gk_laysFinal 238 rfl (gk_laysFinal 239 rfl (gk_laysFinal 240 rfl (gk_laysFinal 241 rfl (gn))))))))))))))))))))))))))))))))))))))))))))))))))))))))))))))))))
set_option maxRecDepth 20000 in
theorem gX11_count_X11_begin : GoodIn wsX11_count (wsV RX11 299 RX11 yX11_begin wsX11_begin) := goodIn_app (gk_methodLink 44 rfl (gk_instanceMethod 45 rfl (gk_selects 46 rfl (gk_initialized 9 rfl (gn))))) ggX11_count_X11_begin
theorem dX11_count_119 : decode cX11_count 119 = .ok (.aload_n 0, 1) := dw42 (n := 96) (i := 23) kc_cX11_count_3 (by decide +kernel)
theorem dX11_count_120 : decode cX11_count 120 = .ok (.iload 4, 2) := dw21 (n := 96) (i := 24) (a := 4) kc_cX11_count_3 (by decide +kernel) (by decide)
theorem dX11_count_122 : decode cX11_count 122 = .ok (.invokevirtual 302, 3) := dw182 (n := 96) (i := 26) (a := 1) (b := 46) kc_cX11_count_3 (by decide +kernel) (by decide)
set_option maxRecDepth 20000 in
theorem ggX11_count_X11_countBy : GoodIn wsX11_count wsX11_countBy := (gk_code 58 rfl (gk_methodLink 59 rfl (gk_instanceMethod 60 rfl (gk_selects 61 rfl (gk_initialized 9 rfl (gk_code 62 rfl (gk_fieldLink 32 rfl (gk_fieldLink 48 rfl (gk_fieldLink 52 rfl (gk_fieldLink 54 rfl (gk_methodLink 63 rfl (gk_instanceMethod 64 rfl (gk_selects 65 rfl (gk_code 66 rfl (gk_fieldLink 67 rfl (gk_fieldLink 68 rfl (gk_methodLink 69 rfl (gk_instanceMethod 70 rfl (gk_selects 71 rfl (gk_code 72 rfl (gk_fieldLink 33 rfl (gk_methodLink 73 rfl (gk_instanceMethod 74 rfl (gk_selects 75 rfl (gk_code 76 rfl (gk_fieldLink 77 rfl (gk_fieldLink 51 rfl (gk_fieldLink 78 rfl (gk_methodLink 79 rfl (gk_instanceMethod 80 rfl (gk_selects 81 rfl (gk_code 82 rfl (gk_fieldLink 83 rfl (gk_fieldLink 84 rfl (gk_methodLink 85 rfl (gk_instanceMethod 86 rfl (gk_selects 87 rfl (gk_code 88 rfl (gk_fieldLink 4 rfl (gk_constantLong 89 rfl (gk_methodLink 90 rfl (gk_static 91 rfl (gk_code 92 rfl (gk_methodLink 93 rfl (gk_instanceMethod 94 rfl (gk_selects 95 rfl (gk_code 96 rfl (gk_fieldLink 49 rfl (gk_methodLink 97 rfl (gk_instanceMethod 98 rfl (gk_selects 99 rfl (gk_code 100 rfl (gk_fieldLink 2 rfl (gk_fieldLink 101 rfl (gk_methodLink 102 rfl (gk_static 103 rfl (gk_code 104 rfl (gk_methodLink 105 rfl (gk_instanceMethod 106 rfl (gk_selects 107 rfl (gk_code 108 rfl (gk_fieldLink 109 rfl (gk_fieldLink 50 rfl (gk_fieldLink 110 rfl (gk_fieldLink 111 rfl (gk_fieldLink 112 rfl (gk_methodLink 113 rfl (gk_instanceMethod 114 rfl (gk_selects 115 rfl (gk_code 116 rfl (gk_fieldLink 117 rfl (gk_fieldLink 5 rfl (gk_methodLink 118 rfl (gk_instanceMethod 119 rfl (gk_selects 120 rfl (gk_code 121 rfl (gk_fieldLink 53 rfl (gk_methodLink 122 rfl (gk_instanceMethod 123 rfl (gk_selects 124 rfl (gk_code 125 rfl (gk_methodLink 126 rfl (gk_instanceMethod 127 rfl (gk_selects 128 rfl (gk_code 129 rfl (gk_fieldLink 130 rfl (gk_methodLink 131 rfl (gk_instanceMethod 132 rfl (gk_selects 133 rfl (gk_code 134 rfl (gk_methodLink 135 rfl (gk_instanceMethod 136 rfl (gk_selects 137 rfl (gk_code 138 rfl (gk_methodLink 139 rfl (gk_instanceMethod 140 rfl (gk_selects 141 rfl (gk_code 142 rfl (gk_methodLink 143 rfl (gk_instanceMethod 144 rfl (gk_selects 145 rfl (gk_code 146 rfl (gk_fieldLink 147 rfl (gk_fieldLink 148 rfl (gk_methodLink 149 rfl (gk_instanceMethod 150 rfl (gk_selects 151 rfl (gk_code 152 rfl (gk_methodLink 153 rfl (gk_instanceMethod 154 rfl (gk_selects 155 rfl (gk_code 156 rfl (gk_methodLink 157 rfl (gk_instanceMethod 158 rfl (gk_selects 159 rfl (gk_code 160 rfl (gk_methodLink 161 rfl (gk_instanceMethod 162 rfl (gk_selects 163 rfl (gk_code 164 rfl (gk_methodLink 165 rfl (gk_instanceMethod 166 rfl (gk_selects 167 rfl (gk_code 168 rfl (gk_methodLink 169 rfl (gk_instanceMethod 170 rfl (gk_selects 171 rfl (gk_code 172 rfl (gk_methodLink 173 rfl (gk_instanceMethod 174 rfl (gk_selects 175 rfl (gk_code 176 rfl (gk_fieldLink 177 rfl (gk_lays 189 rfl (gk_laysFinal 190 rfl (gk_lays 191 rfl (gk_laysFinal 192 rfl (gk_lays 193 rfl (gk_laysFinal 194 rfl (gk_laysFinal 195 rfl (gk_laysFinal 196 rfl (gk_laysFinal 197 rfl (gk_lays 198 rfl (gk_laysFinal 199 rfl (gk_laysFinal 200 rfl (gk_laysFinal 201 rfl (gk_laysFinal 202 rfl (gk_lays 203 rfl (gk_laysFinal 204 rfl (gk_laysFinal 205 rfl (gk_laysFinal 206 rfl (gk_laysFinal 207 rfl (gk_laysFinal 208 rfl (gk_laysFinal 209 rfl (gk_laysFinal 210 rfl (gk_laysFinal 211 rfl (gk_lays 212 rfl (gk_lays 213 rfl (gk_lays 214 rfl (gk_lays 215 rfl (gk_lays 216 rfl (gk_lays 217 rfl (gk_lays 218 rfl (gk_laysFinal 219 rfl (gk_lays 220 rfl (gk_laysFinal 221 rfl (gk_laysFinal 222 rfl (gk_laysFinal 223 rfl (gk_laysFinal 224 rfl (gk_laysFinal 225 rfl (gk_laysFinal 226 rfl (gk_laysFinal 227 rfl (gk_laysFinal 228 rfl (gk_laysFinal 229 rfl (gk_laysFinal 230 rfl (gk_lays 231 rfl (gk_laysFinal 232 rfl (gk_lays 233 rfl (gk_laysFinal 234 rfl (gk_laysFinal 235 rfl (gk_laysFinal 236 rfl (gk_laysFinal 237 rfl (gk_laysFinal 238 rfl (gk_laysFinal 239 rfl (gk_laysFinal 240 rfl (gk_laysFinal 241 rfl (gn)))))))))))))))))))))))))))))))))))))))))))))))))))))))))))))))))))))))))))))))))))))))))))))))))))))))))))))))))))))))))))))))))))))))))))))))))))))))))))))))))))))))))))))))))))))))))))
set_option maxRecDepth 20000 in
theorem gX11_count_X11_countBy : GoodIn wsX11_count (wsV RX11 302 RX11 yX11_countBy wsX11_countBy) := goodIn_app (gk_methodLink 55 rfl (gk_instanceMethod 56 rfl (gk_selects 57 rfl (gk_initialized 9 rfl (gn))))) ggX11_count_X11_countBy
theorem dX11_count_125 : decode cX11_count 125 = .ok (.aload_n 0, 1) := dw42 (n := 96) (i := 29) kc_cX11_count_3 (by decide +kernel)
theorem dX11_count_126 : decode cX11_count 126 = .ok (.getfield 195, 3) := dw180 (n := 96) (i := 30) (a := 0) (b := 195) kc_cX11_count_3 (by decide +kernel) (by decide)
theorem dX11_count_129 : decode cX11_count 129 = .ok (.ifCond .eq 6, 3) := dw153 (n := 128) (i := 1) (a := 0) (b := 6) kc_cX11_count_4 (by decide +kernel) (by decide)
theorem dX11_count_135 : decode cX11_count 135 = .ok (.aload_n 0, 1) := dw42 (n := 128) (i := 7) kc_cX11_count_4 (by decide +kernel)
theorem dX11_count_136 : decode cX11_count 136 = .ok (.invokevirtual 305, 3) := dw182 (n := 128) (i := 8) (a := 1) (b := 49) kc_cX11_count_4 (by decide +kernel) (by decide)
set_option maxRecDepth 20000 in
theorem ggX11_count_X11_takeOver : GoodIn wsX11_count wsX11_takeOver := (gk_code 181 rfl (gk_fieldLink 5 rfl (gk_fieldLink 182 rfl (gk_fieldLink 50 rfl (gk_fieldLink 183 rfl (gk_fieldLink 184 rfl (gk_fieldLink 117 rfl (gk_fieldLink 185 rfl (gk_fieldLink 109 rfl (gk_fieldLink 186 rfl (gk_fieldLink 110 rfl (gk_fieldLink 187 rfl (gk_fieldLink 111 rfl (gk_fieldLink 188 rfl (gk_fieldLink 112 rfl (gk_lays 189 rfl (gk_laysFinal 190 rfl (gk_lays 191 rfl (gk_laysFinal 192 rfl (gk_lays 193 rfl (gk_laysFinal 194 rfl (gk_laysFinal 195 rfl (gk_laysFinal 196 rfl (gk_laysFinal 197 rfl (gk_lays 198 rfl (gk_laysFinal 199 rfl (gk_laysFinal 200 rfl (gk_laysFinal 201 rfl (gk_laysFinal 202 rfl (gk_lays 203 rfl (gk_laysFinal 204 rfl (gk_laysFinal 205 rfl (gk_laysFinal 206 rfl (gk_laysFinal 207 rfl (gk_laysFinal 208 rfl (gk_laysFinal 209 rfl (gk_laysFinal 210 rfl (gk_laysFinal 211 rfl (gk_lays 212 rfl (gk_lays 213 rfl (gk_lays 214 rfl (gk_lays 215 rfl (gk_lays 216 rfl (gk_lays 217 rfl (gk_lays 218 rfl (gk_laysFinal 219 rfl (gk_lays 220 rfl (gk_laysFinal 221 rfl (gk_laysFinal 222 rfl (gk_laysFinal 223 rfl (gk_laysFinal 224 rfl (gk_laysFinal 225 rfl (gk_laysFinal 226 rfl (gk_laysFinal 227 rfl (gk_laysFinal 228 rfl (gk_laysFinal 229 rfl (gk_laysFinal 230 rfl (gk_lays 231 rfl (gk_laysFinal 232 rfl (gk_lays 233 rfl (gk_laysFinal 234 rfl (gk_laysFinal 235 rfl (gk_laysFinal 236 rfl (gk_laysFinal 237 rfl (gk_laysFinal 238 rfl (gk_laysFinal 239 rfl (gk_laysFinal 240 rfl (gk_laysFinal 241 rfl (gn)))))))))))))))))))))))))))))))))))))))))))))))))))))))))))))))))))))
set_option maxRecDepth 20000 in
theorem gX11_count_X11_takeOver : GoodIn wsX11_count (wsV RX11 305 RX11 yX11_takeOver wsX11_takeOver) := goodIn_app (gk_methodLink 178 rfl (gk_instanceMethod 179 rfl (gk_selects 180 rfl (gk_initialized 9 rfl (gn))))) ggX11_count_X11_takeOver
theorem dX11_count_139 : decode cX11_count 139 = .ok (.aload_n 0, 1) := dw42 (n := 128) (i := 11) kc_cX11_count_4 (by decide +kernel)
theorem dX11_count_140 : decode cX11_count 140 = .ok (.getfield 211, 3) := dw180 (n := 128) (i := 12) (a := 0) (b := 211) kc_cX11_count_4 (by decide +kernel) (by decide)
theorem dX11_count_143 : decode cX11_count 143 = .ok (.ireturn, 1) := dw172 (n := 128) (i := 15) kc_cX11_count_4 (by decide +kernel)
theorem dX11_count_132 : decode cX11_count 132 = .ok (.bipush (-6), 2) := dw16 (n := 128) (i := 4) (a := 250) kc_cX11_count_4 (by decide +kernel) (by decide)
theorem dX11_count_134 : decode cX11_count 134 = .ok (.ireturn, 1) := dw172 (n := 128) (i := 6) kc_cX11_count_4 (by decide +kernel)
theorem dX11_count_101 : decode cX11_count 101 = .ok (.aload_n 0, 1) := dw42 (n := 96) (i := 5) kc_cX11_count_3 (by decide +kernel)
theorem dX11_count_102 : decode cX11_count 102 = .ok (.iload 5, 2) := dw21 (n := 96) (i := 6) (a := 5) kc_cX11_count_3 (by decide +kernel) (by decide)
theorem dX11_count_104 : decode cX11_count 104 = .ok (.putfield 126, 3) := dw181 (n := 96) (i := 8) (a := 0) (b := 126) kc_cX11_count_3 (by decide +kernel) (by decide)
theorem dX11_count_107 : decode cX11_count 107 = .ok (.aload_n 0, 1) := dw42 (n := 96) (i := 11) kc_cX11_count_3 (by decide +kernel)
theorem dX11_count_108 : decode cX11_count 108 = .ok (.iconst 3, 1) := dw6 (n := 96) (i := 12) kc_cX11_count_3 (by decide +kernel)
theorem dX11_count_109 : decode cX11_count 109 = .ok (.invokevirtual 155, 3) := dw182 (n := 96) (i := 13) (a := 0) (b := 155) kc_cX11_count_3 (by decide +kernel) (by decide)
set_option maxRecDepth 20000 in
theorem ggX11_count_X11_meets : GoodIn wsX11_count wsX11_meets := (gk_code 41 rfl (gk_fieldLink 42 rfl (gk_fieldLink 43 rfl (gk_lays 189 rfl (gk_laysFinal 190 rfl (gk_lays 191 rfl (gk_laysFinal 192 rfl (gk_lays 193 rfl (gk_laysFinal 194 rfl (gk_laysFinal 195 rfl (gk_laysFinal 196 rfl (gk_laysFinal 197 rfl (gk_lays 198 rfl (gk_laysFinal 199 rfl (gk_laysFinal 200 rfl (gk_laysFinal 201 rfl (gk_laysFinal 202 rfl (gk_lays 203 rfl (gk_laysFinal 204 rfl (gk_laysFinal 205 rfl (gk_laysFinal 206 rfl (gk_laysFinal 207 rfl (gk_laysFinal 208 rfl (gk_laysFinal 209 rfl (gk_laysFinal 210 rfl (gk_laysFinal 211 rfl (gk_lays 212 rfl (gk_lays 213 rfl (gk_lays 214 rfl (gk_lays 215 rfl (gk_lays 216 rfl (gk_lays 217 rfl (gk_lays 218 rfl (gk_laysFinal 219 rfl (gk_lays 220 rfl (gk_laysFinal 221 rfl (gk_laysFinal 222 rfl (gk_laysFinal 223 rfl (gk_laysFinal 224 rfl (gk_laysFinal 225 rfl (gk_laysFinal 226 rfl (gk_laysFinal 227 rfl (gk_laysFinal 228 rfl (gk_laysFinal 229 rfl (gk_laysFinal 230 rfl (gk_lays 231 rfl (gk_laysFinal 232 rfl (gk_lays 233 rfl (gk_laysFinal 234 rfl (gk_laysFinal 235 rfl (gk_laysFinal 236 rfl (gk_laysFinal 237 rfl (gk_laysFinal 238 rfl (gk_laysFinal 239 rfl (gk_laysFinal 240 rfl (gk_laysFinal 241 rfl (gn)))))))))))))))))))))))))))))))))))))))))))))))))))))))))
set_option maxRecDepth 20000 in
theorem gX11_count_X11_meets : GoodIn wsX11_count (wsV RX11 155 RX11 yX11_meets wsX11_meets) := goodIn_app (gk_methodLink 38 rfl (gk_instanceMethod 39 rfl (gk_selects 40 rfl (gk_initialized 9 rfl (gn))))) ggX11_count_X11_meets
theorem dX11_count_112 : decode cX11_count 112 = .ok (.ireturn, 1) := dw172 (n := 96) (i := 16) kc_cX11_count_3 (by decide +kernel)
theorem dX11_count_82 : decode cX11_count 82 = .ok (.bipush (-4), 2) := dw16 (n := 64) (i := 18) (a := 252) kc_cX11_count_2 (by decide +kernel) (by decide)
theorem dX11_count_84 : decode cX11_count 84 = .ok (.ireturn, 1) := dw172 (n := 64) (i := 20) kc_cX11_count_2 (by decide +kernel)
set_option maxHeartbeats 4000000 in
set_option maxRecDepth 100000 in
theorem s_X11_count_73 (l : Launch) (D : va_G) (ad : Nat → Nat) (cs : Nat → ClassId) (M : MI) (L : ML) (x : Int32) (y : Int32) (z : Int32) (hI0 : IR M) (hN : NOv (vR M)) (hT : tr01 (vR M 13) (M 274)) (hB : b012 (vR M 13)) (hD : DP (vR M))  (x4c : Int32) {p : Program} {e : Env} {s : State} {m : MethodId} {below : List Frame} {meth : Method} {c : Code} (C : Cx p s m #[.ref (ad 258), .int x, .int y, .int z] meth c cX11_count 6 wsX11_count RX11 D ad cs) (hr : meth.sig.returnType = some .int) (Mc : MI) (Lc : ML) (hI : IR Mc) (hF : ∀ k i, ¬ (k = 258 ∧ i = 0) ∧ k ≠ 259 ∧ ¬ (k = 258 ∧ i = 26) ∧ k ≠ 273 ∧ k ≠ 274 ∧ k ≠ 275 ∧ ¬ (k = 258 ∧ i = 27) ∧ ¬ (k = 258 ∧ i = 28) ∧ ¬ (k = 258 ∧ i = 42) ∧ ¬ (k = 258 ∧ i = 44) ∧ k ≠ 288 ∧ k ≠ 289 ∧ k ≠ 290 ∧ ¬ (k = 258 ∧ i = 25) ∧ ¬ (k = 258 ∧ i = 29) ∧ ¬ (k = 258 ∧ i = 31) ∧ k ≠ 277 ∧ k ≠ 278 ∧ k ≠ 279 ∧ k ≠ 282 ∧ k ≠ 293 ∧ k ≠ 294 → Mc k i = M k i) (hG : ∀ k i, ¬ (k = 258 ∧ i = 23) ∧ ¬ (k = 258 ∧ i = 24) ∧ k ≠ 284 ∧ k ≠ 285 ∧ k ≠ 280 ∧ k ≠ 281 ∧ k ≠ 286 ∧ k ≠ 287 ∧ k ≠ 295 ∧ k ≠ 296 ∧ k ≠ 291 ∧ k ≠ 292 → Lc k i = L k i) (hV : vR Mc = sI (vR M) 0 5 (-9)) (hq274 : Mc 274 = M 274) (gx4c : x4c = vR M 9 x.toNatClampNeg) (hcnd : 0 ≤ x.toInt ∧ x.toInt < (vR M 0 3).toInt ∧ 0 ≤ y.toInt ∧ y.toInt < (vR M 0 2).toInt ∧ (1 ≤ z.toInt ∧ z.toInt ≤ 30) ∧ (vR M 0 0).toInt ≠ 0 ∧ (z.toInt ≤ (vR M 0 0).toInt ∨ (vR M 9 x.toNatClampNeg).toInt = 6 ∨ (vR M 9 x.toNatClampNeg).toInt = 7)) : G p l e ({ frames := 6, cells := 0, slots := 0, locals := 149 }) s m #[.ref (ad 258), .int x, .int y, .int z] below meth c 0 0 (MQ below (Qi D ad cs (fun r M1 L1 => ((A_count (vR M) x y z).2 = vR M1 ∧ ((A_count (vR M) x y z).1 ≠ 0 → r = (A_count (vR M) x y z).1) ∧ tr01 (vR M1 13) (M1 274)) ∧ IR M1 ∧ (∀ k i, ¬ (k = 258 ∧ i = 0) ∧ k ≠ 259 ∧ ¬ (k = 258 ∧ i = 26) ∧ k ≠ 273 ∧ k ≠ 274 ∧ k ≠ 275 ∧ ¬ (k = 258 ∧ i = 27) ∧ ¬ (k = 258 ∧ i = 28) ∧ ¬ (k = 258 ∧ i = 42) ∧ ¬ (k = 258 ∧ i = 44) ∧ k ≠ 288 ∧ k ≠ 289 ∧ k ≠ 290 ∧ ¬ (k = 258 ∧ i = 25) ∧ ¬ (k = 258 ∧ i = 29) ∧ ¬ (k = 258 ∧ i = 31) ∧ k ≠ 277 ∧ k ≠ 278 ∧ k ≠ 279 ∧ k ≠ 282 ∧ k ≠ 293 ∧ k ≠ 294 → M1 k i = M k i) ∧ ∀ k i, ¬ (k = 258 ∧ i = 23) ∧ ¬ (k = 258 ∧ i = 24) ∧ k ≠ 284 ∧ k ≠ 285 ∧ k ≠ 280 ∧ k ≠ 281 ∧ k ≠ 286 ∧ k ≠ 287 ∧ k ≠ 295 ∧ k ≠ 296 ∧ k ≠ 291 ∧ k ≠ 292 → L1 k i = L k i)) #[.ref (ad 258), .int x, .int y, .int z] s 0 0 (Ar ad)) D ad cs 6 Mc Lc 73 [(0, .ref (ad 258)), (1, .int x), (2, .int y), (3, .int z), (4, .int x4c)] [] := by
  have hI0 := hI0
  have w0 : (vR M 0 0).toInt = (M 258 2).toInt := rfl
  have w1 : (vR M 0 1).toInt = (M 258 4).toInt := rfl
  have w2 : (vR M 0 2).toInt = (M 258 9).toInt := rfl
  have w3 : (vR M 0 3).toInt = (M 258 14).toInt := rfl
  obtain ⟨y0a, y0b⟩ := (show rg 0 10 (M 258 2) from hI0 258 2)
  obtain ⟨y1a, y1b⟩ := (show rg 0 60 (M 258 4) from hI0 258 4)
  obtain ⟨y2a, y2b⟩ := (show rg 0 8 (M 258 9) from hI0 258 9)
  obtain ⟨y3a, y3b⟩ := (show rg 0 20 (M 258 14) from hI0 258 14)
  have k0 : Mc 258 0 = Mc 258 0 := rfl
  have k25 : Mc 258 25 = Mc 258 25 := rfl
  have k26 : Mc 258 26 = Mc 258 26 := rfl
  have k27 : Mc 258 27 = Mc 258 27 := rfl
  have k28 : Mc 258 28 = Mc 258 28 := rfl
  have k29 : Mc 258 29 = Mc 258 29 := rfl
  have k31 : Mc 258 31 = Mc 258 31 := rfl
  have k42 : Mc 258 42 = Mc 258 42 := rfl
  have k44 : Mc 258 44 = Mc 258 44 := rfl
  have l23 : Lc 258 23 = Lc 258 23 := rfl
  have l24 : Lc 258 24 = Lc 258 24 := rfl
  have q259 : Mc 259 = Mc 259 := rfl
  have q273 : Mc 273 = Mc 273 := rfl
  have q274 : Mc 274 = Mc 274 := rfl
  have q275 : Mc 275 = Mc 275 := rfl
  have q277 : Mc 277 = Mc 277 := rfl
  have q278 : Mc 278 = Mc 278 := rfl
  have q279 : Mc 279 = Mc 279 := rfl
  have q282 : Mc 282 = Mc 282 := rfl
  have q288 : Mc 288 = Mc 288 := rfl
  have q289 : Mc 289 = Mc 289 := rfl
  have q290 : Mc 290 = Mc 290 := rfl
  have q293 : Mc 293 = Mc 293 := rfl
  have q294 : Mc 294 = Mc 294 := rfl
  have p280 : Lc 280 = Lc 280 := rfl
  have p281 : Lc 281 = Lc 281 := rfl
  have p284 : Lc 284 = Lc 284 := rfl
  have p285 : Lc 285 = Lc 285 := rfl
  have p286 : Lc 286 = Lc 286 := rfl
  have p287 : Lc 287 = Lc 287 := rfl
  have p291 : Lc 291 = Lc 291 := rfl
  have p292 : Lc 292 = Lc 292 := rfl
  have p295 : Lc 295 = Lc 295 := rfl
  have p296 : Lc 296 = Lc 296 := rfl
  obtain ⟨u1, u2, u3, u4, u5, u6, u7⟩ := hcnd
  have hT1 : tr01 (vR Mc 13) (Mc 274) := by rw [hV, sI_n _ _ _ (by decide), hq274]; exact hT
  have hN1 : NOv (vR Mc) := by rw [hV]; exact NOv_w hN _
  have eS : startV (vR Mc) x = sI (startV (vR M) x) 0 5 (-9) := by rw [hV, startV_w]
  have tx4 := congrArg Int32.toInt gx4c
  have x0 : (vR Mc 0 0).toInt = (vR M 0 0).toInt := by rw [hV, sI_at, if_neg (by decide)]
  have x2 : (vR Mc 0 2).toInt = (vR M 0 2).toInt := by rw [hV, sI_at, if_neg (by decide)]
  have x3 : (vR Mc 0 3).toInt = (vR M 0 3).toInt := by rw [hV, sI_at, if_neg (by decide)]
  refine g_aload_n C 0 dX11_count_73 rfl ?_
  refine g_iload_n C 1 dX11_count_74 rfl ?_
  refine g_callVi C (n := 1) (As := [.int x]) (st := []) (s_X11_started l D ad cs _ _ x hI ⟨by omega, by omega⟩ hN1 hT1) gX11_count_X11_started rfl rfl rfl (by decide +kernel) ⟨Nat.le_of_ble_eq_true rfl, Nat.le_of_ble_eq_true rfl⟩ rfl (Nat.le_of_ble_eq_true rfl) ⟨Nat.zero_le _, Nat.zero_le _⟩ (by decide) (ce_model ad cs _ _) rfl rfl dX11_count_75 (fun r1036 M1037 L1038 hr1036 => ?_)
  obtain ⟨hr1036, hI, hFr1036, hGr1036⟩ := hr1036
  have hF : ∀ k i, ¬ (k = 258 ∧ i = 0) ∧ k ≠ 259 ∧ ¬ (k = 258 ∧ i = 26) ∧ k ≠ 273 ∧ k ≠ 274 ∧ k ≠ 275 ∧ ¬ (k = 258 ∧ i = 27) ∧ ¬ (k = 258 ∧ i = 28) ∧ ¬ (k = 258 ∧ i = 42) ∧ ¬ (k = 258 ∧ i = 44) ∧ k ≠ 288 ∧ k ≠ 289 ∧ k ≠ 290 ∧ ¬ (k = 258 ∧ i = 25) ∧ ¬ (k = 258 ∧ i = 29) ∧ ¬ (k = 258 ∧ i = 31) ∧ k ≠ 277 ∧ k ≠ 278 ∧ k ≠ 279 ∧ k ≠ 282 ∧ k ≠ 293 ∧ k ≠ 294 → M1037 k i = M k i := fun k i hk => by (rw [hFr1036 k i (by omega)]; try exact hF k i hk)
  have hG : ∀ k i, ¬ (k = 258 ∧ i = 23) ∧ ¬ (k = 258 ∧ i = 24) ∧ k ≠ 284 ∧ k ≠ 285 ∧ k ≠ 280 ∧ k ≠ 281 ∧ k ≠ 286 ∧ k ≠ 287 ∧ k ≠ 295 ∧ k ≠ 296 ∧ k ≠ 291 ∧ k ≠ 292 → L1038 k i = L k i := fun k i hk => by (rw [hGr1036 k i trivial]; try exact hG k i hk)
  have hV : vR M1037 = startV (sI (vR M) 0 5 (-9)) x := by rw [hr1036.1, hV]
  have k0 : M1037 258 0 = Mc 258 0 := (hFr1036 258 0 (by omega)).trans k0
  have k25 : M1037 258 25 = Mc 258 25 := (hFr1036 258 25 (by omega)).trans k25
  have k26 : M1037 258 26 = Mc 258 26 := (hFr1036 258 26 (by omega)).trans k26
  have k27 : M1037 258 27 = Mc 258 27 := (hFr1036 258 27 (by omega)).trans k27
  have k28 : M1037 258 28 = Mc 258 28 := (hFr1036 258 28 (by omega)).trans k28
  have k29 : M1037 258 29 = Mc 258 29 := (hFr1036 258 29 (by omega)).trans k29
  have k31 : M1037 258 31 = Mc 258 31 := (hFr1036 258 31 (by omega)).trans k31
  have k42 : M1037 258 42 = Mc 258 42 := (hFr1036 258 42 (by omega)).trans k42
  have k44 : M1037 258 44 = Mc 258 44 := (hFr1036 258 44 (by omega)).trans k44
  have l23 : L1038 258 23 = Lc 258 23 := (hGr1036 258 23 trivial).trans l23
  have l24 : L1038 258 24 = Lc 258 24 := (hGr1036 258 24 trivial).trans l24
  have p280 : L1038 280 = Lc 280 := (funext (fun i => hGr1036 280 i trivial)).trans p280
  have p281 : L1038 281 = Lc 281 := (funext (fun i => hGr1036 281 i trivial)).trans p281
  have p284 : L1038 284 = Lc 284 := (funext (fun i => hGr1036 284 i trivial)).trans p284
  have p285 : L1038 285 = Lc 285 := (funext (fun i => hGr1036 285 i trivial)).trans p285
  have p286 : L1038 286 = Lc 286 := (funext (fun i => hGr1036 286 i trivial)).trans p286
  have p287 : L1038 287 = Lc 287 := (funext (fun i => hGr1036 287 i trivial)).trans p287
  have p291 : L1038 291 = Lc 291 := (funext (fun i => hGr1036 291 i trivial)).trans p291
  have p292 : L1038 292 = Lc 292 := (funext (fun i => hGr1036 292 i trivial)).trans p292
  have p295 : L1038 295 = Lc 295 := (funext (fun i => hGr1036 295 i trivial)).trans p295
  have p296 : L1038 296 = Lc 296 := (funext (fun i => hGr1036 296 i trivial)).trans p296
  have q259 : M1037 259 = Mc 259 := (funext (fun i => hFr1036 259 i (by omega))).trans q259
  have q273 : M1037 273 = M1037 273 := rfl
  have q274 : M1037 274 = M1037 274 := rfl
  have q275 : M1037 275 = M1037 275 := rfl
  have q277 : M1037 277 = Mc 277 := (funext (fun i => hFr1036 277 i (by omega))).trans q277
  have q278 : M1037 278 = Mc 278 := (funext (fun i => hFr1036 278 i (by omega))).trans q278
  have q279 : M1037 279 = Mc 279 := (funext (fun i => hFr1036 279 i (by omega))).trans q279
  have q282 : M1037 282 = Mc 282 := (funext (fun i => hFr1036 282 i (by omega))).trans q282
  have q288 : M1037 288 = Mc 288 := (funext (fun i => hFr1036 288 i (by omega))).trans q288
  have q289 : M1037 289 = Mc 289 := (funext (fun i => hFr1036 289 i (by omega))).trans q289
  have q290 : M1037 290 = Mc 290 := (funext (fun i => hFr1036 290 i (by omega))).trans q290
  have q293 : M1037 293 = Mc 293 := (funext (fun i => hFr1036 293 i (by omega))).trans q293
  have q294 : M1037 294 = Mc 294 := (funext (fun i => hFr1036 294 i (by omega))).trans q294
  obtain ⟨hr1036v, hr1036, hr1036t⟩ := hr1036
  have ht9 := hr1036t
  rw [eS] at hr1036 hr1036v
  rw [sI_n _ _ _ (by decide)] at hr1036
  have tr1036 := congrArg Int32.toInt hr1036
  have h12 := start12 (V := vR M) hB (m := x) (by omega)
  have hV : vR M1037 = sI (startV (vR M) x) 0 5 (-9) := hr1036v
  have y8 : vR M1037 8 = vR M 8 := by rw [hV, sI_n _ _ _ (by decide)]; rfl
  have y2 : vR M1037 2 = vR M 2 := by rw [hV, sI_n _ _ _ (by decide)]; rfl
  have y7 : vR M1037 7 = vR M 7 := by rw [hV, sI_n _ _ _ (by decide)]; rfl
  have y02 : (vR M1037 0 2).toInt = (vR M 0 2).toInt := by rw [hV, sI_at, if_neg (by decide)]; rfl
  have hVs : vR M1037 13 = startV (vR M) x 13 := by rw [hV, sI_n _ _ _ (by decide)]
  refine g_iconst C 2 dX11_count_78 (by decide) ?_
  refine g_icmp_ne C 85 dX11_count_79 (by decide) (fun c1039 => ?_) (fun c1039 => ?_)
  ·
    have f1040 := fne rfl (by decide : (2 : Int32).toInt = 2) c1039
    refine g_aload_n C 0 dX11_count_85 rfl ?_
    refine g_iload C 4 dX11_count_86 rfl ?_
    refine g_iload_n C 2 dX11_count_88 rfl ?_
    refine g_callVi C (n := 2) (As := [.int x4c, .int y]) (st := []) (s_X11_unlikeAt l D ad cs _ _ x4c y hI ⟨by omega, by omega⟩) gX11_count_X11_unlikeAt rfl rfl rfl (by decide +kernel) ⟨Nat.le_of_ble_eq_true rfl, Nat.le_of_ble_eq_true rfl⟩ rfl (Nat.le_of_ble_eq_true rfl) ⟨Nat.zero_le _, Nat.zero_le _⟩ (by decide) (ce_model ad cs _ _) rfl rfl dX11_count_89 (fun r1041 M1042 L1043 hr1041 => ?_)
    obtain ⟨hq1, hq2, hr1041⟩ := hr1041
    obtain rfl := hq1.symm
    obtain rfl := hq2.symm
    obtain ⟨hr1041, br1041⟩ := hr1041
    have hr1041 : r1041 = unV (vR M) y x4c := by rw [hr1041]; unfold unV; rw [y7, unF_ext y8 y2]
    have hku : unV (vR M) y x4c = unV (vR M) y (vR M 9 x.toNatClampNeg) := by rw [gx4c]
    rw [hku] at hr1041
    have tr1041 := congrArg Int32.toInt hr1041
    refine g_istore C [(5, .int r1041), (0, .ref (ad 258)), (1, .int x), (2, .int y), (3, .int z), (4, .int x4c)] dX11_count_92 (by decide) rfl ?_
    refine g_iload C 0 dX11_count_94 rfl ?_
    refine g_bipush C (-9) dX11_count_96 (by decide) ?_
    refine g_icmp_eq C 113 dX11_count_98 (by decide) (fun c1044 => ?_) (fun c1044 => ?_)
    ·
      have f1045 := feq rfl (by decide : ((-9) : Int32).toInt = (-9)) c1044
      refine g_aload_n C 1 dX11_count_113 rfl ?_
      refine g_iload_n C 3 dX11_count_114 rfl ?_
      refine g_iload_n C 4 dX11_count_115 rfl ?_
      have hF0b : (M1037 258 2).toInt = (M 258 2).toInt := congrArg Int32.toInt (hF 258 2 (by omega))
      refine g_callVv C (n := 2) (As := [.int y, .int z]) (st := []) (s_X11_begin l D ad cs _ _ y z hI ⟨by omega, by omega⟩ ⟨by omega, by omega⟩) gX11_count_X11_begin rfl rfl rfl (by decide +kernel) ⟨Nat.le_of_ble_eq_true rfl, Nat.le_of_ble_eq_true rfl⟩ rfl (Nat.le_of_ble_eq_true rfl) ⟨Nat.zero_le _, Nat.zero_le _⟩ (by decide) (ce_model ad cs _ _) rfl rfl dX11_count_116 (fun M1047 L1048 hr1046 => ?_)
      obtain ⟨hr1046, hI, hFr1046, hGr1046⟩ := hr1046
      have hF : ∀ k i, ¬ (k = 258 ∧ i = 0) ∧ k ≠ 259 ∧ ¬ (k = 258 ∧ i = 26) ∧ k ≠ 273 ∧ k ≠ 274 ∧ k ≠ 275 ∧ ¬ (k = 258 ∧ i = 27) ∧ ¬ (k = 258 ∧ i = 28) ∧ ¬ (k = 258 ∧ i = 42) ∧ ¬ (k = 258 ∧ i = 44) ∧ k ≠ 288 ∧ k ≠ 289 ∧ k ≠ 290 ∧ ¬ (k = 258 ∧ i = 25) ∧ ¬ (k = 258 ∧ i = 29) ∧ ¬ (k = 258 ∧ i = 31) ∧ k ≠ 277 ∧ k ≠ 278 ∧ k ≠ 279 ∧ k ≠ 282 ∧ k ≠ 293 ∧ k ≠ 294 → M1047 k i = M k i := fun k i hk => by (rw [hFr1046 k i (by omega)]; try exact hF k i hk)
      have hG : ∀ k i, ¬ (k = 258 ∧ i = 23) ∧ ¬ (k = 258 ∧ i = 24) ∧ k ≠ 284 ∧ k ≠ 285 ∧ k ≠ 280 ∧ k ≠ 281 ∧ k ≠ 286 ∧ k ≠ 287 ∧ k ≠ 295 ∧ k ≠ 296 ∧ k ≠ 291 ∧ k ≠ 292 → L1048 k i = L k i := fun k i hk => by (rw [hGr1046 k i (by omega)]; try exact hG k i hk)
      have hV : vR M1047 = sI (startV (vR M) x) 0 5 (-9) := by rw [vR_fr (fun k i hk => hFr1046 k i (by omega)), hV]
      have k0 : M1047 258 0 = Mc 258 0 := (hFr1046 258 0 (by omega)).trans k0
      have k26 : M1047 258 26 = Mc 258 26 := (hFr1046 258 26 (by omega)).trans k26
      have k42 : M1047 258 42 = Mc 258 42 := (hFr1046 258 42 (by omega)).trans k42
      have k44 : M1047 258 44 = Mc 258 44 := (hFr1046 258 44 (by omega)).trans k44
      have k25 : M1047 258 25 = M1047 258 25 := rfl
      have k27 : M1047 258 27 = M1047 258 27 := rfl
      have k28 : M1047 258 28 = M1047 258 28 := rfl
      have k29 : M1047 258 29 = M1047 258 29 := rfl
      have k31 : M1047 258 31 = M1047 258 31 := rfl
      have l23 : L1048 258 23 = Lc 258 23 := (hGr1046 258 23 (by omega)).trans l23
      have l24 : L1048 258 24 = Lc 258 24 := (hGr1046 258 24 (by omega)).trans l24
      have p280 : L1048 280 = Lc 280 := (funext (fun i => hGr1046 280 i (by omega))).trans p280
      have p281 : L1048 281 = Lc 281 := (funext (fun i => hGr1046 281 i (by omega))).trans p281
      have p284 : L1048 284 = Lc 284 := (funext (fun i => hGr1046 284 i (by omega))).trans p284
      have p285 : L1048 285 = Lc 285 := (funext (fun i => hGr1046 285 i (by omega))).trans p285
      have p286 : L1048 286 = L1048 286 := rfl
      have p287 : L1048 287 = L1048 287 := rfl
      have p291 : L1048 291 = Lc 291 := (funext (fun i => hGr1046 291 i (by omega))).trans p291
      have p292 : L1048 292 = Lc 292 := (funext (fun i => hGr1046 292 i (by omega))).trans p292
      have p295 : L1048 295 = Lc 295 := (funext (fun i => hGr1046 295 i (by omega))).trans p295
      have p296 : L1048 296 = Lc 296 := (funext (fun i => hGr1046 296 i (by omega))).trans p296
      have q259 : M1047 259 = Mc 259 := (funext (fun i => hFr1046 259 i (by omega))).trans q259
      have q273 : M1047 273 = M1037 273 := (funext (fun i => hFr1046 273 i (by omega))).trans q273
      have q274 : M1047 274 = M1037 274 := (funext (fun i => hFr1046 274 i (by omega))).trans q274
      have q275 : M1047 275 = M1037 275 := (funext (fun i => hFr1046 275 i (by omega))).trans q275
      have q277 : M1047 277 = Mc 277 := (funext (fun i => hFr1046 277 i (by omega))).trans q277
      have q278 : M1047 278 = Mc 278 := (funext (fun i => hFr1046 278 i (by omega))).trans q278
      have q279 : M1047 279 = Mc 279 := (funext (fun i => hFr1046 279 i (by omega))).trans q279
      have q282 : M1047 282 = M1047 282 := rfl
      have q288 : M1047 288 = Mc 288 := (funext (fun i => hFr1046 288 i (by omega))).trans q288
      have q289 : M1047 289 = Mc 289 := (funext (fun i => hFr1046 289 i (by omega))).trans q289
      have q290 : M1047 290 = Mc 290 := (funext (fun i => hFr1046 290 i (by omega))).trans q290
      have q293 : M1047 293 = Mc 293 := (funext (fun i => hFr1046 293 i (by omega))).trans q293
      have q294 : M1047 294 = Mc 294 := (funext (fun i => hFr1046 294 i (by omega))).trans q294
      obtain ⟨z27, z28, z29, z31, z25, z282, zW⟩ := hr1046
      have hbm : M1047 258 2 = M 258 2 := hF 258 2 (by omega)
      have hDn : DP (vR M1047) := by rw [hV]; exact DP_w hD x
      have zNI : NIn (M1047 282) (M1047 258 2).toInt := by
        intro c hc hi
        rw [hbm]
        have h9 := z282 c hc
        by_cases e9 : (c : Int) < (M 258 2).toInt
        · exact e9
        · rw [if_neg (by rw [hF0b]; exact e9)] at h9; exact absurd h9 hi
      have zcI : cI (M1047 282) (M1047 258 2).toNatClampNeg = (M 258 2).toNatClampNeg := by
        rw [hbm]
        refine cI_all _ (fun c hc => ?_)
        have nc := ixn (x := M 258 2) (by omega)
        rw [z282 c (by omega), if_pos (by rw [hF0b]; omega)]
        decide
      have z28t := congrArg Int32.toInt z28
      have z29t := congrArg Int32.toInt z29
      have z31t := congrArg Int32.toInt z31
      have nM2 := ixn (x := M 258 2) (by omega)
      have hbmt := congrArg Int32.toInt hbm
      have z0z : (0 : Int32).toInt = 0 := by decide
      have hX9 : hasX (vR M1047) (M1047 258 27) := by rw [z27]; show 0 ≤ y.toInt ∧ y.toInt < (vR M1047 0 2).toInt; rw [hV, sI_at, if_neg (by decide)]; exact ⟨by omega, by show y.toInt < (vR M 0 2).toInt; omega⟩
      refine g_aload_n C 1 dX11_count_119 rfl ?_
      refine g_iload C 5 dX11_count_120 rfl ?_
      refine g_callVv C (n := 1) (As := [.int x4c]) (st := []) (s_X11_countBy l D ad cs _ _ x4c hI hDn zNI zW (by omega) (by omega) hX9 (fun h6 h7 => by rw [zcI]; omega) (by rw [zcI]; omega) (by omega) (by omega)) gX11_count_X11_countBy rfl rfl rfl (by decide +kernel) ⟨Nat.le_of_ble_eq_true rfl, Nat.le_of_ble_eq_true rfl⟩ rfl (Nat.le_of_ble_eq_true rfl) ⟨Nat.zero_le _, Nat.zero_le _⟩ (by decide) (ce_model ad cs _ _) rfl rfl dX11_count_122 (fun M1050 L1051 hr1049 => ?_)
      obtain ⟨hr1049, hI, hFr1049, hGr1049⟩ := hr1049
      have hF : ∀ k i, ¬ (k = 258 ∧ i = 0) ∧ k ≠ 259 ∧ ¬ (k = 258 ∧ i = 26) ∧ k ≠ 273 ∧ k ≠ 274 ∧ k ≠ 275 ∧ ¬ (k = 258 ∧ i = 27) ∧ ¬ (k = 258 ∧ i = 28) ∧ ¬ (k = 258 ∧ i = 42) ∧ ¬ (k = 258 ∧ i = 44) ∧ k ≠ 288 ∧ k ≠ 289 ∧ k ≠ 290 ∧ ¬ (k = 258 ∧ i = 25) ∧ ¬ (k = 258 ∧ i = 29) ∧ ¬ (k = 258 ∧ i = 31) ∧ k ≠ 277 ∧ k ≠ 278 ∧ k ≠ 279 ∧ k ≠ 282 ∧ k ≠ 293 ∧ k ≠ 294 → M1050 k i = M k i := fun k i hk => by (rw [hFr1049 k i (by omega)]; try exact hF k i hk)
      have hG : ∀ k i, ¬ (k = 258 ∧ i = 23) ∧ ¬ (k = 258 ∧ i = 24) ∧ k ≠ 284 ∧ k ≠ 285 ∧ k ≠ 280 ∧ k ≠ 281 ∧ k ≠ 286 ∧ k ≠ 287 ∧ k ≠ 295 ∧ k ≠ 296 ∧ k ≠ 291 ∧ k ≠ 292 → L1051 k i = L k i := fun k i hk => by (rw [hGr1049 k i (by omega)]; try exact hG k i hk)
      have hV : vR M1050 = sI (startV (vR M) x) 0 5 (-9) := by rw [vR_fr (fun k i hk => hFr1049 k i (by omega)), hV]
      have k0 : M1050 258 0 = Mc 258 0 := (hFr1049 258 0 (by omega)).trans k0
      have k26 : M1050 258 26 = Mc 258 26 := (hFr1049 258 26 (by omega)).trans k26
      have k27 : M1050 258 27 = M1047 258 27 := (hFr1049 258 27 (by omega)).trans k27
      have k28 : M1050 258 28 = M1047 258 28 := (hFr1049 258 28 (by omega)).trans k28
      have k42 : M1050 258 42 = Mc 258 42 := (hFr1049 258 42 (by omega)).trans k42
      have k44 : M1050 258 44 = Mc 258 44 := (hFr1049 258 44 (by omega)).trans k44
      have k25 : M1050 258 25 = M1050 258 25 := rfl
      have k29 : M1050 258 29 = M1050 258 29 := rfl
      have k31 : M1050 258 31 = M1050 258 31 := rfl
      have l23 : L1051 258 23 = L1051 258 23 := rfl
      have l24 : L1051 258 24 = L1051 258 24 := rfl
      have p280 : L1051 280 = L1051 280 := rfl
      have p281 : L1051 281 = L1051 281 := rfl
      have p284 : L1051 284 = L1051 284 := rfl
      have p285 : L1051 285 = L1051 285 := rfl
      have p286 : L1051 286 = L1051 286 := rfl
      have p287 : L1051 287 = L1051 287 := rfl
      have p291 : L1051 291 = Lc 291 := (funext (fun i => hGr1049 291 i (by omega))).trans p291
      have p292 : L1051 292 = Lc 292 := (funext (fun i => hGr1049 292 i (by omega))).trans p292
      have p295 : L1051 295 = L1051 295 := rfl
      have p296 : L1051 296 = L1051 296 := rfl
      have q259 : M1050 259 = Mc 259 := (funext (fun i => hFr1049 259 i (by omega))).trans q259
      have q273 : M1050 273 = M1037 273 := (funext (fun i => hFr1049 273 i (by omega))).trans q273
      have q274 : M1050 274 = M1037 274 := (funext (fun i => hFr1049 274 i (by omega))).trans q274
      have q275 : M1050 275 = M1037 275 := (funext (fun i => hFr1049 275 i (by omega))).trans q275
      have q277 : M1050 277 = M1050 277 := rfl
      have q278 : M1050 278 = M1050 278 := rfl
      have q279 : M1050 279 = M1050 279 := rfl
      have q282 : M1050 282 = M1050 282 := rfl
      have q288 : M1050 288 = Mc 288 := (funext (fun i => hFr1049 288 i (by omega))).trans q288
      have q289 : M1050 289 = Mc 289 := (funext (fun i => hFr1049 289 i (by omega))).trans q289
      have q290 : M1050 290 = Mc 290 := (funext (fun i => hFr1049 290 i (by omega))).trans q290
      have q293 : M1050 293 = M1050 293 := rfl
      have q294 : M1050 294 = M1050 294 := rfl
      refine g_aload_n C 1 dX11_count_125 rfl ?_
      refine g_get C (.int (M1050 258 25)) 25 in_X11_count_11 (List.mem_of_getElem? (i := 4) rfl) (by decide) (ce_model ad cs _ _) rfl (by decide) rfl rfl dX11_count_126 ?_
      refine g_ni (fun v1052 ev1052 => ?_)
      have gv1052 : v1052 = M1050 258 25 := ev1052.trans k25
      have tv1052 := congrArg Int32.toInt gv1052
      obtain ⟨bv1052, dv1052⟩ := (show rg 0 1 v1052 from (by rw [ev1052]; exact hI 258 25))
      refine g_if_eq C 135 dX11_count_129 (by decide) (fun c1053 => ?_) (fun c1053 => ?_)
      ·
        have f1054 := feq rfl (by decide : (0 : Int32).toInt = 0) c1053
        refine g_aload_n C 1 dX11_count_135 rfl ?_
        refine g_callVv C (n := 0) (As := []) (st := []) (s_X11_takeOver l D ad cs _ _  hI ) gX11_count_X11_takeOver rfl rfl rfl (by decide +kernel) ⟨Nat.le_of_ble_eq_true rfl, Nat.le_of_ble_eq_true rfl⟩ rfl (Nat.le_of_ble_eq_true rfl) ⟨Nat.zero_le _, Nat.zero_le _⟩ (by decide) (ce_model ad cs _ _) rfl rfl dX11_count_136 (fun M1056 L1057 hr1055 => ?_)
        obtain ⟨hr1055, hI, hFr1055, hGr1055⟩ := hr1055
        have hF : ∀ k i, ¬ (k = 258 ∧ i = 0) ∧ k ≠ 259 ∧ ¬ (k = 258 ∧ i = 26) ∧ k ≠ 273 ∧ k ≠ 274 ∧ k ≠ 275 ∧ ¬ (k = 258 ∧ i = 27) ∧ ¬ (k = 258 ∧ i = 28) ∧ ¬ (k = 258 ∧ i = 42) ∧ ¬ (k = 258 ∧ i = 44) ∧ k ≠ 288 ∧ k ≠ 289 ∧ k ≠ 290 ∧ ¬ (k = 258 ∧ i = 25) ∧ ¬ (k = 258 ∧ i = 29) ∧ ¬ (k = 258 ∧ i = 31) ∧ k ≠ 277 ∧ k ≠ 278 ∧ k ≠ 279 ∧ k ≠ 282 ∧ k ≠ 293 ∧ k ≠ 294 → M1056 k i = M k i := fun k i hk => by (rw [hFr1055 k i (by omega)]; try exact hF k i hk)
        have hG : ∀ k i, ¬ (k = 258 ∧ i = 23) ∧ ¬ (k = 258 ∧ i = 24) ∧ k ≠ 284 ∧ k ≠ 285 ∧ k ≠ 280 ∧ k ≠ 281 ∧ k ≠ 286 ∧ k ≠ 287 ∧ k ≠ 295 ∧ k ≠ 296 ∧ k ≠ 291 ∧ k ≠ 292 → L1057 k i = L k i := fun k i hk => by (rw [hGr1055 k i (by omega)]; try exact hG k i hk)
        have hV : vR M1056 = sI (startV (vR M) x) 0 5 (-9) := by rw [vR_fr (fun k i hk => hFr1055 k i (by omega)), hV]
        have k0 : M1056 258 0 = Mc 258 0 := (hFr1055 258 0 (by omega)).trans k0
        have k25 : M1056 258 25 = M1050 258 25 := (hFr1055 258 25 (by omega)).trans k25
        have k26 : M1056 258 26 = Mc 258 26 := (hFr1055 258 26 (by omega)).trans k26
        have k27 : M1056 258 27 = M1047 258 27 := (hFr1055 258 27 (by omega)).trans k27
        have k28 : M1056 258 28 = M1047 258 28 := (hFr1055 258 28 (by omega)).trans k28
        have k29 : M1056 258 29 = M1050 258 29 := (hFr1055 258 29 (by omega)).trans k29
        have k31 : M1056 258 31 = M1050 258 31 := (hFr1055 258 31 (by omega)).trans k31
        have k42 : M1056 258 42 = M1056 258 42 := rfl
        have k44 : M1056 258 44 = M1056 258 44 := rfl
        have l23 : L1057 258 23 = L1051 258 23 := (hGr1055 258 23 (by omega)).trans l23
        have l24 : L1057 258 24 = L1051 258 24 := (hGr1055 258 24 (by omega)).trans l24
        have p280 : L1057 280 = L1051 280 := (funext (fun i => hGr1055 280 i (by omega))).trans p280
        have p281 : L1057 281 = L1051 281 := (funext (fun i => hGr1055 281 i (by omega))).trans p281
        have p284 : L1057 284 = L1051 284 := (funext (fun i => hGr1055 284 i (by omega))).trans p284
        have p285 : L1057 285 = L1051 285 := (funext (fun i => hGr1055 285 i (by omega))).trans p285
        have p286 : L1057 286 = L1051 286 := (funext (fun i => hGr1055 286 i (by omega))).trans p286
        have p287 : L1057 287 = L1051 287 := (funext (fun i => hGr1055 287 i (by omega))).trans p287
        have p291 : L1057 291 = L1057 291 := rfl
        have p292 : L1057 292 = L1057 292 := rfl
        have p295 : L1057 295 = L1051 295 := (funext (fun i => hGr1055 295 i (by omega))).trans p295
        have p296 : L1057 296 = L1051 296 := (funext (fun i => hGr1055 296 i (by omega))).trans p296
        have q259 : M1056 259 = Mc 259 := (funext (fun i => hFr1055 259 i (by omega))).trans q259
        have q273 : M1056 273 = M1037 273 := (funext (fun i => hFr1055 273 i (by omega))).trans q273
        have q274 : M1056 274 = M1037 274 := (funext (fun i => hFr1055 274 i (by omega))).trans q274
        have q275 : M1056 275 = M1037 275 := (funext (fun i => hFr1055 275 i (by omega))).trans q275
        have q277 : M1056 277 = M1050 277 := (funext (fun i => hFr1055 277 i (by omega))).trans q277
        have q278 : M1056 278 = M1050 278 := (funext (fun i => hFr1055 278 i (by omega))).trans q278
        have q279 : M1056 279 = M1050 279 := (funext (fun i => hFr1055 279 i (by omega))).trans q279
        have q282 : M1056 282 = M1050 282 := (funext (fun i => hFr1055 282 i (by omega))).trans q282
        have q288 : M1056 288 = M1056 288 := rfl
        have q289 : M1056 289 = M1056 289 := rfl
        have q290 : M1056 290 = M1056 290 := rfl
        have q293 : M1056 293 = M1050 293 := (funext (fun i => hFr1055 293 i (by omega))).trans q293
        have q294 : M1056 294 = M1050 294 := (funext (fun i => hFr1055 294 i (by omega))).trans q294
        refine g_aload_n C 1 dX11_count_139 rfl ?_
        refine g_get C (.int (M1056 258 29)) 29 in_X11_count_11 (List.mem_of_getElem? (i := 5) rfl) (by decide) (ce_model ad cs _ _) rfl (by decide) rfl rfl dX11_count_140 ?_
        refine g_ni (fun v1058 ev1058 => ?_)
        have gv1058 : v1058 = M1050 258 29 := ev1058.trans k29
        have tv1058 := congrArg Int32.toInt gv1058
        obtain ⟨bv1058, dv1058⟩ := (show rg 0 30 v1058 from (by rw [ev1058]; exact hI 258 29))
        have hA : A_count (vR M) x y z = (0, sI (startV (vR M) x) 0 5 (-9)) := by dsimp only [A_count, hasM, hasX, seatsOk, bt]; (repeat (first | rw [if_pos (by omega)] | rw [if_neg (by omega)]))
        exact g_iret C hr ⟨⟨by rw [hA, hV], fun h => absurd (by rw [hA]) h, by (have e1 : vR M1056 13 = startV (vR M) x 13 := (by rw [hV, sI_n _ _ _ (by decide)]); rw [e1, q274]; rw [hVs] at ht9; exact ht9)⟩, hI, hF, hG⟩ dX11_count_143
      ·
        have f1059 := fne rfl (by decide : (0 : Int32).toInt = 0) c1053
        refine g_bipush C (-6) dX11_count_132 (by decide) ?_
        have hA : A_count (vR M) x y z = (0, sI (startV (vR M) x) 0 5 (-9)) := by dsimp only [A_count, hasM, hasX, seatsOk, bt]; (repeat (first | rw [if_pos (by omega)] | rw [if_neg (by omega)]))
        have zr9 : ((-6) : Int32).toInt = (-6) := by decide
        exact g_iret C hr ⟨⟨by rw [hA, hV], fun h => absurd (by rw [hA]) h, by (have e1 : vR M1050 13 = startV (vR M) x 13 := (by rw [hV, sI_n _ _ _ (by decide)]); rw [e1, q274]; rw [hVs] at ht9; exact ht9)⟩, hI, hF, hG⟩ dX11_count_134
    ·
      have f1060 := fne rfl (by decide : ((-9) : Int32).toInt = (-9)) c1044
      refine g_aload_n C 1 dX11_count_101 rfl ?_
      refine g_iload C 0 dX11_count_102 rfl ?_
      refine g_putI C 26 in_X11_count_11 (List.mem_of_getElem? (i := 1) rfl) (by decide) (ce_model ad cs _ _) rfl (by decide) rfl tyX11 tyX11_ok nmX11 rfl rfl rfl rfl (Nat.le_of_ble_eq_true rfl) (by rw [sI_k]; rfl) dX11_count_104 ?_
      refine g_nm (fun M1061 hM1061 => ?_)
      have hI : IR M1061 := by rw [hM1061]; exact hI.st (show bR 258 26 _ from trivial)
      have hF : ∀ k i, ¬ (k = 258 ∧ i = 0) ∧ k ≠ 259 ∧ ¬ (k = 258 ∧ i = 26) ∧ k ≠ 273 ∧ k ≠ 274 ∧ k ≠ 275 ∧ ¬ (k = 258 ∧ i = 27) ∧ ¬ (k = 258 ∧ i = 28) ∧ ¬ (k = 258 ∧ i = 42) ∧ ¬ (k = 258 ∧ i = 44) ∧ k ≠ 288 ∧ k ≠ 289 ∧ k ≠ 290 ∧ ¬ (k = 258 ∧ i = 25) ∧ ¬ (k = 258 ∧ i = 29) ∧ ¬ (k = 258 ∧ i = 31) ∧ k ≠ 277 ∧ k ≠ 278 ∧ k ≠ 279 ∧ k ≠ 282 ∧ k ≠ 293 ∧ k ≠ 294 → M1061 k i = M k i := fun k i hk => by (rw [hM1061, sI_at, if_neg (by omega)]; try exact hF k i hk)
      have k0 : M1061 258 0 = Mc 258 0 := by rw [hM1061, sI_at, if_neg (by decide)]; try exact k0
      have k25 : M1061 258 25 = Mc 258 25 := by rw [hM1061, sI_at, if_neg (by decide)]; try exact k25
      have k27 : M1061 258 27 = Mc 258 27 := by rw [hM1061, sI_at, if_neg (by decide)]; try exact k27
      have k28 : M1061 258 28 = Mc 258 28 := by rw [hM1061, sI_at, if_neg (by decide)]; try exact k28
      have k29 : M1061 258 29 = Mc 258 29 := by rw [hM1061, sI_at, if_neg (by decide)]; try exact k29
      have k31 : M1061 258 31 = Mc 258 31 := by rw [hM1061, sI_at, if_neg (by decide)]; try exact k31
      have k42 : M1061 258 42 = Mc 258 42 := by rw [hM1061, sI_at, if_neg (by decide)]; try exact k42
      have k44 : M1061 258 44 = Mc 258 44 := by rw [hM1061, sI_at, if_neg (by decide)]; try exact k44
      have k26 : M1061 258 26 = r1041 := by rw [hM1061, sI_at, if_pos (by decide)]
      have q259 : M1061 259 = Mc 259 := by rw [hM1061, sI_n _ _ _ (by decide)]; try exact q259
      have q273 : M1061 273 = M1037 273 := by rw [hM1061, sI_n _ _ _ (by decide)]; try exact q273
      have q274 : M1061 274 = M1037 274 := by rw [hM1061, sI_n _ _ _ (by decide)]; try exact q274
      have q275 : M1061 275 = M1037 275 := by rw [hM1061, sI_n _ _ _ (by decide)]; try exact q275
      have q277 : M1061 277 = Mc 277 := by rw [hM1061, sI_n _ _ _ (by decide)]; try exact q277
      have q278 : M1061 278 = Mc 278 := by rw [hM1061, sI_n _ _ _ (by decide)]; try exact q278
      have q279 : M1061 279 = Mc 279 := by rw [hM1061, sI_n _ _ _ (by decide)]; try exact q279
      have q282 : M1061 282 = Mc 282 := by rw [hM1061, sI_n _ _ _ (by decide)]; try exact q282
      have q288 : M1061 288 = Mc 288 := by rw [hM1061, sI_n _ _ _ (by decide)]; try exact q288
      have q289 : M1061 289 = Mc 289 := by rw [hM1061, sI_n _ _ _ (by decide)]; try exact q289
      have q290 : M1061 290 = Mc 290 := by rw [hM1061, sI_n _ _ _ (by decide)]; try exact q290
      have q293 : M1061 293 = Mc 293 := by rw [hM1061, sI_n _ _ _ (by decide)]; try exact q293
      have q294 : M1061 294 = Mc 294 := by rw [hM1061, sI_n _ _ _ (by decide)]; try exact q294
      have hV : vR M1061 = sI (sI (startV (vR M) x) 0 5 (-9)) 0 5 r1041 := by rw [hM1061, vR_s (c := 5) (by decide), hV]
      refine g_aload_n C 1 dX11_count_107 rfl ?_
      refine g_iconst C 3 dX11_count_108 (by decide) ?_
      refine g_callVi C (n := 1) (As := [.int 3]) (st := []) (s_X11_meets l D ad cs _ _ 3 hI ⟨by first | omega | decide, by first | omega | decide⟩) gX11_count_X11_meets rfl rfl rfl (by decide +kernel) ⟨Nat.le_of_ble_eq_true rfl, Nat.le_of_ble_eq_true rfl⟩ rfl (Nat.le_of_ble_eq_true rfl) ⟨Nat.zero_le _, Nat.zero_le _⟩ (by decide) (ce_model ad cs _ _) rfl rfl dX11_count_109 (fun r1062 M1063 L1064 hr1062 => ?_)
      obtain ⟨hr1062, hI, hFr1062, hGr1062⟩ := hr1062
      have hF : ∀ k i, ¬ (k = 258 ∧ i = 0) ∧ k ≠ 259 ∧ ¬ (k = 258 ∧ i = 26) ∧ k ≠ 273 ∧ k ≠ 274 ∧ k ≠ 275 ∧ ¬ (k = 258 ∧ i = 27) ∧ ¬ (k = 258 ∧ i = 28) ∧ ¬ (k = 258 ∧ i = 42) ∧ ¬ (k = 258 ∧ i = 44) ∧ k ≠ 288 ∧ k ≠ 289 ∧ k ≠ 290 ∧ ¬ (k = 258 ∧ i = 25) ∧ ¬ (k = 258 ∧ i = 29) ∧ ¬ (k = 258 ∧ i = 31) ∧ k ≠ 277 ∧ k ≠ 278 ∧ k ≠ 279 ∧ k ≠ 282 ∧ k ≠ 293 ∧ k ≠ 294 → M1063 k i = M k i := fun k i hk => by (rw [hFr1062 k i (by omega)]; try exact hF k i hk)
      have hG : ∀ k i, ¬ (k = 258 ∧ i = 23) ∧ ¬ (k = 258 ∧ i = 24) ∧ k ≠ 284 ∧ k ≠ 285 ∧ k ≠ 280 ∧ k ≠ 281 ∧ k ≠ 286 ∧ k ≠ 287 ∧ k ≠ 295 ∧ k ≠ 296 ∧ k ≠ 291 ∧ k ≠ 292 → L1064 k i = L k i := fun k i hk => by (rw [hGr1062 k i trivial]; try exact hG k i hk)
      have hV : vR M1063 = meetsV (sI (sI (startV (vR M) x) 0 5 (-9)) 0 5 r1041) 3 := by rw [hr1062.2, hV]
      have k25 : M1063 258 25 = Mc 258 25 := (hFr1062 258 25 (by omega)).trans k25
      have k26 : M1063 258 26 = r1041 := (hFr1062 258 26 (by omega)).trans k26
      have k27 : M1063 258 27 = Mc 258 27 := (hFr1062 258 27 (by omega)).trans k27
      have k28 : M1063 258 28 = Mc 258 28 := (hFr1062 258 28 (by omega)).trans k28
      have k29 : M1063 258 29 = Mc 258 29 := (hFr1062 258 29 (by omega)).trans k29
      have k31 : M1063 258 31 = Mc 258 31 := (hFr1062 258 31 (by omega)).trans k31
      have k42 : M1063 258 42 = Mc 258 42 := (hFr1062 258 42 (by omega)).trans k42
      have k44 : M1063 258 44 = Mc 258 44 := (hFr1062 258 44 (by omega)).trans k44
      have k0 : M1063 258 0 = M1063 258 0 := rfl
      have l23 : L1064 258 23 = Lc 258 23 := (hGr1062 258 23 trivial).trans l23
      have l24 : L1064 258 24 = Lc 258 24 := (hGr1062 258 24 trivial).trans l24
      have p280 : L1064 280 = Lc 280 := (funext (fun i => hGr1062 280 i trivial)).trans p280
      have p281 : L1064 281 = Lc 281 := (funext (fun i => hGr1062 281 i trivial)).trans p281
      have p284 : L1064 284 = Lc 284 := (funext (fun i => hGr1062 284 i trivial)).trans p284
      have p285 : L1064 285 = Lc 285 := (funext (fun i => hGr1062 285 i trivial)).trans p285
      have p286 : L1064 286 = Lc 286 := (funext (fun i => hGr1062 286 i trivial)).trans p286
      have p287 : L1064 287 = Lc 287 := (funext (fun i => hGr1062 287 i trivial)).trans p287
      have p291 : L1064 291 = Lc 291 := (funext (fun i => hGr1062 291 i trivial)).trans p291
      have p292 : L1064 292 = Lc 292 := (funext (fun i => hGr1062 292 i trivial)).trans p292
      have p295 : L1064 295 = Lc 295 := (funext (fun i => hGr1062 295 i trivial)).trans p295
      have p296 : L1064 296 = Lc 296 := (funext (fun i => hGr1062 296 i trivial)).trans p296
      have q259 : M1063 259 = M1063 259 := rfl
      have q273 : M1063 273 = M1037 273 := (funext (fun i => hFr1062 273 i (by omega))).trans q273
      have q274 : M1063 274 = M1037 274 := (funext (fun i => hFr1062 274 i (by omega))).trans q274
      have q275 : M1063 275 = M1037 275 := (funext (fun i => hFr1062 275 i (by omega))).trans q275
      have q277 : M1063 277 = Mc 277 := (funext (fun i => hFr1062 277 i (by omega))).trans q277
      have q278 : M1063 278 = Mc 278 := (funext (fun i => hFr1062 278 i (by omega))).trans q278
      have q279 : M1063 279 = Mc 279 := (funext (fun i => hFr1062 279 i (by omega))).trans q279
      have q282 : M1063 282 = Mc 282 := (funext (fun i => hFr1062 282 i (by omega))).trans q282
      have q288 : M1063 288 = Mc 288 := (funext (fun i => hFr1062 288 i (by omega))).trans q288
      have q289 : M1063 289 = Mc 289 := (funext (fun i => hFr1062 289 i (by omega))).trans q289
      have q290 : M1063 290 = Mc 290 := (funext (fun i => hFr1062 290 i (by omega))).trans q290
      have q293 : M1063 293 = Mc 293 := (funext (fun i => hFr1062 293 i (by omega))).trans q293
      have q294 : M1063 294 = Mc 294 := (funext (fun i => hFr1062 294 i (by omega))).trans q294
      have hA : A_count (vR M) x y z = (-3, meetsV (sI (startV (vR M) x) 0 5 (unV (vR M) y (vR M 9 x.toNatClampNeg))) 3) := by dsimp only [A_count, hasM, hasX, seatsOk, bt]; (repeat (first | rw [if_pos (by omega)] | rw [if_neg (by omega)]))
      exact g_iret C hr ⟨⟨by rw [hA, hV, sI_sI, hr1041], fun _ => by rw [hA]; exact hr1062.1, by (have e1 : vR M1063 13 = startV (vR M) x 13 := (by rw [hV]; unfold meetsV; rw [sI_n _ _ _ (by decide), sI_n _ _ _ (by decide), sI_n _ _ _ (by decide), sI_n _ _ _ (by decide)]); rw [e1, q274]; rw [hVs] at ht9; exact ht9)⟩, hI, hF, hG⟩ dX11_count_112
  ·
    have f1065 := feq rfl (by decide : (2 : Int32).toInt = 2) c1039
    refine g_bipush C (-4) dX11_count_82 (by decide) ?_
    have hA : A_count (vR M) x y z = (-4, sI (startV (vR M) x) 0 5 (-9)) := by dsimp only [A_count, hasM, hasX, seatsOk, bt]; (repeat (first | rw [if_pos (by omega)] | rw [if_neg (by omega)]))
    have zr9 : ((-4) : Int32).toInt = (-4) := by decide
    exact g_iret C hr ⟨⟨by rw [hA, hV], fun _ => by rw [hA], ht9⟩, hI, hF, hG⟩ dX11_count_84
set_option maxHeartbeats 4000000 in
set_option maxRecDepth 100000 in
theorem s_X11_count (l : Launch) (D : va_G) (ad : Nat → Nat) (cs : Nat → ClassId) (M : MI) (L : ML) (x : Int32) (y : Int32) (z : Int32) (hI : IR M) (hN : NOv (vR M)) (hT : tr01 (vR M 13) (M 274)) (hB : b012 (vR M 13)) (hD : DP (vR M)) : Ci l yX11_count wsX11_count ({ frames := 6, cells := 0, slots := 0, locals := 149 }) D ad cs [.ref (ad 258), .int x, .int y, .int z] M L (fun r M1 L1 => ((A_count (vR M) x y z).2 = vR M1 ∧ ((A_count (vR M) x y z).1 ≠ 0 → r = (A_count (vR M) x y z).1) ∧ tr01 (vR M1 13) (M1 274)) ∧ IR M1 ∧ (∀ k i, ¬ (k = 258 ∧ i = 0) ∧ k ≠ 259 ∧ ¬ (k = 258 ∧ i = 26) ∧ k ≠ 273 ∧ k ≠ 274 ∧ k ≠ 275 ∧ ¬ (k = 258 ∧ i = 27) ∧ ¬ (k = 258 ∧ i = 28) ∧ ¬ (k = 258 ∧ i = 42) ∧ ¬ (k = 258 ∧ i = 44) ∧ k ≠ 288 ∧ k ≠ 289 ∧ k ≠ 290 ∧ ¬ (k = 258 ∧ i = 25) ∧ ¬ (k = 258 ∧ i = 29) ∧ ¬ (k = 258 ∧ i = 31) ∧ k ≠ 277 ∧ k ≠ 278 ∧ k ≠ 279 ∧ k ≠ 282 ∧ k ≠ 293 ∧ k ≠ 294 → M1 k i = M k i) ∧ ∀ k i, ¬ (k = 258 ∧ i = 23) ∧ ¬ (k = 258 ∧ i = 24) ∧ k ≠ 284 ∧ k ≠ 285 ∧ k ≠ 280 ∧ k ≠ 281 ∧ k ≠ 286 ∧ k ≠ 287 ∧ k ≠ 295 ∧ k ≠ 296 ∧ k ≠ 291 ∧ k ≠ 292 → L1 k i = L k i) := by
  refine enter_i RX11 rfl [(0, .ref (ad 258)), (1, .int x), (2, .int y), (3, .int z)] rfl (Nat.le_of_ble_eq_true rfl) (by decide +kernel) rfl ?_
  intro p e s m below meth c C hr
  have hF : ∀ k i, ¬ (k = 258 ∧ i = 0) ∧ k ≠ 259 ∧ ¬ (k = 258 ∧ i = 26) ∧ k ≠ 273 ∧ k ≠ 274 ∧ k ≠ 275 ∧ ¬ (k = 258 ∧ i = 27) ∧ ¬ (k = 258 ∧ i = 28) ∧ ¬ (k = 258 ∧ i = 42) ∧ ¬ (k = 258 ∧ i = 44) ∧ k ≠ 288 ∧ k ≠ 289 ∧ k ≠ 290 ∧ ¬ (k = 258 ∧ i = 25) ∧ ¬ (k = 258 ∧ i = 29) ∧ ¬ (k = 258 ∧ i = 31) ∧ k ≠ 277 ∧ k ≠ 278 ∧ k ≠ 279 ∧ k ≠ 282 ∧ k ≠ 293 ∧ k ≠ 294 → M k i = M k i := fun _ _ _ => rfl
  have hG : ∀ k i, ¬ (k = 258 ∧ i = 23) ∧ ¬ (k = 258 ∧ i = 24) ∧ k ≠ 284 ∧ k ≠ 285 ∧ k ≠ 280 ∧ k ≠ 281 ∧ k ≠ 286 ∧ k ≠ 287 ∧ k ≠ 295 ∧ k ≠ 296 ∧ k ≠ 291 ∧ k ≠ 292 → L k i = L k i := fun _ _ _ => rfl
  have w0 : (vR M 0 0).toInt = (M 258 2).toInt := rfl
  have w1 : (vR M 0 1).toInt = (M 258 4).toInt := rfl
  have w2 : (vR M 0 2).toInt = (M 258 9).toInt := rfl
  have w3 : (vR M 0 3).toInt = (M 258 14).toInt := rfl
  obtain ⟨y0a, y0b⟩ := (show rg 0 10 (M 258 2) from hI 258 2)
  obtain ⟨y1a, y1b⟩ := (show rg 0 60 (M 258 4) from hI 258 4)
  obtain ⟨y2a, y2b⟩ := (show rg 0 8 (M 258 9) from hI 258 9)
  obtain ⟨y3a, y3b⟩ := (show rg 0 20 (M 258 14) from hI 258 14)
  have k0 : M 258 0 = vR M 0 4 := rfl
  have k25 : M 258 25 = M 258 25 := rfl
  have k26 : M 258 26 = vR M 0 5 := rfl
  have k27 : M 258 27 = M 258 27 := rfl
  have k28 : M 258 28 = M 258 28 := rfl
  have k29 : M 258 29 = M 258 29 := rfl
  have k31 : M 258 31 = M 258 31 := rfl
  have k42 : M 258 42 = M 258 42 := rfl
  have k44 : M 258 44 = M 258 44 := rfl
  have l23 : L 258 23 = L 258 23 := rfl
  have l24 : L 258 24 = L 258 24 := rfl
  have p280 : L 280 = L 280 := rfl
  have p281 : L 281 = L 281 := rfl
  have p284 : L 284 = L 284 := rfl
  have p285 : L 285 = L 285 := rfl
  have p286 : L 286 = L 286 := rfl
  have p287 : L 287 = L 287 := rfl
  have p291 : L 291 = L 291 := rfl
  have p292 : L 292 = L 292 := rfl
  have p295 : L 295 = L 295 := rfl
  have p296 : L 296 = L 296 := rfl
  have q259 : M 259 = M 259 := rfl
  have q273 : M 273 = M 273 := rfl
  have q274 : M 274 = M 274 := rfl
  have q275 : M 275 = M 275 := rfl
  have q277 : M 277 = M 277 := rfl
  have q278 : M 278 = M 278 := rfl
  have q279 : M 279 = M 279 := rfl
  have q282 : M 282 = M 282 := rfl
  have q288 : M 288 = M 288 := rfl
  have q289 : M 289 = M 289 := rfl
  have q290 : M 290 = M 290 := rfl
  have q293 : M 293 = M 293 := rfl
  have q294 : M 294 = M 294 := rfl
  have hV : vR M = vR M := rfl
  have hI0 := hI
  refine g_aload_n C 0 dX11_count_0 rfl ?_
  refine g_bipush C (-9) dX11_count_1 (by decide) ?_
  refine g_putI C 26 in_X11_count_11 (List.mem_of_getElem? (i := 1) rfl) (by decide) (ce_model ad cs _ _) rfl (by decide) rfl tyX11 tyX11_ok nmX11 rfl rfl rfl rfl (Nat.le_of_ble_eq_true rfl) (by rw [sI_k]; rfl) dX11_count_3 ?_
  refine g_nm (fun M1 hM1 => ?_)
  have zy2 : ((-9) : Int32).toInt = (-9) := by decide
  have hI : IR M1 := by rw [hM1]; exact hI.st (show bR 258 26 _ from trivial)
  have hF : ∀ k i, ¬ (k = 258 ∧ i = 0) ∧ k ≠ 259 ∧ ¬ (k = 258 ∧ i = 26) ∧ k ≠ 273 ∧ k ≠ 274 ∧ k ≠ 275 ∧ ¬ (k = 258 ∧ i = 27) ∧ ¬ (k = 258 ∧ i = 28) ∧ ¬ (k = 258 ∧ i = 42) ∧ ¬ (k = 258 ∧ i = 44) ∧ k ≠ 288 ∧ k ≠ 289 ∧ k ≠ 290 ∧ ¬ (k = 258 ∧ i = 25) ∧ ¬ (k = 258 ∧ i = 29) ∧ ¬ (k = 258 ∧ i = 31) ∧ k ≠ 277 ∧ k ≠ 278 ∧ k ≠ 279 ∧ k ≠ 282 ∧ k ≠ 293 ∧ k ≠ 294 → M1 k i = M k i := fun k i hk => by (rw [hM1, sI_at, if_neg (by omega)]; try exact hF k i hk)
  have k0 : M1 258 0 = vR M 0 4 := by rw [hM1, sI_at, if_neg (by decide)]; try exact k0
  have k25 : M1 258 25 = M 258 25 := by rw [hM1, sI_at, if_neg (by decide)]; try exact k25
  have k27 : M1 258 27 = M 258 27 := by rw [hM1, sI_at, if_neg (by decide)]; try exact k27
  have k28 : M1 258 28 = M 258 28 := by rw [hM1, sI_at, if_neg (by decide)]; try exact k28
  have k29 : M1 258 29 = M 258 29 := by rw [hM1, sI_at, if_neg (by decide)]; try exact k29
  have k31 : M1 258 31 = M 258 31 := by rw [hM1, sI_at, if_neg (by decide)]; try exact k31
  have k42 : M1 258 42 = M 258 42 := by rw [hM1, sI_at, if_neg (by decide)]; try exact k42
  have k44 : M1 258 44 = M 258 44 := by rw [hM1, sI_at, if_neg (by decide)]; try exact k44
  have k26 : M1 258 26 = (-9) := by rw [hM1, sI_at, if_pos (by decide)]
  have q259 : M1 259 = M 259 := by rw [hM1, sI_n _ _ _ (by decide)]; try exact q259
  have q273 : M1 273 = M 273 := by rw [hM1, sI_n _ _ _ (by decide)]; try exact q273
  have q274 : M1 274 = M 274 := by rw [hM1, sI_n _ _ _ (by decide)]; try exact q274
  have q275 : M1 275 = M 275 := by rw [hM1, sI_n _ _ _ (by decide)]; try exact q275
  have q277 : M1 277 = M 277 := by rw [hM1, sI_n _ _ _ (by decide)]; try exact q277
  have q278 : M1 278 = M 278 := by rw [hM1, sI_n _ _ _ (by decide)]; try exact q278
  have q279 : M1 279 = M 279 := by rw [hM1, sI_n _ _ _ (by decide)]; try exact q279
  have q282 : M1 282 = M 282 := by rw [hM1, sI_n _ _ _ (by decide)]; try exact q282
  have q288 : M1 288 = M 288 := by rw [hM1, sI_n _ _ _ (by decide)]; try exact q288
  have q289 : M1 289 = M 289 := by rw [hM1, sI_n _ _ _ (by decide)]; try exact q289
  have q290 : M1 290 = M 290 := by rw [hM1, sI_n _ _ _ (by decide)]; try exact q290
  have q293 : M1 293 = M 293 := by rw [hM1, sI_n _ _ _ (by decide)]; try exact q293
  have q294 : M1 294 = M 294 := by rw [hM1, sI_n _ _ _ (by decide)]; try exact q294
  have hV : vR M1 = sI (vR M) 0 5 ((-9)) := by rw [hM1, vR_s (c := 5) (by decide), hV]
  have x0 : (vR M1 0 0).toInt = (vR M 0 0).toInt := by rw [hV, sI_at, if_neg (by decide)]
  have x2 : (vR M1 0 2).toInt = (vR M 0 2).toInt := by rw [hV, sI_at, if_neg (by decide)]
  have x3 : (vR M1 0 3).toInt = (vR M 0 3).toInt := by rw [hV, sI_at, if_neg (by decide)]
  have hN1 : NOv (vR M1) := by rw [hV]; exact NOv_w hN _
  have hT1 : tr01 (vR M1 13) (M1 274) := by rw [hV, sI_n _ _ _ (by decide), q274]; exact hT
  have eS : startV (vR M1) x = sI (startV (vR M) x) 0 5 (-9) := by rw [hV, startV_w]
  refine g_aload_n C 0 dX11_count_6 rfl ?_
  refine g_iload_n C 1 dX11_count_7 rfl ?_
  refine g_callVi C (n := 1) (As := [.int x]) (st := []) (s_X11_isMethod l D ad cs _ _ x hI ) gX11_count_X11_isMethod rfl rfl rfl (by decide +kernel) ⟨Nat.le_of_ble_eq_true rfl, Nat.le_of_ble_eq_true rfl⟩ rfl (Nat.le_of_ble_eq_true rfl) ⟨Nat.zero_le _, Nat.zero_le _⟩ (by decide) (ce_model ad cs _ _) rfl rfl dX11_count_8 (fun r3 M4 L5 hr3 => ?_)
  obtain ⟨hq1, hq2, hr3⟩ := hr3
  obtain rfl := hq1.symm
  obtain rfl := hq2.symm
  obtain ⟨bar3, bbr3⟩ := zo_b hr3
  refine g_if_eq C 39 dX11_count_11 (by decide) (fun c6 => ?_) (fun c6 => ?_)
  ·
    have f7 := feq rfl (by decide : (0 : Int32).toInt = 0) c6
    have pr3 := zo_f hr3 c6
    try dsimp only [hasC, hasB, hasX, hasM, ofS, ofK, bt] at pr3
    refine g_iconst C (-1) dX11_count_39 (by decide) ?_
    have hA : A_count (vR M) x y z = (-1, sI (vR M) 0 5 (-9)) := by dsimp only [A_count, hasM, hasX, seatsOk, bt]; (repeat (first | rw [if_pos (by omega)] | rw [if_neg (by omega)]))
    have zr9 : ((-1) : Int32).toInt = (-1) := by decide
    exact g_iret C hr ⟨⟨by rw [hA, hV], fun _ => by rw [hA], hT1⟩, hI, hF, hG⟩ dX11_count_40
  ·
    have f8 := fne rfl (by decide : (0 : Int32).toInt = 0) c6
    have pr3 := zo_t hr3 c6
    try dsimp only [hasC, hasB, hasX, hasM, ofS, ofK, bt] at pr3
    refine g_aload_n C 0 dX11_count_14 rfl ?_
    refine g_iload_n C 2 dX11_count_15 rfl ?_
    refine g_callVi C (n := 1) (As := [.int y]) (st := []) (s_X11_isBox l D ad cs _ _ y hI ) gX11_count_X11_isBox rfl rfl rfl (by decide +kernel) ⟨Nat.le_of_ble_eq_true rfl, Nat.le_of_ble_eq_true rfl⟩ rfl (Nat.le_of_ble_eq_true rfl) ⟨Nat.zero_le _, Nat.zero_le _⟩ (by decide) (ce_model ad cs _ _) rfl rfl dX11_count_16 (fun r9 M10 L11 hr9 => ?_)
    obtain ⟨hq1, hq2, hr9⟩ := hr9
    obtain rfl := hq1.symm
    obtain rfl := hq2.symm
    obtain ⟨bar9, bbr9⟩ := zo_b hr9
    refine g_if_eq C 39 dX11_count_19 (by decide) (fun c12 => ?_) (fun c12 => ?_)
    ·
      have f13 := feq rfl (by decide : (0 : Int32).toInt = 0) c12
      have pr9 := zo_f hr9 c12
      try dsimp only [hasC, hasB, hasX, hasM, ofS, ofK, bt] at pr9
      refine g_iconst C (-1) dX11_count_39 (by decide) ?_
      have hA : A_count (vR M) x y z = (-1, sI (vR M) 0 5 (-9)) := by dsimp only [A_count, hasM, hasX, seatsOk, bt]; (repeat (first | rw [if_pos (by omega)] | rw [if_neg (by omega)]))
      have zr9 : ((-1) : Int32).toInt = (-1) := by decide
      exact g_iret C hr ⟨⟨by rw [hA, hV], fun _ => by rw [hA], hT1⟩, hI, hF, hG⟩ dX11_count_40
    ·
      have f14 := fne rfl (by decide : (0 : Int32).toInt = 0) c12
      have pr9 := zo_t hr9 c12
      try dsimp only [hasC, hasB, hasX, hasM, ofS, ofK, bt] at pr9
      refine g_iload_n C 3 dX11_count_22 rfl ?_
      refine g_iconst C 1 dX11_count_23 (by decide) ?_
      refine g_bipush C 30 dX11_count_24 (by decide) ?_
      refine g_callSi C (n := 3) (As := [.int z, .int 1, .int 30]) (st := []) (c_X11_in l D ad cs _ _ z 1 30 ) gX11_count_X11_in rfl rfl rfl (by decide +kernel) ⟨Nat.le_of_ble_eq_true rfl, Nat.le_of_ble_eq_true rfl⟩ rfl (Nat.le_of_ble_eq_true rfl) ⟨Nat.zero_le _, Nat.zero_le _⟩ rfl dX11_count_26 (fun r15 M16 L17 hr15 => ?_)
      obtain ⟨hq1, hq2, hr15⟩ := hr15
      obtain rfl := hq1.symm
      obtain rfl := hq2.symm
      have hr15 := zo_in hr15 (by decide : (1 : Int32).toInt = 1) (by decide : (30 : Int32).toInt = 30)
      obtain ⟨bar15, bbr15⟩ := zo_b hr15
      refine g_if_eq C 39 dX11_count_29 (by decide) (fun c18 => ?_) (fun c18 => ?_)
      ·
        have f19 := feq rfl (by decide : (0 : Int32).toInt = 0) c18
        have pr15 := zo_f hr15 c18
        try dsimp only [hasC, hasB, hasX, hasM, ofS, ofK, bt] at pr15
        refine g_iconst C (-1) dX11_count_39 (by decide) ?_
        have hA : A_count (vR M) x y z = (-1, sI (vR M) 0 5 (-9)) := by dsimp only [A_count, hasM, hasX, seatsOk, bt]; (repeat (first | rw [if_pos (by omega)] | rw [if_neg (by omega)]))
        have zr9 : ((-1) : Int32).toInt = (-1) := by decide
        exact g_iret C hr ⟨⟨by rw [hA, hV], fun _ => by rw [hA], hT1⟩, hI, hF, hG⟩ dX11_count_40
      ·
        have f20 := fne rfl (by decide : (0 : Int32).toInt = 0) c18
        have pr15 := zo_t hr15 c18
        try dsimp only [hasC, hasB, hasX, hasM, ofS, ofK, bt] at pr15
        refine g_aload_n C 0 dX11_count_32 rfl ?_
        refine g_get C (.int (M1 258 2)) 2 in_X11_count_11 (List.mem_of_getElem? (i := 2) rfl) (by decide) (ce_model ad cs _ _) rfl (by decide) rfl rfl dX11_count_33 ?_
        refine g_ni (fun v21 ev21 => ?_)
        have gv21 : v21 = vR M 0 0 := ev21.trans (hF 258 2 (by omega))
        have tv21 := congrArg Int32.toInt gv21
        obtain ⟨bv21, dv21⟩ := (show rg 0 10 v21 from (by rw [ev21]; exact hI 258 2))
        refine g_if_ne C 41 dX11_count_36 (by decide) (fun c22 => ?_) (fun c22 => ?_)
        ·
          have f23 := fne rfl (by decide : (0 : Int32).toInt = 0) c22
          refine g_aload_n C 0 dX11_count_41 rfl ?_
          refine g_get C (.ref (ad 269)) 15 in_X11_count_11 (List.mem_of_getElem? (i := 3) rfl) (by decide) (ce_model ad cs _ _) rfl (by decide) rfl rfl dX11_count_42 ?_
          refine g_iload_n C 1 dX11_count_45 rfl ?_
          refine g_iald C (by decide) (ce_m_kindOf ad cs _ _) (fin' (n := 20) rfl (by omega) (by omega)) dX11_count_46 ?_
          refine g_ni (fun v24 ev24 => ?_)
          have gv24 : v24 = vR M 9 x.toNatClampNeg := ev24.trans (hF 269 x.toNatClampNeg (by omega))
          have tv24 := congrArg Int32.toInt gv24
          refine g_istore C [(4, .int v24), (0, .ref (ad 258)), (1, .int x), (2, .int y), (3, .int z)] dX11_count_47 (by decide) rfl ?_
          refine g_iload_n C 4 dX11_count_49 rfl ?_
          refine g_aload_n C 1 dX11_count_50 rfl ?_
          refine g_get C (.int (M1 258 2)) 2 in_X11_count_11 (List.mem_of_getElem? (i := 2) rfl) (by decide) (ce_model ad cs _ _) rfl (by decide) rfl rfl dX11_count_51 ?_
          refine g_ni (fun v25 ev25 => ?_)
          have gv25 : v25 = vR M 0 0 := ev25.trans (hF 258 2 (by omega))
          have tv25 := congrArg Int32.toInt gv25
          obtain ⟨bv25, dv25⟩ := (show rg 0 10 v25 from (by rw [ev25]; exact hI 258 2))
          refine g_icmp_le C 73 dX11_count_54 (by decide) (fun c26 => ?_) (fun c26 => ?_)
          ·
            have f27 := fle rfl rfl c26
            refine g_lv [1, 2, 3, 4, 0] [(0, .ref (ad 258)), (1, .int x), (2, .int y), (3, .int z), (4, .int v24)] rfl ?_
            exact s_X11_count_73 l D ad cs M L x y z hI0 hN hT hB hD v24 C hr _ _ hI hF hG (hV) (q274) (gv24) (⟨by omega, by omega, by omega, by omega, ⟨by omega, by omega⟩, by omega, by omega⟩)
          ·
            have f28 := fnle rfl rfl c26
            refine g_iload C 0 dX11_count_57 rfl ?_
            refine g_bipush C 6 dX11_count_59 (by decide) ?_
            refine g_icmp_eq C 73 dX11_count_61 (by decide) (fun c29 => ?_) (fun c29 => ?_)
            ·
              have f30 := feq rfl (by decide : (6 : Int32).toInt = 6) c29
              refine g_lv [1, 2, 3, 4, 0] [(0, .ref (ad 258)), (1, .int x), (2, .int y), (3, .int z), (4, .int v24)] rfl ?_
              exact s_X11_count_73 l D ad cs M L x y z hI0 hN hT hB hD v24 C hr _ _ hI hF hG (hV) (q274) (gv24) (⟨by omega, by omega, by omega, by omega, ⟨by omega, by omega⟩, by omega, by omega⟩)
            ·
              have f31 := fne rfl (by decide : (6 : Int32).toInt = 6) c29
              refine g_iload C 0 dX11_count_64 rfl ?_
              refine g_bipush C 7 dX11_count_66 (by decide) ?_
              refine g_icmp_eq C 73 dX11_count_68 (by decide) (fun c32 => ?_) (fun c32 => ?_)
              ·
                have f33 := feq rfl (by decide : (7 : Int32).toInt = 7) c32
                refine g_lv [1, 2, 3, 4, 0] [(0, .ref (ad 258)), (1, .int x), (2, .int y), (3, .int z), (4, .int v24)] rfl ?_
                exact s_X11_count_73 l D ad cs M L x y z hI0 hN hT hB hD v24 C hr _ _ hI hF hG (hV) (q274) (gv24) (⟨by omega, by omega, by omega, by omega, ⟨by omega, by omega⟩, by omega, by omega⟩)
              ·
                have f34 := fne rfl (by decide : (7 : Int32).toInt = 7) c32
                refine g_iconst C (-1) dX11_count_71 (by decide) ?_
                have hA : A_count (vR M) x y z = (-1, sI (vR M) 0 5 (-9)) := by dsimp only [A_count, hasM, hasX, seatsOk, bt]; (repeat (first | rw [if_pos (by omega)] | rw [if_neg (by omega)]))
                have zr9 : ((-1) : Int32).toInt = (-1) := by decide
                exact g_iret C hr ⟨⟨by rw [hA, hV], fun _ => by rw [hA], hT1⟩, hI, hF, hG⟩ dX11_count_72
        ·
          have f35 := feq rfl (by decide : (0 : Int32).toInt = 0) c22
          refine g_iconst C (-1) dX11_count_39 (by decide) ?_
          have hA : A_count (vR M) x y z = (-1, sI (vR M) 0 5 (-9)) := by dsimp only [A_count, hasM, hasX, seatsOk, bt]; (repeat (first | rw [if_pos (by omega)] | rw [if_neg (by omega)]))
          have zr9 : ((-1) : Int32).toInt = (-1) := by decide
          exact g_iret C hr ⟨⟨by rw [hA, hV], fun _ => by rw [hA], hT1⟩, hI, hF, hG⟩ dX11_count_40
