theorem dX11_init_0 : decode cX11_init 0 = .ok (.aload_n 0, 1) := dw42 (n := 0) (i := 0) kc_cX11_init_0 (by decide +kernel)
theorem dX11_init_1 : decode cX11_init 1 = .ok (.invokespecial 1, 3) := dw183 (n := 0) (i := 1) (a := 0) (b := 1) kc_cX11_init_0 (by decide +kernel) (by decide)
theorem dX11_init_4 : decode cX11_init 4 = .ok (.aload_n 0, 1) := dw42 (n := 0) (i := 4) kc_cX11_init_0 (by decide +kernel)
theorem dX11_init_5 : decode cX11_init 5 = .ok (.bipush 7, 2) := dw16 (n := 0) (i := 5) (a := 7) kc_cX11_init_0 (by decide +kernel) (by decide)
theorem dX11_init_7 : decode cX11_init 7 = .ok (.newarray .int, 2) := by decide +kernel
theorem dX11_init_9 : decode cX11_init 9 = .ok (.putfield 7, 3) := dw181 (n := 0) (i := 9) (a := 0) (b := 7) kc_cX11_init_0 (by decide +kernel) (by decide)
theorem in_X11_init_11 : ∀ w ∈ u_ws RX11 TX11 53, w ∈ wsX11_init := fun _ h => List.mem_cons_of_mem _ (List.mem_append_right _ h)
theorem dX11_init_12 : decode cX11_init 12 = .ok (.aload_n 0, 1) := dw42 (n := 0) (i := 12) kc_cX11_init_0 (by decide +kernel)
theorem dX11_init_13 : decode cX11_init 13 = .ok (.bipush 10, 2) := dw16 (n := 0) (i := 13) (a := 10) kc_cX11_init_0 (by decide +kernel) (by decide)
theorem dX11_init_15 : decode cX11_init 15 = .ok (.newarray .int, 2) := by decide +kernel
theorem dX11_init_17 : decode cX11_init 17 = .ok (.putfield 13, 3) := dw181 (n := 0) (i := 17) (a := 0) (b := 13) kc_cX11_init_0 (by decide +kernel) (by decide)
theorem dX11_init_20 : decode cX11_init 20 = .ok (.aload_n 0, 1) := dw42 (n := 0) (i := 20) kc_cX11_init_0 (by decide +kernel)
theorem dX11_init_21 : decode cX11_init 21 = .ok (.bipush 60, 2) := dw16 (n := 0) (i := 21) (a := 60) kc_cX11_init_0 (by decide +kernel) (by decide)
theorem dX11_init_23 : decode cX11_init 23 = .ok (.newarray .int, 2) := by decide +kernel
theorem dX11_init_25 : decode cX11_init 25 = .ok (.putfield 16, 3) := dw181 (n := 0) (i := 25) (a := 0) (b := 16) kc_cX11_init_0 (by decide +kernel) (by decide)
theorem dX11_init_28 : decode cX11_init 28 = .ok (.aload_n 0, 1) := dw42 (n := 0) (i := 28) kc_cX11_init_0 (by decide +kernel)
theorem dX11_init_29 : decode cX11_init 29 = .ok (.bipush 60, 2) := dw16 (n := 0) (i := 29) (a := 60) kc_cX11_init_0 (by decide +kernel) (by decide)
theorem dX11_init_31 : decode cX11_init 31 = .ok (.newarray .int, 2) := by decide +kernel
theorem dX11_init_33 : decode cX11_init 33 = .ok (.putfield 19, 3) := dw181 (n := 32) (i := 1) (a := 0) (b := 19) kc_cX11_init_1 (by decide +kernel) (by decide)
theorem dX11_init_36 : decode cX11_init 36 = .ok (.aload_n 0, 1) := dw42 (n := 32) (i := 4) kc_cX11_init_1 (by decide +kernel)
theorem dX11_init_37 : decode cX11_init 37 = .ok (.bipush 60, 2) := dw16 (n := 32) (i := 5) (a := 60) kc_cX11_init_1 (by decide +kernel) (by decide)
theorem dX11_init_39 : decode cX11_init 39 = .ok (.newarray .int, 2) := by decide +kernel
theorem dX11_init_41 : decode cX11_init 41 = .ok (.putfield 22, 3) := dw181 (n := 32) (i := 9) (a := 0) (b := 22) kc_cX11_init_1 (by decide +kernel) (by decide)
theorem dX11_init_44 : decode cX11_init 44 = .ok (.aload_n 0, 1) := dw42 (n := 32) (i := 12) kc_cX11_init_1 (by decide +kernel)
theorem dX11_init_45 : decode cX11_init 45 = .ok (.sipush 600, 3) := dw17 (n := 32) (i := 13) (a := 2) (b := 88) kc_cX11_init_1 (by decide +kernel) (by decide)
theorem dX11_init_48 : decode cX11_init 48 = .ok (.newarray .int, 2) := by decide +kernel
theorem dX11_init_50 : decode cX11_init 50 = .ok (.putfield 25, 3) := dw181 (n := 32) (i := 18) (a := 0) (b := 25) kc_cX11_init_1 (by decide +kernel) (by decide)
theorem dX11_init_53 : decode cX11_init 53 = .ok (.aload_n 0, 1) := dw42 (n := 32) (i := 21) kc_cX11_init_1 (by decide +kernel)
theorem dX11_init_54 : decode cX11_init 54 = .ok (.bipush 8, 2) := dw16 (n := 32) (i := 22) (a := 8) kc_cX11_init_1 (by decide +kernel) (by decide)
theorem dX11_init_56 : decode cX11_init 56 = .ok (.newarray .int, 2) := by decide +kernel
theorem dX11_init_58 : decode cX11_init 58 = .ok (.putfield 28, 3) := dw181 (n := 32) (i := 26) (a := 0) (b := 28) kc_cX11_init_1 (by decide +kernel) (by decide)
theorem dX11_init_61 : decode cX11_init 61 = .ok (.aload_n 0, 1) := dw42 (n := 32) (i := 29) kc_cX11_init_1 (by decide +kernel)
theorem dX11_init_62 : decode cX11_init 62 = .ok (.bipush 8, 2) := dw16 (n := 32) (i := 30) (a := 8) kc_cX11_init_1 (by decide +kernel) (by decide)
theorem dX11_init_64 : decode cX11_init 64 = .ok (.newarray .int, 2) := by decide +kernel
theorem dX11_init_66 : decode cX11_init 66 = .ok (.putfield 31, 3) := dw181 (n := 64) (i := 2) (a := 0) (b := 31) kc_cX11_init_2 (by decide +kernel) (by decide)
theorem dX11_init_69 : decode cX11_init 69 = .ok (.aload_n 0, 1) := dw42 (n := 64) (i := 5) kc_cX11_init_2 (by decide +kernel)
theorem dX11_init_70 : decode cX11_init 70 = .ok (.sipush 320, 3) := dw17 (n := 64) (i := 6) (a := 1) (b := 64) kc_cX11_init_2 (by decide +kernel) (by decide)
theorem dX11_init_73 : decode cX11_init 73 = .ok (.newarray .int, 2) := by decide +kernel
theorem dX11_init_75 : decode cX11_init 75 = .ok (.putfield 34, 3) := dw181 (n := 64) (i := 11) (a := 0) (b := 34) kc_cX11_init_2 (by decide +kernel) (by decide)
theorem dX11_init_78 : decode cX11_init 78 = .ok (.aload_n 0, 1) := dw42 (n := 64) (i := 14) kc_cX11_init_2 (by decide +kernel)
theorem dX11_init_79 : decode cX11_init 79 = .ok (.bipush 40, 2) := dw16 (n := 64) (i := 15) (a := 40) kc_cX11_init_2 (by decide +kernel) (by decide)
theorem dX11_init_81 : decode cX11_init 81 = .ok (.newarray .int, 2) := by decide +kernel
theorem dX11_init_83 : decode cX11_init 83 = .ok (.putfield 37, 3) := dw181 (n := 64) (i := 19) (a := 0) (b := 37) kc_cX11_init_2 (by decide +kernel) (by decide)
theorem dX11_init_86 : decode cX11_init 86 = .ok (.aload_n 0, 1) := dw42 (n := 64) (i := 22) kc_cX11_init_2 (by decide +kernel)
theorem dX11_init_87 : decode cX11_init 87 = .ok (.bipush 20, 2) := dw16 (n := 64) (i := 23) (a := 20) kc_cX11_init_2 (by decide +kernel) (by decide)
theorem dX11_init_89 : decode cX11_init 89 = .ok (.newarray .int, 2) := by decide +kernel
theorem dX11_init_91 : decode cX11_init 91 = .ok (.putfield 40, 3) := dw181 (n := 64) (i := 27) (a := 0) (b := 40) kc_cX11_init_2 (by decide +kernel) (by decide)
theorem dX11_init_94 : decode cX11_init 94 = .ok (.aload_n 0, 1) := dw42 (n := 64) (i := 30) kc_cX11_init_2 (by decide +kernel)
theorem dX11_init_95 : decode cX11_init 95 = .ok (.bipush 20, 2) := dw16 (n := 64) (i := 31) (a := 20) kc_cX11_init_2 (by decide +kernel) (by decide)
theorem dX11_init_97 : decode cX11_init 97 = .ok (.newarray .int, 2) := by decide +kernel
theorem dX11_init_99 : decode cX11_init 99 = .ok (.putfield 43, 3) := dw181 (n := 96) (i := 3) (a := 0) (b := 43) kc_cX11_init_3 (by decide +kernel) (by decide)
theorem dX11_init_102 : decode cX11_init 102 = .ok (.aload_n 0, 1) := dw42 (n := 96) (i := 6) kc_cX11_init_3 (by decide +kernel)
theorem dX11_init_103 : decode cX11_init 103 = .ok (.bipush 20, 2) := dw16 (n := 96) (i := 7) (a := 20) kc_cX11_init_3 (by decide +kernel) (by decide)
theorem dX11_init_105 : decode cX11_init 105 = .ok (.newarray .int, 2) := by decide +kernel
theorem dX11_init_107 : decode cX11_init 107 = .ok (.putfield 46, 3) := dw181 (n := 96) (i := 11) (a := 0) (b := 46) kc_cX11_init_3 (by decide +kernel) (by decide)
theorem dX11_init_110 : decode cX11_init 110 = .ok (.aload_n 0, 1) := dw42 (n := 96) (i := 14) kc_cX11_init_3 (by decide +kernel)
theorem dX11_init_111 : decode cX11_init 111 = .ok (.bipush 20, 2) := dw16 (n := 96) (i := 15) (a := 20) kc_cX11_init_3 (by decide +kernel) (by decide)
theorem dX11_init_113 : decode cX11_init 113 = .ok (.newarray .int, 2) := by decide +kernel
theorem dX11_init_115 : decode cX11_init 115 = .ok (.putfield 49, 3) := dw181 (n := 96) (i := 19) (a := 0) (b := 49) kc_cX11_init_3 (by decide +kernel) (by decide)
theorem dX11_init_118 : decode cX11_init 118 = .ok (.aload_n 0, 1) := dw42 (n := 96) (i := 22) kc_cX11_init_3 (by decide +kernel)
theorem dX11_init_119 : decode cX11_init 119 = .ok (.bipush 20, 2) := dw16 (n := 96) (i := 23) (a := 20) kc_cX11_init_3 (by decide +kernel) (by decide)
theorem dX11_init_121 : decode cX11_init 121 = .ok (.newarray .int, 2) := by decide +kernel
theorem dX11_init_123 : decode cX11_init 123 = .ok (.putfield 52, 3) := dw181 (n := 96) (i := 27) (a := 0) (b := 52) kc_cX11_init_3 (by decide +kernel) (by decide)
theorem dX11_init_126 : decode cX11_init 126 = .ok (.aload_n 0, 1) := dw42 (n := 96) (i := 30) kc_cX11_init_3 (by decide +kernel)
theorem dX11_init_127 : decode cX11_init 127 = .ok (.bipush 20, 2) := dw16 (n := 96) (i := 31) (a := 20) kc_cX11_init_3 (by decide +kernel) (by decide)
theorem dX11_init_129 : decode cX11_init 129 = .ok (.newarray .int, 2) := by decide +kernel
theorem dX11_init_131 : decode cX11_init 131 = .ok (.putfield 55, 3) := dw181 (n := 128) (i := 3) (a := 0) (b := 55) kc_cX11_init_4 (by decide +kernel) (by decide)
theorem dX11_init_134 : decode cX11_init 134 = .ok (.aload_n 0, 1) := dw42 (n := 128) (i := 6) kc_cX11_init_4 (by decide +kernel)
theorem dX11_init_135 : decode cX11_init 135 = .ok (.bipush 20, 2) := dw16 (n := 128) (i := 7) (a := 20) kc_cX11_init_4 (by decide +kernel) (by decide)
theorem dX11_init_137 : decode cX11_init 137 = .ok (.newarray .int, 2) := by decide +kernel
theorem dX11_init_139 : decode cX11_init 139 = .ok (.putfield 58, 3) := dw181 (n := 128) (i := 11) (a := 0) (b := 58) kc_cX11_init_4 (by decide +kernel) (by decide)
theorem dX11_init_142 : decode cX11_init 142 = .ok (.aload_n 0, 1) := dw42 (n := 128) (i := 14) kc_cX11_init_4 (by decide +kernel)
theorem dX11_init_143 : decode cX11_init 143 = .ok (.bipush 20, 2) := dw16 (n := 128) (i := 15) (a := 20) kc_cX11_init_4 (by decide +kernel) (by decide)
theorem dX11_init_145 : decode cX11_init 145 = .ok (.newarray .boolean, 2) := by decide +kernel
theorem dX11_init_147 : decode cX11_init 147 = .ok (.putfield 61, 3) := dw181 (n := 128) (i := 19) (a := 0) (b := 61) kc_cX11_init_4 (by decide +kernel) (by decide)
theorem dX11_init_150 : decode cX11_init 150 = .ok (.aload_n 0, 1) := dw42 (n := 128) (i := 22) kc_cX11_init_4 (by decide +kernel)
theorem dX11_init_151 : decode cX11_init 151 = .ok (.bipush 30, 2) := dw16 (n := 128) (i := 23) (a := 30) kc_cX11_init_4 (by decide +kernel) (by decide)
theorem dX11_init_153 : decode cX11_init 153 = .ok (.newarray .int, 2) := by decide +kernel
theorem dX11_init_155 : decode cX11_init 155 = .ok (.putfield 65, 3) := dw181 (n := 128) (i := 27) (a := 0) (b := 65) kc_cX11_init_4 (by decide +kernel) (by decide)
theorem dX11_init_158 : decode cX11_init 158 = .ok (.aload_n 0, 1) := dw42 (n := 128) (i := 30) kc_cX11_init_4 (by decide +kernel)
theorem dX11_init_159 : decode cX11_init 159 = .ok (.bipush 40, 2) := dw16 (n := 128) (i := 31) (a := 40) kc_cX11_init_4 (by decide +kernel) (by decide)
theorem dX11_init_161 : decode cX11_init 161 = .ok (.newarray .int, 2) := by decide +kernel
theorem dX11_init_163 : decode cX11_init 163 = .ok (.putfield 68, 3) := dw181 (n := 160) (i := 3) (a := 0) (b := 68) kc_cX11_init_5 (by decide +kernel) (by decide)
theorem dX11_init_166 : decode cX11_init 166 = .ok (.aload_n 0, 1) := dw42 (n := 160) (i := 6) kc_cX11_init_5 (by decide +kernel)
theorem dX11_init_167 : decode cX11_init 167 = .ok (.bipush 40, 2) := dw16 (n := 160) (i := 7) (a := 40) kc_cX11_init_5 (by decide +kernel) (by decide)
theorem dX11_init_169 : decode cX11_init 169 = .ok (.newarray .int, 2) := by decide +kernel
theorem dX11_init_171 : decode cX11_init 171 = .ok (.putfield 71, 3) := dw181 (n := 160) (i := 11) (a := 0) (b := 71) kc_cX11_init_5 (by decide +kernel) (by decide)
theorem dX11_init_174 : decode cX11_init 174 = .ok (.aload_n 0, 1) := dw42 (n := 160) (i := 14) kc_cX11_init_5 (by decide +kernel)
theorem dX11_init_175 : decode cX11_init 175 = .ok (.sipush 400, 3) := dw17 (n := 160) (i := 15) (a := 1) (b := 144) kc_cX11_init_5 (by decide +kernel) (by decide)
theorem dX11_init_178 : decode cX11_init 178 = .ok (.newarray .long, 2) := by decide +kernel
theorem dX11_init_180 : decode cX11_init 180 = .ok (.putfield 74, 3) := dw181 (n := 160) (i := 20) (a := 0) (b := 74) kc_cX11_init_5 (by decide +kernel) (by decide)
theorem dX11_init_183 : decode cX11_init 183 = .ok (.aload_n 0, 1) := dw42 (n := 160) (i := 23) kc_cX11_init_5 (by decide +kernel)
theorem dX11_init_184 : decode cX11_init 184 = .ok (.sipush 400, 3) := dw17 (n := 160) (i := 24) (a := 1) (b := 144) kc_cX11_init_5 (by decide +kernel) (by decide)
theorem dX11_init_187 : decode cX11_init 187 = .ok (.newarray .long, 2) := by decide +kernel
theorem dX11_init_189 : decode cX11_init 189 = .ok (.putfield 78, 3) := dw181 (n := 160) (i := 29) (a := 0) (b := 78) kc_cX11_init_5 (by decide +kernel) (by decide)
theorem dX11_init_192 : decode cX11_init 192 = .ok (.aload_n 0, 1) := dw42 (n := 192) (i := 0) kc_cX11_init_6 (by decide +kernel)
theorem dX11_init_193 : decode cX11_init 193 = .ok (.bipush 10, 2) := dw16 (n := 192) (i := 1) (a := 10) kc_cX11_init_6 (by decide +kernel) (by decide)
theorem dX11_init_195 : decode cX11_init 195 = .ok (.newarray .boolean, 2) := by decide +kernel
theorem dX11_init_197 : decode cX11_init 197 = .ok (.putfield 81, 3) := dw181 (n := 192) (i := 5) (a := 0) (b := 81) kc_cX11_init_6 (by decide +kernel) (by decide)
theorem dX11_init_200 : decode cX11_init 200 = .ok (.aload_n 0, 1) := dw42 (n := 192) (i := 8) kc_cX11_init_6 (by decide +kernel)
theorem dX11_init_201 : decode cX11_init 201 = .ok (.bipush 10, 2) := dw16 (n := 192) (i := 9) (a := 10) kc_cX11_init_6 (by decide +kernel) (by decide)
theorem dX11_init_203 : decode cX11_init 203 = .ok (.newarray .boolean, 2) := by decide +kernel
theorem dX11_init_205 : decode cX11_init 205 = .ok (.putfield 84, 3) := dw181 (n := 192) (i := 13) (a := 0) (b := 84) kc_cX11_init_6 (by decide +kernel) (by decide)
theorem dX11_init_208 : decode cX11_init 208 = .ok (.aload_n 0, 1) := dw42 (n := 192) (i := 16) kc_cX11_init_6 (by decide +kernel)
theorem dX11_init_209 : decode cX11_init 209 = .ok (.bipush 10, 2) := dw16 (n := 192) (i := 17) (a := 10) kc_cX11_init_6 (by decide +kernel) (by decide)
theorem dX11_init_211 : decode cX11_init 211 = .ok (.newarray .long, 2) := by decide +kernel
theorem dX11_init_213 : decode cX11_init 213 = .ok (.putfield 87, 3) := dw181 (n := 192) (i := 21) (a := 0) (b := 87) kc_cX11_init_6 (by decide +kernel) (by decide)
theorem dX11_init_216 : decode cX11_init 216 = .ok (.aload_n 0, 1) := dw42 (n := 192) (i := 24) kc_cX11_init_6 (by decide +kernel)
theorem dX11_init_217 : decode cX11_init 217 = .ok (.bipush 10, 2) := dw16 (n := 192) (i := 25) (a := 10) kc_cX11_init_6 (by decide +kernel) (by decide)
theorem dX11_init_219 : decode cX11_init 219 = .ok (.newarray .long, 2) := by decide +kernel
theorem dX11_init_221 : decode cX11_init 221 = .ok (.putfield 90, 3) := dw181 (n := 192) (i := 29) (a := 0) (b := 90) kc_cX11_init_6 (by decide +kernel) (by decide)
theorem dX11_init_224 : decode cX11_init 224 = .ok (.aload_n 0, 1) := dw42 (n := 224) (i := 0) kc_cX11_init_7 (by decide +kernel)
theorem dX11_init_225 : decode cX11_init 225 = .ok (.bipush 40, 2) := dw16 (n := 224) (i := 1) (a := 40) kc_cX11_init_7 (by decide +kernel) (by decide)
theorem dX11_init_227 : decode cX11_init 227 = .ok (.newarray .long, 2) := by decide +kernel
theorem dX11_init_229 : decode cX11_init 229 = .ok (.putfield 93, 3) := dw181 (n := 224) (i := 5) (a := 0) (b := 93) kc_cX11_init_7 (by decide +kernel) (by decide)
theorem dX11_init_232 : decode cX11_init 232 = .ok (.aload_n 0, 1) := dw42 (n := 224) (i := 8) kc_cX11_init_7 (by decide +kernel)
theorem dX11_init_233 : decode cX11_init 233 = .ok (.bipush 40, 2) := dw16 (n := 224) (i := 9) (a := 40) kc_cX11_init_7 (by decide +kernel) (by decide)
theorem dX11_init_235 : decode cX11_init 235 = .ok (.newarray .long, 2) := by decide +kernel
theorem dX11_init_237 : decode cX11_init 237 = .ok (.putfield 96, 3) := dw181 (n := 224) (i := 13) (a := 0) (b := 96) kc_cX11_init_7 (by decide +kernel) (by decide)
theorem dX11_init_240 : decode cX11_init 240 = .ok (.aload_n 0, 1) := dw42 (n := 224) (i := 16) kc_cX11_init_7 (by decide +kernel)
theorem dX11_init_241 : decode cX11_init 241 = .ok (.bipush 30, 2) := dw16 (n := 224) (i := 17) (a := 30) kc_cX11_init_7 (by decide +kernel) (by decide)
theorem dX11_init_243 : decode cX11_init 243 = .ok (.newarray .int, 2) := by decide +kernel
theorem dX11_init_245 : decode cX11_init 245 = .ok (.putfield 99, 3) := dw181 (n := 224) (i := 21) (a := 0) (b := 99) kc_cX11_init_7 (by decide +kernel) (by decide)
theorem dX11_init_248 : decode cX11_init 248 = .ok (.aload_n 0, 1) := dw42 (n := 224) (i := 24) kc_cX11_init_7 (by decide +kernel)
theorem dX11_init_249 : decode cX11_init 249 = .ok (.bipush 40, 2) := dw16 (n := 224) (i := 25) (a := 40) kc_cX11_init_7 (by decide +kernel) (by decide)
theorem dX11_init_251 : decode cX11_init 251 = .ok (.newarray .int, 2) := by decide +kernel
theorem dX11_init_253 : decode cX11_init 253 = .ok (.putfield 102, 3) := dw181 (n := 224) (i := 29) (a := 0) (b := 102) kc_cX11_init_7 (by decide +kernel) (by decide)
theorem dX11_init_256 : decode cX11_init 256 = .ok (.aload_n 0, 1) := dw42 (n := 256) (i := 0) kc_cX11_init_8 (by decide +kernel)
theorem dX11_init_257 : decode cX11_init 257 = .ok (.bipush 40, 2) := dw16 (n := 256) (i := 1) (a := 40) kc_cX11_init_8 (by decide +kernel) (by decide)
theorem dX11_init_259 : decode cX11_init 259 = .ok (.newarray .int, 2) := by decide +kernel
theorem dX11_init_261 : decode cX11_init 261 = .ok (.putfield 105, 3) := dw181 (n := 256) (i := 5) (a := 0) (b := 105) kc_cX11_init_8 (by decide +kernel) (by decide)
theorem dX11_init_264 : decode cX11_init 264 = .ok (.aload_n 0, 1) := dw42 (n := 256) (i := 8) kc_cX11_init_8 (by decide +kernel)
theorem dX11_init_265 : decode cX11_init 265 = .ok (.sipush 400, 3) := dw17 (n := 256) (i := 9) (a := 1) (b := 144) kc_cX11_init_8 (by decide +kernel) (by decide)
theorem dX11_init_268 : decode cX11_init 268 = .ok (.newarray .long, 2) := by decide +kernel
theorem dX11_init_270 : decode cX11_init 270 = .ok (.putfield 108, 3) := dw181 (n := 256) (i := 14) (a := 0) (b := 108) kc_cX11_init_8 (by decide +kernel) (by decide)
theorem dX11_init_273 : decode cX11_init 273 = .ok (.aload_n 0, 1) := dw42 (n := 256) (i := 17) kc_cX11_init_8 (by decide +kernel)
theorem dX11_init_274 : decode cX11_init 274 = .ok (.sipush 400, 3) := dw17 (n := 256) (i := 18) (a := 1) (b := 144) kc_cX11_init_8 (by decide +kernel) (by decide)
theorem dX11_init_277 : decode cX11_init 277 = .ok (.newarray .long, 2) := by decide +kernel
theorem dX11_init_279 : decode cX11_init 279 = .ok (.putfield 111, 3) := dw181 (n := 256) (i := 23) (a := 0) (b := 111) kc_cX11_init_8 (by decide +kernel) (by decide)
theorem dX11_init_282 : decode cX11_init 282 = .ok (.aload_n 0, 1) := dw42 (n := 256) (i := 26) kc_cX11_init_8 (by decide +kernel)
theorem dX11_init_283 : decode cX11_init 283 = .ok (.bipush 10, 2) := dw16 (n := 256) (i := 27) (a := 10) kc_cX11_init_8 (by decide +kernel) (by decide)
theorem dX11_init_285 : decode cX11_init 285 = .ok (.newarray .int, 2) := by decide +kernel
theorem dX11_init_287 : decode cX11_init 287 = .ok (.putfield 114, 3) := dw181 (n := 256) (i := 31) (a := 0) (b := 114) kc_cX11_init_8 (by decide +kernel) (by decide)
theorem dX11_init_290 : decode cX11_init 290 = .ok (.aload_n 0, 1) := dw42 (n := 288) (i := 2) kc_cX11_init_9 (by decide +kernel)
theorem dX11_init_291 : decode cX11_init 291 = .ok (.bipush 10, 2) := dw16 (n := 288) (i := 3) (a := 10) kc_cX11_init_9 (by decide +kernel) (by decide)
theorem dX11_init_293 : decode cX11_init 293 = .ok (.newarray .int, 2) := by decide +kernel
theorem dX11_init_295 : decode cX11_init 295 = .ok (.putfield 117, 3) := dw181 (n := 288) (i := 7) (a := 0) (b := 117) kc_cX11_init_9 (by decide +kernel) (by decide)
theorem dX11_init_298 : decode cX11_init 298 = .ok (.aload_n 0, 1) := dw42 (n := 288) (i := 10) kc_cX11_init_9 (by decide +kernel)
theorem dX11_init_299 : decode cX11_init 299 = .ok (.bipush 100, 2) := dw16 (n := 288) (i := 11) (a := 100) kc_cX11_init_9 (by decide +kernel) (by decide)
theorem dX11_init_301 : decode cX11_init 301 = .ok (.newarray .long, 2) := by decide +kernel
theorem dX11_init_303 : decode cX11_init 303 = .ok (.putfield 120, 3) := dw181 (n := 288) (i := 15) (a := 0) (b := 120) kc_cX11_init_9 (by decide +kernel) (by decide)
theorem dX11_init_306 : decode cX11_init 306 = .ok (.aload_n 0, 1) := dw42 (n := 288) (i := 18) kc_cX11_init_9 (by decide +kernel)
theorem dX11_init_307 : decode cX11_init 307 = .ok (.bipush 100, 2) := dw16 (n := 288) (i := 19) (a := 100) kc_cX11_init_9 (by decide +kernel) (by decide)
theorem dX11_init_309 : decode cX11_init 309 = .ok (.newarray .long, 2) := by decide +kernel
theorem dX11_init_311 : decode cX11_init 311 = .ok (.putfield 123, 3) := dw181 (n := 288) (i := 23) (a := 0) (b := 123) kc_cX11_init_9 (by decide +kernel) (by decide)
theorem dX11_init_314 : decode cX11_init 314 = .ok (.aload_n 0, 1) := dw42 (n := 288) (i := 26) kc_cX11_init_9 (by decide +kernel)
theorem dX11_init_315 : decode cX11_init 315 = .ok (.bipush (-9), 2) := dw16 (n := 288) (i := 27) (a := 247) kc_cX11_init_9 (by decide +kernel) (by decide)
theorem dX11_init_317 : decode cX11_init 317 = .ok (.putfield 126, 3) := dw181 (n := 288) (i := 29) (a := 0) (b := 126) kc_cX11_init_9 (by decide +kernel) (by decide)
theorem dX11_init_320 : decode cX11_init 320 = .ok (.return_, 1) := dw177 (n := 320) (i := 0) kc_cX11_init_10 (by decide +kernel)
def w_model (cs : Nat → ClassId) (a r r2 : Nat → Nat) (x y : Nat) : va_W := [(a 0, .inr (11, [.int 0, .ref (a 1), .int 0, .ref (a 2), .int 0, .ref (a 3), .ref (a 4), .ref (a 5), .ref (a 6), .int 0, .ref (a 7), .ref (a 8), .ref (a 9), .ref (a 10), .int 0, .ref (a 11), .ref (a 12), .ref (a 13), .ref (a 14), .ref (a 15), .ref (a 16), .ref (a 17), .ref (a 18), .long 0, .long 0, .int 0, .int (-9), .int 0, .int 0, .int 0, .ref (a 19), .int 0, .ref (a 20), .ref (a 21), .ref (a 22), .ref (a 23), .ref (a 24), .ref (a 25), .ref (a 26), .ref (a 27), .ref (a 28), .ref (a 29), .int 0, .ref (a 30), .int 0, .ref (a 31), .ref (a 32), .ref (a 33), .ref (a 34), .ref (a 35), .ref (a 36), .ref (a 37), .ref (a 38)])), (a 1, .inl (cs 0, 7, .inl (fun _ => 0))), (a 2, .inl (cs 0, 10, .inl (fun _ => 0))), (a 3, .inl (cs 0, 60, .inl (fun _ => 0))), (a 4, .inl (cs 0, 60, .inl (fun _ => 0))), (a 5, .inl (cs 0, 60, .inl (fun _ => 0))), (a 6, .inl (cs 0, 600, .inl (fun _ => 0))), (a 7, .inl (cs 0, 8, .inl (fun _ => 0))), (a 8, .inl (cs 0, 8, .inl (fun _ => 0))), (a 9, .inl (cs 0, 320, .inl (fun _ => 0))), (a 10, .inl (cs 0, 40, .inl (fun _ => 0))), (a 11, .inl (cs 0, 20, .inl (fun _ => 0))), (a 12, .inl (cs 0, 20, .inl (fun _ => 0))), (a 13, .inl (cs 0, 20, .inl (fun _ => 0))), (a 14, .inl (cs 0, 20, .inl (fun _ => 0))), (a 15, .inl (cs 0, 20, .inl (fun _ => 0))), (a 16, .inl (cs 0, 20, .inl (fun _ => 0))), (a 17, .inl (cs 0, 20, .inl (fun _ => 0))), (a 18, .inl (cs 2, 20, .inl (fun _ => 0))), (a 19, .inl (cs 0, 30, .inl (fun _ => 0))), (a 20, .inl (cs 0, 40, .inl (fun _ => 0))), (a 21, .inl (cs 0, 40, .inl (fun _ => 0))), (a 22, .inl (cs 1, 400, .inr (.inl (fun _ => 0)))), (a 23, .inl (cs 1, 400, .inr (.inl (fun _ => 0)))), (a 24, .inl (cs 2, 10, .inl (fun _ => 0))), (a 25, .inl (cs 2, 10, .inl (fun _ => 0))), (a 26, .inl (cs 1, 10, .inr (.inl (fun _ => 0)))), (a 27, .inl (cs 1, 10, .inr (.inl (fun _ => 0)))), (a 28, .inl (cs 1, 40, .inr (.inl (fun _ => 0)))), (a 29, .inl (cs 1, 40, .inr (.inl (fun _ => 0)))), (a 30, .inl (cs 0, 30, .inl (fun _ => 0))), (a 31, .inl (cs 0, 40, .inl (fun _ => 0))), (a 32, .inl (cs 0, 40, .inl (fun _ => 0))), (a 33, .inl (cs 1, 400, .inr (.inl (fun _ => 0)))), (a 34, .inl (cs 1, 400, .inr (.inl (fun _ => 0)))), (a 35, .inl (cs 0, 10, .inl (fun _ => 0))), (a 36, .inl (cs 0, 10, .inl (fun _ => 0))), (a 37, .inl (cs 1, 100, .inr (.inl (fun _ => 0)))), (a 38, .inl (cs 1, 100, .inr (.inl (fun _ => 0))))]
set_option maxHeartbeats 4000000 in
set_option maxRecDepth 100000 in
theorem k_X11 (l : Launch) (D : va_G) (cs : Nat → ClassId) (h : Nat) (sz : Nat) : Kc l yX11_init wsX11_init ({ frames := 1, cells := 38, slots := 3493, locals := 12 }) D cs h [] (.inr (11, [.int 0, .null, .int 0, .null, .int 0, .null, .null, .null, .null, .int 0, .null, .null, .null, .null, .int 0, .null, .null, .null, .null, .null, .null, .null, .null, .long 0, .long 0, .int 0, .int 0, .int 0, .int 0, .int 0, .null, .int 0, .null, .null, .null, .null, .null, .null, .null, .null, .null, .null, .int 0, .null, .int 0, .null, .null, .null, .null, .null, .null, .null, .null])) sz 38 3493 (fun u => ∃ (a r r2 : Nat → Nat), a 0 = h ∧ u = w_model cs a r r2 0 0) := by
  refine enterI RX11 rfl rfl [(0, .ref h)] rfl (Nat.le_of_ble_eq_true rfl) (by decide +kernel) rfl ?_
  intro p e s m below meth c C hr hini
  refine i_aload_n C 0 dX11_init_0 rfl ?_
  refine i_objInit C (List.mem_of_getElem? (i := 1) rfl) (List.mem_of_getElem? (i := 2) rfl) (List.mem_of_getElem? (i := 3) rfl) dX11_init_1 (Nat.le_of_ble_eq_true rfl) (Nat.le_of_ble_eq_true rfl) ?_
  refine i_aload_n C 0 dX11_init_4 rfl ?_
  refine i_bipush C 7 dX11_init_5 (by decide) ?_
  refine i_newa C (atype := .int) (ty := .int) (N9 := 7) (t := 0) (a0 := (7, .inl (fun _ => 0))) (List.mem_of_getElem? (i := 4) rfl) rfl rfl (fun _ => rfl) (fun _ => rfl) (by decide) (by decide) (Nat.le_of_ble_eq_true rfl) (Nat.le_of_ble_eq_true rfl) (Nat.le_of_ble_eq_true rfl) dX11_init_7 (fun q1 => ?_)
  refine i_widen 1 7 (Nat.le_of_ble_eq_true rfl) (Nat.le_of_ble_eq_true rfl) ?_
  refine i_putF C 1 in_X11_init_11 (List.mem_of_getElem? (i := 5) rfl) rfl (by decide) rfl tyX11 tyX11_ok nmX11 rfl rfl hini rfl rfl rfl (Nat.le_of_ble_eq_true rfl) dX11_init_9 ?_
  refine i_fs [.int 0, .ref q1, .int 0, .null, .int 0, .null, .null, .null, .null, .int 0, .null, .null, .null, .null, .int 0, .null, .null, .null, .null, .null, .null, .null, .null, .long 0, .long 0, .int 0, .int 0, .int 0, .int 0, .int 0, .null, .int 0, .null, .null, .null, .null, .null, .null, .null, .null, .null, .null, .int 0, .null, .int 0, .null, .null, .null, .null, .null, .null, .null, .null] rfl ?_
  refine i_aload_n C 0 dX11_init_12 rfl ?_
  refine i_bipush C 10 dX11_init_13 (by decide) ?_
  refine i_newa C (atype := .int) (ty := .int) (N9 := 10) (t := 0) (a0 := (10, .inl (fun _ => 0))) (List.mem_of_getElem? (i := 4) rfl) rfl rfl (fun _ => rfl) (fun _ => rfl) (by decide) (by decide) (Nat.le_of_ble_eq_true rfl) (Nat.le_of_ble_eq_true rfl) (Nat.le_of_ble_eq_true rfl) dX11_init_15 (fun q2 => ?_)
  refine i_widen 2 17 (Nat.le_of_ble_eq_true rfl) (Nat.le_of_ble_eq_true rfl) ?_
  refine i_putF C 3 in_X11_init_11 (List.mem_of_getElem? (i := 6) rfl) rfl (by decide) rfl tyX11 tyX11_ok nmX11 rfl rfl hini rfl rfl rfl (Nat.le_of_ble_eq_true rfl) dX11_init_17 ?_
  refine i_fs [.int 0, .ref q1, .int 0, .ref q2, .int 0, .null, .null, .null, .null, .int 0, .null, .null, .null, .null, .int 0, .null, .null, .null, .null, .null, .null, .null, .null, .long 0, .long 0, .int 0, .int 0, .int 0, .int 0, .int 0, .null, .int 0, .null, .null, .null, .null, .null, .null, .null, .null, .null, .null, .int 0, .null, .int 0, .null, .null, .null, .null, .null, .null, .null, .null] rfl ?_
  refine i_aload_n C 0 dX11_init_20 rfl ?_
  refine i_bipush C 60 dX11_init_21 (by decide) ?_
  refine i_newa C (atype := .int) (ty := .int) (N9 := 60) (t := 0) (a0 := (60, .inl (fun _ => 0))) (List.mem_of_getElem? (i := 4) rfl) rfl rfl (fun _ => rfl) (fun _ => rfl) (by decide) (by decide) (Nat.le_of_ble_eq_true rfl) (Nat.le_of_ble_eq_true rfl) (Nat.le_of_ble_eq_true rfl) dX11_init_23 (fun q3 => ?_)
  refine i_widen 3 77 (Nat.le_of_ble_eq_true rfl) (Nat.le_of_ble_eq_true rfl) ?_
  refine i_putF C 5 in_X11_init_11 (List.mem_of_getElem? (i := 7) rfl) rfl (by decide) rfl tyX11 tyX11_ok nmX11 rfl rfl hini rfl rfl rfl (Nat.le_of_ble_eq_true rfl) dX11_init_25 ?_
  refine i_fs [.int 0, .ref q1, .int 0, .ref q2, .int 0, .ref q3, .null, .null, .null, .int 0, .null, .null, .null, .null, .int 0, .null, .null, .null, .null, .null, .null, .null, .null, .long 0, .long 0, .int 0, .int 0, .int 0, .int 0, .int 0, .null, .int 0, .null, .null, .null, .null, .null, .null, .null, .null, .null, .null, .int 0, .null, .int 0, .null, .null, .null, .null, .null, .null, .null, .null] rfl ?_
  refine i_aload_n C 0 dX11_init_28 rfl ?_
  refine i_bipush C 60 dX11_init_29 (by decide) ?_
  refine i_newa C (atype := .int) (ty := .int) (N9 := 60) (t := 0) (a0 := (60, .inl (fun _ => 0))) (List.mem_of_getElem? (i := 4) rfl) rfl rfl (fun _ => rfl) (fun _ => rfl) (by decide) (by decide) (Nat.le_of_ble_eq_true rfl) (Nat.le_of_ble_eq_true rfl) (Nat.le_of_ble_eq_true rfl) dX11_init_31 (fun q4 => ?_)
  refine i_widen 4 137 (Nat.le_of_ble_eq_true rfl) (Nat.le_of_ble_eq_true rfl) ?_
  refine i_putF C 6 in_X11_init_11 (List.mem_of_getElem? (i := 8) rfl) rfl (by decide) rfl tyX11 tyX11_ok nmX11 rfl rfl hini rfl rfl rfl (Nat.le_of_ble_eq_true rfl) dX11_init_33 ?_
  refine i_fs [.int 0, .ref q1, .int 0, .ref q2, .int 0, .ref q3, .ref q4, .null, .null, .int 0, .null, .null, .null, .null, .int 0, .null, .null, .null, .null, .null, .null, .null, .null, .long 0, .long 0, .int 0, .int 0, .int 0, .int 0, .int 0, .null, .int 0, .null, .null, .null, .null, .null, .null, .null, .null, .null, .null, .int 0, .null, .int 0, .null, .null, .null, .null, .null, .null, .null, .null] rfl ?_
  refine i_aload_n C 0 dX11_init_36 rfl ?_
  refine i_bipush C 60 dX11_init_37 (by decide) ?_
  refine i_newa C (atype := .int) (ty := .int) (N9 := 60) (t := 0) (a0 := (60, .inl (fun _ => 0))) (List.mem_of_getElem? (i := 4) rfl) rfl rfl (fun _ => rfl) (fun _ => rfl) (by decide) (by decide) (Nat.le_of_ble_eq_true rfl) (Nat.le_of_ble_eq_true rfl) (Nat.le_of_ble_eq_true rfl) dX11_init_39 (fun q5 => ?_)
  refine i_widen 5 197 (Nat.le_of_ble_eq_true rfl) (Nat.le_of_ble_eq_true rfl) ?_
  refine i_putF C 7 in_X11_init_11 (List.mem_of_getElem? (i := 9) rfl) rfl (by decide) rfl tyX11 tyX11_ok nmX11 rfl rfl hini rfl rfl rfl (Nat.le_of_ble_eq_true rfl) dX11_init_41 ?_
  refine i_fs [.int 0, .ref q1, .int 0, .ref q2, .int 0, .ref q3, .ref q4, .ref q5, .null, .int 0, .null, .null, .null, .null, .int 0, .null, .null, .null, .null, .null, .null, .null, .null, .long 0, .long 0, .int 0, .int 0, .int 0, .int 0, .int 0, .null, .int 0, .null, .null, .null, .null, .null, .null, .null, .null, .null, .null, .int 0, .null, .int 0, .null, .null, .null, .null, .null, .null, .null, .null] rfl ?_
  refine i_aload_n C 0 dX11_init_44 rfl ?_
  refine i_sipush C 600 dX11_init_45 (by decide) ?_
  refine i_newa C (atype := .int) (ty := .int) (N9 := 600) (t := 0) (a0 := (600, .inl (fun _ => 0))) (List.mem_of_getElem? (i := 4) rfl) rfl rfl (fun _ => rfl) (fun _ => rfl) (by decide) (by decide) (Nat.le_of_ble_eq_true rfl) (Nat.le_of_ble_eq_true rfl) (Nat.le_of_ble_eq_true rfl) dX11_init_48 (fun q6 => ?_)
  refine i_widen 6 797 (Nat.le_of_ble_eq_true rfl) (Nat.le_of_ble_eq_true rfl) ?_
  refine i_putF C 8 in_X11_init_11 (List.mem_of_getElem? (i := 10) rfl) rfl (by decide) rfl tyX11 tyX11_ok nmX11 rfl rfl hini rfl rfl rfl (Nat.le_of_ble_eq_true rfl) dX11_init_50 ?_
  refine i_fs [.int 0, .ref q1, .int 0, .ref q2, .int 0, .ref q3, .ref q4, .ref q5, .ref q6, .int 0, .null, .null, .null, .null, .int 0, .null, .null, .null, .null, .null, .null, .null, .null, .long 0, .long 0, .int 0, .int 0, .int 0, .int 0, .int 0, .null, .int 0, .null, .null, .null, .null, .null, .null, .null, .null, .null, .null, .int 0, .null, .int 0, .null, .null, .null, .null, .null, .null, .null, .null] rfl ?_
  refine i_aload_n C 0 dX11_init_53 rfl ?_
  refine i_bipush C 8 dX11_init_54 (by decide) ?_
  refine i_newa C (atype := .int) (ty := .int) (N9 := 8) (t := 0) (a0 := (8, .inl (fun _ => 0))) (List.mem_of_getElem? (i := 4) rfl) rfl rfl (fun _ => rfl) (fun _ => rfl) (by decide) (by decide) (Nat.le_of_ble_eq_true rfl) (Nat.le_of_ble_eq_true rfl) (Nat.le_of_ble_eq_true rfl) dX11_init_56 (fun q7 => ?_)
  refine i_widen 7 805 (Nat.le_of_ble_eq_true rfl) (Nat.le_of_ble_eq_true rfl) ?_
  refine i_putF C 10 in_X11_init_11 (List.mem_of_getElem? (i := 11) rfl) rfl (by decide) rfl tyX11 tyX11_ok nmX11 rfl rfl hini rfl rfl rfl (Nat.le_of_ble_eq_true rfl) dX11_init_58 ?_
  refine i_fs [.int 0, .ref q1, .int 0, .ref q2, .int 0, .ref q3, .ref q4, .ref q5, .ref q6, .int 0, .ref q7, .null, .null, .null, .int 0, .null, .null, .null, .null, .null, .null, .null, .null, .long 0, .long 0, .int 0, .int 0, .int 0, .int 0, .int 0, .null, .int 0, .null, .null, .null, .null, .null, .null, .null, .null, .null, .null, .int 0, .null, .int 0, .null, .null, .null, .null, .null, .null, .null, .null] rfl ?_
  refine i_aload_n C 0 dX11_init_61 rfl ?_
  refine i_bipush C 8 dX11_init_62 (by decide) ?_
  refine i_newa C (atype := .int) (ty := .int) (N9 := 8) (t := 0) (a0 := (8, .inl (fun _ => 0))) (List.mem_of_getElem? (i := 4) rfl) rfl rfl (fun _ => rfl) (fun _ => rfl) (by decide) (by decide) (Nat.le_of_ble_eq_true rfl) (Nat.le_of_ble_eq_true rfl) (Nat.le_of_ble_eq_true rfl) dX11_init_64 (fun q8 => ?_)
  refine i_widen 8 813 (Nat.le_of_ble_eq_true rfl) (Nat.le_of_ble_eq_true rfl) ?_
  refine i_putF C 11 in_X11_init_11 (List.mem_of_getElem? (i := 12) rfl) rfl (by decide) rfl tyX11 tyX11_ok nmX11 rfl rfl hini rfl rfl rfl (Nat.le_of_ble_eq_true rfl) dX11_init_66 ?_
  refine i_fs [.int 0, .ref q1, .int 0, .ref q2, .int 0, .ref q3, .ref q4, .ref q5, .ref q6, .int 0, .ref q7, .ref q8, .null, .null, .int 0, .null, .null, .null, .null, .null, .null, .null, .null, .long 0, .long 0, .int 0, .int 0, .int 0, .int 0, .int 0, .null, .int 0, .null, .null, .null, .null, .null, .null, .null, .null, .null, .null, .int 0, .null, .int 0, .null, .null, .null, .null, .null, .null, .null, .null] rfl ?_
  refine i_aload_n C 0 dX11_init_69 rfl ?_
  refine i_sipush C 320 dX11_init_70 (by decide) ?_
  refine i_newa C (atype := .int) (ty := .int) (N9 := 320) (t := 0) (a0 := (320, .inl (fun _ => 0))) (List.mem_of_getElem? (i := 4) rfl) rfl rfl (fun _ => rfl) (fun _ => rfl) (by decide) (by decide) (Nat.le_of_ble_eq_true rfl) (Nat.le_of_ble_eq_true rfl) (Nat.le_of_ble_eq_true rfl) dX11_init_73 (fun q9 => ?_)
  refine i_widen 9 1133 (Nat.le_of_ble_eq_true rfl) (Nat.le_of_ble_eq_true rfl) ?_
  refine i_putF C 12 in_X11_init_11 (List.mem_of_getElem? (i := 13) rfl) rfl (by decide) rfl tyX11 tyX11_ok nmX11 rfl rfl hini rfl rfl rfl (Nat.le_of_ble_eq_true rfl) dX11_init_75 ?_
  refine i_fs [.int 0, .ref q1, .int 0, .ref q2, .int 0, .ref q3, .ref q4, .ref q5, .ref q6, .int 0, .ref q7, .ref q8, .ref q9, .null, .int 0, .null, .null, .null, .null, .null, .null, .null, .null, .long 0, .long 0, .int 0, .int 0, .int 0, .int 0, .int 0, .null, .int 0, .null, .null, .null, .null, .null, .null, .null, .null, .null, .null, .int 0, .null, .int 0, .null, .null, .null, .null, .null, .null, .null, .null] rfl ?_
  refine i_aload_n C 0 dX11_init_78 rfl ?_
  refine i_bipush C 40 dX11_init_79 (by decide) ?_
  refine i_newa C (atype := .int) (ty := .int) (N9 := 40) (t := 0) (a0 := (40, .inl (fun _ => 0))) (List.mem_of_getElem? (i := 4) rfl) rfl rfl (fun _ => rfl) (fun _ => rfl) (by decide) (by decide) (Nat.le_of_ble_eq_true rfl) (Nat.le_of_ble_eq_true rfl) (Nat.le_of_ble_eq_true rfl) dX11_init_81 (fun q10 => ?_)
  refine i_widen 10 1173 (Nat.le_of_ble_eq_true rfl) (Nat.le_of_ble_eq_true rfl) ?_
  refine i_putF C 13 in_X11_init_11 (List.mem_of_getElem? (i := 14) rfl) rfl (by decide) rfl tyX11 tyX11_ok nmX11 rfl rfl hini rfl rfl rfl (Nat.le_of_ble_eq_true rfl) dX11_init_83 ?_
  refine i_fs [.int 0, .ref q1, .int 0, .ref q2, .int 0, .ref q3, .ref q4, .ref q5, .ref q6, .int 0, .ref q7, .ref q8, .ref q9, .ref q10, .int 0, .null, .null, .null, .null, .null, .null, .null, .null, .long 0, .long 0, .int 0, .int 0, .int 0, .int 0, .int 0, .null, .int 0, .null, .null, .null, .null, .null, .null, .null, .null, .null, .null, .int 0, .null, .int 0, .null, .null, .null, .null, .null, .null, .null, .null] rfl ?_
  refine i_aload_n C 0 dX11_init_86 rfl ?_
  refine i_bipush C 20 dX11_init_87 (by decide) ?_
  refine i_newa C (atype := .int) (ty := .int) (N9 := 20) (t := 0) (a0 := (20, .inl (fun _ => 0))) (List.mem_of_getElem? (i := 4) rfl) rfl rfl (fun _ => rfl) (fun _ => rfl) (by decide) (by decide) (Nat.le_of_ble_eq_true rfl) (Nat.le_of_ble_eq_true rfl) (Nat.le_of_ble_eq_true rfl) dX11_init_89 (fun q11 => ?_)
  refine i_widen 11 1193 (Nat.le_of_ble_eq_true rfl) (Nat.le_of_ble_eq_true rfl) ?_
  refine i_putF C 15 in_X11_init_11 (List.mem_of_getElem? (i := 15) rfl) rfl (by decide) rfl tyX11 tyX11_ok nmX11 rfl rfl hini rfl rfl rfl (Nat.le_of_ble_eq_true rfl) dX11_init_91 ?_
  refine i_fs [.int 0, .ref q1, .int 0, .ref q2, .int 0, .ref q3, .ref q4, .ref q5, .ref q6, .int 0, .ref q7, .ref q8, .ref q9, .ref q10, .int 0, .ref q11, .null, .null, .null, .null, .null, .null, .null, .long 0, .long 0, .int 0, .int 0, .int 0, .int 0, .int 0, .null, .int 0, .null, .null, .null, .null, .null, .null, .null, .null, .null, .null, .int 0, .null, .int 0, .null, .null, .null, .null, .null, .null, .null, .null] rfl ?_
  refine i_aload_n C 0 dX11_init_94 rfl ?_
  refine i_bipush C 20 dX11_init_95 (by decide) ?_
  refine i_newa C (atype := .int) (ty := .int) (N9 := 20) (t := 0) (a0 := (20, .inl (fun _ => 0))) (List.mem_of_getElem? (i := 4) rfl) rfl rfl (fun _ => rfl) (fun _ => rfl) (by decide) (by decide) (Nat.le_of_ble_eq_true rfl) (Nat.le_of_ble_eq_true rfl) (Nat.le_of_ble_eq_true rfl) dX11_init_97 (fun q12 => ?_)
  refine i_widen 12 1213 (Nat.le_of_ble_eq_true rfl) (Nat.le_of_ble_eq_true rfl) ?_
  refine i_putF C 16 in_X11_init_11 (List.mem_of_getElem? (i := 16) rfl) rfl (by decide) rfl tyX11 tyX11_ok nmX11 rfl rfl hini rfl rfl rfl (Nat.le_of_ble_eq_true rfl) dX11_init_99 ?_
  refine i_fs [.int 0, .ref q1, .int 0, .ref q2, .int 0, .ref q3, .ref q4, .ref q5, .ref q6, .int 0, .ref q7, .ref q8, .ref q9, .ref q10, .int 0, .ref q11, .ref q12, .null, .null, .null, .null, .null, .null, .long 0, .long 0, .int 0, .int 0, .int 0, .int 0, .int 0, .null, .int 0, .null, .null, .null, .null, .null, .null, .null, .null, .null, .null, .int 0, .null, .int 0, .null, .null, .null, .null, .null, .null, .null, .null] rfl ?_
  refine i_aload_n C 0 dX11_init_102 rfl ?_
  refine i_bipush C 20 dX11_init_103 (by decide) ?_
  refine i_newa C (atype := .int) (ty := .int) (N9 := 20) (t := 0) (a0 := (20, .inl (fun _ => 0))) (List.mem_of_getElem? (i := 4) rfl) rfl rfl (fun _ => rfl) (fun _ => rfl) (by decide) (by decide) (Nat.le_of_ble_eq_true rfl) (Nat.le_of_ble_eq_true rfl) (Nat.le_of_ble_eq_true rfl) dX11_init_105 (fun q13 => ?_)
  refine i_widen 13 1233 (Nat.le_of_ble_eq_true rfl) (Nat.le_of_ble_eq_true rfl) ?_
  refine i_putF C 17 in_X11_init_11 (List.mem_of_getElem? (i := 17) rfl) rfl (by decide) rfl tyX11 tyX11_ok nmX11 rfl rfl hini rfl rfl rfl (Nat.le_of_ble_eq_true rfl) dX11_init_107 ?_
  refine i_fs [.int 0, .ref q1, .int 0, .ref q2, .int 0, .ref q3, .ref q4, .ref q5, .ref q6, .int 0, .ref q7, .ref q8, .ref q9, .ref q10, .int 0, .ref q11, .ref q12, .ref q13, .null, .null, .null, .null, .null, .long 0, .long 0, .int 0, .int 0, .int 0, .int 0, .int 0, .null, .int 0, .null, .null, .null, .null, .null, .null, .null, .null, .null, .null, .int 0, .null, .int 0, .null, .null, .null, .null, .null, .null, .null, .null] rfl ?_
  refine i_aload_n C 0 dX11_init_110 rfl ?_
  refine i_bipush C 20 dX11_init_111 (by decide) ?_
  refine i_newa C (atype := .int) (ty := .int) (N9 := 20) (t := 0) (a0 := (20, .inl (fun _ => 0))) (List.mem_of_getElem? (i := 4) rfl) rfl rfl (fun _ => rfl) (fun _ => rfl) (by decide) (by decide) (Nat.le_of_ble_eq_true rfl) (Nat.le_of_ble_eq_true rfl) (Nat.le_of_ble_eq_true rfl) dX11_init_113 (fun q14 => ?_)
  refine i_widen 14 1253 (Nat.le_of_ble_eq_true rfl) (Nat.le_of_ble_eq_true rfl) ?_
  refine i_putF C 18 in_X11_init_11 (List.mem_of_getElem? (i := 18) rfl) rfl (by decide) rfl tyX11 tyX11_ok nmX11 rfl rfl hini rfl rfl rfl (Nat.le_of_ble_eq_true rfl) dX11_init_115 ?_
  refine i_fs [.int 0, .ref q1, .int 0, .ref q2, .int 0, .ref q3, .ref q4, .ref q5, .ref q6, .int 0, .ref q7, .ref q8, .ref q9, .ref q10, .int 0, .ref q11, .ref q12, .ref q13, .ref q14, .null, .null, .null, .null, .long 0, .long 0, .int 0, .int 0, .int 0, .int 0, .int 0, .null, .int 0, .null, .null, .null, .null, .null, .null, .null, .null, .null, .null, .int 0, .null, .int 0, .null, .null, .null, .null, .null, .null, .null, .null] rfl ?_
  refine i_aload_n C 0 dX11_init_118 rfl ?_
  refine i_bipush C 20 dX11_init_119 (by decide) ?_
  refine i_newa C (atype := .int) (ty := .int) (N9 := 20) (t := 0) (a0 := (20, .inl (fun _ => 0))) (List.mem_of_getElem? (i := 4) rfl) rfl rfl (fun _ => rfl) (fun _ => rfl) (by decide) (by decide) (Nat.le_of_ble_eq_true rfl) (Nat.le_of_ble_eq_true rfl) (Nat.le_of_ble_eq_true rfl) dX11_init_121 (fun q15 => ?_)
  refine i_widen 15 1273 (Nat.le_of_ble_eq_true rfl) (Nat.le_of_ble_eq_true rfl) ?_
  refine i_putF C 19 in_X11_init_11 (List.mem_of_getElem? (i := 19) rfl) rfl (by decide) rfl tyX11 tyX11_ok nmX11 rfl rfl hini rfl rfl rfl (Nat.le_of_ble_eq_true rfl) dX11_init_123 ?_
  refine i_fs [.int 0, .ref q1, .int 0, .ref q2, .int 0, .ref q3, .ref q4, .ref q5, .ref q6, .int 0, .ref q7, .ref q8, .ref q9, .ref q10, .int 0, .ref q11, .ref q12, .ref q13, .ref q14, .ref q15, .null, .null, .null, .long 0, .long 0, .int 0, .int 0, .int 0, .int 0, .int 0, .null, .int 0, .null, .null, .null, .null, .null, .null, .null, .null, .null, .null, .int 0, .null, .int 0, .null, .null, .null, .null, .null, .null, .null, .null] rfl ?_
  refine i_aload_n C 0 dX11_init_126 rfl ?_
  refine i_bipush C 20 dX11_init_127 (by decide) ?_
  refine i_newa C (atype := .int) (ty := .int) (N9 := 20) (t := 0) (a0 := (20, .inl (fun _ => 0))) (List.mem_of_getElem? (i := 4) rfl) rfl rfl (fun _ => rfl) (fun _ => rfl) (by decide) (by decide) (Nat.le_of_ble_eq_true rfl) (Nat.le_of_ble_eq_true rfl) (Nat.le_of_ble_eq_true rfl) dX11_init_129 (fun q16 => ?_)
  refine i_widen 16 1293 (Nat.le_of_ble_eq_true rfl) (Nat.le_of_ble_eq_true rfl) ?_
  refine i_putF C 20 in_X11_init_11 (List.mem_of_getElem? (i := 20) rfl) rfl (by decide) rfl tyX11 tyX11_ok nmX11 rfl rfl hini rfl rfl rfl (Nat.le_of_ble_eq_true rfl) dX11_init_131 ?_
  refine i_fs [.int 0, .ref q1, .int 0, .ref q2, .int 0, .ref q3, .ref q4, .ref q5, .ref q6, .int 0, .ref q7, .ref q8, .ref q9, .ref q10, .int 0, .ref q11, .ref q12, .ref q13, .ref q14, .ref q15, .ref q16, .null, .null, .long 0, .long 0, .int 0, .int 0, .int 0, .int 0, .int 0, .null, .int 0, .null, .null, .null, .null, .null, .null, .null, .null, .null, .null, .int 0, .null, .int 0, .null, .null, .null, .null, .null, .null, .null, .null] rfl ?_
  refine i_aload_n C 0 dX11_init_134 rfl ?_
  refine i_bipush C 20 dX11_init_135 (by decide) ?_
  refine i_newa C (atype := .int) (ty := .int) (N9 := 20) (t := 0) (a0 := (20, .inl (fun _ => 0))) (List.mem_of_getElem? (i := 4) rfl) rfl rfl (fun _ => rfl) (fun _ => rfl) (by decide) (by decide) (Nat.le_of_ble_eq_true rfl) (Nat.le_of_ble_eq_true rfl) (Nat.le_of_ble_eq_true rfl) dX11_init_137 (fun q17 => ?_)
  refine i_widen 17 1313 (Nat.le_of_ble_eq_true rfl) (Nat.le_of_ble_eq_true rfl) ?_
  refine i_putF C 21 in_X11_init_11 (List.mem_of_getElem? (i := 21) rfl) rfl (by decide) rfl tyX11 tyX11_ok nmX11 rfl rfl hini rfl rfl rfl (Nat.le_of_ble_eq_true rfl) dX11_init_139 ?_
  refine i_fs [.int 0, .ref q1, .int 0, .ref q2, .int 0, .ref q3, .ref q4, .ref q5, .ref q6, .int 0, .ref q7, .ref q8, .ref q9, .ref q10, .int 0, .ref q11, .ref q12, .ref q13, .ref q14, .ref q15, .ref q16, .ref q17, .null, .long 0, .long 0, .int 0, .int 0, .int 0, .int 0, .int 0, .null, .int 0, .null, .null, .null, .null, .null, .null, .null, .null, .null, .null, .int 0, .null, .int 0, .null, .null, .null, .null, .null, .null, .null, .null] rfl ?_
  refine i_aload_n C 0 dX11_init_142 rfl ?_
  refine i_bipush C 20 dX11_init_143 (by decide) ?_
  refine i_newa C (atype := .boolean) (ty := .boolean) (N9 := 20) (t := 2) (a0 := (20, .inl (fun _ => 0))) (List.mem_of_getElem? (i := 22) rfl) rfl rfl (fun _ => rfl) (fun _ => rfl) (by decide) (by decide) (Nat.le_of_ble_eq_true rfl) (Nat.le_of_ble_eq_true rfl) (Nat.le_of_ble_eq_true rfl) dX11_init_145 (fun q18 => ?_)
  refine i_widen 18 1333 (Nat.le_of_ble_eq_true rfl) (Nat.le_of_ble_eq_true rfl) ?_
  refine i_putF C 22 in_X11_init_11 (List.mem_of_getElem? (i := 23) rfl) rfl (by decide) rfl tyX11 tyX11_ok nmX11 rfl rfl hini rfl rfl rfl (Nat.le_of_ble_eq_true rfl) dX11_init_147 ?_
  refine i_fs [.int 0, .ref q1, .int 0, .ref q2, .int 0, .ref q3, .ref q4, .ref q5, .ref q6, .int 0, .ref q7, .ref q8, .ref q9, .ref q10, .int 0, .ref q11, .ref q12, .ref q13, .ref q14, .ref q15, .ref q16, .ref q17, .ref q18, .long 0, .long 0, .int 0, .int 0, .int 0, .int 0, .int 0, .null, .int 0, .null, .null, .null, .null, .null, .null, .null, .null, .null, .null, .int 0, .null, .int 0, .null, .null, .null, .null, .null, .null, .null, .null] rfl ?_
  refine i_aload_n C 0 dX11_init_150 rfl ?_
  refine i_bipush C 30 dX11_init_151 (by decide) ?_
  refine i_newa C (atype := .int) (ty := .int) (N9 := 30) (t := 0) (a0 := (30, .inl (fun _ => 0))) (List.mem_of_getElem? (i := 4) rfl) rfl rfl (fun _ => rfl) (fun _ => rfl) (by decide) (by decide) (Nat.le_of_ble_eq_true rfl) (Nat.le_of_ble_eq_true rfl) (Nat.le_of_ble_eq_true rfl) dX11_init_153 (fun q19 => ?_)
  refine i_widen 19 1363 (Nat.le_of_ble_eq_true rfl) (Nat.le_of_ble_eq_true rfl) ?_
  refine i_putF C 30 in_X11_init_11 (List.mem_of_getElem? (i := 24) rfl) rfl (by decide) rfl tyX11 tyX11_ok nmX11 rfl rfl hini rfl rfl rfl (Nat.le_of_ble_eq_true rfl) dX11_init_155 ?_
  refine i_fs [.int 0, .ref q1, .int 0, .ref q2, .int 0, .ref q3, .ref q4, .ref q5, .ref q6, .int 0, .ref q7, .ref q8, .ref q9, .ref q10, .int 0, .ref q11, .ref q12, .ref q13, .ref q14, .ref q15, .ref q16, .ref q17, .ref q18, .long 0, .long 0, .int 0, .int 0, .int 0, .int 0, .int 0, .ref q19, .int 0, .null, .null, .null, .null, .null, .null, .null, .null, .null, .null, .int 0, .null, .int 0, .null, .null, .null, .null, .null, .null, .null, .null] rfl ?_
  refine i_aload_n C 0 dX11_init_158 rfl ?_
  refine i_bipush C 40 dX11_init_159 (by decide) ?_
  refine i_newa C (atype := .int) (ty := .int) (N9 := 40) (t := 0) (a0 := (40, .inl (fun _ => 0))) (List.mem_of_getElem? (i := 4) rfl) rfl rfl (fun _ => rfl) (fun _ => rfl) (by decide) (by decide) (Nat.le_of_ble_eq_true rfl) (Nat.le_of_ble_eq_true rfl) (Nat.le_of_ble_eq_true rfl) dX11_init_161 (fun q20 => ?_)
  refine i_widen 20 1403 (Nat.le_of_ble_eq_true rfl) (Nat.le_of_ble_eq_true rfl) ?_
  refine i_putF C 32 in_X11_init_11 (List.mem_of_getElem? (i := 25) rfl) rfl (by decide) rfl tyX11 tyX11_ok nmX11 rfl rfl hini rfl rfl rfl (Nat.le_of_ble_eq_true rfl) dX11_init_163 ?_
  refine i_fs [.int 0, .ref q1, .int 0, .ref q2, .int 0, .ref q3, .ref q4, .ref q5, .ref q6, .int 0, .ref q7, .ref q8, .ref q9, .ref q10, .int 0, .ref q11, .ref q12, .ref q13, .ref q14, .ref q15, .ref q16, .ref q17, .ref q18, .long 0, .long 0, .int 0, .int 0, .int 0, .int 0, .int 0, .ref q19, .int 0, .ref q20, .null, .null, .null, .null, .null, .null, .null, .null, .null, .int 0, .null, .int 0, .null, .null, .null, .null, .null, .null, .null, .null] rfl ?_
  refine i_aload_n C 0 dX11_init_166 rfl ?_
  refine i_bipush C 40 dX11_init_167 (by decide) ?_
  refine i_newa C (atype := .int) (ty := .int) (N9 := 40) (t := 0) (a0 := (40, .inl (fun _ => 0))) (List.mem_of_getElem? (i := 4) rfl) rfl rfl (fun _ => rfl) (fun _ => rfl) (by decide) (by decide) (Nat.le_of_ble_eq_true rfl) (Nat.le_of_ble_eq_true rfl) (Nat.le_of_ble_eq_true rfl) dX11_init_169 (fun q21 => ?_)
  refine i_widen 21 1443 (Nat.le_of_ble_eq_true rfl) (Nat.le_of_ble_eq_true rfl) ?_
  refine i_putF C 33 in_X11_init_11 (List.mem_of_getElem? (i := 26) rfl) rfl (by decide) rfl tyX11 tyX11_ok nmX11 rfl rfl hini rfl rfl rfl (Nat.le_of_ble_eq_true rfl) dX11_init_171 ?_
  refine i_fs [.int 0, .ref q1, .int 0, .ref q2, .int 0, .ref q3, .ref q4, .ref q5, .ref q6, .int 0, .ref q7, .ref q8, .ref q9, .ref q10, .int 0, .ref q11, .ref q12, .ref q13, .ref q14, .ref q15, .ref q16, .ref q17, .ref q18, .long 0, .long 0, .int 0, .int 0, .int 0, .int 0, .int 0, .ref q19, .int 0, .ref q20, .ref q21, .null, .null, .null, .null, .null, .null, .null, .null, .int 0, .null, .int 0, .null, .null, .null, .null, .null, .null, .null, .null] rfl ?_
  refine i_aload_n C 0 dX11_init_174 rfl ?_
  refine i_sipush C 400 dX11_init_175 (by decide) ?_
  refine i_newa C (atype := .long) (ty := .long) (N9 := 400) (t := 1) (a0 := (400, .inr (.inl (fun _ => 0)))) (List.mem_of_getElem? (i := 27) rfl) rfl rfl (fun _ => rfl) (fun _ => rfl) (by decide) (by decide) (Nat.le_of_ble_eq_true rfl) (Nat.le_of_ble_eq_true rfl) (Nat.le_of_ble_eq_true rfl) dX11_init_178 (fun q22 => ?_)
  refine i_widen 22 1843 (Nat.le_of_ble_eq_true rfl) (Nat.le_of_ble_eq_true rfl) ?_
  refine i_putF C 34 in_X11_init_11 (List.mem_of_getElem? (i := 28) rfl) rfl (by decide) rfl tyX11 tyX11_ok nmX11 rfl rfl hini rfl rfl rfl (Nat.le_of_ble_eq_true rfl) dX11_init_180 ?_
  refine i_fs [.int 0, .ref q1, .int 0, .ref q2, .int 0, .ref q3, .ref q4, .ref q5, .ref q6, .int 0, .ref q7, .ref q8, .ref q9, .ref q10, .int 0, .ref q11, .ref q12, .ref q13, .ref q14, .ref q15, .ref q16, .ref q17, .ref q18, .long 0, .long 0, .int 0, .int 0, .int 0, .int 0, .int 0, .ref q19, .int 0, .ref q20, .ref q21, .ref q22, .null, .null, .null, .null, .null, .null, .null, .int 0, .null, .int 0, .null, .null, .null, .null, .null, .null, .null, .null] rfl ?_
  refine i_aload_n C 0 dX11_init_183 rfl ?_
  refine i_sipush C 400 dX11_init_184 (by decide) ?_
  refine i_newa C (atype := .long) (ty := .long) (N9 := 400) (t := 1) (a0 := (400, .inr (.inl (fun _ => 0)))) (List.mem_of_getElem? (i := 27) rfl) rfl rfl (fun _ => rfl) (fun _ => rfl) (by decide) (by decide) (Nat.le_of_ble_eq_true rfl) (Nat.le_of_ble_eq_true rfl) (Nat.le_of_ble_eq_true rfl) dX11_init_187 (fun q23 => ?_)
  refine i_widen 23 2243 (Nat.le_of_ble_eq_true rfl) (Nat.le_of_ble_eq_true rfl) ?_
  refine i_putF C 35 in_X11_init_11 (List.mem_of_getElem? (i := 29) rfl) rfl (by decide) rfl tyX11 tyX11_ok nmX11 rfl rfl hini rfl rfl rfl (Nat.le_of_ble_eq_true rfl) dX11_init_189 ?_
  refine i_fs [.int 0, .ref q1, .int 0, .ref q2, .int 0, .ref q3, .ref q4, .ref q5, .ref q6, .int 0, .ref q7, .ref q8, .ref q9, .ref q10, .int 0, .ref q11, .ref q12, .ref q13, .ref q14, .ref q15, .ref q16, .ref q17, .ref q18, .long 0, .long 0, .int 0, .int 0, .int 0, .int 0, .int 0, .ref q19, .int 0, .ref q20, .ref q21, .ref q22, .ref q23, .null, .null, .null, .null, .null, .null, .int 0, .null, .int 0, .null, .null, .null, .null, .null, .null, .null, .null] rfl ?_
  refine i_aload_n C 0 dX11_init_192 rfl ?_
  refine i_bipush C 10 dX11_init_193 (by decide) ?_
  refine i_newa C (atype := .boolean) (ty := .boolean) (N9 := 10) (t := 2) (a0 := (10, .inl (fun _ => 0))) (List.mem_of_getElem? (i := 22) rfl) rfl rfl (fun _ => rfl) (fun _ => rfl) (by decide) (by decide) (Nat.le_of_ble_eq_true rfl) (Nat.le_of_ble_eq_true rfl) (Nat.le_of_ble_eq_true rfl) dX11_init_195 (fun q24 => ?_)
  refine i_widen 24 2253 (Nat.le_of_ble_eq_true rfl) (Nat.le_of_ble_eq_true rfl) ?_
  refine i_putF C 36 in_X11_init_11 (List.mem_of_getElem? (i := 30) rfl) rfl (by decide) rfl tyX11 tyX11_ok nmX11 rfl rfl hini rfl rfl rfl (Nat.le_of_ble_eq_true rfl) dX11_init_197 ?_
  refine i_fs [.int 0, .ref q1, .int 0, .ref q2, .int 0, .ref q3, .ref q4, .ref q5, .ref q6, .int 0, .ref q7, .ref q8, .ref q9, .ref q10, .int 0, .ref q11, .ref q12, .ref q13, .ref q14, .ref q15, .ref q16, .ref q17, .ref q18, .long 0, .long 0, .int 0, .int 0, .int 0, .int 0, .int 0, .ref q19, .int 0, .ref q20, .ref q21, .ref q22, .ref q23, .ref q24, .null, .null, .null, .null, .null, .int 0, .null, .int 0, .null, .null, .null, .null, .null, .null, .null, .null] rfl ?_
  refine i_aload_n C 0 dX11_init_200 rfl ?_
  refine i_bipush C 10 dX11_init_201 (by decide) ?_
  refine i_newa C (atype := .boolean) (ty := .boolean) (N9 := 10) (t := 2) (a0 := (10, .inl (fun _ => 0))) (List.mem_of_getElem? (i := 22) rfl) rfl rfl (fun _ => rfl) (fun _ => rfl) (by decide) (by decide) (Nat.le_of_ble_eq_true rfl) (Nat.le_of_ble_eq_true rfl) (Nat.le_of_ble_eq_true rfl) dX11_init_203 (fun q25 => ?_)
  refine i_widen 25 2263 (Nat.le_of_ble_eq_true rfl) (Nat.le_of_ble_eq_true rfl) ?_
  refine i_putF C 37 in_X11_init_11 (List.mem_of_getElem? (i := 31) rfl) rfl (by decide) rfl tyX11 tyX11_ok nmX11 rfl rfl hini rfl rfl rfl (Nat.le_of_ble_eq_true rfl) dX11_init_205 ?_
  refine i_fs [.int 0, .ref q1, .int 0, .ref q2, .int 0, .ref q3, .ref q4, .ref q5, .ref q6, .int 0, .ref q7, .ref q8, .ref q9, .ref q10, .int 0, .ref q11, .ref q12, .ref q13, .ref q14, .ref q15, .ref q16, .ref q17, .ref q18, .long 0, .long 0, .int 0, .int 0, .int 0, .int 0, .int 0, .ref q19, .int 0, .ref q20, .ref q21, .ref q22, .ref q23, .ref q24, .ref q25, .null, .null, .null, .null, .int 0, .null, .int 0, .null, .null, .null, .null, .null, .null, .null, .null] rfl ?_
  refine i_aload_n C 0 dX11_init_208 rfl ?_
  refine i_bipush C 10 dX11_init_209 (by decide) ?_
  refine i_newa C (atype := .long) (ty := .long) (N9 := 10) (t := 1) (a0 := (10, .inr (.inl (fun _ => 0)))) (List.mem_of_getElem? (i := 27) rfl) rfl rfl (fun _ => rfl) (fun _ => rfl) (by decide) (by decide) (Nat.le_of_ble_eq_true rfl) (Nat.le_of_ble_eq_true rfl) (Nat.le_of_ble_eq_true rfl) dX11_init_211 (fun q26 => ?_)
  refine i_widen 26 2273 (Nat.le_of_ble_eq_true rfl) (Nat.le_of_ble_eq_true rfl) ?_
  refine i_putF C 38 in_X11_init_11 (List.mem_of_getElem? (i := 32) rfl) rfl (by decide) rfl tyX11 tyX11_ok nmX11 rfl rfl hini rfl rfl rfl (Nat.le_of_ble_eq_true rfl) dX11_init_213 ?_
  refine i_fs [.int 0, .ref q1, .int 0, .ref q2, .int 0, .ref q3, .ref q4, .ref q5, .ref q6, .int 0, .ref q7, .ref q8, .ref q9, .ref q10, .int 0, .ref q11, .ref q12, .ref q13, .ref q14, .ref q15, .ref q16, .ref q17, .ref q18, .long 0, .long 0, .int 0, .int 0, .int 0, .int 0, .int 0, .ref q19, .int 0, .ref q20, .ref q21, .ref q22, .ref q23, .ref q24, .ref q25, .ref q26, .null, .null, .null, .int 0, .null, .int 0, .null, .null, .null, .null, .null, .null, .null, .null] rfl ?_
  refine i_aload_n C 0 dX11_init_216 rfl ?_
  refine i_bipush C 10 dX11_init_217 (by decide) ?_
  refine i_newa C (atype := .long) (ty := .long) (N9 := 10) (t := 1) (a0 := (10, .inr (.inl (fun _ => 0)))) (List.mem_of_getElem? (i := 27) rfl) rfl rfl (fun _ => rfl) (fun _ => rfl) (by decide) (by decide) (Nat.le_of_ble_eq_true rfl) (Nat.le_of_ble_eq_true rfl) (Nat.le_of_ble_eq_true rfl) dX11_init_219 (fun q27 => ?_)
  refine i_widen 27 2283 (Nat.le_of_ble_eq_true rfl) (Nat.le_of_ble_eq_true rfl) ?_
  refine i_putF C 39 in_X11_init_11 (List.mem_of_getElem? (i := 33) rfl) rfl (by decide) rfl tyX11 tyX11_ok nmX11 rfl rfl hini rfl rfl rfl (Nat.le_of_ble_eq_true rfl) dX11_init_221 ?_
  refine i_fs [.int 0, .ref q1, .int 0, .ref q2, .int 0, .ref q3, .ref q4, .ref q5, .ref q6, .int 0, .ref q7, .ref q8, .ref q9, .ref q10, .int 0, .ref q11, .ref q12, .ref q13, .ref q14, .ref q15, .ref q16, .ref q17, .ref q18, .long 0, .long 0, .int 0, .int 0, .int 0, .int 0, .int 0, .ref q19, .int 0, .ref q20, .ref q21, .ref q22, .ref q23, .ref q24, .ref q25, .ref q26, .ref q27, .null, .null, .int 0, .null, .int 0, .null, .null, .null, .null, .null, .null, .null, .null] rfl ?_
  refine i_aload_n C 0 dX11_init_224 rfl ?_
  refine i_bipush C 40 dX11_init_225 (by decide) ?_
  refine i_newa C (atype := .long) (ty := .long) (N9 := 40) (t := 1) (a0 := (40, .inr (.inl (fun _ => 0)))) (List.mem_of_getElem? (i := 27) rfl) rfl rfl (fun _ => rfl) (fun _ => rfl) (by decide) (by decide) (Nat.le_of_ble_eq_true rfl) (Nat.le_of_ble_eq_true rfl) (Nat.le_of_ble_eq_true rfl) dX11_init_227 (fun q28 => ?_)
  refine i_widen 28 2323 (Nat.le_of_ble_eq_true rfl) (Nat.le_of_ble_eq_true rfl) ?_
  refine i_putF C 40 in_X11_init_11 (List.mem_of_getElem? (i := 34) rfl) rfl (by decide) rfl tyX11 tyX11_ok nmX11 rfl rfl hini rfl rfl rfl (Nat.le_of_ble_eq_true rfl) dX11_init_229 ?_
  refine i_fs [.int 0, .ref q1, .int 0, .ref q2, .int 0, .ref q3, .ref q4, .ref q5, .ref q6, .int 0, .ref q7, .ref q8, .ref q9, .ref q10, .int 0, .ref q11, .ref q12, .ref q13, .ref q14, .ref q15, .ref q16, .ref q17, .ref q18, .long 0, .long 0, .int 0, .int 0, .int 0, .int 0, .int 0, .ref q19, .int 0, .ref q20, .ref q21, .ref q22, .ref q23, .ref q24, .ref q25, .ref q26, .ref q27, .ref q28, .null, .int 0, .null, .int 0, .null, .null, .null, .null, .null, .null, .null, .null] rfl ?_
  refine i_aload_n C 0 dX11_init_232 rfl ?_
  refine i_bipush C 40 dX11_init_233 (by decide) ?_
  refine i_newa C (atype := .long) (ty := .long) (N9 := 40) (t := 1) (a0 := (40, .inr (.inl (fun _ => 0)))) (List.mem_of_getElem? (i := 27) rfl) rfl rfl (fun _ => rfl) (fun _ => rfl) (by decide) (by decide) (Nat.le_of_ble_eq_true rfl) (Nat.le_of_ble_eq_true rfl) (Nat.le_of_ble_eq_true rfl) dX11_init_235 (fun q29 => ?_)
  refine i_widen 29 2363 (Nat.le_of_ble_eq_true rfl) (Nat.le_of_ble_eq_true rfl) ?_
  refine i_putF C 41 in_X11_init_11 (List.mem_of_getElem? (i := 35) rfl) rfl (by decide) rfl tyX11 tyX11_ok nmX11 rfl rfl hini rfl rfl rfl (Nat.le_of_ble_eq_true rfl) dX11_init_237 ?_
  refine i_fs [.int 0, .ref q1, .int 0, .ref q2, .int 0, .ref q3, .ref q4, .ref q5, .ref q6, .int 0, .ref q7, .ref q8, .ref q9, .ref q10, .int 0, .ref q11, .ref q12, .ref q13, .ref q14, .ref q15, .ref q16, .ref q17, .ref q18, .long 0, .long 0, .int 0, .int 0, .int 0, .int 0, .int 0, .ref q19, .int 0, .ref q20, .ref q21, .ref q22, .ref q23, .ref q24, .ref q25, .ref q26, .ref q27, .ref q28, .ref q29, .int 0, .null, .int 0, .null, .null, .null, .null, .null, .null, .null, .null] rfl ?_
  refine i_aload_n C 0 dX11_init_240 rfl ?_
  refine i_bipush C 30 dX11_init_241 (by decide) ?_
  refine i_newa C (atype := .int) (ty := .int) (N9 := 30) (t := 0) (a0 := (30, .inl (fun _ => 0))) (List.mem_of_getElem? (i := 4) rfl) rfl rfl (fun _ => rfl) (fun _ => rfl) (by decide) (by decide) (Nat.le_of_ble_eq_true rfl) (Nat.le_of_ble_eq_true rfl) (Nat.le_of_ble_eq_true rfl) dX11_init_243 (fun q30 => ?_)
  refine i_widen 30 2393 (Nat.le_of_ble_eq_true rfl) (Nat.le_of_ble_eq_true rfl) ?_
  refine i_putF C 43 in_X11_init_11 (List.mem_of_getElem? (i := 36) rfl) rfl (by decide) rfl tyX11 tyX11_ok nmX11 rfl rfl hini rfl rfl rfl (Nat.le_of_ble_eq_true rfl) dX11_init_245 ?_
  refine i_fs [.int 0, .ref q1, .int 0, .ref q2, .int 0, .ref q3, .ref q4, .ref q5, .ref q6, .int 0, .ref q7, .ref q8, .ref q9, .ref q10, .int 0, .ref q11, .ref q12, .ref q13, .ref q14, .ref q15, .ref q16, .ref q17, .ref q18, .long 0, .long 0, .int 0, .int 0, .int 0, .int 0, .int 0, .ref q19, .int 0, .ref q20, .ref q21, .ref q22, .ref q23, .ref q24, .ref q25, .ref q26, .ref q27, .ref q28, .ref q29, .int 0, .ref q30, .int 0, .null, .null, .null, .null, .null, .null, .null, .null] rfl ?_
  refine i_aload_n C 0 dX11_init_248 rfl ?_
  refine i_bipush C 40 dX11_init_249 (by decide) ?_
  refine i_newa C (atype := .int) (ty := .int) (N9 := 40) (t := 0) (a0 := (40, .inl (fun _ => 0))) (List.mem_of_getElem? (i := 4) rfl) rfl rfl (fun _ => rfl) (fun _ => rfl) (by decide) (by decide) (Nat.le_of_ble_eq_true rfl) (Nat.le_of_ble_eq_true rfl) (Nat.le_of_ble_eq_true rfl) dX11_init_251 (fun q31 => ?_)
  refine i_widen 31 2433 (Nat.le_of_ble_eq_true rfl) (Nat.le_of_ble_eq_true rfl) ?_
  refine i_putF C 45 in_X11_init_11 (List.mem_of_getElem? (i := 37) rfl) rfl (by decide) rfl tyX11 tyX11_ok nmX11 rfl rfl hini rfl rfl rfl (Nat.le_of_ble_eq_true rfl) dX11_init_253 ?_
  refine i_fs [.int 0, .ref q1, .int 0, .ref q2, .int 0, .ref q3, .ref q4, .ref q5, .ref q6, .int 0, .ref q7, .ref q8, .ref q9, .ref q10, .int 0, .ref q11, .ref q12, .ref q13, .ref q14, .ref q15, .ref q16, .ref q17, .ref q18, .long 0, .long 0, .int 0, .int 0, .int 0, .int 0, .int 0, .ref q19, .int 0, .ref q20, .ref q21, .ref q22, .ref q23, .ref q24, .ref q25, .ref q26, .ref q27, .ref q28, .ref q29, .int 0, .ref q30, .int 0, .ref q31, .null, .null, .null, .null, .null, .null, .null] rfl ?_
  refine i_aload_n C 0 dX11_init_256 rfl ?_
  refine i_bipush C 40 dX11_init_257 (by decide) ?_
  refine i_newa C (atype := .int) (ty := .int) (N9 := 40) (t := 0) (a0 := (40, .inl (fun _ => 0))) (List.mem_of_getElem? (i := 4) rfl) rfl rfl (fun _ => rfl) (fun _ => rfl) (by decide) (by decide) (Nat.le_of_ble_eq_true rfl) (Nat.le_of_ble_eq_true rfl) (Nat.le_of_ble_eq_true rfl) dX11_init_259 (fun q32 => ?_)
  refine i_widen 32 2473 (Nat.le_of_ble_eq_true rfl) (Nat.le_of_ble_eq_true rfl) ?_
  refine i_putF C 46 in_X11_init_11 (List.mem_of_getElem? (i := 38) rfl) rfl (by decide) rfl tyX11 tyX11_ok nmX11 rfl rfl hini rfl rfl rfl (Nat.le_of_ble_eq_true rfl) dX11_init_261 ?_
  refine i_fs [.int 0, .ref q1, .int 0, .ref q2, .int 0, .ref q3, .ref q4, .ref q5, .ref q6, .int 0, .ref q7, .ref q8, .ref q9, .ref q10, .int 0, .ref q11, .ref q12, .ref q13, .ref q14, .ref q15, .ref q16, .ref q17, .ref q18, .long 0, .long 0, .int 0, .int 0, .int 0, .int 0, .int 0, .ref q19, .int 0, .ref q20, .ref q21, .ref q22, .ref q23, .ref q24, .ref q25, .ref q26, .ref q27, .ref q28, .ref q29, .int 0, .ref q30, .int 0, .ref q31, .ref q32, .null, .null, .null, .null, .null, .null] rfl ?_
  refine i_aload_n C 0 dX11_init_264 rfl ?_
  refine i_sipush C 400 dX11_init_265 (by decide) ?_
  refine i_newa C (atype := .long) (ty := .long) (N9 := 400) (t := 1) (a0 := (400, .inr (.inl (fun _ => 0)))) (List.mem_of_getElem? (i := 27) rfl) rfl rfl (fun _ => rfl) (fun _ => rfl) (by decide) (by decide) (Nat.le_of_ble_eq_true rfl) (Nat.le_of_ble_eq_true rfl) (Nat.le_of_ble_eq_true rfl) dX11_init_268 (fun q33 => ?_)
  refine i_widen 33 2873 (Nat.le_of_ble_eq_true rfl) (Nat.le_of_ble_eq_true rfl) ?_
  refine i_putF C 47 in_X11_init_11 (List.mem_of_getElem? (i := 39) rfl) rfl (by decide) rfl tyX11 tyX11_ok nmX11 rfl rfl hini rfl rfl rfl (Nat.le_of_ble_eq_true rfl) dX11_init_270 ?_
  refine i_fs [.int 0, .ref q1, .int 0, .ref q2, .int 0, .ref q3, .ref q4, .ref q5, .ref q6, .int 0, .ref q7, .ref q8, .ref q9, .ref q10, .int 0, .ref q11, .ref q12, .ref q13, .ref q14, .ref q15, .ref q16, .ref q17, .ref q18, .long 0, .long 0, .int 0, .int 0, .int 0, .int 0, .int 0, .ref q19, .int 0, .ref q20, .ref q21, .ref q22, .ref q23, .ref q24, .ref q25, .ref q26, .ref q27, .ref q28, .ref q29, .int 0, .ref q30, .int 0, .ref q31, .ref q32, .ref q33, .null, .null, .null, .null, .null] rfl ?_
  refine i_aload_n C 0 dX11_init_273 rfl ?_
  refine i_sipush C 400 dX11_init_274 (by decide) ?_
  refine i_newa C (atype := .long) (ty := .long) (N9 := 400) (t := 1) (a0 := (400, .inr (.inl (fun _ => 0)))) (List.mem_of_getElem? (i := 27) rfl) rfl rfl (fun _ => rfl) (fun _ => rfl) (by decide) (by decide) (Nat.le_of_ble_eq_true rfl) (Nat.le_of_ble_eq_true rfl) (Nat.le_of_ble_eq_true rfl) dX11_init_277 (fun q34 => ?_)
  refine i_widen 34 3273 (Nat.le_of_ble_eq_true rfl) (Nat.le_of_ble_eq_true rfl) ?_
  refine i_putF C 48 in_X11_init_11 (List.mem_of_getElem? (i := 40) rfl) rfl (by decide) rfl tyX11 tyX11_ok nmX11 rfl rfl hini rfl rfl rfl (Nat.le_of_ble_eq_true rfl) dX11_init_279 ?_
  refine i_fs [.int 0, .ref q1, .int 0, .ref q2, .int 0, .ref q3, .ref q4, .ref q5, .ref q6, .int 0, .ref q7, .ref q8, .ref q9, .ref q10, .int 0, .ref q11, .ref q12, .ref q13, .ref q14, .ref q15, .ref q16, .ref q17, .ref q18, .long 0, .long 0, .int 0, .int 0, .int 0, .int 0, .int 0, .ref q19, .int 0, .ref q20, .ref q21, .ref q22, .ref q23, .ref q24, .ref q25, .ref q26, .ref q27, .ref q28, .ref q29, .int 0, .ref q30, .int 0, .ref q31, .ref q32, .ref q33, .ref q34, .null, .null, .null, .null] rfl ?_
  refine i_aload_n C 0 dX11_init_282 rfl ?_
  refine i_bipush C 10 dX11_init_283 (by decide) ?_
  refine i_newa C (atype := .int) (ty := .int) (N9 := 10) (t := 0) (a0 := (10, .inl (fun _ => 0))) (List.mem_of_getElem? (i := 4) rfl) rfl rfl (fun _ => rfl) (fun _ => rfl) (by decide) (by decide) (Nat.le_of_ble_eq_true rfl) (Nat.le_of_ble_eq_true rfl) (Nat.le_of_ble_eq_true rfl) dX11_init_285 (fun q35 => ?_)
  refine i_widen 35 3283 (Nat.le_of_ble_eq_true rfl) (Nat.le_of_ble_eq_true rfl) ?_
  refine i_putF C 49 in_X11_init_11 (List.mem_of_getElem? (i := 41) rfl) rfl (by decide) rfl tyX11 tyX11_ok nmX11 rfl rfl hini rfl rfl rfl (Nat.le_of_ble_eq_true rfl) dX11_init_287 ?_
  refine i_fs [.int 0, .ref q1, .int 0, .ref q2, .int 0, .ref q3, .ref q4, .ref q5, .ref q6, .int 0, .ref q7, .ref q8, .ref q9, .ref q10, .int 0, .ref q11, .ref q12, .ref q13, .ref q14, .ref q15, .ref q16, .ref q17, .ref q18, .long 0, .long 0, .int 0, .int 0, .int 0, .int 0, .int 0, .ref q19, .int 0, .ref q20, .ref q21, .ref q22, .ref q23, .ref q24, .ref q25, .ref q26, .ref q27, .ref q28, .ref q29, .int 0, .ref q30, .int 0, .ref q31, .ref q32, .ref q33, .ref q34, .ref q35, .null, .null, .null] rfl ?_
  refine i_aload_n C 0 dX11_init_290 rfl ?_
  refine i_bipush C 10 dX11_init_291 (by decide) ?_
  refine i_newa C (atype := .int) (ty := .int) (N9 := 10) (t := 0) (a0 := (10, .inl (fun _ => 0))) (List.mem_of_getElem? (i := 4) rfl) rfl rfl (fun _ => rfl) (fun _ => rfl) (by decide) (by decide) (Nat.le_of_ble_eq_true rfl) (Nat.le_of_ble_eq_true rfl) (Nat.le_of_ble_eq_true rfl) dX11_init_293 (fun q36 => ?_)
  refine i_widen 36 3293 (Nat.le_of_ble_eq_true rfl) (Nat.le_of_ble_eq_true rfl) ?_
  refine i_putF C 50 in_X11_init_11 (List.mem_of_getElem? (i := 42) rfl) rfl (by decide) rfl tyX11 tyX11_ok nmX11 rfl rfl hini rfl rfl rfl (Nat.le_of_ble_eq_true rfl) dX11_init_295 ?_
  refine i_fs [.int 0, .ref q1, .int 0, .ref q2, .int 0, .ref q3, .ref q4, .ref q5, .ref q6, .int 0, .ref q7, .ref q8, .ref q9, .ref q10, .int 0, .ref q11, .ref q12, .ref q13, .ref q14, .ref q15, .ref q16, .ref q17, .ref q18, .long 0, .long 0, .int 0, .int 0, .int 0, .int 0, .int 0, .ref q19, .int 0, .ref q20, .ref q21, .ref q22, .ref q23, .ref q24, .ref q25, .ref q26, .ref q27, .ref q28, .ref q29, .int 0, .ref q30, .int 0, .ref q31, .ref q32, .ref q33, .ref q34, .ref q35, .ref q36, .null, .null] rfl ?_
  refine i_aload_n C 0 dX11_init_298 rfl ?_
  refine i_bipush C 100 dX11_init_299 (by decide) ?_
  refine i_newa C (atype := .long) (ty := .long) (N9 := 100) (t := 1) (a0 := (100, .inr (.inl (fun _ => 0)))) (List.mem_of_getElem? (i := 27) rfl) rfl rfl (fun _ => rfl) (fun _ => rfl) (by decide) (by decide) (Nat.le_of_ble_eq_true rfl) (Nat.le_of_ble_eq_true rfl) (Nat.le_of_ble_eq_true rfl) dX11_init_301 (fun q37 => ?_)
  refine i_widen 37 3393 (Nat.le_of_ble_eq_true rfl) (Nat.le_of_ble_eq_true rfl) ?_
  refine i_putF C 51 in_X11_init_11 (List.mem_of_getElem? (i := 43) rfl) rfl (by decide) rfl tyX11 tyX11_ok nmX11 rfl rfl hini rfl rfl rfl (Nat.le_of_ble_eq_true rfl) dX11_init_303 ?_
  refine i_fs [.int 0, .ref q1, .int 0, .ref q2, .int 0, .ref q3, .ref q4, .ref q5, .ref q6, .int 0, .ref q7, .ref q8, .ref q9, .ref q10, .int 0, .ref q11, .ref q12, .ref q13, .ref q14, .ref q15, .ref q16, .ref q17, .ref q18, .long 0, .long 0, .int 0, .int 0, .int 0, .int 0, .int 0, .ref q19, .int 0, .ref q20, .ref q21, .ref q22, .ref q23, .ref q24, .ref q25, .ref q26, .ref q27, .ref q28, .ref q29, .int 0, .ref q30, .int 0, .ref q31, .ref q32, .ref q33, .ref q34, .ref q35, .ref q36, .ref q37, .null] rfl ?_
  refine i_aload_n C 0 dX11_init_306 rfl ?_
  refine i_bipush C 100 dX11_init_307 (by decide) ?_
  refine i_newa C (atype := .long) (ty := .long) (N9 := 100) (t := 1) (a0 := (100, .inr (.inl (fun _ => 0)))) (List.mem_of_getElem? (i := 27) rfl) rfl rfl (fun _ => rfl) (fun _ => rfl) (by decide) (by decide) (Nat.le_of_ble_eq_true rfl) (Nat.le_of_ble_eq_true rfl) (Nat.le_of_ble_eq_true rfl) dX11_init_309 (fun q38 => ?_)
  refine i_widen 38 3493 (Nat.le_of_ble_eq_true rfl) (Nat.le_of_ble_eq_true rfl) ?_
  refine i_putF C 52 in_X11_init_11 (List.mem_of_getElem? (i := 44) rfl) rfl (by decide) rfl tyX11 tyX11_ok nmX11 rfl rfl hini rfl rfl rfl (Nat.le_of_ble_eq_true rfl) dX11_init_311 ?_
  refine i_fs [.int 0, .ref q1, .int 0, .ref q2, .int 0, .ref q3, .ref q4, .ref q5, .ref q6, .int 0, .ref q7, .ref q8, .ref q9, .ref q10, .int 0, .ref q11, .ref q12, .ref q13, .ref q14, .ref q15, .ref q16, .ref q17, .ref q18, .long 0, .long 0, .int 0, .int 0, .int 0, .int 0, .int 0, .ref q19, .int 0, .ref q20, .ref q21, .ref q22, .ref q23, .ref q24, .ref q25, .ref q26, .ref q27, .ref q28, .ref q29, .int 0, .ref q30, .int 0, .ref q31, .ref q32, .ref q33, .ref q34, .ref q35, .ref q36, .ref q37, .ref q38] rfl ?_
  refine i_aload_n C 0 dX11_init_314 rfl ?_
  refine i_bipush C (-9) dX11_init_315 (by decide) ?_
  refine i_put C 26 in_X11_init_11 (List.mem_of_getElem? (i := 45) rfl) rfl (by decide) rfl tyX11 tyX11_ok nmX11 rfl rfl rfl rfl (Nat.le_of_ble_eq_true rfl) dX11_init_317 ?_
  refine i_fs [.int 0, .ref q1, .int 0, .ref q2, .int 0, .ref q3, .ref q4, .ref q5, .ref q6, .int 0, .ref q7, .ref q8, .ref q9, .ref q10, .int 0, .ref q11, .ref q12, .ref q13, .ref q14, .ref q15, .ref q16, .ref q17, .ref q18, .long 0, .long 0, .int 0, .int ((-9)), .int 0, .int 0, .int 0, .ref q19, .int 0, .ref q20, .ref q21, .ref q22, .ref q23, .ref q24, .ref q25, .ref q26, .ref q27, .ref q28, .ref q29, .int 0, .ref q30, .int 0, .ref q31, .ref q32, .ref q33, .ref q34, .ref q35, .ref q36, .ref q37, .ref q38] rfl ?_
  refine i_widen 38 3493 (Nat.le_of_ble_eq_true rfl) (Nat.le_of_ble_eq_true rfl) ?_
  refine i_ws ([(h, .inr (11, [.int 0, .ref q1, .int 0, .ref q2, .int 0, .ref q3, .ref q4, .ref q5, .ref q6, .int 0, .ref q7, .ref q8, .ref q9, .ref q10, .int 0, .ref q11, .ref q12, .ref q13, .ref q14, .ref q15, .ref q16, .ref q17, .ref q18, .long 0, .long 0, .int 0, .int (-9), .int 0, .int 0, .int 0, .ref q19, .int 0, .ref q20, .ref q21, .ref q22, .ref q23, .ref q24, .ref q25, .ref q26, .ref q27, .ref q28, .ref q29, .int 0, .ref q30, .int 0, .ref q31, .ref q32, .ref q33, .ref q34, .ref q35, .ref q36, .ref q37, .ref q38])), (q1, .inl (cs 0, 7, .inl (fun _ => 0))), (q2, .inl (cs 0, 10, .inl (fun _ => 0))), (q3, .inl (cs 0, 60, .inl (fun _ => 0))), (q4, .inl (cs 0, 60, .inl (fun _ => 0))), (q5, .inl (cs 0, 60, .inl (fun _ => 0))), (q6, .inl (cs 0, 600, .inl (fun _ => 0))), (q7, .inl (cs 0, 8, .inl (fun _ => 0))), (q8, .inl (cs 0, 8, .inl (fun _ => 0))), (q9, .inl (cs 0, 320, .inl (fun _ => 0))), (q10, .inl (cs 0, 40, .inl (fun _ => 0))), (q11, .inl (cs 0, 20, .inl (fun _ => 0))), (q12, .inl (cs 0, 20, .inl (fun _ => 0))), (q13, .inl (cs 0, 20, .inl (fun _ => 0))), (q14, .inl (cs 0, 20, .inl (fun _ => 0))), (q15, .inl (cs 0, 20, .inl (fun _ => 0))), (q16, .inl (cs 0, 20, .inl (fun _ => 0))), (q17, .inl (cs 0, 20, .inl (fun _ => 0))), (q18, .inl (cs 2, 20, .inl (fun _ => 0))), (q19, .inl (cs 0, 30, .inl (fun _ => 0))), (q20, .inl (cs 0, 40, .inl (fun _ => 0))), (q21, .inl (cs 0, 40, .inl (fun _ => 0))), (q22, .inl (cs 1, 400, .inr (.inl (fun _ => 0)))), (q23, .inl (cs 1, 400, .inr (.inl (fun _ => 0)))), (q24, .inl (cs 2, 10, .inl (fun _ => 0))), (q25, .inl (cs 2, 10, .inl (fun _ => 0))), (q26, .inl (cs 1, 10, .inr (.inl (fun _ => 0)))), (q27, .inl (cs 1, 10, .inr (.inl (fun _ => 0)))), (q28, .inl (cs 1, 40, .inr (.inl (fun _ => 0)))), (q29, .inl (cs 1, 40, .inr (.inl (fun _ => 0)))), (q30, .inl (cs 0, 30, .inl (fun _ => 0))), (q31, .inl (cs 0, 40, .inl (fun _ => 0))), (q32, .inl (cs 0, 40, .inl (fun _ => 0))), (q33, .inl (cs 1, 400, .inr (.inl (fun _ => 0)))), (q34, .inl (cs 1, 400, .inr (.inl (fun _ => 0)))), (q35, .inl (cs 0, 10, .inl (fun _ => 0))), (q36, .inl (cs 0, 10, .inl (fun _ => 0))), (q37, .inl (cs 1, 100, .inr (.inl (fun _ => 0)))), (q38, .inl (cs 1, 100, .inr (.inl (fun _ => 0))))]) (by simp only [List.nil_append, List.cons_append, List.append_assoc]) ?_
  exact i_vret C hr ⟨fun j => ([h, q1, q2, q3, q4, q5, q6, q7, q8, q9, q10, q11, q12, q13, q14, q15, q16, q17, q18, q19, q20, q21, q22, q23, q24, q25, q26, q27, q28, q29, q30, q31, q32, q33, q34, q35, q36, q37, q38] : List Nat).getD j 0, fun _ => 0, fun _ => 0, rfl, by simp only [w_model, List.getD_cons_zero, List.getD_cons_succ]⟩ dX11_init_320
