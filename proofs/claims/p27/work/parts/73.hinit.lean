theorem dX10_init_0 : decode cX10_init 0 = .ok (.aload_n 0, 1) := dw42 (n := 0) (i := 0) kc_cX10_init_0 (by decide +kernel)
theorem dX10_init_1 : decode cX10_init 1 = .ok (.invokespecial 1, 3) := dw183 (n := 0) (i := 1) (a := 0) (b := 1) kc_cX10_init_0 (by decide +kernel) (by decide)
theorem dX10_init_4 : decode cX10_init 4 = .ok (.aload_n 0, 1) := dw42 (n := 0) (i := 4) kc_cX10_init_0 (by decide +kernel)
theorem dX10_init_5 : decode cX10_init 5 = .ok (.new 7, 3) := dw187 (n := 0) (i := 5) (a := 0) (b := 7) kc_cX10_init_0 (by decide +kernel) (by decide)
theorem in_X10_init_2 : ∀ w ∈ u_ws RX2 TX2 2, w ∈ wsX10_init := fun _ h => List.mem_cons_of_mem _ (List.mem_append_left _ (List.mem_append_left _ (List.mem_append_left _ (List.mem_append_left _ (List.mem_append_left _ (List.mem_append_left _ (List.mem_append_left _ (List.mem_append_left _ (List.mem_append_left _ (List.mem_append_left _ (List.mem_append_right _ h)))))))))))
theorem dX10_init_8 : decode cX10_init 8 = .ok (.dup, 1) := dw89 (n := 0) (i := 8) kc_cX10_init_0 (by decide +kernel)
theorem dX10_init_9 : decode cX10_init 9 = .ok (.invokespecial 9, 3) := dw183 (n := 0) (i := 9) (a := 0) (b := 9) kc_cX10_init_0 (by decide +kernel) (by decide)
set_option maxRecDepth 20000 in
theorem ggX10_init_X2_init : GoodIn wsX10_init wsX2_init := (gk_code 46 rfl (gk_methodLink 47 rfl (gk_instanceMethod 2 rfl (gk_code 3 rfl (gk_fieldLink 48 rfl (gk_arrayClass 43 rfl (gk_fieldLink 49 rfl (gk_lays 136 rfl (gk_laysFinal 137 rfl (gn))))))))))
set_option maxRecDepth 20000 in
theorem gX10_init_X2_init_n9 : GoodIn wsX10_init (wsX2_init) := ggX10_init_X2_init
theorem dX10_init_12 : decode cX10_init 12 = .ok (.putfield 10, 3) := dw181 (n := 0) (i := 12) (a := 0) (b := 10) kc_cX10_init_0 (by decide +kernel) (by decide)
theorem in_X10_init_10 : ∀ w ∈ u_ws RX10 TX10 13, w ∈ wsX10_init := fun _ h => List.mem_cons_of_mem _ (List.mem_append_left _ (List.mem_append_left _ (List.mem_append_left _ (List.mem_append_left _ (List.mem_append_left _ (List.mem_append_left _ (List.mem_append_left _ (List.mem_append_left _ (List.mem_append_left _ (List.mem_append_right _ h))))))))))
theorem dX10_init_15 : decode cX10_init 15 = .ok (.aload_n 0, 1) := dw42 (n := 0) (i := 15) kc_cX10_init_0 (by decide +kernel)
theorem dX10_init_16 : decode cX10_init 16 = .ok (.new 16, 3) := dw187 (n := 0) (i := 16) (a := 0) (b := 16) kc_cX10_init_0 (by decide +kernel) (by decide)
theorem in_X10_init_0 : ∀ w ∈ u_ws RX0 TX0 5, w ∈ wsX10_init := fun _ h => List.mem_cons_of_mem _ (List.mem_append_left _ (List.mem_append_left _ (List.mem_append_left _ (List.mem_append_left _ (List.mem_append_left _ (List.mem_append_left _ (List.mem_append_left _ (List.mem_append_left _ (List.mem_append_right _ h)))))))))
theorem dX10_init_19 : decode cX10_init 19 = .ok (.dup, 1) := dw89 (n := 0) (i := 19) kc_cX10_init_0 (by decide +kernel)
theorem dX10_init_20 : decode cX10_init 20 = .ok (.invokespecial 18, 3) := dw183 (n := 0) (i := 20) (a := 0) (b := 18) kc_cX10_init_0 (by decide +kernel) (by decide)
set_option maxRecDepth 20000 in
theorem ggX10_init_X0_init : GoodIn wsX10_init wsX0_init := (gk_code 51 rfl (gk_methodLink 52 rfl (gk_instanceMethod 2 rfl (gk_code 3 rfl (gk_fieldLink 53 rfl (gk_arrayClass 43 rfl (gk_fieldLink 54 rfl (gk_fieldLink 55 rfl (gk_fieldLink 56 rfl (gk_classLink 57 rfl (gk_fieldLink 58 rfl (gk_lays 151 rfl (gk_laysFinal 152 rfl (gk_laysFinal 153 rfl (gk_laysFinal 154 rfl (gk_laysFinal 155 rfl (gn)))))))))))))))))
set_option maxRecDepth 20000 in
theorem gX10_init_X0_init_n18 : GoodIn wsX10_init (wsX0_init) := ggX10_init_X0_init
theorem dX10_init_23 : decode cX10_init 23 = .ok (.putfield 19, 3) := dw181 (n := 0) (i := 23) (a := 0) (b := 19) kc_cX10_init_0 (by decide +kernel) (by decide)
theorem dX10_init_26 : decode cX10_init 26 = .ok (.aload_n 0, 1) := dw42 (n := 0) (i := 26) kc_cX10_init_0 (by decide +kernel)
theorem dX10_init_27 : decode cX10_init 27 = .ok (.new 23, 3) := dw187 (n := 0) (i := 27) (a := 0) (b := 23) kc_cX10_init_0 (by decide +kernel) (by decide)
theorem in_X10_init_1 : ∀ w ∈ u_ws RX1 TX1 5, w ∈ wsX10_init := fun _ h => List.mem_cons_of_mem _ (List.mem_append_left _ (List.mem_append_left _ (List.mem_append_left _ (List.mem_append_left _ (List.mem_append_left _ (List.mem_append_left _ (List.mem_append_left _ (List.mem_append_right _ h))))))))
theorem dX10_init_30 : decode cX10_init 30 = .ok (.dup, 1) := dw89 (n := 0) (i := 30) kc_cX10_init_0 (by decide +kernel)
theorem dX10_init_31 : decode cX10_init 31 = .ok (.invokespecial 25, 3) := dw183 (n := 0) (i := 31) (a := 0) (b := 25) kc_cX10_init_0 (by decide +kernel) (by decide)
set_option maxRecDepth 20000 in
theorem ggX10_init_X1_init : GoodIn wsX10_init wsX1_init := (gk_code 60 rfl (gk_methodLink 61 rfl (gk_instanceMethod 2 rfl (gk_code 3 rfl (gk_fieldLink 62 rfl (gk_arrayClass 43 rfl (gk_fieldLink 63 rfl (gk_fieldLink 64 rfl (gk_classLink 65 rfl (gk_fieldLink 66 rfl (gk_fieldLink 67 rfl (gk_lays 156 rfl (gk_laysFinal 157 rfl (gk_laysFinal 158 rfl (gk_laysFinal 159 rfl (gk_laysFinal 160 rfl (gn)))))))))))))))))
set_option maxRecDepth 20000 in
theorem gX10_init_X1_init_n25 : GoodIn wsX10_init (wsX1_init) := ggX10_init_X1_init
theorem dX10_init_34 : decode cX10_init 34 = .ok (.putfield 26, 3) := dw181 (n := 32) (i := 2) (a := 0) (b := 26) kc_cX10_init_1 (by decide +kernel) (by decide)
theorem dX10_init_37 : decode cX10_init 37 = .ok (.aload_n 0, 1) := dw42 (n := 32) (i := 5) kc_cX10_init_1 (by decide +kernel)
theorem dX10_init_38 : decode cX10_init 38 = .ok (.new 30, 3) := dw187 (n := 32) (i := 6) (a := 0) (b := 30) kc_cX10_init_1 (by decide +kernel) (by decide)
theorem in_X10_init_4 : ∀ w ∈ u_ws RX4 TX4 7, w ∈ wsX10_init := fun _ h => List.mem_cons_of_mem _ (List.mem_append_left _ (List.mem_append_left _ (List.mem_append_left _ (List.mem_append_left _ (List.mem_append_left _ (List.mem_append_left _ (List.mem_append_right _ h)))))))
theorem dX10_init_41 : decode cX10_init 41 = .ok (.dup, 1) := dw89 (n := 32) (i := 9) kc_cX10_init_1 (by decide +kernel)
theorem dX10_init_42 : decode cX10_init 42 = .ok (.invokespecial 32, 3) := dw183 (n := 32) (i := 10) (a := 0) (b := 32) kc_cX10_init_1 (by decide +kernel) (by decide)
set_option maxRecDepth 20000 in
theorem ggX10_init_X4_init : GoodIn wsX10_init wsX4_init := (gk_code 69 rfl (gk_methodLink 70 rfl (gk_instanceMethod 2 rfl (gk_code 3 rfl (gk_fieldLink 71 rfl (gk_arrayClass 43 rfl (gk_fieldLink 72 rfl (gk_fieldLink 73 rfl (gk_fieldLink 74 rfl (gk_fieldLink 75 rfl (gk_fieldLink 76 rfl (gk_fieldLink 77 rfl (gk_lays 161 rfl (gk_laysFinal 162 rfl (gk_laysFinal 163 rfl (gk_laysFinal 164 rfl (gk_laysFinal 165 rfl (gk_laysFinal 166 rfl (gk_laysFinal 167 rfl (gn))))))))))))))))))))
set_option maxRecDepth 20000 in
theorem gX10_init_X4_init_n32 : GoodIn wsX10_init (wsX4_init) := ggX10_init_X4_init
theorem dX10_init_45 : decode cX10_init 45 = .ok (.putfield 33, 3) := dw181 (n := 32) (i := 13) (a := 0) (b := 33) kc_cX10_init_1 (by decide +kernel) (by decide)
theorem dX10_init_48 : decode cX10_init 48 = .ok (.aload_n 0, 1) := dw42 (n := 32) (i := 16) kc_cX10_init_1 (by decide +kernel)
theorem dX10_init_49 : decode cX10_init 49 = .ok (.new 37, 3) := dw187 (n := 32) (i := 17) (a := 0) (b := 37) kc_cX10_init_1 (by decide +kernel) (by decide)
theorem in_X10_init_6 : ∀ w ∈ u_ws RX6 TX6 8, w ∈ wsX10_init := fun _ h => List.mem_cons_of_mem _ (List.mem_append_left _ (List.mem_append_left _ (List.mem_append_left _ (List.mem_append_left _ (List.mem_append_left _ (List.mem_append_right _ h))))))
theorem dX10_init_52 : decode cX10_init 52 = .ok (.dup, 1) := dw89 (n := 32) (i := 20) kc_cX10_init_1 (by decide +kernel)
theorem dX10_init_53 : decode cX10_init 53 = .ok (.aload_n 0, 1) := dw42 (n := 32) (i := 21) kc_cX10_init_1 (by decide +kernel)
theorem dX10_init_54 : decode cX10_init 54 = .ok (.getfield 10, 3) := dw180 (n := 32) (i := 22) (a := 0) (b := 10) kc_cX10_init_1 (by decide +kernel) (by decide)
theorem dX10_init_57 : decode cX10_init 57 = .ok (.aload_n 0, 1) := dw42 (n := 32) (i := 25) kc_cX10_init_1 (by decide +kernel)
theorem dX10_init_58 : decode cX10_init 58 = .ok (.getfield 19, 3) := dw180 (n := 32) (i := 26) (a := 0) (b := 19) kc_cX10_init_1 (by decide +kernel) (by decide)
theorem dX10_init_61 : decode cX10_init 61 = .ok (.invokespecial 39, 3) := dw183 (n := 32) (i := 29) (a := 0) (b := 39) kc_cX10_init_1 (by decide +kernel) (by decide)
set_option maxRecDepth 20000 in
theorem ggX10_init_X6_init : GoodIn wsX10_init wsX6_init := (gk_code 80 rfl (gk_methodLink 81 rfl (gk_instanceMethod 2 rfl (gk_code 3 rfl (gk_arrayClass 43 rfl (gk_fieldLink 82 rfl (gk_fieldLink 83 rfl (gk_fieldLink 84 rfl (gk_arrayClass 85 rfl (gk_fieldLink 86 rfl (gk_arrayClass 87 rfl (gk_fieldLink 88 rfl (gk_fieldLink 89 rfl (gk_fieldLink 90 rfl (gk_fieldLink 91 rfl (gk_laysFinal 168 rfl (gk_laysFinal 169 rfl (gk_laysFinal 170 rfl (gk_lays 171 rfl (gk_lays 172 rfl (gk_laysFinal 173 rfl (gk_laysFinal 174 rfl (gk_laysFinal 175 rfl (gn))))))))))))))))))))))))
set_option maxRecDepth 20000 in
theorem gX10_init_X6_init : GoodIn wsX10_init (wsX6_init) := ggX10_init_X6_init
theorem dX10_init_64 : decode cX10_init 64 = .ok (.putfield 42, 3) := dw181 (n := 64) (i := 0) (a := 0) (b := 42) kc_cX10_init_2 (by decide +kernel) (by decide)
theorem dX10_init_67 : decode cX10_init 67 = .ok (.aload_n 0, 1) := dw42 (n := 64) (i := 3) kc_cX10_init_2 (by decide +kernel)
theorem dX10_init_68 : decode cX10_init 68 = .ok (.new 46, 3) := dw187 (n := 64) (i := 4) (a := 0) (b := 46) kc_cX10_init_2 (by decide +kernel) (by decide)
theorem in_X10_init_5 : ∀ w ∈ u_ws RX5 TX5 3, w ∈ wsX10_init := fun _ h => List.mem_cons_of_mem _ (List.mem_append_left _ (List.mem_append_left _ (List.mem_append_left _ (List.mem_append_left _ (List.mem_append_right _ h)))))
theorem dX10_init_71 : decode cX10_init 71 = .ok (.dup, 1) := dw89 (n := 64) (i := 7) kc_cX10_init_2 (by decide +kernel)
theorem dX10_init_72 : decode cX10_init 72 = .ok (.aload_n 0, 1) := dw42 (n := 64) (i := 8) kc_cX10_init_2 (by decide +kernel)
theorem dX10_init_73 : decode cX10_init 73 = .ok (.getfield 42, 3) := dw180 (n := 64) (i := 9) (a := 0) (b := 42) kc_cX10_init_2 (by decide +kernel) (by decide)
theorem dX10_init_76 : decode cX10_init 76 = .ok (.invokespecial 48, 3) := dw183 (n := 64) (i := 12) (a := 0) (b := 48) kc_cX10_init_2 (by decide +kernel) (by decide)
set_option maxRecDepth 20000 in
theorem ggX10_init_X5_init : GoodIn wsX10_init wsX5_init := (gk_code 94 rfl (gk_methodLink 95 rfl (gk_instanceMethod 2 rfl (gk_code 3 rfl (gk_arrayClass 43 rfl (gk_fieldLink 96 rfl (gk_fieldLink 97 rfl (gk_fieldLink 98 rfl (gk_laysFinal 176 rfl (gk_laysFinal 177 rfl (gk_laysFinal 178 rfl (gn))))))))))))
set_option maxRecDepth 20000 in
theorem gX10_init_X5_init : GoodIn wsX10_init (wsX5_init) := ggX10_init_X5_init
theorem dX10_init_79 : decode cX10_init 79 = .ok (.putfield 51, 3) := dw181 (n := 64) (i := 15) (a := 0) (b := 51) kc_cX10_init_2 (by decide +kernel) (by decide)
theorem dX10_init_82 : decode cX10_init 82 = .ok (.aload_n 0, 1) := dw42 (n := 64) (i := 18) kc_cX10_init_2 (by decide +kernel)
theorem dX10_init_83 : decode cX10_init 83 = .ok (.new 55, 3) := dw187 (n := 64) (i := 19) (a := 0) (b := 55) kc_cX10_init_2 (by decide +kernel) (by decide)
theorem in_X10_init_9 : ∀ w ∈ u_ws RX9 TX9 4, w ∈ wsX10_init := fun _ h => List.mem_cons_of_mem _ (List.mem_append_left _ (List.mem_append_left _ (List.mem_append_left _ (List.mem_append_right _ h))))
theorem dX10_init_86 : decode cX10_init 86 = .ok (.dup, 1) := dw89 (n := 64) (i := 22) kc_cX10_init_2 (by decide +kernel)
theorem dX10_init_87 : decode cX10_init 87 = .ok (.aload_n 0, 1) := dw42 (n := 64) (i := 23) kc_cX10_init_2 (by decide +kernel)
theorem dX10_init_88 : decode cX10_init 88 = .ok (.getfield 42, 3) := dw180 (n := 64) (i := 24) (a := 0) (b := 42) kc_cX10_init_2 (by decide +kernel) (by decide)
theorem dX10_init_91 : decode cX10_init 91 = .ok (.invokespecial 57, 3) := dw183 (n := 64) (i := 27) (a := 0) (b := 57) kc_cX10_init_2 (by decide +kernel) (by decide)
set_option maxRecDepth 20000 in
theorem ggX10_init_X9_init : GoodIn wsX10_init wsX9_init := (gk_code 101 rfl (gk_methodLink 102 rfl (gk_instanceMethod 2 rfl (gk_code 3 rfl (gk_arrayClass 43 rfl (gk_fieldLink 103 rfl (gk_classLink 104 rfl (gk_fieldLink 105 rfl (gk_fieldLink 106 rfl (gk_fieldLink 107 rfl (gk_laysFinal 179 rfl (gk_laysFinal 180 rfl (gk_laysFinal 181 rfl (gk_laysFinal 182 rfl (gn)))))))))))))))
set_option maxRecDepth 20000 in
theorem gX10_init_X9_init : GoodIn wsX10_init (wsX9_init) := ggX10_init_X9_init
theorem dX10_init_94 : decode cX10_init 94 = .ok (.putfield 58, 3) := dw181 (n := 64) (i := 30) (a := 0) (b := 58) kc_cX10_init_2 (by decide +kernel) (by decide)
theorem dX10_init_97 : decode cX10_init 97 = .ok (.aload_n 0, 1) := dw42 (n := 96) (i := 1) kc_cX10_init_3 (by decide +kernel)
theorem dX10_init_98 : decode cX10_init 98 = .ok (.new 62, 3) := dw187 (n := 96) (i := 2) (a := 0) (b := 62) kc_cX10_init_3 (by decide +kernel) (by decide)
theorem in_X10_init_8 : ∀ w ∈ u_ws RX8 TX8 5, w ∈ wsX10_init := fun _ h => List.mem_cons_of_mem _ (List.mem_append_left _ (List.mem_append_left _ (List.mem_append_right _ h)))
theorem dX10_init_101 : decode cX10_init 101 = .ok (.dup, 1) := dw89 (n := 96) (i := 5) kc_cX10_init_3 (by decide +kernel)
theorem dX10_init_102 : decode cX10_init 102 = .ok (.aload_n 0, 1) := dw42 (n := 96) (i := 6) kc_cX10_init_3 (by decide +kernel)
theorem dX10_init_103 : decode cX10_init 103 = .ok (.getfield 42, 3) := dw180 (n := 96) (i := 7) (a := 0) (b := 42) kc_cX10_init_3 (by decide +kernel) (by decide)
theorem dX10_init_106 : decode cX10_init 106 = .ok (.invokespecial 64, 3) := dw183 (n := 96) (i := 10) (a := 0) (b := 64) kc_cX10_init_3 (by decide +kernel) (by decide)
set_option maxRecDepth 20000 in
theorem ggX10_init_X8_init : GoodIn wsX10_init wsX8_init := (gk_code 110 rfl (gk_methodLink 111 rfl (gk_instanceMethod 2 rfl (gk_code 3 rfl (gk_arrayClass 87 rfl (gk_fieldLink 112 rfl (gk_fieldLink 113 rfl (gk_arrayClass 43 rfl (gk_fieldLink 114 rfl (gk_classLink 115 rfl (gk_instantiable 116 rfl (gk_initialized 117 rfl (gk_fieldLink 118 rfl (gk_fieldLink 119 rfl (gk_instanceMethod 120 rfl (gk_code 121 rfl (gk_methodLink 122 rfl (gk_fieldLink 123 rfl (gk_fieldLink 124 rfl (gk_laysFinal 183 rfl (gk_laysFinal 184 rfl (gk_laysFinal 185 rfl (gk_laysFinal 186 rfl (gk_laysFinal 187 rfl (gk_lays 195 rfl (gk_lays 196 rfl (gn)))))))))))))))))))))))))))
set_option maxRecDepth 20000 in
theorem gX10_init_X8_init : GoodIn wsX10_init (wsX8_init) := ggX10_init_X8_init
theorem dX10_init_109 : decode cX10_init 109 = .ok (.putfield 65, 3) := dw181 (n := 96) (i := 13) (a := 0) (b := 65) kc_cX10_init_3 (by decide +kernel) (by decide)
theorem dX10_init_112 : decode cX10_init 112 = .ok (.aload_n 0, 1) := dw42 (n := 96) (i := 16) kc_cX10_init_3 (by decide +kernel)
theorem dX10_init_113 : decode cX10_init 113 = .ok (.new 69, 3) := dw187 (n := 96) (i := 17) (a := 0) (b := 69) kc_cX10_init_3 (by decide +kernel) (by decide)
theorem in_X10_init_7 : ∀ w ∈ u_ws RX7 TX7 7, w ∈ wsX10_init := fun _ h => List.mem_cons_of_mem _ (List.mem_append_left _ (List.mem_append_right _ h))
theorem dX10_init_116 : decode cX10_init 116 = .ok (.dup, 1) := dw89 (n := 96) (i := 20) kc_cX10_init_3 (by decide +kernel)
theorem dX10_init_117 : decode cX10_init 117 = .ok (.invokespecial 71, 3) := dw183 (n := 96) (i := 21) (a := 0) (b := 71) kc_cX10_init_3 (by decide +kernel) (by decide)
set_option maxRecDepth 20000 in
theorem ggX10_init_X7_init : GoodIn wsX10_init wsX7_init := (gk_code 126 rfl (gk_methodLink 127 rfl (gk_instanceMethod 2 rfl (gk_code 3 rfl (gk_fieldLink 128 rfl (gk_arrayClass 43 rfl (gk_fieldLink 129 rfl (gk_fieldLink 130 rfl (gk_fieldLink 131 rfl (gk_fieldLink 132 rfl (gk_classLink 133 rfl (gk_arrayClass 87 rfl (gk_fieldLink 134 rfl (gk_fieldLink 135 rfl (gk_lays 188 rfl (gk_laysFinal 189 rfl (gk_lays 190 rfl (gk_laysFinal 191 rfl (gk_laysFinal 192 rfl (gk_laysFinal 193 rfl (gk_laysFinal 194 rfl (gn))))))))))))))))))))))
set_option maxRecDepth 20000 in
theorem gX10_init_X7_init_n71 : GoodIn wsX10_init (wsX7_init) := ggX10_init_X7_init
theorem dX10_init_120 : decode cX10_init 120 = .ok (.putfield 72, 3) := dw181 (n := 96) (i := 24) (a := 0) (b := 72) kc_cX10_init_3 (by decide +kernel) (by decide)
theorem dX10_init_123 : decode cX10_init 123 = .ok (.aload_n 0, 1) := dw42 (n := 96) (i := 27) kc_cX10_init_3 (by decide +kernel)
theorem dX10_init_124 : decode cX10_init 124 = .ok (.new 69, 3) := dw187 (n := 96) (i := 28) (a := 0) (b := 69) kc_cX10_init_3 (by decide +kernel) (by decide)
theorem dX10_init_127 : decode cX10_init 127 = .ok (.dup, 1) := dw89 (n := 96) (i := 31) kc_cX10_init_3 (by decide +kernel)
theorem dX10_init_128 : decode cX10_init 128 = .ok (.invokespecial 71, 3) := dw183 (n := 128) (i := 0) (a := 0) (b := 71) kc_cX10_init_4 (by decide +kernel) (by decide)
theorem dX10_init_131 : decode cX10_init 131 = .ok (.putfield 76, 3) := dw181 (n := 128) (i := 3) (a := 0) (b := 76) kc_cX10_init_4 (by decide +kernel) (by decide)
theorem dX10_init_134 : decode cX10_init 134 = .ok (.aload_n 0, 1) := dw42 (n := 128) (i := 6) kc_cX10_init_4 (by decide +kernel)
theorem dX10_init_135 : decode cX10_init 135 = .ok (.bipush (-9), 2) := dw16 (n := 128) (i := 7) (a := 247) kc_cX10_init_4 (by decide +kernel) (by decide)
theorem dX10_init_137 : decode cX10_init 137 = .ok (.putfield 79, 3) := dw181 (n := 128) (i := 9) (a := 0) (b := 79) kc_cX10_init_4 (by decide +kernel) (by decide)
theorem dX10_init_140 : decode cX10_init 140 = .ok (.aload_n 0, 1) := dw42 (n := 128) (i := 12) kc_cX10_init_4 (by decide +kernel)
theorem dX10_init_141 : decode cX10_init 141 = .ok (.iconst 0, 1) := dw3 (n := 128) (i := 13) kc_cX10_init_4 (by decide +kernel)
theorem dX10_init_142 : decode cX10_init 142 = .ok (.putfield 83, 3) := dw181 (n := 128) (i := 14) (a := 0) (b := 83) kc_cX10_init_4 (by decide +kernel) (by decide)
theorem dX10_init_145 : decode cX10_init 145 = .ok (.aload_n 0, 1) := dw42 (n := 128) (i := 17) kc_cX10_init_4 (by decide +kernel)
theorem dX10_init_146 : decode cX10_init 146 = .ok (.bipush 7, 2) := dw16 (n := 128) (i := 18) (a := 7) kc_cX10_init_4 (by decide +kernel) (by decide)
theorem dX10_init_148 : decode cX10_init 148 = .ok (.newarray .int, 2) := by decide +kernel
theorem dX10_init_150 : decode cX10_init 150 = .ok (.putfield 86, 3) := dw181 (n := 128) (i := 22) (a := 0) (b := 86) kc_cX10_init_4 (by decide +kernel) (by decide)
theorem dX10_init_153 : decode cX10_init 153 = .ok (.return_, 1) := dw177 (n := 128) (i := 25) kc_cX10_init_4 (by decide +kernel)
def w_house (cs : Nat → ClassId) (h : Nat) (a r r2 : Nat → Nat → Nat) (t : Nat) : va_W := (h, .inr (10, [.ref (a 0 0), .ref (a 1 0), .ref (a 2 0), .ref (a 3 0), .ref (a 4 0), .ref (a 5 0), .ref (a 6 0), .ref (a 7 0), .ref (a 8 0), .ref (a 9 0), .int (-9), .int 0, .ref t])) :: (w_cand cs (a 0) (r 0) (r2 0) 0 0 ++ (w_ball cs (a 1) (r 1) (r2 1) 0 0 ++ (w_box cs (a 2) (r 2) (r2 2) 0 0 ++ (w_meth cs (a 3) (r 3) (r2 3) 0 0 ++ (w_poll cs (a 4) (r 4) (r2 4) (a 0 0) (a 1 0) ++ (w_plain cs (a 5) (r 5) (r2 5) (a 4 0) 0 ++ (w_ways cs (a 6) (r 6) (r2 6) (a 4 0) 0 ++ (w_trans cs (a 7) (r 7) (r2 7) (a 4 0) 0 ++ (w_res cs (a 8) (r 8) (r2 8) 0 0 ++ (w_res cs (a 9) (r 9) (r2 9) 0 0 ++ [(t, .inl (cs 0, 7, .inl (fun _ => 0)))]))))))))))
set_option maxHeartbeats 2000000 in
set_option maxRecDepth 100000 in
theorem k_X10 (l : Launch) (D : va_G) (cs : Nat → ClassId) (h : Nat) (sz : Nat) : Kc l yX10_init wsX10_init ({ frames := 3, cells := 257, slots := 3356, locals := 53 }) D cs h [] (.inr (10, [.null, .null, .null, .null, .null, .null, .null, .null, .null, .null, .int 0, .int 0, .null])) sz 257 3356 (fun u => ∃ (a r r2 : Nat → Nat → Nat) (t : Nat), u = w_house cs h a r r2 t) := by
  refine enterI RX10 rfl rfl [(0, .ref h)] rfl (Nat.le_of_ble_eq_true rfl) (by decide +kernel) rfl ?_
  intro p e s m below meth c C hr hini
  refine i_aload_n C 0 dX10_init_0 rfl ?_
  refine i_objInit C (List.mem_of_getElem? (i := 1) rfl) (List.mem_of_getElem? (i := 2) rfl) (List.mem_of_getElem? (i := 3) rfl) dX10_init_1 (Nat.le_of_ble_eq_true rfl) (Nat.le_of_ble_eq_true rfl) ?_
  refine i_aload_n C 0 dX10_init_4 rfl ?_
  refine i_new C (ci := 2) (fs := [.int 0, .null]) in_X10_init_2 tyX2 tyX2_ok (List.mem_of_getElem? (i := 4) rfl) (List.mem_of_getElem? (i := 5) rfl) (List.mem_of_getElem? (i := 6) rfl) rfl (by intro j hj; rcases (show j = 0 ∨ j = 1 by omega) with rfl | rfl <;> rfl) (Nat.le_of_ble_eq_true rfl) (Nat.le_of_ble_eq_true rfl) dX10_init_5 (fun q1 => ?_)
  refine i_dup C dX10_init_8 rfl ?_
  refine i_callN C (n := 0) (As := []) (st := [.ref q1, .ref h]) (fun sz => k_X2 l D cs q1  sz) gX10_init_X2_init_n9 rfl rfl rfl C.2.2.2.2.2.2.2.1.2.1 (C.2.2.2.2.1 _ (List.mem_of_getElem? (i := 6) rfl)) (List.mem_of_getElem? (i := 45) rfl) rfl (by decide +kernel) ⟨Nat.le_of_ble_eq_true rfl, Nat.le_of_ble_eq_true rfl⟩ rfl (Nat.le_of_ble_eq_true rfl) ⟨Nat.le_of_ble_eq_true rfl, Nat.le_of_ble_eq_true rfl⟩ rfl dX10_init_9 (fun u2 hu2 => ?_)
  refine i_putF C 0 in_X10_init_10 (List.mem_of_getElem? (i := 7) rfl) rfl (by decide) rfl tyX10 tyX10_ok nmX10 rfl rfl hini rfl rfl rfl (Nat.le_of_ble_eq_true rfl) dX10_init_12 ?_
  refine i_fs [.ref q1, .null, .null, .null, .null, .null, .null, .null, .null, .null, .int 0, .int 0, .null] rfl ?_
  refine i_aload_n C 0 dX10_init_15 rfl ?_
  refine i_new C (ci := 0) (fs := [.int 0, .null, .null, .null, .null]) in_X10_init_0 tyX0 tyX0_ok (List.mem_of_getElem? (i := 8) rfl) (List.mem_of_getElem? (i := 9) rfl) (List.mem_of_getElem? (i := 10) rfl) rfl (by intro j hj; rcases (show j = 0 ∨ j = 1 ∨ j = 2 ∨ j = 3 ∨ j = 4 by omega) with rfl | rfl | rfl | rfl | rfl <;> rfl) (Nat.le_of_ble_eq_true rfl) (Nat.le_of_ble_eq_true rfl) dX10_init_16 (fun q3 => ?_)
  refine i_dup C dX10_init_19 rfl ?_
  refine i_callN C (n := 0) (As := []) (st := [.ref q3, .ref h]) (fun sz => k_X0 l D cs q3  sz) gX10_init_X0_init_n18 rfl rfl rfl C.2.2.2.2.2.2.2.1.2.2.1 (C.2.2.2.2.1 _ (List.mem_of_getElem? (i := 10) rfl)) (List.mem_of_getElem? (i := 50) rfl) rfl (by decide +kernel) ⟨Nat.le_of_ble_eq_true rfl, Nat.le_of_ble_eq_true rfl⟩ rfl (Nat.le_of_ble_eq_true rfl) ⟨Nat.le_of_ble_eq_true rfl, Nat.le_of_ble_eq_true rfl⟩ rfl dX10_init_20 (fun u4 hu4 => ?_)
  refine i_putF C 1 in_X10_init_10 (List.mem_of_getElem? (i := 11) rfl) rfl (by decide) rfl tyX10 tyX10_ok nmX10 rfl rfl hini rfl rfl rfl (Nat.le_of_ble_eq_true rfl) dX10_init_23 ?_
  refine i_fs [.ref q1, .ref q3, .null, .null, .null, .null, .null, .null, .null, .null, .int 0, .int 0, .null] rfl ?_
  refine i_aload_n C 0 dX10_init_26 rfl ?_
  refine i_new C (ci := 1) (fs := [.int 0, .null, .null, .null, .null]) in_X10_init_1 tyX1 tyX1_ok (List.mem_of_getElem? (i := 12) rfl) (List.mem_of_getElem? (i := 13) rfl) (List.mem_of_getElem? (i := 14) rfl) rfl (by intro j hj; rcases (show j = 0 ∨ j = 1 ∨ j = 2 ∨ j = 3 ∨ j = 4 by omega) with rfl | rfl | rfl | rfl | rfl <;> rfl) (Nat.le_of_ble_eq_true rfl) (Nat.le_of_ble_eq_true rfl) dX10_init_27 (fun q5 => ?_)
  refine i_dup C dX10_init_30 rfl ?_
  refine i_callN C (n := 0) (As := []) (st := [.ref q5, .ref h]) (fun sz => k_X1 l D cs q5  sz) gX10_init_X1_init_n25 rfl rfl rfl C.2.2.2.2.2.2.2.1.2.2.2.1 (C.2.2.2.2.1 _ (List.mem_of_getElem? (i := 14) rfl)) (List.mem_of_getElem? (i := 59) rfl) rfl (by decide +kernel) ⟨Nat.le_of_ble_eq_true rfl, Nat.le_of_ble_eq_true rfl⟩ rfl (Nat.le_of_ble_eq_true rfl) ⟨Nat.le_of_ble_eq_true rfl, Nat.le_of_ble_eq_true rfl⟩ rfl dX10_init_31 (fun u6 hu6 => ?_)
  refine i_putF C 2 in_X10_init_10 (List.mem_of_getElem? (i := 15) rfl) rfl (by decide) rfl tyX10 tyX10_ok nmX10 rfl rfl hini rfl rfl rfl (Nat.le_of_ble_eq_true rfl) dX10_init_34 ?_
  refine i_fs [.ref q1, .ref q3, .ref q5, .null, .null, .null, .null, .null, .null, .null, .int 0, .int 0, .null] rfl ?_
  refine i_aload_n C 0 dX10_init_37 rfl ?_
  refine i_new C (ci := 4) (fs := [.int 0, .null, .null, .null, .null, .null, .null]) in_X10_init_4 tyX4 tyX4_ok (List.mem_of_getElem? (i := 16) rfl) (List.mem_of_getElem? (i := 17) rfl) (List.mem_of_getElem? (i := 18) rfl) rfl (by intro j hj; rcases (show j = 0 ∨ j = 1 ∨ j = 2 ∨ j = 3 ∨ j = 4 ∨ j = 5 ∨ j = 6 by omega) with rfl | rfl | rfl | rfl | rfl | rfl | rfl <;> rfl) (Nat.le_of_ble_eq_true rfl) (Nat.le_of_ble_eq_true rfl) dX10_init_38 (fun q7 => ?_)
  refine i_dup C dX10_init_41 rfl ?_
  refine i_callN C (n := 0) (As := []) (st := [.ref q7, .ref h]) (fun sz => k_X4 l D cs q7  sz) gX10_init_X4_init_n32 rfl rfl rfl C.2.2.2.2.2.2.2.1.2.2.2.2.1 (C.2.2.2.2.1 _ (List.mem_of_getElem? (i := 18) rfl)) (List.mem_of_getElem? (i := 68) rfl) rfl (by decide +kernel) ⟨Nat.le_of_ble_eq_true rfl, Nat.le_of_ble_eq_true rfl⟩ rfl (Nat.le_of_ble_eq_true rfl) ⟨Nat.le_of_ble_eq_true rfl, Nat.le_of_ble_eq_true rfl⟩ rfl dX10_init_42 (fun u8 hu8 => ?_)
  refine i_putF C 3 in_X10_init_10 (List.mem_of_getElem? (i := 19) rfl) rfl (by decide) rfl tyX10 tyX10_ok nmX10 rfl rfl hini rfl rfl rfl (Nat.le_of_ble_eq_true rfl) dX10_init_45 ?_
  refine i_fs [.ref q1, .ref q3, .ref q5, .ref q7, .null, .null, .null, .null, .null, .null, .int 0, .int 0, .null] rfl ?_
  refine i_aload_n C 0 dX10_init_48 rfl ?_
  refine i_new C (ci := 6) (fs := [.null, .null, .null, .int 0, .int 0, .null, .null, .null]) in_X10_init_6 tyX6 tyX6_ok (List.mem_of_getElem? (i := 20) rfl) (List.mem_of_getElem? (i := 21) rfl) (List.mem_of_getElem? (i := 22) rfl) rfl (by intro j hj; rcases (show j = 0 ∨ j = 1 ∨ j = 2 ∨ j = 3 ∨ j = 4 ∨ j = 5 ∨ j = 6 ∨ j = 7 by omega) with rfl | rfl | rfl | rfl | rfl | rfl | rfl | rfl <;> rfl) (Nat.le_of_ble_eq_true rfl) (Nat.le_of_ble_eq_true rfl) dX10_init_49 (fun q9 => ?_)
  refine i_dup C dX10_init_52 rfl ?_
  refine i_aload_n C 0 dX10_init_53 rfl ?_
  refine i_get C (.ref q1) 1 0 in_X10_init_10 (List.mem_of_getElem? (i := 7) rfl) rfl (by decide) rfl rfl rfl dX10_init_54 ?_
  refine i_aload_n C 0 dX10_init_57 rfl ?_
  refine i_get C (.ref q3) 1 1 in_X10_init_10 (List.mem_of_getElem? (i := 11) rfl) rfl (by decide) rfl rfl rfl dX10_init_58 ?_
  refine i_callP C (n := 2) (As := [.ref q1, .ref q3]) (st := [.ref q9, .ref h]) (fun sz => k_X6 l D cs q9 q1 q3 sz) gX10_init_X6_init rfl rfl rfl (List.mem_of_getElem? (i := 78) rfl) (C.2.2.2.2.1 _ (List.mem_of_getElem? (i := 22) rfl)) (List.mem_of_getElem? (i := 79) rfl) rfl (by decide +kernel) ⟨Nat.le_of_ble_eq_true rfl, Nat.le_of_ble_eq_true rfl⟩ rfl (Nat.le_of_ble_eq_true rfl) ⟨Nat.le_of_ble_eq_true rfl, Nat.le_of_ble_eq_true rfl⟩ rfl dX10_init_61 (fun u10 hu10 => ?_)
  refine i_putF C 4 in_X10_init_10 (List.mem_of_getElem? (i := 23) rfl) rfl (by decide) rfl tyX10 tyX10_ok nmX10 rfl rfl hini rfl rfl rfl (Nat.le_of_ble_eq_true rfl) dX10_init_64 ?_
  refine i_fs [.ref q1, .ref q3, .ref q5, .ref q7, .ref q9, .null, .null, .null, .null, .null, .int 0, .int 0, .null] rfl ?_
  refine i_aload_n C 0 dX10_init_67 rfl ?_
  refine i_new C (ci := 5) (fs := [.null, .null, .null]) in_X10_init_5 tyX5 tyX5_ok (List.mem_of_getElem? (i := 24) rfl) (List.mem_of_getElem? (i := 25) rfl) (List.mem_of_getElem? (i := 26) rfl) rfl (by intro j hj; rcases (show j = 0 ∨ j = 1 ∨ j = 2 by omega) with rfl | rfl | rfl <;> rfl) (Nat.le_of_ble_eq_true rfl) (Nat.le_of_ble_eq_true rfl) dX10_init_68 (fun q11 => ?_)
  refine i_dup C dX10_init_71 rfl ?_
  refine i_aload_n C 0 dX10_init_72 rfl ?_
  refine i_get C (.ref q9) 1 4 in_X10_init_10 (List.mem_of_getElem? (i := 23) rfl) rfl (by decide) rfl rfl rfl dX10_init_73 ?_
  refine i_callP C (n := 1) (As := [.ref q9]) (st := [.ref q11, .ref h]) (fun sz => k_X5 l D cs q11 q9 sz) gX10_init_X5_init rfl rfl rfl (List.mem_of_getElem? (i := 92) rfl) (C.2.2.2.2.1 _ (List.mem_of_getElem? (i := 26) rfl)) (List.mem_of_getElem? (i := 93) rfl) rfl (by decide +kernel) ⟨Nat.le_of_ble_eq_true rfl, Nat.le_of_ble_eq_true rfl⟩ rfl (Nat.le_of_ble_eq_true rfl) ⟨Nat.le_of_ble_eq_true rfl, Nat.le_of_ble_eq_true rfl⟩ rfl dX10_init_76 (fun u12 hu12 => ?_)
  refine i_putF C 5 in_X10_init_10 (List.mem_of_getElem? (i := 27) rfl) rfl (by decide) rfl tyX10 tyX10_ok nmX10 rfl rfl hini rfl rfl rfl (Nat.le_of_ble_eq_true rfl) dX10_init_79 ?_
  refine i_fs [.ref q1, .ref q3, .ref q5, .ref q7, .ref q9, .ref q11, .null, .null, .null, .null, .int 0, .int 0, .null] rfl ?_
  refine i_aload_n C 0 dX10_init_82 rfl ?_
  refine i_new C (ci := 9) (fs := [.null, .null, .null, .null]) in_X10_init_9 tyX9 tyX9_ok (List.mem_of_getElem? (i := 28) rfl) (List.mem_of_getElem? (i := 29) rfl) (List.mem_of_getElem? (i := 30) rfl) rfl (by intro j hj; rcases (show j = 0 ∨ j = 1 ∨ j = 2 ∨ j = 3 by omega) with rfl | rfl | rfl | rfl <;> rfl) (Nat.le_of_ble_eq_true rfl) (Nat.le_of_ble_eq_true rfl) dX10_init_83 (fun q13 => ?_)
  refine i_dup C dX10_init_86 rfl ?_
  refine i_aload_n C 0 dX10_init_87 rfl ?_
  refine i_get C (.ref q9) 1 4 in_X10_init_10 (List.mem_of_getElem? (i := 23) rfl) rfl (by decide) rfl rfl rfl dX10_init_88 ?_
  refine i_callP C (n := 1) (As := [.ref q9]) (st := [.ref q13, .ref h]) (fun sz => k_X9 l D cs q13 q9 sz) gX10_init_X9_init rfl rfl rfl (List.mem_of_getElem? (i := 99) rfl) (C.2.2.2.2.1 _ (List.mem_of_getElem? (i := 30) rfl)) (List.mem_of_getElem? (i := 100) rfl) rfl (by decide +kernel) ⟨Nat.le_of_ble_eq_true rfl, Nat.le_of_ble_eq_true rfl⟩ rfl (Nat.le_of_ble_eq_true rfl) ⟨Nat.le_of_ble_eq_true rfl, Nat.le_of_ble_eq_true rfl⟩ rfl dX10_init_91 (fun u14 hu14 => ?_)
  refine i_putF C 6 in_X10_init_10 (List.mem_of_getElem? (i := 31) rfl) rfl (by decide) rfl tyX10 tyX10_ok nmX10 rfl rfl hini rfl rfl rfl (Nat.le_of_ble_eq_true rfl) dX10_init_94 ?_
  refine i_fs [.ref q1, .ref q3, .ref q5, .ref q7, .ref q9, .ref q11, .ref q13, .null, .null, .null, .int 0, .int 0, .null] rfl ?_
  refine i_aload_n C 0 dX10_init_97 rfl ?_
  refine i_new C (ci := 8) (fs := [.null, .null, .null, .null, .null]) in_X10_init_8 tyX8 tyX8_ok (List.mem_of_getElem? (i := 32) rfl) (List.mem_of_getElem? (i := 33) rfl) (List.mem_of_getElem? (i := 34) rfl) rfl (by intro j hj; rcases (show j = 0 ∨ j = 1 ∨ j = 2 ∨ j = 3 ∨ j = 4 by omega) with rfl | rfl | rfl | rfl | rfl <;> rfl) (Nat.le_of_ble_eq_true rfl) (Nat.le_of_ble_eq_true rfl) dX10_init_98 (fun q15 => ?_)
  refine i_dup C dX10_init_101 rfl ?_
  refine i_aload_n C 0 dX10_init_102 rfl ?_
  refine i_get C (.ref q9) 1 4 in_X10_init_10 (List.mem_of_getElem? (i := 23) rfl) rfl (by decide) rfl rfl rfl dX10_init_103 ?_
  refine i_callP C (n := 1) (As := [.ref q9]) (st := [.ref q15, .ref h]) (fun sz => k_X8 l D cs q15 q9 sz) gX10_init_X8_init rfl rfl rfl (List.mem_of_getElem? (i := 108) rfl) (C.2.2.2.2.1 _ (List.mem_of_getElem? (i := 34) rfl)) (List.mem_of_getElem? (i := 109) rfl) rfl (by decide +kernel) ⟨Nat.le_of_ble_eq_true rfl, Nat.le_of_ble_eq_true rfl⟩ rfl (Nat.le_of_ble_eq_true rfl) ⟨Nat.le_of_ble_eq_true rfl, Nat.le_of_ble_eq_true rfl⟩ rfl dX10_init_106 (fun u16 hu16 => ?_)
  refine i_putF C 7 in_X10_init_10 (List.mem_of_getElem? (i := 35) rfl) rfl (by decide) rfl tyX10 tyX10_ok nmX10 rfl rfl hini rfl rfl rfl (Nat.le_of_ble_eq_true rfl) dX10_init_109 ?_
  refine i_fs [.ref q1, .ref q3, .ref q5, .ref q7, .ref q9, .ref q11, .ref q13, .ref q15, .null, .null, .int 0, .int 0, .null] rfl ?_
  refine i_aload_n C 0 dX10_init_112 rfl ?_
  refine i_new C (ci := 7) (fs := [.int 0, .null, .int 0, .null, .null, .null, .null]) in_X10_init_7 tyX7 tyX7_ok (List.mem_of_getElem? (i := 36) rfl) (List.mem_of_getElem? (i := 37) rfl) (List.mem_of_getElem? (i := 38) rfl) rfl (by intro j hj; rcases (show j = 0 ∨ j = 1 ∨ j = 2 ∨ j = 3 ∨ j = 4 ∨ j = 5 ∨ j = 6 by omega) with rfl | rfl | rfl | rfl | rfl | rfl | rfl <;> rfl) (Nat.le_of_ble_eq_true rfl) (Nat.le_of_ble_eq_true rfl) dX10_init_113 (fun q17 => ?_)
  refine i_dup C dX10_init_116 rfl ?_
  refine i_callN C (n := 0) (As := []) (st := [.ref q17, .ref h]) (fun sz => k_X7 l D cs q17  sz) gX10_init_X7_init_n71 rfl rfl rfl C.2.2.2.2.2.2.2.1.2.2.2.2.2.1 (C.2.2.2.2.1 _ (List.mem_of_getElem? (i := 38) rfl)) (List.mem_of_getElem? (i := 125) rfl) rfl (by decide +kernel) ⟨Nat.le_of_ble_eq_true rfl, Nat.le_of_ble_eq_true rfl⟩ rfl (Nat.le_of_ble_eq_true rfl) ⟨Nat.le_of_ble_eq_true rfl, Nat.le_of_ble_eq_true rfl⟩ rfl dX10_init_117 (fun u18 hu18 => ?_)
  refine i_put C 8 in_X10_init_10 (List.mem_of_getElem? (i := 39) rfl) rfl (by decide) rfl tyX10 tyX10_ok nmX10 rfl rfl rfl rfl (Nat.le_of_ble_eq_true rfl) dX10_init_120 ?_
  refine i_fs [.ref q1, .ref q3, .ref q5, .ref q7, .ref q9, .ref q11, .ref q13, .ref q15, .ref q17, .null, .int 0, .int 0, .null] rfl ?_
  refine i_aload_n C 0 dX10_init_123 rfl ?_
  refine i_new C (ci := 7) (fs := [.int 0, .null, .int 0, .null, .null, .null, .null]) in_X10_init_7 tyX7 tyX7_ok (List.mem_of_getElem? (i := 36) rfl) (List.mem_of_getElem? (i := 37) rfl) (List.mem_of_getElem? (i := 38) rfl) rfl (by intro j hj; rcases (show j = 0 ∨ j = 1 ∨ j = 2 ∨ j = 3 ∨ j = 4 ∨ j = 5 ∨ j = 6 by omega) with rfl | rfl | rfl | rfl | rfl | rfl | rfl <;> rfl) (Nat.le_of_ble_eq_true rfl) (Nat.le_of_ble_eq_true rfl) dX10_init_124 (fun q19 => ?_)
  refine i_dup C dX10_init_127 rfl ?_
  refine i_callN C (n := 0) (As := []) (st := [.ref q19, .ref h]) (fun sz => k_X7 l D cs q19  sz) gX10_init_X7_init_n71 rfl rfl rfl C.2.2.2.2.2.2.2.1.2.2.2.2.2.1 (C.2.2.2.2.1 _ (List.mem_of_getElem? (i := 38) rfl)) (List.mem_of_getElem? (i := 125) rfl) rfl (by decide +kernel) ⟨Nat.le_of_ble_eq_true rfl, Nat.le_of_ble_eq_true rfl⟩ rfl (Nat.le_of_ble_eq_true rfl) ⟨Nat.le_of_ble_eq_true rfl, Nat.le_of_ble_eq_true rfl⟩ rfl dX10_init_128 (fun u20 hu20 => ?_)
  refine i_put C 9 in_X10_init_10 (List.mem_of_getElem? (i := 40) rfl) rfl (by decide) rfl tyX10 tyX10_ok nmX10 rfl rfl rfl rfl (Nat.le_of_ble_eq_true rfl) dX10_init_131 ?_
  refine i_fs [.ref q1, .ref q3, .ref q5, .ref q7, .ref q9, .ref q11, .ref q13, .ref q15, .ref q17, .ref q19, .int 0, .int 0, .null] rfl ?_
  refine i_aload_n C 0 dX10_init_134 rfl ?_
  refine i_bipush C (-9) dX10_init_135 (by decide) ?_
  refine i_put C 10 in_X10_init_10 (List.mem_of_getElem? (i := 41) rfl) rfl (by decide) rfl tyX10 tyX10_ok nmX10 rfl rfl rfl rfl (Nat.le_of_ble_eq_true rfl) dX10_init_137 ?_
  refine i_fs [.ref q1, .ref q3, .ref q5, .ref q7, .ref q9, .ref q11, .ref q13, .ref q15, .ref q17, .ref q19, .int ((-9)), .int 0, .null] rfl ?_
  refine i_aload_n C 0 dX10_init_140 rfl ?_
  refine i_iconst C 0 dX10_init_141 (by decide) ?_
  refine i_put C 11 in_X10_init_10 (List.mem_of_getElem? (i := 42) rfl) rfl (by decide) rfl tyX10 tyX10_ok nmX10 rfl rfl rfl rfl (Nat.le_of_ble_eq_true rfl) dX10_init_142 ?_
  refine i_fs [.ref q1, .ref q3, .ref q5, .ref q7, .ref q9, .ref q11, .ref q13, .ref q15, .ref q17, .ref q19, .int ((-9)), .int 0, .null] rfl ?_
  refine i_aload_n C 0 dX10_init_145 rfl ?_
  refine i_bipush C 7 dX10_init_146 (by decide) ?_
  refine i_newa C (atype := .int) (ty := .int) (N9 := 7) (t := 0) (a0 := (7, .inl (fun _ => 0))) (List.mem_of_getElem? (i := 43) rfl) rfl rfl (fun _ => rfl) (fun _ => rfl) (by decide) (by decide) (Nat.le_of_ble_eq_true rfl) (Nat.le_of_ble_eq_true rfl) (Nat.le_of_ble_eq_true rfl) dX10_init_148 (fun q21 => ?_)
  refine i_widen 257 3356 (Nat.le_of_ble_eq_true rfl) (Nat.le_of_ble_eq_true rfl) ?_
  refine i_putF C 12 in_X10_init_10 (List.mem_of_getElem? (i := 44) rfl) rfl (by decide) rfl tyX10 tyX10_ok nmX10 rfl rfl hini rfl rfl rfl (Nat.le_of_ble_eq_true rfl) dX10_init_150 ?_
  refine i_fs [.ref q1, .ref q3, .ref q5, .ref q7, .ref q9, .ref q11, .ref q13, .ref q15, .ref q17, .ref q19, .int ((-9)), .int 0, .ref q21] rfl ?_
  refine i_widen 257 3356 (Nat.le_of_ble_eq_true rfl) (Nat.le_of_ble_eq_true rfl) ?_
  obtain ⟨au2, bu2, cu2, eu2, rfl⟩ := hu2
  obtain ⟨au4, bu4, cu4, eu4, rfl⟩ := hu4
  obtain ⟨au6, bu6, cu6, eu6, rfl⟩ := hu6
  obtain ⟨au8, bu8, cu8, eu8, rfl⟩ := hu8
  obtain ⟨au10, bu10, cu10, eu10, rfl⟩ := hu10
  obtain ⟨au12, bu12, cu12, eu12, rfl⟩ := hu12
  obtain ⟨au14, bu14, cu14, eu14, rfl⟩ := hu14
  obtain ⟨au16, bu16, cu16, eu16, rfl⟩ := hu16
  obtain ⟨au18, bu18, cu18, eu18, rfl⟩ := hu18
  obtain ⟨au20, bu20, cu20, eu20, rfl⟩ := hu20
  subst eu2
  subst eu4
  subst eu6
  subst eu8
  subst eu10
  subst eu12
  subst eu14
  subst eu16
  subst eu18
  subst eu20
  exact i_vret C hr ⟨fun i => ([au2, au4, au6, au8, au10, au12, au14, au16, au18, au20] : List (Nat → Nat)).getD i (fun _ => 0), fun i => ([bu2, bu4, bu6, bu8, bu10, bu12, bu14, bu16, bu18, bu20] : List (Nat → Nat)).getD i (fun _ => 0), fun i => ([cu2, cu4, cu6, cu8, cu10, cu12, cu14, cu16, cu18, cu20] : List (Nat → Nat)).getD i (fun _ => 0), q21, by simp only [w_house, List.append_eq, List.nil_append, List.cons_append, List.append_assoc, List.getD_cons_zero, List.getD_cons_succ]⟩ dX10_init_153
