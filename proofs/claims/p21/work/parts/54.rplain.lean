theorem dX11_countByTallies_0 : decode cX11_countByTallies 0 = .ok (.iconst 0, 1) := by decide +kernel
theorem dX11_countByTallies_1 : decode cX11_countByTallies 1 = .ok (.istore_n 1, 1) := by decide +kernel
theorem dX11_countByTallies_2 : decode cX11_countByTallies 2 = .ok (.iload_n 1, 1) := by decide +kernel
theorem dX11_countByTallies_3 : decode cX11_countByTallies 3 = .ok (.aload_n 0, 1) := by decide +kernel
theorem dX11_countByTallies_4 : decode cX11_countByTallies 4 = .ok (.getfield 231, 3) := by decide +kernel
theorem in_X11_countByTallies_11 : ∀ w ∈ u_ws RX11 TX11 53, w ∈ wsX11_countByTallies := fun _ h => List.mem_cons_of_mem _ (List.mem_append_right _ h)
theorem dX11_countByTallies_7 : decode cX11_countByTallies 7 = .ok (.if_icmp .ge 32, 3) := by decide +kernel
theorem dX11_countByTallies_39 : decode cX11_countByTallies 39 = .ok (.return_, 1) := by decide +kernel
theorem dX11_countByTallies_10 : decode cX11_countByTallies 10 = .ok (.aload_n 0, 1) := by decide +kernel
theorem dX11_countByTallies_11 : decode cX11_countByTallies 11 = .ok (.invokevirtual 234, 3) := by decide +kernel
set_option maxRecDepth 20000 in
theorem ggX11_countByTallies_X11_greatest : GoodIn wsX11_countByTallies wsX11_greatest := (gk_code 7 rfl (gk_fieldLink 8 rfl (gk_fieldLink 9 rfl (gk_fieldLink 2 rfl (gk_fieldLink 10 rfl (gk_fieldLink 11 rfl (gk_methodLink 12 rfl (gk_static 13 rfl (gk_initialized 6 rfl (gk_code 14 rfl (gk_lays 30 rfl (gk_laysFinal 31 rfl (gk_lays 32 rfl (gk_laysFinal 33 rfl (gk_lays 34 rfl (gk_laysFinal 35 rfl (gk_laysFinal 36 rfl (gk_laysFinal 37 rfl (gk_laysFinal 38 rfl (gk_lays 39 rfl (gk_laysFinal 40 rfl (gk_laysFinal 41 rfl (gk_laysFinal 42 rfl (gk_laysFinal 43 rfl (gk_lays 44 rfl (gk_laysFinal 45 rfl (gk_laysFinal 46 rfl (gk_laysFinal 47 rfl (gk_laysFinal 48 rfl (gk_laysFinal 49 rfl (gk_laysFinal 50 rfl (gk_laysFinal 51 rfl (gk_laysFinal 52 rfl (gk_lays 53 rfl (gk_lays 54 rfl (gk_lays 55 rfl (gk_lays 56 rfl (gk_lays 57 rfl (gk_lays 58 rfl (gk_lays 59 rfl (gk_laysFinal 60 rfl (gk_lays 61 rfl (gk_laysFinal 62 rfl (gk_laysFinal 63 rfl (gk_laysFinal 64 rfl (gk_laysFinal 65 rfl (gk_laysFinal 66 rfl (gk_laysFinal 67 rfl (gk_laysFinal 68 rfl (gk_laysFinal 69 rfl (gk_laysFinal 70 rfl (gk_laysFinal 71 rfl (gk_lays 72 rfl (gk_laysFinal 73 rfl (gk_lays 74 rfl (gk_laysFinal 75 rfl (gk_laysFinal 76 rfl (gk_laysFinal 77 rfl (gk_laysFinal 78 rfl (gk_laysFinal 79 rfl (gk_laysFinal 80 rfl (gk_laysFinal 81 rfl (gk_laysFinal 82 rfl (gn))))))))))))))))))))))))))))))))))))))))))))))))))))))))))))))))
set_option maxRecDepth 20000 in
theorem gX11_countByTallies_X11_greatest : GoodIn wsX11_countByTallies (wsV RX11 234 RX11 yX11_greatest wsX11_greatest) := goodIn_app (gk_methodLink 3 rfl (gk_instanceMethod 4 rfl (gk_selects 5 rfl (gk_initialized 6 rfl (gn))))) ggX11_countByTallies_X11_greatest
theorem dX11_countByTallies_14 : decode cX11_countByTallies 14 = .ok (.istore_n 2, 1) := by decide +kernel
theorem dX11_countByTallies_15 : decode cX11_countByTallies 15 = .ok (.aload_n 0, 1) := by decide +kernel
theorem dX11_countByTallies_16 : decode cX11_countByTallies 16 = .ok (.iconst 1, 1) := by decide +kernel
theorem dX11_countByTallies_17 : decode cX11_countByTallies 17 = .ok (.iload_n 2, 1) := by decide +kernel
theorem dX11_countByTallies_18 : decode cX11_countByTallies 18 = .ok (.invokevirtual 238, 3) := by decide +kernel
set_option maxRecDepth 20000 in
theorem ggX11_countByTallies_X11_happens : GoodIn wsX11_countByTallies wsX11_happens := (gk_code 18 rfl (gk_fieldLink 19 rfl (gk_fieldLink 20 rfl (gk_fieldLink 21 rfl (gk_fieldLink 22 rfl (gk_fieldLink 10 rfl (gk_fieldLink 23 rfl (gk_fieldLink 11 rfl (gk_lays 30 rfl (gk_laysFinal 31 rfl (gk_lays 32 rfl (gk_laysFinal 33 rfl (gk_lays 34 rfl (gk_laysFinal 35 rfl (gk_laysFinal 36 rfl (gk_laysFinal 37 rfl (gk_laysFinal 38 rfl (gk_lays 39 rfl (gk_laysFinal 40 rfl (gk_laysFinal 41 rfl (gk_laysFinal 42 rfl (gk_laysFinal 43 rfl (gk_lays 44 rfl (gk_laysFinal 45 rfl (gk_laysFinal 46 rfl (gk_laysFinal 47 rfl (gk_laysFinal 48 rfl (gk_laysFinal 49 rfl (gk_laysFinal 50 rfl (gk_laysFinal 51 rfl (gk_laysFinal 52 rfl (gk_lays 53 rfl (gk_lays 54 rfl (gk_lays 55 rfl (gk_lays 56 rfl (gk_lays 57 rfl (gk_lays 58 rfl (gk_lays 59 rfl (gk_laysFinal 60 rfl (gk_lays 61 rfl (gk_laysFinal 62 rfl (gk_laysFinal 63 rfl (gk_laysFinal 64 rfl (gk_laysFinal 65 rfl (gk_laysFinal 66 rfl (gk_laysFinal 67 rfl (gk_laysFinal 68 rfl (gk_laysFinal 69 rfl (gk_laysFinal 70 rfl (gk_laysFinal 71 rfl (gk_lays 72 rfl (gk_laysFinal 73 rfl (gk_lays 74 rfl (gk_laysFinal 75 rfl (gk_laysFinal 76 rfl (gk_laysFinal 77 rfl (gk_laysFinal 78 rfl (gk_laysFinal 79 rfl (gk_laysFinal 80 rfl (gk_laysFinal 81 rfl (gk_laysFinal 82 rfl (gn))))))))))))))))))))))))))))))))))))))))))))))))))))))))))))))
set_option maxRecDepth 20000 in
theorem gX11_countByTallies_X11_happens : GoodIn wsX11_countByTallies (wsV RX11 238 RX11 yX11_happens wsX11_happens) := goodIn_app (gk_methodLink 15 rfl (gk_instanceMethod 16 rfl (gk_selects 17 rfl (gk_initialized 6 rfl (gn))))) ggX11_countByTallies_X11_happens
theorem dX11_countByTallies_21 : decode cX11_countByTallies 21 = .ok (.aload_n 0, 1) := by decide +kernel
theorem dX11_countByTallies_22 : decode cX11_countByTallies 22 = .ok (.iload_n 2, 1) := by decide +kernel
theorem dX11_countByTallies_23 : decode cX11_countByTallies 23 = .ok (.invokevirtual 242, 3) := by decide +kernel
set_option maxRecDepth 20000 in
theorem ggX11_countByTallies_X11_gives : GoodIn wsX11_countByTallies wsX11_gives := (gk_code 27 rfl (gk_fieldLink 28 rfl (gk_fieldLink 29 rfl (gk_lays 30 rfl (gk_laysFinal 31 rfl (gk_lays 32 rfl (gk_laysFinal 33 rfl (gk_lays 34 rfl (gk_laysFinal 35 rfl (gk_laysFinal 36 rfl (gk_laysFinal 37 rfl (gk_laysFinal 38 rfl (gk_lays 39 rfl (gk_laysFinal 40 rfl (gk_laysFinal 41 rfl (gk_laysFinal 42 rfl (gk_laysFinal 43 rfl (gk_lays 44 rfl (gk_laysFinal 45 rfl (gk_laysFinal 46 rfl (gk_laysFinal 47 rfl (gk_laysFinal 48 rfl (gk_laysFinal 49 rfl (gk_laysFinal 50 rfl (gk_laysFinal 51 rfl (gk_laysFinal 52 rfl (gk_lays 53 rfl (gk_lays 54 rfl (gk_lays 55 rfl (gk_lays 56 rfl (gk_lays 57 rfl (gk_lays 58 rfl (gk_lays 59 rfl (gk_laysFinal 60 rfl (gk_lays 61 rfl (gk_laysFinal 62 rfl (gk_laysFinal 63 rfl (gk_laysFinal 64 rfl (gk_laysFinal 65 rfl (gk_laysFinal 66 rfl (gk_laysFinal 67 rfl (gk_laysFinal 68 rfl (gk_laysFinal 69 rfl (gk_laysFinal 70 rfl (gk_laysFinal 71 rfl (gk_lays 72 rfl (gk_laysFinal 73 rfl (gk_lays 74 rfl (gk_laysFinal 75 rfl (gk_laysFinal 76 rfl (gk_laysFinal 77 rfl (gk_laysFinal 78 rfl (gk_laysFinal 79 rfl (gk_laysFinal 80 rfl (gk_laysFinal 81 rfl (gk_laysFinal 82 rfl (gn)))))))))))))))))))))))))))))))))))))))))))))))))))))))))
set_option maxRecDepth 20000 in
theorem gX11_countByTallies_X11_gives : GoodIn wsX11_countByTallies (wsV RX11 242 RX11 yX11_gives wsX11_gives) := goodIn_app (gk_methodLink 24 rfl (gk_instanceMethod 25 rfl (gk_selects 26 rfl (gk_initialized 6 rfl (gn))))) ggX11_countByTallies_X11_gives
theorem dX11_countByTallies_26 : decode cX11_countByTallies 26 = .ok (.aload_n 0, 1) := by decide +kernel
theorem dX11_countByTallies_27 : decode cX11_countByTallies 27 = .ok (.getfield 81, 3) := by decide +kernel
theorem dX11_countByTallies_30 : decode cX11_countByTallies 30 = .ok (.iload_n 2, 1) := by decide +kernel
theorem dX11_countByTallies_31 : decode cX11_countByTallies 31 = .ok (.iconst 0, 1) := by decide +kernel
theorem dX11_countByTallies_32 : decode cX11_countByTallies 32 = .ok (.bastore, 1) := by decide +kernel
theorem dX11_countByTallies_33 : decode cX11_countByTallies 33 = .ok (.iinc 1 1, 3) := by decide +kernel
theorem dX11_countByTallies_36 : decode cX11_countByTallies 36 = .ok (.goto (-34), 3) := by decide +kernel
theorem dX11_countDivisors_0 : decode cX11_countDivisors 0 = .ok (.aload_n 0, 1) := by decide +kernel
theorem dX11_countDivisors_1 : decode cX11_countDivisors 1 = .ok (.invokevirtual 246, 3) := by decide +kernel
set_option maxRecDepth 20000 in
theorem ggX11_countDivisors_X11_tallyFirsts : GoodIn wsX11_countDivisors wsX11_tallyFirsts := (gk_code 10 rfl (gk_fieldLink 11 rfl (gk_fieldLink 12 rfl (gk_fieldLink 13 rfl (gk_fieldLink 14 rfl (gk_methodLink 15 rfl (gk_instanceMethod 16 rfl (gk_selects 17 rfl (gk_initialized 9 rfl (gk_code 18 rfl (gk_fieldLink 5 rfl (gk_fieldLink 19 rfl (gk_methodLink 20 rfl (gk_instanceMethod 21 rfl (gk_selects 22 rfl (gk_code 23 rfl (gk_fieldLink 24 rfl (gk_methodLink 25 rfl (gk_instanceMethod 26 rfl (gk_selects 27 rfl (gk_code 28 rfl (gk_fieldLink 29 rfl (gk_fieldLink 30 rfl (gk_fieldLink 31 rfl (gk_methodLink 32 rfl (gk_instanceMethod 33 rfl (gk_selects 34 rfl (gk_code 35 rfl (gk_fieldLink 36 rfl (gk_fieldLink 37 rfl (gk_methodLink 38 rfl (gk_instanceMethod 39 rfl (gk_selects 40 rfl (gk_code 41 rfl (gk_fieldLink 42 rfl (gk_constantLong 43 rfl (gk_methodLink 44 rfl (gk_static 45 rfl (gk_code 46 rfl (gk_lays 65 rfl (gk_laysFinal 66 rfl (gk_lays 67 rfl (gk_laysFinal 68 rfl (gk_lays 69 rfl (gk_laysFinal 70 rfl (gk_laysFinal 71 rfl (gk_laysFinal 72 rfl (gk_laysFinal 73 rfl (gk_lays 74 rfl (gk_laysFinal 75 rfl (gk_laysFinal 76 rfl (gk_laysFinal 77 rfl (gk_laysFinal 78 rfl (gk_lays 79 rfl (gk_laysFinal 80 rfl (gk_laysFinal 81 rfl (gk_laysFinal 82 rfl (gk_laysFinal 83 rfl (gk_laysFinal 84 rfl (gk_laysFinal 85 rfl (gk_laysFinal 86 rfl (gk_laysFinal 87 rfl (gk_lays 88 rfl (gk_lays 89 rfl (gk_lays 90 rfl (gk_lays 91 rfl (gk_lays 92 rfl (gk_lays 93 rfl (gk_lays 94 rfl (gk_laysFinal 95 rfl (gk_lays 96 rfl (gk_laysFinal 97 rfl (gk_laysFinal 98 rfl (gk_laysFinal 99 rfl (gk_laysFinal 100 rfl (gk_laysFinal 101 rfl (gk_laysFinal 102 rfl (gk_laysFinal 103 rfl (gk_laysFinal 104 rfl (gk_laysFinal 105 rfl (gk_laysFinal 106 rfl (gk_lays 107 rfl (gk_laysFinal 108 rfl (gk_lays 109 rfl (gk_laysFinal 110 rfl (gk_laysFinal 111 rfl (gk_laysFinal 112 rfl (gk_laysFinal 113 rfl (gk_laysFinal 114 rfl (gk_laysFinal 115 rfl (gk_laysFinal 116 rfl (gk_laysFinal 117 rfl (gn)))))))))))))))))))))))))))))))))))))))))))))))))))))))))))))))))))))))))))))))))))))))))))))
set_option maxRecDepth 20000 in
theorem gX11_countDivisors_X11_tallyFirsts : GoodIn wsX11_countDivisors (wsV RX11 246 RX11 yX11_tallyFirsts wsX11_tallyFirsts) := goodIn_app (gk_methodLink 6 rfl (gk_instanceMethod 7 rfl (gk_selects 8 rfl (gk_initialized 9 rfl (gn))))) ggX11_countDivisors_X11_tallyFirsts
theorem dX11_countDivisors_4 : decode cX11_countDivisors 4 = .ok (.iconst 0, 1) := by decide +kernel
theorem dX11_countDivisors_5 : decode cX11_countDivisors 5 = .ok (.istore_n 2, 1) := by decide +kernel
theorem dX11_countDivisors_6 : decode cX11_countDivisors 6 = .ok (.iload_n 2, 1) := by decide +kernel
theorem dX11_countDivisors_7 : decode cX11_countDivisors 7 = .ok (.bipush 10, 2) := by decide +kernel
theorem dX11_countDivisors_9 : decode cX11_countDivisors 9 = .ok (.if_icmp .ge 16, 3) := by decide +kernel
theorem dX11_countDivisors_25 : decode cX11_countDivisors 25 = .ok (.iconst 0, 1) := by decide +kernel
theorem dX11_countDivisors_26 : decode cX11_countDivisors 26 = .ok (.istore_n 2, 1) := by decide +kernel
theorem dX11_countDivisors_27 : decode cX11_countDivisors 27 = .ok (.iload_n 2, 1) := by decide +kernel
theorem dX11_countDivisors_28 : decode cX11_countDivisors 28 = .ok (.aload_n 0, 1) := by decide +kernel
theorem dX11_countDivisors_29 : decode cX11_countDivisors 29 = .ok (.getfield 231, 3) := by decide +kernel
theorem in_X11_countDivisors_11 : ∀ w ∈ u_ws RX11 TX11 53, w ∈ wsX11_countDivisors := fun _ h => List.mem_cons_of_mem _ (List.mem_append_right _ h)
theorem dX11_countDivisors_32 : decode cX11_countDivisors 32 = .ok (.if_icmp .ge 115, 3) := by decide +kernel
theorem dX11_countDivisors_147 : decode cX11_countDivisors 147 = .ok (.return_, 1) := by decide +kernel
theorem dX11_countDivisors_35 : decode cX11_countDivisors 35 = .ok (.bipush (-9), 2) := by decide +kernel
theorem dX11_countDivisors_37 : decode cX11_countDivisors 37 = .ok (.istore_n 3, 1) := by decide +kernel
theorem dX11_countDivisors_38 : decode cX11_countDivisors 38 = .ok (.iconst 0, 1) := by decide +kernel
theorem dX11_countDivisors_39 : decode cX11_countDivisors 39 = .ok (.istore 4, 2) := by decide +kernel
theorem dX11_countDivisors_41 : decode cX11_countDivisors 41 = .ok (.iload 4, 2) := by decide +kernel
theorem dX11_countDivisors_43 : decode cX11_countDivisors 43 = .ok (.aload_n 0, 1) := by decide +kernel
theorem dX11_countDivisors_44 : decode cX11_countDivisors 44 = .ok (.getfield 137, 3) := by decide +kernel
theorem dX11_countDivisors_47 : decode cX11_countDivisors 47 = .ok (.if_icmp .ge 73, 3) := by decide +kernel
theorem dX11_countDivisors_120 : decode cX11_countDivisors 120 = .ok (.aload_n 0, 1) := by decide +kernel
theorem dX11_countDivisors_121 : decode cX11_countDivisors 121 = .ok (.iconst 1, 1) := by decide +kernel
theorem dX11_countDivisors_122 : decode cX11_countDivisors 122 = .ok (.iload_n 3, 1) := by decide +kernel
theorem dX11_countDivisors_123 : decode cX11_countDivisors 123 = .ok (.invokevirtual 238, 3) := by decide +kernel
set_option maxRecDepth 20000 in
theorem ggX11_countDivisors_X11_happens : GoodIn wsX11_countDivisors wsX11_happens := (gk_code 53 rfl (gk_fieldLink 54 rfl (gk_fieldLink 55 rfl (gk_fieldLink 56 rfl (gk_fieldLink 57 rfl (gk_fieldLink 5 rfl (gk_fieldLink 58 rfl (gk_fieldLink 19 rfl (gk_lays 65 rfl (gk_laysFinal 66 rfl (gk_lays 67 rfl (gk_laysFinal 68 rfl (gk_lays 69 rfl (gk_laysFinal 70 rfl (gk_laysFinal 71 rfl (gk_laysFinal 72 rfl (gk_laysFinal 73 rfl (gk_lays 74 rfl (gk_laysFinal 75 rfl (gk_laysFinal 76 rfl (gk_laysFinal 77 rfl (gk_laysFinal 78 rfl (gk_lays 79 rfl (gk_laysFinal 80 rfl (gk_laysFinal 81 rfl (gk_laysFinal 82 rfl (gk_laysFinal 83 rfl (gk_laysFinal 84 rfl (gk_laysFinal 85 rfl (gk_laysFinal 86 rfl (gk_laysFinal 87 rfl (gk_lays 88 rfl (gk_lays 89 rfl (gk_lays 90 rfl (gk_lays 91 rfl (gk_lays 92 rfl (gk_lays 93 rfl (gk_lays 94 rfl (gk_laysFinal 95 rfl (gk_lays 96 rfl (gk_laysFinal 97 rfl (gk_laysFinal 98 rfl (gk_laysFinal 99 rfl (gk_laysFinal 100 rfl (gk_laysFinal 101 rfl (gk_laysFinal 102 rfl (gk_laysFinal 103 rfl (gk_laysFinal 104 rfl (gk_laysFinal 105 rfl (gk_laysFinal 106 rfl (gk_lays 107 rfl (gk_laysFinal 108 rfl (gk_lays 109 rfl (gk_laysFinal 110 rfl (gk_laysFinal 111 rfl (gk_laysFinal 112 rfl (gk_laysFinal 113 rfl (gk_laysFinal 114 rfl (gk_laysFinal 115 rfl (gk_laysFinal 116 rfl (gk_laysFinal 117 rfl (gn))))))))))))))))))))))))))))))))))))))))))))))))))))))))))))))
set_option maxRecDepth 20000 in
theorem gX11_countDivisors_X11_happens : GoodIn wsX11_countDivisors (wsV RX11 238 RX11 yX11_happens wsX11_happens) := goodIn_app (gk_methodLink 50 rfl (gk_instanceMethod 51 rfl (gk_selects 52 rfl (gk_initialized 9 rfl (gn))))) ggX11_countDivisors_X11_happens
theorem dX11_countDivisors_126 : decode cX11_countDivisors 126 = .ok (.aload_n 0, 1) := by decide +kernel
theorem dX11_countDivisors_127 : decode cX11_countDivisors 127 = .ok (.iload_n 3, 1) := by decide +kernel
theorem dX11_countDivisors_128 : decode cX11_countDivisors 128 = .ok (.invokevirtual 242, 3) := by decide +kernel
set_option maxRecDepth 20000 in
theorem ggX11_countDivisors_X11_gives : GoodIn wsX11_countDivisors wsX11_gives := (gk_code 62 rfl (gk_fieldLink 63 rfl (gk_fieldLink 64 rfl (gk_lays 65 rfl (gk_laysFinal 66 rfl (gk_lays 67 rfl (gk_laysFinal 68 rfl (gk_lays 69 rfl (gk_laysFinal 70 rfl (gk_laysFinal 71 rfl (gk_laysFinal 72 rfl (gk_laysFinal 73 rfl (gk_lays 74 rfl (gk_laysFinal 75 rfl (gk_laysFinal 76 rfl (gk_laysFinal 77 rfl (gk_laysFinal 78 rfl (gk_lays 79 rfl (gk_laysFinal 80 rfl (gk_laysFinal 81 rfl (gk_laysFinal 82 rfl (gk_laysFinal 83 rfl (gk_laysFinal 84 rfl (gk_laysFinal 85 rfl (gk_laysFinal 86 rfl (gk_laysFinal 87 rfl (gk_lays 88 rfl (gk_lays 89 rfl (gk_lays 90 rfl (gk_lays 91 rfl (gk_lays 92 rfl (gk_lays 93 rfl (gk_lays 94 rfl (gk_laysFinal 95 rfl (gk_lays 96 rfl (gk_laysFinal 97 rfl (gk_laysFinal 98 rfl (gk_laysFinal 99 rfl (gk_laysFinal 100 rfl (gk_laysFinal 101 rfl (gk_laysFinal 102 rfl (gk_laysFinal 103 rfl (gk_laysFinal 104 rfl (gk_laysFinal 105 rfl (gk_laysFinal 106 rfl (gk_lays 107 rfl (gk_laysFinal 108 rfl (gk_lays 109 rfl (gk_laysFinal 110 rfl (gk_laysFinal 111 rfl (gk_laysFinal 112 rfl (gk_laysFinal 113 rfl (gk_laysFinal 114 rfl (gk_laysFinal 115 rfl (gk_laysFinal 116 rfl (gk_laysFinal 117 rfl (gn)))))))))))))))))))))))))))))))))))))))))))))))))))))))))
set_option maxRecDepth 20000 in
theorem gX11_countDivisors_X11_gives : GoodIn wsX11_countDivisors (wsV RX11 242 RX11 yX11_gives wsX11_gives) := goodIn_app (gk_methodLink 59 rfl (gk_instanceMethod 60 rfl (gk_selects 61 rfl (gk_initialized 9 rfl (gn))))) ggX11_countDivisors_X11_gives
theorem dX11_countDivisors_131 : decode cX11_countDivisors 131 = .ok (.aload_n 0, 1) := by decide +kernel
theorem dX11_countDivisors_132 : decode cX11_countDivisors 132 = .ok (.getfield 114, 3) := by decide +kernel
theorem dX11_countDivisors_135 : decode cX11_countDivisors 135 = .ok (.iload_n 3, 1) := by decide +kernel
theorem dX11_countDivisors_136 : decode cX11_countDivisors 136 = .ok (.dup2, 1) := by decide +kernel
theorem dX11_countDivisors_137 : decode cX11_countDivisors 137 = .ok (.iaload, 1) := by decide +kernel
theorem dX11_countDivisors_138 : decode cX11_countDivisors 138 = .ok (.iconst 1, 1) := by decide +kernel
theorem dX11_countDivisors_139 : decode cX11_countDivisors 139 = .ok (.iadd, 1) := by decide +kernel
theorem dX11_countDivisors_140 : decode cX11_countDivisors 140 = .ok (.iastore, 1) := by decide +kernel
theorem dX11_countDivisors_141 : decode cX11_countDivisors 141 = .ok (.iinc 2 1, 3) := by decide +kernel
theorem dX11_countDivisors_144 : decode cX11_countDivisors 144 = .ok (.goto (-117), 3) := by decide +kernel
theorem dX11_countDivisors_50 : decode cX11_countDivisors 50 = .ok (.aload_n 0, 1) := by decide +kernel
theorem dX11_countDivisors_51 : decode cX11_countDivisors 51 = .ok (.getfield 13, 3) := by decide +kernel
theorem dX11_countDivisors_54 : decode cX11_countDivisors 54 = .ok (.iload 4, 2) := by decide +kernel
theorem dX11_countDivisors_56 : decode cX11_countDivisors 56 = .ok (.iaload, 1) := by decide +kernel
theorem dX11_countDivisors_57 : decode cX11_countDivisors 57 = .ok (.istore 5, 2) := by decide +kernel
theorem dX11_countDivisors_59 : decode cX11_countDivisors 59 = .ok (.iload_n 3, 1) := by decide +kernel
theorem dX11_countDivisors_60 : decode cX11_countDivisors 60 = .ok (.bipush (-9), 2) := by decide +kernel
theorem dX11_countDivisors_62 : decode cX11_countDivisors 62 = .ok (.if_icmp .eq 45, 3) := by decide +kernel
theorem dX11_countDivisors_107 : decode cX11_countDivisors 107 = .ok (.iload 5, 2) := by decide +kernel
theorem dX11_countDivisors_109 : decode cX11_countDivisors 109 = .ok (.goto 4, 3) := by decide +kernel
theorem dX11_countDivisors_113 : decode cX11_countDivisors 113 = .ok (.istore_n 3, 1) := by decide +kernel
theorem dX11_countDivisors_114 : decode cX11_countDivisors 114 = .ok (.iinc 4 1, 3) := by decide +kernel
theorem dX11_countDivisors_117 : decode cX11_countDivisors 117 = .ok (.goto (-76), 3) := by decide +kernel
theorem dX11_countDivisors_65 : decode cX11_countDivisors 65 = .ok (.aload_n 0, 1) := by decide +kernel
theorem dX11_countDivisors_66 : decode cX11_countDivisors 66 = .ok (.getfield 87, 3) := by decide +kernel
theorem dX11_countDivisors_69 : decode cX11_countDivisors 69 = .ok (.iload 5, 2) := by decide +kernel
theorem dX11_countDivisors_71 : decode cX11_countDivisors 71 = .ok (.laload, 1) := by decide +kernel
theorem dX11_countDivisors_72 : decode cX11_countDivisors 72 = .ok (.iconst 1, 1) := by decide +kernel
theorem dX11_countDivisors_73 : decode cX11_countDivisors 73 = .ok (.iload_n 1, 1) := by decide +kernel
theorem dX11_countDivisors_74 : decode cX11_countDivisors 74 = .ok (.aload_n 0, 1) := by decide +kernel
theorem dX11_countDivisors_75 : decode cX11_countDivisors 75 = .ok (.getfield 114, 3) := by decide +kernel
theorem dX11_countDivisors_78 : decode cX11_countDivisors 78 = .ok (.iload 5, 2) := by decide +kernel
theorem dX11_countDivisors_80 : decode cX11_countDivisors 80 = .ok (.iaload, 1) := by decide +kernel
theorem dX11_countDivisors_81 : decode cX11_countDivisors 81 = .ok (.imul, 1) := by decide +kernel
theorem dX11_countDivisors_82 : decode cX11_countDivisors 82 = .ok (.iadd, 1) := by decide +kernel
theorem dX11_countDivisors_83 : decode cX11_countDivisors 83 = .ok (.i2l, 1) := by decide +kernel
theorem dX11_countDivisors_84 : decode cX11_countDivisors 84 = .ok (.aload_n 0, 1) := by decide +kernel
theorem dX11_countDivisors_85 : decode cX11_countDivisors 85 = .ok (.getfield 87, 3) := by decide +kernel
theorem dX11_countDivisors_88 : decode cX11_countDivisors 88 = .ok (.iload_n 3, 1) := by decide +kernel
theorem dX11_countDivisors_89 : decode cX11_countDivisors 89 = .ok (.laload, 1) := by decide +kernel
theorem dX11_countDivisors_90 : decode cX11_countDivisors 90 = .ok (.iconst 1, 1) := by decide +kernel
theorem dX11_countDivisors_91 : decode cX11_countDivisors 91 = .ok (.iload_n 1, 1) := by decide +kernel
theorem dX11_countDivisors_92 : decode cX11_countDivisors 92 = .ok (.aload_n 0, 1) := by decide +kernel
theorem dX11_countDivisors_93 : decode cX11_countDivisors 93 = .ok (.getfield 114, 3) := by decide +kernel
theorem dX11_countDivisors_96 : decode cX11_countDivisors 96 = .ok (.iload_n 3, 1) := by decide +kernel
theorem dX11_countDivisors_97 : decode cX11_countDivisors 97 = .ok (.iaload, 1) := by decide +kernel
theorem dX11_countDivisors_98 : decode cX11_countDivisors 98 = .ok (.imul, 1) := by decide +kernel
theorem dX11_countDivisors_99 : decode cX11_countDivisors 99 = .ok (.iadd, 1) := by decide +kernel
theorem dX11_countDivisors_100 : decode cX11_countDivisors 100 = .ok (.i2l, 1) := by decide +kernel
theorem dX11_countDivisors_101 : decode cX11_countDivisors 101 = .ok (.invokestatic 227, 3) := by decide +kernel
set_option maxRecDepth 20000 in
theorem ggX11_countDivisors_X11_isMore : GoodIn wsX11_countDivisors wsX11_isMore := (gk_code 49 rfl (gn))
set_option maxRecDepth 20000 in
theorem gX11_countDivisors_X11_isMore : GoodIn wsX11_countDivisors (va_wsS RX11 227 yX11_isMore wsX11_isMore) := goodIn_app (gk_methodLink 47 rfl (gk_static 48 rfl (gk_initialized 9 rfl (gn)))) ggX11_countDivisors_X11_isMore
theorem dX11_countDivisors_104 : decode cX11_countDivisors 104 = .ok (.ifCond .eq 8, 3) := by decide +kernel
theorem dX11_countDivisors_112 : decode cX11_countDivisors 112 = .ok (.iload_n 3, 1) := by decide +kernel
theorem dX11_countDivisors_12 : decode cX11_countDivisors 12 = .ok (.aload_n 0, 1) := by decide +kernel
theorem dX11_countDivisors_13 : decode cX11_countDivisors 13 = .ok (.getfield 114, 3) := by decide +kernel
theorem dX11_countDivisors_16 : decode cX11_countDivisors 16 = .ok (.iload_n 2, 1) := by decide +kernel
theorem dX11_countDivisors_17 : decode cX11_countDivisors 17 = .ok (.iconst 0, 1) := by decide +kernel
theorem dX11_countDivisors_18 : decode cX11_countDivisors 18 = .ok (.iastore, 1) := by decide +kernel
theorem dX11_countDivisors_19 : decode cX11_countDivisors 19 = .ok (.iinc 2 1, 3) := by decide +kernel
theorem dX11_countDivisors_22 : decode cX11_countDivisors 22 = .ok (.goto (-16), 3) := by decide +kernel
theorem dX11_countRunOff_0 : decode cX11_countRunOff 0 = .ok (.iconst 0, 1) := by decide +kernel
theorem dX11_countRunOff_1 : decode cX11_countRunOff 1 = .ok (.istore_n 1, 1) := by decide +kernel
theorem dX11_countRunOff_2 : decode cX11_countRunOff 2 = .ok (.aload_n 0, 1) := by decide +kernel
theorem dX11_countRunOff_3 : decode cX11_countRunOff 3 = .ok (.invokevirtual 249, 3) := by decide +kernel
set_option maxRecDepth 20000 in
theorem ggX11_countRunOff_X11_inMany : GoodIn wsX11_countRunOff wsX11_inMany := (gk_code 9 rfl (gk_fieldLink 10 rfl (gk_fieldLink 1 rfl (gk_lays 77 rfl (gk_laysFinal 78 rfl (gk_lays 79 rfl (gk_laysFinal 80 rfl (gk_lays 81 rfl (gk_laysFinal 82 rfl (gk_laysFinal 83 rfl (gk_laysFinal 84 rfl (gk_laysFinal 85 rfl (gk_lays 86 rfl (gk_laysFinal 87 rfl (gk_laysFinal 88 rfl (gk_laysFinal 89 rfl (gk_laysFinal 90 rfl (gk_lays 91 rfl (gk_laysFinal 92 rfl (gk_laysFinal 93 rfl (gk_laysFinal 94 rfl (gk_laysFinal 95 rfl (gk_laysFinal 96 rfl (gk_laysFinal 97 rfl (gk_laysFinal 98 rfl (gk_laysFinal 99 rfl (gk_lays 100 rfl (gk_lays 101 rfl (gk_lays 102 rfl (gk_lays 103 rfl (gk_lays 104 rfl (gk_lays 105 rfl (gk_lays 106 rfl (gk_laysFinal 107 rfl (gk_lays 108 rfl (gk_laysFinal 109 rfl (gk_laysFinal 110 rfl (gk_laysFinal 111 rfl (gk_laysFinal 112 rfl (gk_laysFinal 113 rfl (gk_laysFinal 114 rfl (gk_laysFinal 115 rfl (gk_laysFinal 116 rfl (gk_laysFinal 117 rfl (gk_laysFinal 118 rfl (gk_lays 119 rfl (gk_laysFinal 120 rfl (gk_lays 121 rfl (gk_laysFinal 122 rfl (gk_laysFinal 123 rfl (gk_laysFinal 124 rfl (gk_laysFinal 125 rfl (gk_laysFinal 126 rfl (gk_laysFinal 127 rfl (gk_laysFinal 128 rfl (gk_laysFinal 129 rfl (gn)))))))))))))))))))))))))))))))))))))))))))))))))))))))))
set_option maxRecDepth 20000 in
theorem gX11_countRunOff_X11_inMany : GoodIn wsX11_countRunOff (wsV RX11 249 RX11 yX11_inMany wsX11_inMany) := goodIn_app (gk_methodLink 5 rfl (gk_instanceMethod 6 rfl (gk_selects 7 rfl (gk_initialized 8 rfl (gn))))) ggX11_countRunOff_X11_inMany
theorem dX11_countRunOff_6 : decode cX11_countRunOff 6 = .ok (.iconst 1, 1) := by decide +kernel
theorem dX11_countRunOff_7 : decode cX11_countRunOff 7 = .ok (.if_icmp .le 38, 3) := by decide +kernel
theorem dX11_countRunOff_45 : decode cX11_countRunOff 45 = .ok (.aload_n 0, 1) := by decide +kernel
theorem dX11_countRunOff_46 : decode cX11_countRunOff 46 = .ok (.invokevirtual 246, 3) := by decide +kernel
set_option maxRecDepth 20000 in
theorem ggX11_countRunOff_X11_tallyFirsts : GoodIn wsX11_countRunOff wsX11_tallyFirsts := (gk_code 14 rfl (gk_fieldLink 15 rfl (gk_fieldLink 16 rfl (gk_fieldLink 17 rfl (gk_fieldLink 18 rfl (gk_methodLink 19 rfl (gk_instanceMethod 20 rfl (gk_selects 21 rfl (gk_initialized 8 rfl (gk_code 22 rfl (gk_fieldLink 23 rfl (gk_fieldLink 24 rfl (gk_methodLink 25 rfl (gk_instanceMethod 26 rfl (gk_selects 27 rfl (gk_code 28 rfl (gk_fieldLink 29 rfl (gk_methodLink 30 rfl (gk_instanceMethod 31 rfl (gk_selects 32 rfl (gk_code 33 rfl (gk_fieldLink 34 rfl (gk_fieldLink 1 rfl (gk_fieldLink 35 rfl (gk_methodLink 36 rfl (gk_instanceMethod 37 rfl (gk_selects 38 rfl (gk_code 39 rfl (gk_fieldLink 40 rfl (gk_fieldLink 41 rfl (gk_methodLink 42 rfl (gk_instanceMethod 43 rfl (gk_selects 44 rfl (gk_code 45 rfl (gk_fieldLink 46 rfl (gk_constantLong 47 rfl (gk_methodLink 48 rfl (gk_static 49 rfl (gk_code 50 rfl (gk_lays 77 rfl (gk_laysFinal 78 rfl (gk_lays 79 rfl (gk_laysFinal 80 rfl (gk_lays 81 rfl (gk_laysFinal 82 rfl (gk_laysFinal 83 rfl (gk_laysFinal 84 rfl (gk_laysFinal 85 rfl (gk_lays 86 rfl (gk_laysFinal 87 rfl (gk_laysFinal 88 rfl (gk_laysFinal 89 rfl (gk_laysFinal 90 rfl (gk_lays 91 rfl (gk_laysFinal 92 rfl (gk_laysFinal 93 rfl (gk_laysFinal 94 rfl (gk_laysFinal 95 rfl (gk_laysFinal 96 rfl (gk_laysFinal 97 rfl (gk_laysFinal 98 rfl (gk_laysFinal 99 rfl (gk_lays 100 rfl (gk_lays 101 rfl (gk_lays 102 rfl (gk_lays 103 rfl (gk_lays 104 rfl (gk_lays 105 rfl (gk_lays 106 rfl (gk_laysFinal 107 rfl (gk_lays 108 rfl (gk_laysFinal 109 rfl (gk_laysFinal 110 rfl (gk_laysFinal 111 rfl (gk_laysFinal 112 rfl (gk_laysFinal 113 rfl (gk_laysFinal 114 rfl (gk_laysFinal 115 rfl (gk_laysFinal 116 rfl (gk_laysFinal 117 rfl (gk_laysFinal 118 rfl (gk_lays 119 rfl (gk_laysFinal 120 rfl (gk_lays 121 rfl (gk_laysFinal 122 rfl (gk_laysFinal 123 rfl (gk_laysFinal 124 rfl (gk_laysFinal 125 rfl (gk_laysFinal 126 rfl (gk_laysFinal 127 rfl (gk_laysFinal 128 rfl (gk_laysFinal 129 rfl (gn)))))))))))))))))))))))))))))))))))))))))))))))))))))))))))))))))))))))))))))))))))))))))))))
set_option maxRecDepth 20000 in
theorem gX11_countRunOff_X11_tallyFirsts : GoodIn wsX11_countRunOff (wsV RX11 246 RX11 yX11_tallyFirsts wsX11_tallyFirsts) := goodIn_app (gk_methodLink 11 rfl (gk_instanceMethod 12 rfl (gk_selects 13 rfl (gk_initialized 8 rfl (gn))))) ggX11_countRunOff_X11_tallyFirsts
theorem dX11_countRunOff_49 : decode cX11_countRunOff 49 = .ok (.aload_n 0, 1) := by decide +kernel
theorem dX11_countRunOff_50 : decode cX11_countRunOff 50 = .ok (.invokevirtual 234, 3) := by decide +kernel
set_option maxRecDepth 20000 in
theorem ggX11_countRunOff_X11_greatest : GoodIn wsX11_countRunOff wsX11_greatest := (gk_code 71 rfl (gk_fieldLink 10 rfl (gk_fieldLink 55 rfl (gk_fieldLink 1 rfl (gk_fieldLink 23 rfl (gk_fieldLink 24 rfl (gk_methodLink 56 rfl (gk_static 57 rfl (gk_initialized 8 rfl (gk_code 58 rfl (gk_lays 77 rfl (gk_laysFinal 78 rfl (gk_lays 79 rfl (gk_laysFinal 80 rfl (gk_lays 81 rfl (gk_laysFinal 82 rfl (gk_laysFinal 83 rfl (gk_laysFinal 84 rfl (gk_laysFinal 85 rfl (gk_lays 86 rfl (gk_laysFinal 87 rfl (gk_laysFinal 88 rfl (gk_laysFinal 89 rfl (gk_laysFinal 90 rfl (gk_lays 91 rfl (gk_laysFinal 92 rfl (gk_laysFinal 93 rfl (gk_laysFinal 94 rfl (gk_laysFinal 95 rfl (gk_laysFinal 96 rfl (gk_laysFinal 97 rfl (gk_laysFinal 98 rfl (gk_laysFinal 99 rfl (gk_lays 100 rfl (gk_lays 101 rfl (gk_lays 102 rfl (gk_lays 103 rfl (gk_lays 104 rfl (gk_lays 105 rfl (gk_lays 106 rfl (gk_laysFinal 107 rfl (gk_lays 108 rfl (gk_laysFinal 109 rfl (gk_laysFinal 110 rfl (gk_laysFinal 111 rfl (gk_laysFinal 112 rfl (gk_laysFinal 113 rfl (gk_laysFinal 114 rfl (gk_laysFinal 115 rfl (gk_laysFinal 116 rfl (gk_laysFinal 117 rfl (gk_laysFinal 118 rfl (gk_lays 119 rfl (gk_laysFinal 120 rfl (gk_lays 121 rfl (gk_laysFinal 122 rfl (gk_laysFinal 123 rfl (gk_laysFinal 124 rfl (gk_laysFinal 125 rfl (gk_laysFinal 126 rfl (gk_laysFinal 127 rfl (gk_laysFinal 128 rfl (gk_laysFinal 129 rfl (gn))))))))))))))))))))))))))))))))))))))))))))))))))))))))))))))))
set_option maxRecDepth 20000 in
theorem gX11_countRunOff_X11_greatest : GoodIn wsX11_countRunOff (wsV RX11 234 RX11 yX11_greatest wsX11_greatest) := goodIn_app (gk_methodLink 68 rfl (gk_instanceMethod 69 rfl (gk_selects 70 rfl (gk_initialized 8 rfl (gn))))) ggX11_countRunOff_X11_greatest
theorem dX11_countRunOff_53 : decode cX11_countRunOff 53 = .ok (.istore_n 2, 1) := by decide +kernel
theorem dX11_countRunOff_54 : decode cX11_countRunOff 54 = .ok (.aload_n 0, 1) := by decide +kernel
theorem dX11_countRunOff_55 : decode cX11_countRunOff 55 = .ok (.iconst 1, 1) := by decide +kernel
theorem dX11_countRunOff_56 : decode cX11_countRunOff 56 = .ok (.iload_n 2, 1) := by decide +kernel
theorem dX11_countRunOff_57 : decode cX11_countRunOff 57 = .ok (.invokevirtual 238, 3) := by decide +kernel
set_option maxRecDepth 20000 in
theorem ggX11_countRunOff_X11_happens : GoodIn wsX11_countRunOff wsX11_happens := (gk_code 62 rfl (gk_fieldLink 63 rfl (gk_fieldLink 64 rfl (gk_fieldLink 65 rfl (gk_fieldLink 66 rfl (gk_fieldLink 23 rfl (gk_fieldLink 67 rfl (gk_fieldLink 24 rfl (gk_lays 77 rfl (gk_laysFinal 78 rfl (gk_lays 79 rfl (gk_laysFinal 80 rfl (gk_lays 81 rfl (gk_laysFinal 82 rfl (gk_laysFinal 83 rfl (gk_laysFinal 84 rfl (gk_laysFinal 85 rfl (gk_lays 86 rfl (gk_laysFinal 87 rfl (gk_laysFinal 88 rfl (gk_laysFinal 89 rfl (gk_laysFinal 90 rfl (gk_lays 91 rfl (gk_laysFinal 92 rfl (gk_laysFinal 93 rfl (gk_laysFinal 94 rfl (gk_laysFinal 95 rfl (gk_laysFinal 96 rfl (gk_laysFinal 97 rfl (gk_laysFinal 98 rfl (gk_laysFinal 99 rfl (gk_lays 100 rfl (gk_lays 101 rfl (gk_lays 102 rfl (gk_lays 103 rfl (gk_lays 104 rfl (gk_lays 105 rfl (gk_lays 106 rfl (gk_laysFinal 107 rfl (gk_lays 108 rfl (gk_laysFinal 109 rfl (gk_laysFinal 110 rfl (gk_laysFinal 111 rfl (gk_laysFinal 112 rfl (gk_laysFinal 113 rfl (gk_laysFinal 114 rfl (gk_laysFinal 115 rfl (gk_laysFinal 116 rfl (gk_laysFinal 117 rfl (gk_laysFinal 118 rfl (gk_lays 119 rfl (gk_laysFinal 120 rfl (gk_lays 121 rfl (gk_laysFinal 122 rfl (gk_laysFinal 123 rfl (gk_laysFinal 124 rfl (gk_laysFinal 125 rfl (gk_laysFinal 126 rfl (gk_laysFinal 127 rfl (gk_laysFinal 128 rfl (gk_laysFinal 129 rfl (gn))))))))))))))))))))))))))))))))))))))))))))))))))))))))))))))
set_option maxRecDepth 20000 in
theorem gX11_countRunOff_X11_happens : GoodIn wsX11_countRunOff (wsV RX11 238 RX11 yX11_happens wsX11_happens) := goodIn_app (gk_methodLink 59 rfl (gk_instanceMethod 60 rfl (gk_selects 61 rfl (gk_initialized 8 rfl (gn))))) ggX11_countRunOff_X11_happens
theorem dX11_countRunOff_60 : decode cX11_countRunOff 60 = .ok (.aload_n 0, 1) := by decide +kernel
theorem dX11_countRunOff_61 : decode cX11_countRunOff 61 = .ok (.iload_n 2, 1) := by decide +kernel
theorem dX11_countRunOff_62 : decode cX11_countRunOff 62 = .ok (.invokevirtual 242, 3) := by decide +kernel
set_option maxRecDepth 20000 in
theorem ggX11_countRunOff_X11_gives : GoodIn wsX11_countRunOff wsX11_gives := (gk_code 75 rfl (gk_fieldLink 76 rfl (gk_fieldLink 3 rfl (gk_lays 77 rfl (gk_laysFinal 78 rfl (gk_lays 79 rfl (gk_laysFinal 80 rfl (gk_lays 81 rfl (gk_laysFinal 82 rfl (gk_laysFinal 83 rfl (gk_laysFinal 84 rfl (gk_laysFinal 85 rfl (gk_lays 86 rfl (gk_laysFinal 87 rfl (gk_laysFinal 88 rfl (gk_laysFinal 89 rfl (gk_laysFinal 90 rfl (gk_lays 91 rfl (gk_laysFinal 92 rfl (gk_laysFinal 93 rfl (gk_laysFinal 94 rfl (gk_laysFinal 95 rfl (gk_laysFinal 96 rfl (gk_laysFinal 97 rfl (gk_laysFinal 98 rfl (gk_laysFinal 99 rfl (gk_lays 100 rfl (gk_lays 101 rfl (gk_lays 102 rfl (gk_lays 103 rfl (gk_lays 104 rfl (gk_lays 105 rfl (gk_lays 106 rfl (gk_laysFinal 107 rfl (gk_lays 108 rfl (gk_laysFinal 109 rfl (gk_laysFinal 110 rfl (gk_laysFinal 111 rfl (gk_laysFinal 112 rfl (gk_laysFinal 113 rfl (gk_laysFinal 114 rfl (gk_laysFinal 115 rfl (gk_laysFinal 116 rfl (gk_laysFinal 117 rfl (gk_laysFinal 118 rfl (gk_lays 119 rfl (gk_laysFinal 120 rfl (gk_lays 121 rfl (gk_laysFinal 122 rfl (gk_laysFinal 123 rfl (gk_laysFinal 124 rfl (gk_laysFinal 125 rfl (gk_laysFinal 126 rfl (gk_laysFinal 127 rfl (gk_laysFinal 128 rfl (gk_laysFinal 129 rfl (gn)))))))))))))))))))))))))))))))))))))))))))))))))))))))))
set_option maxRecDepth 20000 in
theorem gX11_countRunOff_X11_gives : GoodIn wsX11_countRunOff (wsV RX11 242 RX11 yX11_gives wsX11_gives) := goodIn_app (gk_methodLink 72 rfl (gk_instanceMethod 73 rfl (gk_selects 74 rfl (gk_initialized 8 rfl (gn))))) ggX11_countRunOff_X11_gives
theorem dX11_countRunOff_65 : decode cX11_countRunOff 65 = .ok (.iload_n 1, 1) := by decide +kernel
theorem dX11_countRunOff_66 : decode cX11_countRunOff 66 = .ok (.iconst 1, 1) := by decide +kernel
theorem dX11_countRunOff_67 : decode cX11_countRunOff 67 = .ok (.isub, 1) := by decide +kernel
theorem dX11_countRunOff_68 : decode cX11_countRunOff 68 = .ok (.istore_n 3, 1) := by decide +kernel
theorem dX11_countRunOff_69 : decode cX11_countRunOff 69 = .ok (.iload_n 3, 1) := by decide +kernel
theorem dX11_countRunOff_70 : decode cX11_countRunOff 70 = .ok (.ifCond .lt 30, 3) := by decide +kernel
theorem dX11_countRunOff_100 : decode cX11_countRunOff 100 = .ok (.return_, 1) := by decide +kernel
theorem dX11_countRunOff_73 : decode cX11_countRunOff 73 = .ok (.aload_n 0, 1) := by decide +kernel
theorem dX11_countRunOff_74 : decode cX11_countRunOff 74 = .ok (.getfield 211, 3) := by decide +kernel
theorem in_X11_countRunOff_11 : ∀ w ∈ u_ws RX11 TX11 53, w ∈ wsX11_countRunOff := fun _ h => List.mem_cons_of_mem _ (List.mem_append_right _ h)
theorem dX11_countRunOff_77 : decode cX11_countRunOff 77 = .ok (.aload_n 0, 1) := by decide +kernel
theorem dX11_countRunOff_78 : decode cX11_countRunOff 78 = .ok (.getfield 231, 3) := by decide +kernel
theorem dX11_countRunOff_81 : decode cX11_countRunOff 81 = .ok (.if_icmp .ge 19, 3) := by decide +kernel
theorem dX11_countRunOff_84 : decode cX11_countRunOff 84 = .ok (.aload_n 0, 1) := by decide +kernel
theorem dX11_countRunOff_85 : decode cX11_countRunOff 85 = .ok (.aload_n 0, 1) := by decide +kernel
theorem dX11_countRunOff_86 : decode cX11_countRunOff 86 = .ok (.getfield 117, 3) := by decide +kernel
theorem dX11_countRunOff_89 : decode cX11_countRunOff 89 = .ok (.iload_n 3, 1) := by decide +kernel
theorem dX11_countRunOff_90 : decode cX11_countRunOff 90 = .ok (.iaload, 1) := by decide +kernel
theorem dX11_countRunOff_91 : decode cX11_countRunOff 91 = .ok (.invokevirtual 242, 3) := by decide +kernel
theorem dX11_countRunOff_94 : decode cX11_countRunOff 94 = .ok (.iinc 3 (-1), 3) := by decide +kernel
theorem dX11_countRunOff_97 : decode cX11_countRunOff 97 = .ok (.goto (-28), 3) := by decide +kernel
theorem dX11_countRunOff_10 : decode cX11_countRunOff 10 = .ok (.aload_n 0, 1) := by decide +kernel
theorem dX11_countRunOff_11 : decode cX11_countRunOff 11 = .ok (.invokevirtual 246, 3) := by decide +kernel
theorem dX11_countRunOff_14 : decode cX11_countRunOff 14 = .ok (.aload_n 0, 1) := by decide +kernel
theorem dX11_countRunOff_15 : decode cX11_countRunOff 15 = .ok (.invokevirtual 252, 3) := by decide +kernel
set_option maxRecDepth 20000 in
theorem ggX11_countRunOff_X11_least : GoodIn wsX11_countRunOff wsX11_least := (gk_code 54 rfl (gk_fieldLink 10 rfl (gk_fieldLink 55 rfl (gk_fieldLink 1 rfl (gk_fieldLink 23 rfl (gk_fieldLink 24 rfl (gk_methodLink 56 rfl (gk_static 57 rfl (gk_initialized 8 rfl (gk_code 58 rfl (gk_lays 77 rfl (gk_laysFinal 78 rfl (gk_lays 79 rfl (gk_laysFinal 80 rfl (gk_lays 81 rfl (gk_laysFinal 82 rfl (gk_laysFinal 83 rfl (gk_laysFinal 84 rfl (gk_laysFinal 85 rfl (gk_lays 86 rfl (gk_laysFinal 87 rfl (gk_laysFinal 88 rfl (gk_laysFinal 89 rfl (gk_laysFinal 90 rfl (gk_lays 91 rfl (gk_laysFinal 92 rfl (gk_laysFinal 93 rfl (gk_laysFinal 94 rfl (gk_laysFinal 95 rfl (gk_laysFinal 96 rfl (gk_laysFinal 97 rfl (gk_laysFinal 98 rfl (gk_laysFinal 99 rfl (gk_lays 100 rfl (gk_lays 101 rfl (gk_lays 102 rfl (gk_lays 103 rfl (gk_lays 104 rfl (gk_lays 105 rfl (gk_lays 106 rfl (gk_laysFinal 107 rfl (gk_lays 108 rfl (gk_laysFinal 109 rfl (gk_laysFinal 110 rfl (gk_laysFinal 111 rfl (gk_laysFinal 112 rfl (gk_laysFinal 113 rfl (gk_laysFinal 114 rfl (gk_laysFinal 115 rfl (gk_laysFinal 116 rfl (gk_laysFinal 117 rfl (gk_laysFinal 118 rfl (gk_lays 119 rfl (gk_laysFinal 120 rfl (gk_lays 121 rfl (gk_laysFinal 122 rfl (gk_laysFinal 123 rfl (gk_laysFinal 124 rfl (gk_laysFinal 125 rfl (gk_laysFinal 126 rfl (gk_laysFinal 127 rfl (gk_laysFinal 128 rfl (gk_laysFinal 129 rfl (gn))))))))))))))))))))))))))))))))))))))))))))))))))))))))))))))))
set_option maxRecDepth 20000 in
theorem gX11_countRunOff_X11_least : GoodIn wsX11_countRunOff (wsV RX11 252 RX11 yX11_least wsX11_least) := goodIn_app (gk_methodLink 51 rfl (gk_instanceMethod 52 rfl (gk_selects 53 rfl (gk_initialized 8 rfl (gn))))) ggX11_countRunOff_X11_least
theorem dX11_countRunOff_18 : decode cX11_countRunOff 18 = .ok (.istore_n 2, 1) := by decide +kernel
theorem dX11_countRunOff_19 : decode cX11_countRunOff 19 = .ok (.aload_n 0, 1) := by decide +kernel
theorem dX11_countRunOff_20 : decode cX11_countRunOff 20 = .ok (.iconst 2, 1) := by decide +kernel
theorem dX11_countRunOff_21 : decode cX11_countRunOff 21 = .ok (.iload_n 2, 1) := by decide +kernel
theorem dX11_countRunOff_22 : decode cX11_countRunOff 22 = .ok (.invokevirtual 238, 3) := by decide +kernel
theorem dX11_countRunOff_25 : decode cX11_countRunOff 25 = .ok (.aload_n 0, 1) := by decide +kernel
theorem dX11_countRunOff_26 : decode cX11_countRunOff 26 = .ok (.getfield 81, 3) := by decide +kernel
theorem dX11_countRunOff_29 : decode cX11_countRunOff 29 = .ok (.iload_n 2, 1) := by decide +kernel
theorem dX11_countRunOff_30 : decode cX11_countRunOff 30 = .ok (.iconst 0, 1) := by decide +kernel
theorem dX11_countRunOff_31 : decode cX11_countRunOff 31 = .ok (.bastore, 1) := by decide +kernel
theorem dX11_countRunOff_32 : decode cX11_countRunOff 32 = .ok (.aload_n 0, 1) := by decide +kernel
theorem dX11_countRunOff_33 : decode cX11_countRunOff 33 = .ok (.getfield 117, 3) := by decide +kernel
theorem dX11_countRunOff_36 : decode cX11_countRunOff 36 = .ok (.iload_n 1, 1) := by decide +kernel
theorem dX11_countRunOff_37 : decode cX11_countRunOff 37 = .ok (.iload_n 2, 1) := by decide +kernel
theorem dX11_countRunOff_38 : decode cX11_countRunOff 38 = .ok (.iastore, 1) := by decide +kernel
theorem dX11_countRunOff_39 : decode cX11_countRunOff 39 = .ok (.iinc 1 1, 3) := by decide +kernel
theorem dX11_countRunOff_42 : decode cX11_countRunOff 42 = .ok (.goto (-40), 3) := by decide +kernel
