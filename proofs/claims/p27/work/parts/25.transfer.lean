theorem dX9_seatByWays_0 : decode cX9_seatByWays 0 = .ok (.aload_n 0, 1) := dw42 (n := 0) (i := 0) kc_cX9_seatByWays_0 (by decide +kernel)
theorem dX9_seatByWays_1 : decode cX9_seatByWays 1 = .ok (.invokevirtual 27, 3) := dw182 (n := 0) (i := 1) (a := 0) (b := 27) kc_cX9_seatByWays_0 (by decide +kernel) (by decide)
set_option maxRecDepth 20000 in
theorem ggX9_seatByWays_X9_compareAll : GoodIn wsX9_seatByWays wsX9_compareAll := (gk_code 9 rfl (gk_fieldLink 10 rfl (gk_fieldLink 1 rfl (gk_fieldLink 11 rfl (gk_methodLink 12 rfl (gk_instanceMethod 13 rfl (gk_selects 14 rfl (gk_initialized 8 rfl (gk_code 15 rfl (gk_fieldLink 16 rfl (gk_fieldLink 17 rfl (gk_fieldLink 18 rfl (gk_fieldLink 19 rfl (gk_fieldLink 20 rfl (gk_methodLink 21 rfl (gk_instanceMethod 22 rfl (gk_selects 23 rfl (gk_initialized 24 rfl (gk_code 25 rfl (gk_fieldLink 26 rfl (gk_fieldLink 27 rfl (gk_fieldLink 28 rfl (gk_methodLink 29 rfl (gk_instanceMethod 30 rfl (gk_selects 31 rfl (gk_initialized 32 rfl (gk_code 33 rfl (gk_fieldLink 34 rfl (gk_fieldLink 35 rfl (gk_laysFinal 89 rfl (gk_laysFinal 90 rfl (gk_laysFinal 91 rfl (gk_laysFinal 92 rfl (gk_laysFinal 93 rfl (gk_laysFinal 94 rfl (gk_laysFinal 95 rfl (gk_lays 96 rfl (gk_lays 97 rfl (gk_laysFinal 98 rfl (gk_laysFinal 99 rfl (gk_laysFinal 100 rfl (gk_lays 101 rfl (gk_laysFinal 102 rfl (gk_lays 103 rfl (gk_laysFinal 104 rfl (gk_laysFinal 105 rfl (gk_laysFinal 106 rfl (gk_laysFinal 107 rfl (gn)))))))))))))))))))))))))))))))))))))))))))))))))
set_option maxRecDepth 20000 in
theorem gX9_seatByWays_X9_compareAll : GoodIn wsX9_seatByWays (wsV RX9 27 RX9 yX9_compareAll wsX9_compareAll) := goodIn_app (gk_methodLink 5 rfl (gk_instanceMethod 6 rfl (gk_selects 7 rfl (gk_initialized 8 rfl (gn))))) ggX9_seatByWays_X9_compareAll
theorem dX9_seatByWays_4 : decode cX9_seatByWays 4 = .ok (.aload_n 0, 1) := dw42 (n := 0) (i := 4) kc_cX9_seatByWays_0 (by decide +kernel)
theorem dX9_seatByWays_5 : decode cX9_seatByWays 5 = .ok (.invokevirtual 30, 3) := dw182 (n := 0) (i := 5) (a := 0) (b := 30) kc_cX9_seatByWays_0 (by decide +kernel) (by decide)
set_option maxRecDepth 20000 in
theorem ggX9_seatByWays_X9_beginWays : GoodIn wsX9_seatByWays wsX9_beginWays := (gk_code 39 rfl (gk_fieldLink 1 rfl (gk_fieldLink 16 rfl (gk_fieldLink 17 rfl (gk_fieldLink 40 rfl (gk_fieldLink 10 rfl (gk_laysFinal 89 rfl (gk_laysFinal 90 rfl (gk_laysFinal 91 rfl (gk_laysFinal 92 rfl (gk_laysFinal 93 rfl (gk_laysFinal 94 rfl (gk_laysFinal 95 rfl (gk_lays 96 rfl (gk_lays 97 rfl (gk_laysFinal 98 rfl (gk_laysFinal 99 rfl (gk_laysFinal 100 rfl (gk_lays 101 rfl (gk_laysFinal 102 rfl (gn)))))))))))))))))))))
set_option maxRecDepth 20000 in
theorem gX9_seatByWays_X9_beginWays : GoodIn wsX9_seatByWays (wsV RX9 30 RX9 yX9_beginWays wsX9_beginWays) := goodIn_app (gk_methodLink 36 rfl (gk_instanceMethod 37 rfl (gk_selects 38 rfl (gk_initialized 8 rfl (gn))))) ggX9_seatByWays_X9_beginWays
theorem dX9_seatByWays_8 : decode cX9_seatByWays 8 = .ok (.aload_n 0, 1) := dw42 (n := 0) (i := 8) kc_cX9_seatByWays_0 (by decide +kernel)
theorem dX9_seatByWays_9 : decode cX9_seatByWays 9 = .ok (.invokevirtual 33, 3) := dw182 (n := 0) (i := 9) (a := 0) (b := 33) kc_cX9_seatByWays_0 (by decide +kernel) (by decide)
set_option maxRecDepth 20000 in
theorem ggX9_seatByWays_X9_strengthenWays : GoodIn wsX9_seatByWays wsX9_strengthenWays := (gk_code 44 rfl (gk_fieldLink 1 rfl (gk_fieldLink 16 rfl (gk_fieldLink 17 rfl (gk_fieldLink 40 rfl (gk_methodLink 45 rfl (gk_static 46 rfl (gk_initialized 47 rfl (gk_code 48 rfl (gk_methodLink 49 rfl (gk_static 50 rfl (gk_code 51 rfl (gk_laysFinal 89 rfl (gk_laysFinal 90 rfl (gk_laysFinal 91 rfl (gk_laysFinal 92 rfl (gk_laysFinal 93 rfl (gk_laysFinal 94 rfl (gk_laysFinal 95 rfl (gk_lays 96 rfl (gk_lays 97 rfl (gk_laysFinal 98 rfl (gk_laysFinal 99 rfl (gk_laysFinal 100 rfl (gk_lays 101 rfl (gk_laysFinal 102 rfl (gn)))))))))))))))))))))))))))
set_option maxRecDepth 20000 in
theorem gX9_seatByWays_X9_strengthenWays : GoodIn wsX9_seatByWays (wsV RX9 33 RX9 yX9_strengthenWays wsX9_strengthenWays) := goodIn_app (gk_methodLink 41 rfl (gk_instanceMethod 42 rfl (gk_selects 43 rfl (gk_initialized 8 rfl (gn))))) ggX9_seatByWays_X9_strengthenWays
theorem dX9_seatByWays_12 : decode cX9_seatByWays 12 = .ok (.iconst 0, 1) := dw3 (n := 0) (i := 12) kc_cX9_seatByWays_0 (by decide +kernel)
theorem dX9_seatByWays_13 : decode cX9_seatByWays 13 = .ok (.istore_n 2, 1) := dw61 (n := 0) (i := 13) kc_cX9_seatByWays_0 (by decide +kernel)
theorem dX9_seatByWays_14 : decode cX9_seatByWays 14 = .ok (.iload_n 2, 1) := dw28 (n := 0) (i := 14) kc_cX9_seatByWays_0 (by decide +kernel)
theorem dX9_seatByWays_15 : decode cX9_seatByWays 15 = .ok (.aload_n 0, 1) := dw42 (n := 0) (i := 15) kc_cX9_seatByWays_0 (by decide +kernel)
theorem dX9_seatByWays_16 : decode cX9_seatByWays 16 = .ok (.getfield 23, 3) := dw180 (n := 0) (i := 16) (a := 0) (b := 23) kc_cX9_seatByWays_0 (by decide +kernel) (by decide)
theorem in_X9_seatByWays_9 : ∀ w ∈ u_ws RX9 TX9 4, w ∈ wsX9_seatByWays := fun _ h => List.mem_cons_of_mem _ (List.mem_append_left _ (List.mem_append_left _ (List.mem_append_left _ (List.mem_append_left _ (List.mem_append_right _ h)))))
theorem dX9_seatByWays_19 : decode cX9_seatByWays 19 = .ok (.getfield 36, 3) := dw180 (n := 0) (i := 19) (a := 0) (b := 36) kc_cX9_seatByWays_0 (by decide +kernel) (by decide)
theorem in_X9_seatByWays_6 : ∀ w ∈ u_ws RX6 TX6 8, w ∈ wsX9_seatByWays := fun _ h => List.mem_cons_of_mem _ (List.mem_append_left _ (List.mem_append_left _ (List.mem_append_left _ (List.mem_append_right _ h))))
theorem dX9_seatByWays_22 : decode cX9_seatByWays 22 = .ok (.if_icmp .ge 68, 3) := dw162 (n := 0) (i := 22) (a := 0) (b := 68) kc_cX9_seatByWays_0 (by decide +kernel) (by decide)
theorem dX9_seatByWays_90 : decode cX9_seatByWays 90 = .ok (.return_, 1) := dw177 (n := 64) (i := 26) kc_cX9_seatByWays_2 (by decide +kernel)
theorem dX9_seatByWays_25 : decode cX9_seatByWays 25 = .ok (.aload_n 0, 1) := dw42 (n := 0) (i := 25) kc_cX9_seatByWays_0 (by decide +kernel)
theorem dX9_seatByWays_26 : decode cX9_seatByWays 26 = .ok (.invokevirtual 42, 3) := dw182 (n := 0) (i := 26) (a := 0) (b := 42) kc_cX9_seatByWays_0 (by decide +kernel) (by decide)
set_option maxRecDepth 20000 in
theorem ggX9_seatByWays_X9_firstUnbeaten : GoodIn wsX9_seatByWays wsX9_firstUnbeaten := (gk_code 55 rfl (gk_fieldLink 1 rfl (gk_fieldLink 16 rfl (gk_fieldLink 17 rfl (gk_fieldLink 56 rfl (gk_fieldLink 4 rfl (gk_methodLink 57 rfl (gk_instanceMethod 58 rfl (gk_selects 59 rfl (gk_initialized 8 rfl (gk_code 60 rfl (gk_fieldLink 40 rfl (gk_laysFinal 89 rfl (gk_laysFinal 90 rfl (gk_laysFinal 91 rfl (gk_laysFinal 92 rfl (gk_laysFinal 93 rfl (gk_laysFinal 94 rfl (gk_laysFinal 95 rfl (gk_lays 96 rfl (gk_lays 97 rfl (gk_laysFinal 98 rfl (gk_laysFinal 99 rfl (gk_laysFinal 100 rfl (gk_lays 101 rfl (gk_laysFinal 102 rfl (gn)))))))))))))))))))))))))))
set_option maxRecDepth 20000 in
theorem gX9_seatByWays_X9_firstUnbeaten : GoodIn wsX9_seatByWays (wsV RX9 42 RX9 yX9_firstUnbeaten wsX9_firstUnbeaten) := goodIn_app (gk_methodLink 52 rfl (gk_instanceMethod 53 rfl (gk_selects 54 rfl (gk_initialized 8 rfl (gn))))) ggX9_seatByWays_X9_firstUnbeaten
theorem dX9_seatByWays_29 : decode cX9_seatByWays 29 = .ok (.istore_n 3, 1) := dw62 (n := 0) (i := 29) kc_cX9_seatByWays_0 (by decide +kernel)
theorem dX9_seatByWays_30 : decode cX9_seatByWays 30 = .ok (.iload_n 3, 1) := dw29 (n := 0) (i := 30) kc_cX9_seatByWays_0 (by decide +kernel)
theorem dX9_seatByWays_31 : decode cX9_seatByWays 31 = .ok (.bipush (-9), 2) := dw16 (n := 0) (i := 31) (a := 247) kc_cX9_seatByWays_0 (by decide +kernel) (by decide)
theorem dX9_seatByWays_33 : decode cX9_seatByWays 33 = .ok (.if_icmp .ne 4, 3) := dw160 (n := 32) (i := 1) (a := 0) (b := 4) kc_cX9_seatByWays_1 (by decide +kernel) (by decide)
theorem dX9_seatByWays_37 : decode cX9_seatByWays 37 = .ok (.aload_n 0, 1) := dw42 (n := 32) (i := 5) kc_cX9_seatByWays_1 (by decide +kernel)
theorem dX9_seatByWays_38 : decode cX9_seatByWays 38 = .ok (.getfield 23, 3) := dw180 (n := 32) (i := 6) (a := 0) (b := 23) kc_cX9_seatByWays_1 (by decide +kernel) (by decide)
theorem dX9_seatByWays_41 : decode cX9_seatByWays 41 = .ok (.invokevirtual 46, 3) := dw182 (n := 32) (i := 9) (a := 0) (b := 46) kc_cX9_seatByWays_1 (by decide +kernel) (by decide)
set_option maxRecDepth 20000 in
theorem ggX9_seatByWays_X6_clearTallies : GoodIn wsX9_seatByWays wsX6_clearTallies := (gk_code 64 rfl (gk_fieldLink 65 rfl (gk_fieldLink 66 rfl (gk_laysFinal 93 rfl (gk_laysFinal 94 rfl (gk_laysFinal 95 rfl (gk_lays 96 rfl (gk_lays 97 rfl (gk_laysFinal 98 rfl (gk_laysFinal 99 rfl (gk_laysFinal 100 rfl (gn))))))))))))
set_option maxRecDepth 20000 in
theorem gX9_seatByWays_X6_clearTallies : GoodIn wsX9_seatByWays (wsV RX9 46 RX6 yX6_clearTallies wsX6_clearTallies) := goodIn_app (gk_methodLink 61 rfl (gk_instanceMethod 62 rfl (gk_selects 63 rfl (gk_initialized 24 rfl (gn))))) ggX9_seatByWays_X6_clearTallies
theorem dX9_seatByWays_44 : decode cX9_seatByWays 44 = .ok (.aload_n 0, 1) := dw42 (n := 32) (i := 12) kc_cX9_seatByWays_1 (by decide +kernel)
theorem dX9_seatByWays_45 : decode cX9_seatByWays 45 = .ok (.getfield 23, 3) := dw180 (n := 32) (i := 13) (a := 0) (b := 23) kc_cX9_seatByWays_1 (by decide +kernel) (by decide)
theorem dX9_seatByWays_48 : decode cX9_seatByWays 48 = .ok (.getfield 49, 3) := dw180 (n := 32) (i := 16) (a := 0) (b := 49) kc_cX9_seatByWays_1 (by decide +kernel) (by decide)
theorem dX9_seatByWays_51 : decode cX9_seatByWays 51 = .ok (.iload_n 3, 1) := dw29 (n := 32) (i := 19) kc_cX9_seatByWays_1 (by decide +kernel)
theorem dX9_seatByWays_52 : decode cX9_seatByWays 52 = .ok (.aload_n 0, 1) := dw42 (n := 32) (i := 20) kc_cX9_seatByWays_1 (by decide +kernel)
theorem dX9_seatByWays_53 : decode cX9_seatByWays 53 = .ok (.iload_n 3, 1) := dw29 (n := 32) (i := 21) kc_cX9_seatByWays_1 (by decide +kernel)
theorem dX9_seatByWays_54 : decode cX9_seatByWays 54 = .ok (.invokevirtual 53, 3) := dw182 (n := 32) (i := 22) (a := 0) (b := 53) kc_cX9_seatByWays_1 (by decide +kernel) (by decide)
set_option maxRecDepth 20000 in
theorem ggX9_seatByWays_X9_leastWay : GoodIn wsX9_seatByWays wsX9_leastWay := (gk_code 70 rfl (gk_fieldLink 1 rfl (gk_fieldLink 16 rfl (gk_fieldLink 17 rfl (gk_fieldLink 4 rfl (gk_fieldLink 40 rfl (gk_laysFinal 89 rfl (gk_laysFinal 90 rfl (gk_laysFinal 91 rfl (gk_laysFinal 92 rfl (gk_laysFinal 93 rfl (gk_laysFinal 94 rfl (gk_laysFinal 95 rfl (gk_lays 96 rfl (gk_lays 97 rfl (gk_laysFinal 98 rfl (gk_laysFinal 99 rfl (gk_laysFinal 100 rfl (gk_lays 101 rfl (gk_laysFinal 102 rfl (gn)))))))))))))))))))))
set_option maxRecDepth 20000 in
theorem gX9_seatByWays_X9_leastWay : GoodIn wsX9_seatByWays (wsV RX9 53 RX9 yX9_leastWay wsX9_leastWay) := goodIn_app (gk_methodLink 67 rfl (gk_instanceMethod 68 rfl (gk_selects 69 rfl (gk_initialized 8 rfl (gn))))) ggX9_seatByWays_X9_leastWay
theorem dX9_seatByWays_57 : decode cX9_seatByWays 57 = .ok (.i2l, 1) := dw133 (n := 32) (i := 25) kc_cX9_seatByWays_1 (by decide +kernel)
theorem dX9_seatByWays_58 : decode cX9_seatByWays 58 = .ok (.lastore, 1) := dw80 (n := 32) (i := 26) kc_cX9_seatByWays_1 (by decide +kernel)
theorem dX9_seatByWays_59 : decode cX9_seatByWays 59 = .ok (.aload_n 1, 1) := dw43 (n := 32) (i := 27) kc_cX9_seatByWays_1 (by decide +kernel)
theorem dX9_seatByWays_60 : decode cX9_seatByWays 60 = .ok (.iconst 1, 1) := dw4 (n := 32) (i := 28) kc_cX9_seatByWays_1 (by decide +kernel)
theorem dX9_seatByWays_61 : decode cX9_seatByWays 61 = .ok (.iload_n 3, 1) := dw29 (n := 32) (i := 29) kc_cX9_seatByWays_1 (by decide +kernel)
theorem dX9_seatByWays_62 : decode cX9_seatByWays 62 = .ok (.aload_n 0, 1) := dw42 (n := 32) (i := 30) kc_cX9_seatByWays_1 (by decide +kernel)
theorem dX9_seatByWays_63 : decode cX9_seatByWays 63 = .ok (.getfield 23, 3) := dw180 (n := 32) (i := 31) (a := 0) (b := 23) kc_cX9_seatByWays_1 (by decide +kernel) (by decide)
theorem dX9_seatByWays_66 : decode cX9_seatByWays 66 = .ok (.invokevirtual 57, 3) := dw182 (n := 64) (i := 2) (a := 0) (b := 57) kc_cX9_seatByWays_2 (by decide +kernel) (by decide)
set_option maxRecDepth 20000 in
theorem ggX9_seatByWays_X7_note : GoodIn wsX9_seatByWays wsX7_note := (gk_code 75 rfl (gk_fieldLink 76 rfl (gk_fieldLink 77 rfl (gk_fieldLink 78 rfl (gk_fieldLink 79 rfl (gk_fieldLink 80 rfl (gk_fieldLink 81 rfl (gk_fieldLink 82 rfl (gk_lays 108 rfl (gk_laysFinal 109 rfl (gk_lays 110 rfl (gk_laysFinal 111 rfl (gk_laysFinal 112 rfl (gk_laysFinal 113 rfl (gk_laysFinal 114 rfl (gk_laysFinal 93 rfl (gk_laysFinal 94 rfl (gk_laysFinal 95 rfl (gk_lays 96 rfl (gk_lays 97 rfl (gk_laysFinal 98 rfl (gk_laysFinal 99 rfl (gk_laysFinal 100 rfl (gn))))))))))))))))))))))))
set_option maxRecDepth 20000 in
theorem gX9_seatByWays_X7_note : GoodIn wsX9_seatByWays (wsV RX9 57 RX7 yX7_note wsX7_note) := goodIn_app (gk_methodLink 71 rfl (gk_instanceMethod 72 rfl (gk_selects 73 rfl (gk_initialized 74 rfl (gn))))) ggX9_seatByWays_X7_note
theorem dX9_seatByWays_69 : decode cX9_seatByWays 69 = .ok (.aload_n 1, 1) := dw43 (n := 64) (i := 5) kc_cX9_seatByWays_2 (by decide +kernel)
theorem dX9_seatByWays_70 : decode cX9_seatByWays 70 = .ok (.iload_n 3, 1) := dw29 (n := 64) (i := 6) kc_cX9_seatByWays_2 (by decide +kernel)
theorem dX9_seatByWays_71 : decode cX9_seatByWays 71 = .ok (.invokevirtual 63, 3) := dw182 (n := 64) (i := 7) (a := 0) (b := 63) kc_cX9_seatByWays_2 (by decide +kernel) (by decide)
set_option maxRecDepth 20000 in
theorem ggX9_seatByWays_X7_give : GoodIn wsX9_seatByWays wsX7_give := (gk_code 86 rfl (gk_fieldLink 87 rfl (gk_fieldLink 88 rfl (gk_lays 108 rfl (gk_laysFinal 109 rfl (gk_lays 110 rfl (gk_laysFinal 111 rfl (gk_laysFinal 112 rfl (gk_laysFinal 113 rfl (gk_laysFinal 114 rfl (gn)))))))))))
set_option maxRecDepth 20000 in
theorem gX9_seatByWays_X7_give : GoodIn wsX9_seatByWays (wsV RX9 63 RX7 yX7_give wsX7_give) := goodIn_app (gk_methodLink 83 rfl (gk_instanceMethod 84 rfl (gk_selects 85 rfl (gk_initialized 74 rfl (gn))))) ggX9_seatByWays_X7_give
theorem dX9_seatByWays_74 : decode cX9_seatByWays 74 = .ok (.aload_n 0, 1) := dw42 (n := 64) (i := 10) kc_cX9_seatByWays_2 (by decide +kernel)
theorem dX9_seatByWays_75 : decode cX9_seatByWays 75 = .ok (.getfield 23, 3) := dw180 (n := 64) (i := 11) (a := 0) (b := 23) kc_cX9_seatByWays_2 (by decide +kernel) (by decide)
theorem dX9_seatByWays_78 : decode cX9_seatByWays 78 = .ok (.getfield 67, 3) := dw180 (n := 64) (i := 14) (a := 0) (b := 67) kc_cX9_seatByWays_2 (by decide +kernel) (by decide)
theorem dX9_seatByWays_81 : decode cX9_seatByWays 81 = .ok (.iload_n 3, 1) := dw29 (n := 64) (i := 17) kc_cX9_seatByWays_2 (by decide +kernel)
theorem dX9_seatByWays_82 : decode cX9_seatByWays 82 = .ok (.iconst 0, 1) := dw3 (n := 64) (i := 18) kc_cX9_seatByWays_2 (by decide +kernel)
theorem dX9_seatByWays_83 : decode cX9_seatByWays 83 = .ok (.bastore, 1) := dw84 (n := 64) (i := 19) kc_cX9_seatByWays_2 (by decide +kernel)
theorem dX9_seatByWays_84 : decode cX9_seatByWays 84 = .ok (.iinc 2 1, 3) := by decide +kernel
theorem dX9_seatByWays_87 : decode cX9_seatByWays 87 = .ok (.goto (-73), 3) := dw167 (n := 64) (i := 23) (a := 255) (b := 183) kc_cX9_seatByWays_2 (by decide +kernel) (by decide)
theorem dX9_seatByWays_36 : decode cX9_seatByWays 36 = .ok (.return_, 1) := dw177 (n := 32) (i := 4) kc_cX9_seatByWays_1 (by decide +kernel)
theorem dX8_leaveOut_0 : decode cX8_leaveOut 0 = .ok (.iload_n 1, 1) := dw27 (n := 0) (i := 0) kc_cX8_leaveOut_0 (by decide +kernel)
theorem dX8_leaveOut_1 : decode cX8_leaveOut 1 = .ok (.bipush (-9), 2) := dw16 (n := 0) (i := 1) (a := 247) kc_cX8_leaveOut_0 (by decide +kernel) (by decide)
theorem dX8_leaveOut_3 : decode cX8_leaveOut 3 = .ok (.if_icmp .ne 5, 3) := dw160 (n := 0) (i := 3) (a := 0) (b := 5) kc_cX8_leaveOut_0 (by decide +kernel) (by decide)
theorem dX8_leaveOut_8 : decode cX8_leaveOut 8 = .ok (.aload_n 2, 1) := dw44 (n := 0) (i := 8) kc_cX8_leaveOut_0 (by decide +kernel)
theorem dX8_leaveOut_9 : decode cX8_leaveOut 9 = .ok (.iconst 2, 1) := dw5 (n := 0) (i := 9) kc_cX8_leaveOut_0 (by decide +kernel)
theorem dX8_leaveOut_10 : decode cX8_leaveOut 10 = .ok (.iload_n 1, 1) := dw27 (n := 0) (i := 10) kc_cX8_leaveOut_0 (by decide +kernel)
theorem dX8_leaveOut_11 : decode cX8_leaveOut 11 = .ok (.aload_n 0, 1) := dw42 (n := 0) (i := 11) kc_cX8_leaveOut_0 (by decide +kernel)
theorem dX8_leaveOut_12 : decode cX8_leaveOut 12 = .ok (.getfield 29, 3) := dw180 (n := 0) (i := 12) (a := 0) (b := 29) kc_cX8_leaveOut_0 (by decide +kernel) (by decide)
theorem in_X8_leaveOut_8 : ∀ w ∈ u_ws RX8 TX8 5, w ∈ wsX8_leaveOut := fun _ h => List.mem_cons_of_mem _ (List.mem_append_left _ (List.mem_append_left _ (List.mem_append_right _ h)))
theorem dX8_leaveOut_15 : decode cX8_leaveOut 15 = .ok (.invokevirtual 105, 3) := dw182 (n := 0) (i := 15) (a := 0) (b := 105) kc_cX8_leaveOut_0 (by decide +kernel) (by decide)
set_option maxRecDepth 20000 in
theorem ggX8_leaveOut_X7_note : GoodIn wsX8_leaveOut wsX7_note := (gk_code 7 rfl (gk_fieldLink 8 rfl (gk_fieldLink 9 rfl (gk_fieldLink 10 rfl (gk_fieldLink 11 rfl (gk_fieldLink 12 rfl (gk_fieldLink 13 rfl (gk_fieldLink 14 rfl (gk_lays 28 rfl (gk_laysFinal 29 rfl (gk_lays 30 rfl (gk_laysFinal 31 rfl (gk_laysFinal 32 rfl (gk_laysFinal 33 rfl (gk_laysFinal 34 rfl (gk_laysFinal 20 rfl (gk_laysFinal 21 rfl (gk_laysFinal 22 rfl (gk_lays 23 rfl (gk_lays 24 rfl (gk_laysFinal 25 rfl (gk_laysFinal 26 rfl (gk_laysFinal 27 rfl (gn))))))))))))))))))))))))
set_option maxRecDepth 20000 in
theorem gX8_leaveOut_X7_note : GoodIn wsX8_leaveOut (wsV RX8 105 RX7 yX7_note wsX7_note) := goodIn_app (gk_methodLink 3 rfl (gk_instanceMethod 4 rfl (gk_selects 5 rfl (gk_initialized 6 rfl (gn))))) ggX8_leaveOut_X7_note
theorem dX8_leaveOut_18 : decode cX8_leaveOut 18 = .ok (.aload_n 0, 1) := dw42 (n := 0) (i := 18) kc_cX8_leaveOut_0 (by decide +kernel)
theorem dX8_leaveOut_19 : decode cX8_leaveOut 19 = .ok (.getfield 29, 3) := dw180 (n := 0) (i := 19) (a := 0) (b := 29) kc_cX8_leaveOut_0 (by decide +kernel) (by decide)
theorem dX8_leaveOut_22 : decode cX8_leaveOut 22 = .ok (.getfield 113, 3) := dw180 (n := 0) (i := 22) (a := 0) (b := 113) kc_cX8_leaveOut_0 (by decide +kernel) (by decide)
theorem in_X8_leaveOut_6 : ∀ w ∈ u_ws RX6 TX6 8, w ∈ wsX8_leaveOut := fun _ h => List.mem_cons_of_mem _ (List.mem_append_left _ (List.mem_append_right _ h))
theorem dX8_leaveOut_25 : decode cX8_leaveOut 25 = .ok (.iload_n 1, 1) := dw27 (n := 0) (i := 25) kc_cX8_leaveOut_0 (by decide +kernel)
theorem dX8_leaveOut_26 : decode cX8_leaveOut 26 = .ok (.iconst 0, 1) := dw3 (n := 0) (i := 26) kc_cX8_leaveOut_0 (by decide +kernel)
theorem dX8_leaveOut_27 : decode cX8_leaveOut 27 = .ok (.bastore, 1) := dw84 (n := 0) (i := 27) kc_cX8_leaveOut_0 (by decide +kernel)
theorem dX8_leaveOut_28 : decode cX8_leaveOut 28 = .ok (.iconst 1, 1) := dw4 (n := 0) (i := 28) kc_cX8_leaveOut_0 (by decide +kernel)
theorem dX8_leaveOut_29 : decode cX8_leaveOut 29 = .ok (.ireturn, 1) := dw172 (n := 0) (i := 29) kc_cX8_leaveOut_0 (by decide +kernel)
theorem dX8_leaveOut_6 : decode cX8_leaveOut 6 = .ok (.iconst 0, 1) := dw3 (n := 0) (i := 6) kc_cX8_leaveOut_0 (by decide +kernel)
theorem dX8_leaveOut_7 : decode cX8_leaveOut 7 = .ok (.ireturn, 1) := dw172 (n := 0) (i := 7) kc_cX8_leaveOut_0 (by decide +kernel)
theorem dX8_endRound_0 : decode cX8_endRound 0 = .ok (.aload_n 0, 1) := dw42 (n := 0) (i := 0) kc_cX8_endRound_0 (by decide +kernel)
theorem dX8_endRound_1 : decode cX8_endRound 1 = .ok (.getfield 29, 3) := dw180 (n := 0) (i := 1) (a := 0) (b := 29) kc_cX8_endRound_0 (by decide +kernel) (by decide)
theorem in_X8_endRound_8 : ∀ w ∈ u_ws RX8 TX8 5, w ∈ wsX8_endRound := fun _ h => List.mem_cons_of_mem _ (List.mem_append_left _ (List.mem_append_left _ (List.mem_append_left _ (List.mem_append_left _ (List.mem_append_right _ h)))))
theorem dX8_endRound_4 : decode cX8_endRound 4 = .ok (.invokevirtual 95, 3) := dw182 (n := 0) (i := 4) (a := 0) (b := 95) kc_cX8_endRound_0 (by decide +kernel) (by decide)
set_option maxRecDepth 20000 in
theorem ggX8_endRound_X6_manyIn : GoodIn wsX8_endRound wsX6_manyIn := (gk_code 11 rfl (gk_fieldLink 12 rfl (gk_laysFinal 86 rfl (gk_laysFinal 87 rfl (gk_laysFinal 88 rfl (gk_lays 89 rfl (gk_lays 90 rfl (gk_laysFinal 91 rfl (gk_laysFinal 92 rfl (gk_laysFinal 93 rfl (gn)))))))))))
set_option maxRecDepth 20000 in
theorem gX8_endRound_X6_manyIn : GoodIn wsX8_endRound (wsV RX8 95 RX6 yX6_manyIn wsX6_manyIn) := goodIn_app (gk_methodLink 7 rfl (gk_instanceMethod 8 rfl (gk_selects 9 rfl (gk_initialized 10 rfl (gn))))) ggX8_endRound_X6_manyIn
theorem dX8_endRound_7 : decode cX8_endRound 7 = .ok (.aload_n 0, 1) := dw42 (n := 0) (i := 7) kc_cX8_endRound_0 (by decide +kernel)
theorem dX8_endRound_8 : decode cX8_endRound 8 = .ok (.getfield 29, 3) := dw180 (n := 0) (i := 8) (a := 0) (b := 29) kc_cX8_endRound_0 (by decide +kernel) (by decide)
theorem dX8_endRound_11 : decode cX8_endRound 11 = .ok (.getfield 43, 3) := dw180 (n := 0) (i := 11) (a := 0) (b := 43) kc_cX8_endRound_0 (by decide +kernel) (by decide)
theorem in_X8_endRound_6 : ∀ w ∈ u_ws RX6 TX6 8, w ∈ wsX8_endRound := fun _ h => List.mem_cons_of_mem _ (List.mem_append_left _ (List.mem_append_left _ (List.mem_append_left _ (List.mem_append_right _ h))))
theorem dX8_endRound_14 : decode cX8_endRound 14 = .ok (.aload 4, 2) := dw25 (n := 0) (i := 14) (a := 4) kc_cX8_endRound_0 (by decide +kernel) (by decide)
theorem dX8_endRound_16 : decode cX8_endRound 16 = .ok (.getfield 50, 3) := dw180 (n := 0) (i := 16) (a := 0) (b := 50) kc_cX8_endRound_0 (by decide +kernel) (by decide)
theorem in_X8_endRound_7 : ∀ w ∈ u_ws RX7 TX7 7, w ∈ wsX8_endRound := fun _ h => List.mem_cons_of_mem _ (List.mem_append_left _ (List.mem_append_left _ (List.mem_append_right _ h)))
theorem dX8_endRound_19 : decode cX8_endRound 19 = .ok (.isub, 1) := dw100 (n := 0) (i := 19) kc_cX8_endRound_0 (by decide +kernel)
theorem dX8_endRound_20 : decode cX8_endRound 20 = .ok (.if_icmp .gt 7, 3) := dw163 (n := 0) (i := 20) (a := 0) (b := 7) kc_cX8_endRound_0 (by decide +kernel) (by decide)
theorem dX8_endRound_27 : decode cX8_endRound 27 = .ok (.iconst 0, 1) := dw3 (n := 0) (i := 27) kc_cX8_endRound_0 (by decide +kernel)
theorem dX8_endRound_28 : decode cX8_endRound 28 = .ok (.istore 5, 2) := dw54 (n := 0) (i := 28) (a := 5) kc_cX8_endRound_0 (by decide +kernel) (by decide)
theorem dX8_endRound_30 : decode cX8_endRound 30 = .ok (.aload_n 0, 1) := dw42 (n := 0) (i := 30) kc_cX8_endRound_0 (by decide +kernel)
theorem dX8_endRound_31 : decode cX8_endRound 31 = .ok (.getfield 29, 3) := dw180 (n := 0) (i := 31) (a := 0) (b := 29) kc_cX8_endRound_0 (by decide +kernel) (by decide)
theorem dX8_endRound_34 : decode cX8_endRound 34 = .ok (.getfield 74, 3) := dw180 (n := 32) (i := 2) (a := 0) (b := 74) kc_cX8_endRound_1 (by decide +kernel) (by decide)
theorem dX8_endRound_37 : decode cX8_endRound 37 = .ok (.iload_n 1, 1) := dw27 (n := 32) (i := 5) kc_cX8_endRound_1 (by decide +kernel)
theorem dX8_endRound_38 : decode cX8_endRound 38 = .ok (.laload, 1) := dw47 (n := 32) (i := 6) kc_cX8_endRound_1 (by decide +kernel)
theorem dX8_endRound_39 : decode cX8_endRound 39 = .ok (.lload_n 2, 1) := dw32 (n := 32) (i := 7) kc_cX8_endRound_1 (by decide +kernel)
theorem dX8_endRound_40 : decode cX8_endRound 40 = .ok (.aload_n 0, 1) := dw42 (n := 32) (i := 8) kc_cX8_endRound_1 (by decide +kernel)
theorem dX8_endRound_41 : decode cX8_endRound 41 = .ok (.getfield 29, 3) := dw180 (n := 32) (i := 9) (a := 0) (b := 29) kc_cX8_endRound_1 (by decide +kernel) (by decide)
theorem dX8_endRound_44 : decode cX8_endRound 44 = .ok (.getfield 77, 3) := dw180 (n := 32) (i := 12) (a := 0) (b := 77) kc_cX8_endRound_1 (by decide +kernel) (by decide)
theorem dX8_endRound_47 : decode cX8_endRound 47 = .ok (.iload_n 1, 1) := dw27 (n := 32) (i := 15) kc_cX8_endRound_1 (by decide +kernel)
theorem dX8_endRound_48 : decode cX8_endRound 48 = .ok (.laload, 1) := dw47 (n := 32) (i := 16) kc_cX8_endRound_1 (by decide +kernel)
theorem dX8_endRound_49 : decode cX8_endRound 49 = .ok (.lmul, 1) := dw105 (n := 32) (i := 17) kc_cX8_endRound_1 (by decide +kernel)
theorem dX8_endRound_50 : decode cX8_endRound 50 = .ok (.lcmp, 1) := dw148 (n := 32) (i := 18) kc_cX8_endRound_1 (by decide +kernel)
theorem dX8_endRound_51 : decode cX8_endRound 51 = .ok (.ifCond .lt 7, 3) := dw155 (n := 32) (i := 19) (a := 0) (b := 7) kc_cX8_endRound_1 (by decide +kernel) (by decide)
theorem dX8_endRound_58 : decode cX8_endRound 58 = .ok (.iconst 0, 1) := dw3 (n := 32) (i := 26) kc_cX8_endRound_1 (by decide +kernel)
theorem dX8_endRound_59 : decode cX8_endRound 59 = .ok (.istore 6, 2) := dw54 (n := 32) (i := 27) (a := 6) kc_cX8_endRound_1 (by decide +kernel) (by decide)
theorem dX8_endRound_61 : decode cX8_endRound 61 = .ok (.iload 5, 2) := dw21 (n := 32) (i := 29) (a := 5) kc_cX8_endRound_1 (by decide +kernel) (by decide)
theorem dX8_endRound_63 : decode cX8_endRound 63 = .ok (.ifCond .ne 22, 3) := dw154 (n := 32) (i := 31) (a := 0) (b := 22) kc_cX8_endRound_1 (by decide +kernel) (by decide)
theorem dX8_endRound_66 : decode cX8_endRound 66 = .ok (.iload 6, 2) := dw21 (n := 64) (i := 2) (a := 6) kc_cX8_endRound_2 (by decide +kernel) (by decide)
theorem dX8_endRound_68 : decode cX8_endRound 68 = .ok (.ifCond .ne 17, 3) := dw154 (n := 64) (i := 4) (a := 0) (b := 17) kc_cX8_endRound_2 (by decide +kernel) (by decide)
theorem dX8_endRound_71 : decode cX8_endRound 71 = .ok (.aload_n 0, 1) := dw42 (n := 64) (i := 7) kc_cX8_endRound_2 (by decide +kernel)
theorem dX8_endRound_72 : decode cX8_endRound 72 = .ok (.aload_n 0, 1) := dw42 (n := 64) (i := 8) kc_cX8_endRound_2 (by decide +kernel)
theorem dX8_endRound_73 : decode cX8_endRound 73 = .ok (.getfield 29, 3) := dw180 (n := 64) (i := 9) (a := 0) (b := 29) kc_cX8_endRound_2 (by decide +kernel) (by decide)
theorem dX8_endRound_76 : decode cX8_endRound 76 = .ok (.invokevirtual 98, 3) := dw182 (n := 64) (i := 12) (a := 0) (b := 98) kc_cX8_endRound_2 (by decide +kernel) (by decide)
set_option maxRecDepth 20000 in
theorem ggX8_endRound_X6_leastIn : GoodIn wsX8_endRound wsX6_leastIn := (gk_code 16 rfl (gk_fieldLink 17 rfl (gk_fieldLink 18 rfl (gk_fieldLink 19 rfl (gk_fieldLink 12 rfl (gk_methodLink 20 rfl (gk_instanceMethod 21 rfl (gk_selects 22 rfl (gk_initialized 10 rfl (gk_code 23 rfl (gk_fieldLink 24 rfl (gk_fieldLink 25 rfl (gk_methodLink 26 rfl (gk_static 27 rfl (gk_initialized 28 rfl (gk_code 29 rfl (gk_laysFinal 86 rfl (gk_laysFinal 87 rfl (gk_laysFinal 88 rfl (gk_lays 89 rfl (gk_lays 90 rfl (gk_laysFinal 91 rfl (gk_laysFinal 92 rfl (gk_laysFinal 93 rfl (gk_lays 101 rfl (gk_laysFinal 102 rfl (gn)))))))))))))))))))))))))))
set_option maxRecDepth 20000 in
theorem gX8_endRound_X6_leastIn : GoodIn wsX8_endRound (wsV RX8 98 RX6 yX6_leastIn wsX6_leastIn) := goodIn_app (gk_methodLink 13 rfl (gk_instanceMethod 14 rfl (gk_selects 15 rfl (gk_initialized 10 rfl (gn))))) ggX8_endRound_X6_leastIn
theorem dX8_endRound_79 : decode cX8_endRound 79 = .ok (.aload 4, 2) := dw25 (n := 64) (i := 15) (a := 4) kc_cX8_endRound_2 (by decide +kernel) (by decide)
theorem dX8_endRound_81 : decode cX8_endRound 81 = .ok (.invokevirtual 101, 3) := dw182 (n := 64) (i := 17) (a := 0) (b := 101) kc_cX8_endRound_2 (by decide +kernel) (by decide)
set_option maxRecDepth 20000 in
theorem ggX8_endRound_X8_leaveOut : GoodIn wsX8_endRound wsX8_leaveOut := (gk_code 34 rfl (gk_fieldLink 1 rfl (gk_fieldLink 6 rfl (gk_methodLink 35 rfl (gk_instanceMethod 36 rfl (gk_selects 37 rfl (gk_initialized 38 rfl (gk_code 39 rfl (gk_fieldLink 40 rfl (gk_fieldLink 41 rfl (gk_fieldLink 42 rfl (gk_fieldLink 43 rfl (gk_fieldLink 44 rfl (gk_fieldLink 45 rfl (gk_fieldLink 46 rfl (gk_laysFinal 81 rfl (gk_laysFinal 82 rfl (gk_laysFinal 83 rfl (gk_laysFinal 84 rfl (gk_laysFinal 85 rfl (gk_laysFinal 86 rfl (gk_laysFinal 87 rfl (gk_laysFinal 88 rfl (gk_lays 89 rfl (gk_lays 90 rfl (gk_laysFinal 91 rfl (gk_laysFinal 92 rfl (gk_laysFinal 93 rfl (gk_lays 94 rfl (gk_laysFinal 95 rfl (gk_lays 96 rfl (gk_laysFinal 97 rfl (gk_laysFinal 98 rfl (gk_laysFinal 99 rfl (gk_laysFinal 100 rfl (gn))))))))))))))))))))))))))))))))))))
set_option maxRecDepth 20000 in
theorem gX8_endRound_X8_leaveOut : GoodIn wsX8_endRound (wsV RX8 101 RX8 yX8_leaveOut wsX8_leaveOut) := goodIn_app (gk_methodLink 30 rfl (gk_instanceMethod 31 rfl (gk_selects 32 rfl (gk_initialized 33 rfl (gn))))) ggX8_endRound_X8_leaveOut
theorem dX8_endRound_84 : decode cX8_endRound 84 = .ok (.ireturn, 1) := dw172 (n := 64) (i := 20) kc_cX8_endRound_2 (by decide +kernel)
theorem dX8_endRound_54 : decode cX8_endRound 54 = .ok (.iconst 1, 1) := dw4 (n := 32) (i := 22) kc_cX8_endRound_1 (by decide +kernel)
theorem dX8_endRound_55 : decode cX8_endRound 55 = .ok (.goto 4, 3) := dw167 (n := 32) (i := 23) (a := 0) (b := 4) kc_cX8_endRound_1 (by decide +kernel) (by decide)
theorem dX8_endRound_85 : decode cX8_endRound 85 = .ok (.aload 4, 2) := dw25 (n := 64) (i := 21) (a := 4) kc_cX8_endRound_2 (by decide +kernel) (by decide)
theorem dX8_endRound_87 : decode cX8_endRound 87 = .ok (.iconst 1, 1) := dw4 (n := 64) (i := 23) kc_cX8_endRound_2 (by decide +kernel)
theorem dX8_endRound_88 : decode cX8_endRound 88 = .ok (.iload_n 1, 1) := dw27 (n := 64) (i := 24) kc_cX8_endRound_2 (by decide +kernel)
theorem dX8_endRound_89 : decode cX8_endRound 89 = .ok (.aload_n 0, 1) := dw42 (n := 64) (i := 25) kc_cX8_endRound_2 (by decide +kernel)
theorem dX8_endRound_90 : decode cX8_endRound 90 = .ok (.getfield 29, 3) := dw180 (n := 64) (i := 26) (a := 0) (b := 29) kc_cX8_endRound_2 (by decide +kernel) (by decide)
theorem dX8_endRound_93 : decode cX8_endRound 93 = .ok (.invokevirtual 105, 3) := dw182 (n := 64) (i := 29) (a := 0) (b := 105) kc_cX8_endRound_2 (by decide +kernel) (by decide)
set_option maxRecDepth 20000 in
theorem ggX8_endRound_X7_note : GoodIn wsX8_endRound wsX7_note := (gk_code 39 rfl (gk_fieldLink 40 rfl (gk_fieldLink 41 rfl (gk_fieldLink 42 rfl (gk_fieldLink 43 rfl (gk_fieldLink 44 rfl (gk_fieldLink 45 rfl (gk_fieldLink 46 rfl (gk_lays 94 rfl (gk_laysFinal 95 rfl (gk_lays 96 rfl (gk_laysFinal 97 rfl (gk_laysFinal 98 rfl (gk_laysFinal 99 rfl (gk_laysFinal 100 rfl (gk_laysFinal 86 rfl (gk_laysFinal 87 rfl (gk_laysFinal 88 rfl (gk_lays 89 rfl (gk_lays 90 rfl (gk_laysFinal 91 rfl (gk_laysFinal 92 rfl (gk_laysFinal 93 rfl (gn))))))))))))))))))))))))
set_option maxRecDepth 20000 in
theorem gX8_endRound_X7_note : GoodIn wsX8_endRound (wsV RX8 105 RX7 yX7_note wsX7_note) := goodIn_app (gk_methodLink 35 rfl (gk_instanceMethod 36 rfl (gk_selects 37 rfl (gk_initialized 38 rfl (gn))))) ggX8_endRound_X7_note
theorem dX8_endRound_96 : decode cX8_endRound 96 = .ok (.aload 4, 2) := dw25 (n := 96) (i := 0) (a := 4) kc_cX8_endRound_3 (by decide +kernel) (by decide)
theorem dX8_endRound_98 : decode cX8_endRound 98 = .ok (.iload_n 1, 1) := dw27 (n := 96) (i := 2) kc_cX8_endRound_3 (by decide +kernel)
theorem dX8_endRound_99 : decode cX8_endRound 99 = .ok (.invokevirtual 109, 3) := dw182 (n := 96) (i := 3) (a := 0) (b := 109) kc_cX8_endRound_3 (by decide +kernel) (by decide)
set_option maxRecDepth 20000 in
theorem ggX8_endRound_X7_give : GoodIn wsX8_endRound wsX7_give := (gk_code 50 rfl (gk_fieldLink 51 rfl (gk_fieldLink 52 rfl (gk_lays 94 rfl (gk_laysFinal 95 rfl (gk_lays 96 rfl (gk_laysFinal 97 rfl (gk_laysFinal 98 rfl (gk_laysFinal 99 rfl (gk_laysFinal 100 rfl (gn)))))))))))
set_option maxRecDepth 20000 in
theorem gX8_endRound_X7_give : GoodIn wsX8_endRound (wsV RX8 109 RX7 yX7_give wsX7_give) := goodIn_app (gk_methodLink 47 rfl (gk_instanceMethod 48 rfl (gk_selects 49 rfl (gk_initialized 38 rfl (gn))))) ggX8_endRound_X7_give
theorem dX8_endRound_102 : decode cX8_endRound 102 = .ok (.aload_n 0, 1) := dw42 (n := 96) (i := 6) kc_cX8_endRound_3 (by decide +kernel)
theorem dX8_endRound_103 : decode cX8_endRound 103 = .ok (.getfield 29, 3) := dw180 (n := 96) (i := 7) (a := 0) (b := 29) kc_cX8_endRound_3 (by decide +kernel) (by decide)
theorem dX8_endRound_106 : decode cX8_endRound 106 = .ok (.getfield 113, 3) := dw180 (n := 96) (i := 10) (a := 0) (b := 113) kc_cX8_endRound_3 (by decide +kernel) (by decide)
theorem dX8_endRound_109 : decode cX8_endRound 109 = .ok (.iload_n 1, 1) := dw27 (n := 96) (i := 13) kc_cX8_endRound_3 (by decide +kernel)
theorem dX8_endRound_110 : decode cX8_endRound 110 = .ok (.iconst 0, 1) := dw3 (n := 96) (i := 14) kc_cX8_endRound_3 (by decide +kernel)
theorem dX8_endRound_111 : decode cX8_endRound 111 = .ok (.bastore, 1) := dw84 (n := 96) (i := 15) kc_cX8_endRound_3 (by decide +kernel)
theorem dX8_endRound_112 : decode cX8_endRound 112 = .ok (.iload 5, 2) := dw21 (n := 96) (i := 16) (a := 5) kc_cX8_endRound_3 (by decide +kernel) (by decide)
theorem dX8_endRound_114 : decode cX8_endRound 114 = .ok (.ifCond .ne 12, 3) := dw154 (n := 96) (i := 18) (a := 0) (b := 12) kc_cX8_endRound_3 (by decide +kernel) (by decide)
theorem dX8_endRound_117 : decode cX8_endRound 117 = .ok (.aload_n 0, 1) := dw42 (n := 96) (i := 21) kc_cX8_endRound_3 (by decide +kernel)
theorem dX8_endRound_118 : decode cX8_endRound 118 = .ok (.iload_n 1, 1) := dw27 (n := 96) (i := 22) kc_cX8_endRound_3 (by decide +kernel)
theorem dX8_endRound_119 : decode cX8_endRound 119 = .ok (.lload_n 2, 1) := dw32 (n := 96) (i := 23) kc_cX8_endRound_3 (by decide +kernel)
theorem dX8_endRound_120 : decode cX8_endRound 120 = .ok (.invokevirtual 117, 3) := dw182 (n := 96) (i := 24) (a := 0) (b := 117) kc_cX8_endRound_3 (by decide +kernel) (by decide)
set_option maxRecDepth 20000 in
theorem ggX8_endRound_X8_passOn : GoodIn wsX8_endRound wsX8_passOn := (gk_code 56 rfl (gk_fieldLink 1 rfl (gk_fieldLink 4 rfl (gk_fieldLink 5 rfl (gk_fieldLink 57 rfl (gk_fieldLink 58 rfl (gk_fieldLink 59 rfl (gk_fieldLink 60 rfl (gk_fieldLink 61 rfl (gk_fieldLink 62 rfl (gk_fieldLink 63 rfl (gk_methodLink 64 rfl (gk_instanceMethod 65 rfl (gk_selects 66 rfl (gk_initialized 67 rfl (gk_code 68 rfl (gk_fieldLink 69 rfl (gk_fieldLink 70 rfl (gk_methodLink 71 rfl (gk_instanceMethod 72 rfl (gk_selects 73 rfl (gk_code 74 rfl (gk_constantLong 75 rfl (gk_methodLink 76 rfl (gk_instanceMethod 77 rfl (gk_selects 78 rfl (gk_code 79 rfl (gk_methodLink 80 rfl (gk_laysFinal 81 rfl (gk_laysFinal 82 rfl (gk_laysFinal 83 rfl (gk_laysFinal 84 rfl (gk_laysFinal 85 rfl (gk_laysFinal 86 rfl (gk_laysFinal 87 rfl (gk_laysFinal 88 rfl (gk_lays 89 rfl (gk_lays 90 rfl (gk_laysFinal 91 rfl (gk_laysFinal 92 rfl (gk_laysFinal 93 rfl (gk_lays 103 rfl (gk_lays 104 rfl (gn))))))))))))))))))))))))))))))))))))))))))))
set_option maxRecDepth 20000 in
theorem gX8_endRound_X8_passOn : GoodIn wsX8_endRound (wsV RX8 117 RX8 yX8_passOn wsX8_passOn) := goodIn_app (gk_methodLink 53 rfl (gk_instanceMethod 54 rfl (gk_selects 55 rfl (gk_initialized 33 rfl (gn))))) ggX8_endRound_X8_passOn
theorem dX8_endRound_123 : decode cX8_endRound 123 = .ok (.ifCond .eq 7, 3) := dw153 (n := 96) (i := 27) (a := 0) (b := 7) kc_cX8_endRound_3 (by decide +kernel) (by decide)
theorem dX8_endRound_130 : decode cX8_endRound 130 = .ok (.iconst 0, 1) := dw3 (n := 128) (i := 2) kc_cX8_endRound_4 (by decide +kernel)
theorem dX8_endRound_131 : decode cX8_endRound 131 = .ok (.ireturn, 1) := dw172 (n := 128) (i := 3) kc_cX8_endRound_4 (by decide +kernel)
theorem dX8_endRound_126 : decode cX8_endRound 126 = .ok (.iconst 1, 1) := dw4 (n := 96) (i := 30) kc_cX8_endRound_3 (by decide +kernel)
theorem dX8_endRound_127 : decode cX8_endRound 127 = .ok (.goto 4, 3) := dw167 (n := 96) (i := 31) (a := 0) (b := 4) kc_cX8_endRound_3 (by decide +kernel) (by decide)
theorem dX8_endRound_23 : decode cX8_endRound 23 = .ok (.iconst 1, 1) := dw4 (n := 0) (i := 23) kc_cX8_endRound_0 (by decide +kernel)
theorem dX8_endRound_24 : decode cX8_endRound 24 = .ok (.goto 4, 3) := dw167 (n := 0) (i := 24) (a := 0) (b := 4) kc_cX8_endRound_0 (by decide +kernel) (by decide)
theorem dX8_seatByQuota_0 : decode cX8_seatByQuota 0 = .ok (.iconst 0, 1) := dw3 (n := 0) (i := 0) kc_cX8_seatByQuota_0 (by decide +kernel)
theorem dX8_seatByQuota_1 : decode cX8_seatByQuota 1 = .ok (.istore_n 2, 1) := dw61 (n := 0) (i := 1) kc_cX8_seatByQuota_0 (by decide +kernel)
theorem dX8_seatByQuota_2 : decode cX8_seatByQuota 2 = .ok (.iload_n 2, 1) := dw28 (n := 0) (i := 2) kc_cX8_seatByQuota_0 (by decide +kernel)
theorem dX8_seatByQuota_3 : decode cX8_seatByQuota 3 = .ok (.aload_n 0, 1) := dw42 (n := 0) (i := 3) kc_cX8_seatByQuota_0 (by decide +kernel)
theorem dX8_seatByQuota_4 : decode cX8_seatByQuota 4 = .ok (.getfield 29, 3) := dw180 (n := 0) (i := 4) (a := 0) (b := 29) kc_cX8_seatByQuota_0 (by decide +kernel) (by decide)
theorem in_X8_seatByQuota_8 : ∀ w ∈ u_ws RX8 TX8 5, w ∈ wsX8_seatByQuota := fun _ h => List.mem_cons_of_mem _ (List.mem_append_left _ (List.mem_append_left _ (List.mem_append_left _ (List.mem_append_left _ (List.mem_append_left _ (List.mem_append_right _ h))))))
theorem dX8_seatByQuota_7 : decode cX8_seatByQuota 7 = .ok (.getfield 33, 3) := dw180 (n := 0) (i := 7) (a := 0) (b := 33) kc_cX8_seatByQuota_0 (by decide +kernel) (by decide)
theorem in_X8_seatByQuota_6 : ∀ w ∈ u_ws RX6 TX6 8, w ∈ wsX8_seatByQuota := fun _ h => List.mem_cons_of_mem _ (List.mem_append_left _ (List.mem_append_left _ (List.mem_append_left _ (List.mem_append_left _ (List.mem_append_right _ h)))))
theorem dX8_seatByQuota_10 : decode cX8_seatByQuota 10 = .ok (.if_icmp .ge 31, 3) := dw162 (n := 0) (i := 10) (a := 0) (b := 31) kc_cX8_seatByQuota_0 (by decide +kernel) (by decide)
theorem dX8_seatByQuota_41 : decode cX8_seatByQuota 41 = .ok (.aload_n 0, 1) := dw42 (n := 32) (i := 9) kc_cX8_seatByQuota_1 (by decide +kernel)
theorem dX8_seatByQuota_42 : decode cX8_seatByQuota 42 = .ok (.getfield 29, 3) := dw180 (n := 32) (i := 10) (a := 0) (b := 29) kc_cX8_seatByQuota_1 (by decide +kernel) (by decide)
theorem dX8_seatByQuota_45 : decode cX8_seatByQuota 45 = .ok (.getfield 43, 3) := dw180 (n := 32) (i := 13) (a := 0) (b := 43) kc_cX8_seatByQuota_1 (by decide +kernel) (by decide)
theorem dX8_seatByQuota_48 : decode cX8_seatByQuota 48 = .ok (.iconst 1, 1) := dw4 (n := 32) (i := 16) kc_cX8_seatByQuota_1 (by decide +kernel)
theorem dX8_seatByQuota_49 : decode cX8_seatByQuota 49 = .ok (.if_icmp .ge 7, 3) := dw162 (n := 32) (i := 17) (a := 0) (b := 7) kc_cX8_seatByQuota_1 (by decide +kernel) (by decide)
theorem dX8_seatByQuota_56 : decode cX8_seatByQuota 56 = .ok (.aload_n 0, 1) := dw42 (n := 32) (i := 24) kc_cX8_seatByQuota_1 (by decide +kernel)
theorem dX8_seatByQuota_57 : decode cX8_seatByQuota 57 = .ok (.getfield 29, 3) := dw180 (n := 32) (i := 25) (a := 0) (b := 29) kc_cX8_seatByQuota_1 (by decide +kernel) (by decide)
theorem dX8_seatByQuota_60 : decode cX8_seatByQuota 60 = .ok (.invokevirtual 46, 3) := dw182 (n := 32) (i := 28) (a := 0) (b := 46) kc_cX8_seatByQuota_1 (by decide +kernel) (by decide)
set_option maxRecDepth 20000 in
theorem ggX8_seatByQuota_X6_allPapers : GoodIn wsX8_seatByQuota wsX6_allPapers := (gk_code 18 rfl (gk_fieldLink 19 rfl (gk_methodLink 20 rfl (gk_instanceMethod 8 rfl (gk_selects 9 rfl (gk_initialized 10 rfl (gk_code 11 rfl (gk_fieldLink 12 rfl (gk_fieldLink 13 rfl (gk_fieldLink 14 rfl (gk_laysFinal 129 rfl (gk_laysFinal 130 rfl (gk_laysFinal 131 rfl (gk_lays 132 rfl (gk_lays 133 rfl (gk_laysFinal 134 rfl (gk_laysFinal 135 rfl (gk_laysFinal 136 rfl (gk_lays 144 rfl (gk_laysFinal 145 rfl (gk_laysFinal 146 rfl (gk_laysFinal 147 rfl (gk_laysFinal 148 rfl (gn))))))))))))))))))))))))
set_option maxRecDepth 20000 in
theorem gX8_seatByQuota_X6_allPapers : GoodIn wsX8_seatByQuota (wsV RX8 46 RX6 yX6_allPapers wsX6_allPapers) := goodIn_app (gk_methodLink 15 rfl (gk_instanceMethod 16 rfl (gk_selects 17 rfl (gk_initialized 10 rfl (gn))))) ggX8_seatByQuota_X6_allPapers
theorem dX8_seatByQuota_63 : decode cX8_seatByQuota 63 = .ok (.aload_n 0, 1) := dw42 (n := 32) (i := 31) kc_cX8_seatByQuota_1 (by decide +kernel)
theorem dX8_seatByQuota_64 : decode cX8_seatByQuota 64 = .ok (.getfield 29, 3) := dw180 (n := 64) (i := 0) (a := 0) (b := 29) kc_cX8_seatByQuota_2 (by decide +kernel) (by decide)
theorem dX8_seatByQuota_67 : decode cX8_seatByQuota 67 = .ok (.getfield 43, 3) := dw180 (n := 64) (i := 3) (a := 0) (b := 43) kc_cX8_seatByQuota_2 (by decide +kernel) (by decide)
theorem dX8_seatByQuota_70 : decode cX8_seatByQuota 70 = .ok (.iconst 1, 1) := dw4 (n := 64) (i := 6) kc_cX8_seatByQuota_2 (by decide +kernel)
theorem dX8_seatByQuota_71 : decode cX8_seatByQuota 71 = .ok (.iadd, 1) := dw96 (n := 64) (i := 7) kc_cX8_seatByQuota_2 (by decide +kernel)
theorem dX8_seatByQuota_72 : decode cX8_seatByQuota 72 = .ok (.idiv, 1) := dw108 (n := 64) (i := 8) kc_cX8_seatByQuota_2 (by decide +kernel)
theorem dX8_seatByQuota_73 : decode cX8_seatByQuota 73 = .ok (.iconst 1, 1) := dw4 (n := 64) (i := 9) kc_cX8_seatByQuota_2 (by decide +kernel)
theorem dX8_seatByQuota_74 : decode cX8_seatByQuota 74 = .ok (.iadd, 1) := dw96 (n := 64) (i := 10) kc_cX8_seatByQuota_2 (by decide +kernel)
theorem dX8_seatByQuota_75 : decode cX8_seatByQuota 75 = .ok (.i2l, 1) := dw133 (n := 64) (i := 11) kc_cX8_seatByQuota_2 (by decide +kernel)
theorem dX8_seatByQuota_76 : decode cX8_seatByQuota 76 = .ok (.lstore_n 2, 1) := dw65 (n := 64) (i := 12) kc_cX8_seatByQuota_2 (by decide +kernel)
theorem dX8_seatByQuota_77 : decode cX8_seatByQuota 77 = .ok (.iconst 0, 1) := dw3 (n := 64) (i := 13) kc_cX8_seatByQuota_2 (by decide +kernel)
theorem dX8_seatByQuota_78 : decode cX8_seatByQuota 78 = .ok (.istore 4, 2) := dw54 (n := 64) (i := 14) (a := 4) kc_cX8_seatByQuota_2 (by decide +kernel) (by decide)
theorem dX8_seatByQuota_80 : decode cX8_seatByQuota 80 = .ok (.iload 4, 2) := dw21 (n := 64) (i := 16) (a := 4) kc_cX8_seatByQuota_2 (by decide +kernel) (by decide)
theorem dX8_seatByQuota_82 : decode cX8_seatByQuota 82 = .ok (.bipush 10, 2) := dw16 (n := 64) (i := 18) (a := 10) kc_cX8_seatByQuota_2 (by decide +kernel) (by decide)
theorem dX8_seatByQuota_84 : decode cX8_seatByQuota 84 = .ok (.if_icmp .ge 64, 3) := dw162 (n := 64) (i := 20) (a := 0) (b := 64) kc_cX8_seatByQuota_2 (by decide +kernel) (by decide)
theorem dX8_seatByQuota_148 : decode cX8_seatByQuota 148 = .ok (.iconst 1, 1) := dw4 (n := 128) (i := 20) kc_cX8_seatByQuota_4 (by decide +kernel)
theorem dX8_seatByQuota_149 : decode cX8_seatByQuota 149 = .ok (.ireturn, 1) := dw172 (n := 128) (i := 21) kc_cX8_seatByQuota_4 (by decide +kernel)
theorem dX8_seatByQuota_87 : decode cX8_seatByQuota 87 = .ok (.aload_n 1, 1) := dw43 (n := 64) (i := 23) kc_cX8_seatByQuota_2 (by decide +kernel)
theorem dX8_seatByQuota_88 : decode cX8_seatByQuota 88 = .ok (.getfield 50, 3) := dw180 (n := 64) (i := 24) (a := 0) (b := 50) kc_cX8_seatByQuota_2 (by decide +kernel) (by decide)
theorem in_X8_seatByQuota_7 : ∀ w ∈ u_ws RX7 TX7 7, w ∈ wsX8_seatByQuota := fun _ h => List.mem_cons_of_mem _ (List.mem_append_left _ (List.mem_append_left _ (List.mem_append_left _ (List.mem_append_right _ h))))
theorem dX8_seatByQuota_91 : decode cX8_seatByQuota 91 = .ok (.aload_n 0, 1) := dw42 (n := 64) (i := 27) kc_cX8_seatByQuota_2 (by decide +kernel)
theorem dX8_seatByQuota_92 : decode cX8_seatByQuota 92 = .ok (.getfield 29, 3) := dw180 (n := 64) (i := 28) (a := 0) (b := 29) kc_cX8_seatByQuota_2 (by decide +kernel) (by decide)
theorem dX8_seatByQuota_95 : decode cX8_seatByQuota 95 = .ok (.getfield 43, 3) := dw180 (n := 64) (i := 31) (a := 0) (b := 43) kc_cX8_seatByQuota_2 (by decide +kernel) (by decide)
theorem dX8_seatByQuota_98 : decode cX8_seatByQuota 98 = .ok (.if_icmp .ge 50, 3) := dw162 (n := 96) (i := 2) (a := 0) (b := 50) kc_cX8_seatByQuota_3 (by decide +kernel) (by decide)
theorem dX8_seatByQuota_101 : decode cX8_seatByQuota 101 = .ok (.aload_n 0, 1) := dw42 (n := 96) (i := 5) kc_cX8_seatByQuota_3 (by decide +kernel)
theorem dX8_seatByQuota_102 : decode cX8_seatByQuota 102 = .ok (.invokevirtual 53, 3) := dw182 (n := 96) (i := 6) (a := 0) (b := 53) kc_cX8_seatByQuota_3 (by decide +kernel) (by decide)
set_option maxRecDepth 20000 in
theorem ggX8_seatByQuota_X8_tallyWeights : GoodIn wsX8_seatByQuota wsX8_tallyWeights := (gk_code 25 rfl (gk_fieldLink 1 rfl (gk_fieldLink 2 rfl (gk_fieldLink 26 rfl (gk_methodLink 27 rfl (gk_instanceMethod 28 rfl (gk_selects 29 rfl (gk_initialized 10 rfl (gk_code 30 rfl (gk_fieldLink 31 rfl (gk_fieldLink 32 rfl (gk_methodLink 33 rfl (gk_instanceMethod 34 rfl (gk_selects 35 rfl (gk_code 36 rfl (gk_fieldLink 14 rfl (gk_fieldLink 12 rfl (gk_fieldLink 37 rfl (gk_fieldLink 38 rfl (gk_fieldLink 39 rfl (gk_methodLink 40 rfl (gk_instanceMethod 41 rfl (gk_selects 42 rfl (gk_initialized 24 rfl (gk_code 43 rfl (gk_fieldLink 44 rfl (gk_fieldLink 45 rfl (gk_fieldLink 46 rfl (gk_fieldLink 3 rfl (gk_fieldLink 4 rfl (gk_fieldLink 47 rfl (gk_fieldLink 48 rfl (gk_methodLink 49 rfl (gk_instanceMethod 50 rfl (gk_selects 51 rfl (gk_initialized 52 rfl (gk_code 53 rfl (gk_fieldLink 54 rfl (gk_fieldLink 55 rfl (gk_methodLink 56 rfl (gk_instanceMethod 57 rfl (gk_selects 58 rfl (gk_code 59 rfl (gk_methodLink 60 rfl (gk_methodLink 61 rfl (gk_instanceMethod 62 rfl (gk_selects 63 rfl (gk_code 64 rfl (gk_constantLong 65 rfl (gk_laysFinal 124 rfl (gk_laysFinal 125 rfl (gk_laysFinal 126 rfl (gk_laysFinal 127 rfl (gk_laysFinal 128 rfl (gk_laysFinal 129 rfl (gk_laysFinal 130 rfl (gk_laysFinal 131 rfl (gk_lays 132 rfl (gk_lays 133 rfl (gk_laysFinal 134 rfl (gk_laysFinal 135 rfl (gk_laysFinal 136 rfl (gk_lays 144 rfl (gk_laysFinal 145 rfl (gk_laysFinal 146 rfl (gk_laysFinal 147 rfl (gk_laysFinal 148 rfl (gk_lays 149 rfl (gk_lays 150 rfl (gn))))))))))))))))))))))))))))))))))))))))))))))))))))))))))))))))))))))
set_option maxRecDepth 20000 in
theorem gX8_seatByQuota_X8_tallyWeights : GoodIn wsX8_seatByQuota (wsV RX8 53 RX8 yX8_tallyWeights wsX8_tallyWeights) := goodIn_app (gk_methodLink 21 rfl (gk_instanceMethod 22 rfl (gk_selects 23 rfl (gk_initialized 24 rfl (gn))))) ggX8_seatByQuota_X8_tallyWeights
theorem dX8_seatByQuota_105 : decode cX8_seatByQuota 105 = .ok (.ifCond .eq 13, 3) := dw153 (n := 96) (i := 9) (a := 0) (b := 13) kc_cX8_seatByQuota_3 (by decide +kernel) (by decide)
theorem dX8_seatByQuota_118 : decode cX8_seatByQuota 118 = .ok (.bipush (-9), 2) := dw16 (n := 96) (i := 22) (a := 247) kc_cX8_seatByQuota_3 (by decide +kernel) (by decide)
theorem dX8_seatByQuota_120 : decode cX8_seatByQuota 120 = .ok (.istore 5, 2) := dw54 (n := 96) (i := 24) (a := 5) kc_cX8_seatByQuota_3 (by decide +kernel) (by decide)
theorem dX8_seatByQuota_122 : decode cX8_seatByQuota 122 = .ok (.iload 5, 2) := dw21 (n := 96) (i := 26) (a := 5) kc_cX8_seatByQuota_3 (by decide +kernel) (by decide)
theorem dX8_seatByQuota_124 : decode cX8_seatByQuota 124 = .ok (.bipush (-9), 2) := dw16 (n := 96) (i := 28) (a := 247) kc_cX8_seatByQuota_3 (by decide +kernel) (by decide)
theorem dX8_seatByQuota_126 : decode cX8_seatByQuota 126 = .ok (.if_icmp .eq 14, 3) := dw159 (n := 96) (i := 30) (a := 0) (b := 14) kc_cX8_seatByQuota_3 (by decide +kernel) (by decide)
theorem dX8_seatByQuota_140 : decode cX8_seatByQuota 140 = .ok (.iconst 0, 1) := dw3 (n := 128) (i := 12) kc_cX8_seatByQuota_4 (by decide +kernel)
theorem dX8_seatByQuota_141 : decode cX8_seatByQuota 141 = .ok (.ireturn, 1) := dw172 (n := 128) (i := 13) kc_cX8_seatByQuota_4 (by decide +kernel)
theorem dX8_seatByQuota_108 : decode cX8_seatByQuota 108 = .ok (.aload_n 0, 1) := dw42 (n := 96) (i := 12) kc_cX8_seatByQuota_3 (by decide +kernel)
theorem dX8_seatByQuota_109 : decode cX8_seatByQuota 109 = .ok (.getfield 29, 3) := dw180 (n := 96) (i := 13) (a := 0) (b := 29) kc_cX8_seatByQuota_3 (by decide +kernel) (by decide)
theorem dX8_seatByQuota_112 : decode cX8_seatByQuota 112 = .ok (.invokevirtual 57, 3) := dw182 (n := 96) (i := 16) (a := 0) (b := 57) kc_cX8_seatByQuota_3 (by decide +kernel) (by decide)
set_option maxRecDepth 20000 in
theorem ggX8_seatByQuota_X6_greatestIn : GoodIn wsX8_seatByQuota wsX6_greatestIn := (gk_code 69 rfl (gk_fieldLink 70 rfl (gk_fieldLink 71 rfl (gk_fieldLink 72 rfl (gk_fieldLink 39 rfl (gk_methodLink 73 rfl (gk_instanceMethod 74 rfl (gk_selects 75 rfl (gk_initialized 10 rfl (gk_code 76 rfl (gk_fieldLink 31 rfl (gk_fieldLink 32 rfl (gk_methodLink 77 rfl (gk_static 78 rfl (gk_initialized 79 rfl (gk_code 80 rfl (gk_laysFinal 129 rfl (gk_laysFinal 130 rfl (gk_laysFinal 131 rfl (gk_lays 132 rfl (gk_lays 133 rfl (gk_laysFinal 134 rfl (gk_laysFinal 135 rfl (gk_laysFinal 136 rfl (gk_lays 151 rfl (gk_laysFinal 152 rfl (gn)))))))))))))))))))))))))))
set_option maxRecDepth 20000 in
theorem gX8_seatByQuota_X6_greatestIn : GoodIn wsX8_seatByQuota (wsV RX8 57 RX6 yX6_greatestIn wsX6_greatestIn) := goodIn_app (gk_methodLink 66 rfl (gk_instanceMethod 67 rfl (gk_selects 68 rfl (gk_initialized 10 rfl (gn))))) ggX8_seatByQuota_X6_greatestIn
theorem dX8_seatByQuota_115 : decode cX8_seatByQuota 115 = .ok (.goto 5, 3) := dw167 (n := 96) (i := 19) (a := 0) (b := 5) kc_cX8_seatByQuota_3 (by decide +kernel) (by decide)
theorem dX8_seatByQuota_129 : decode cX8_seatByQuota 129 = .ok (.aload_n 0, 1) := dw42 (n := 128) (i := 1) kc_cX8_seatByQuota_4 (by decide +kernel)
theorem dX8_seatByQuota_130 : decode cX8_seatByQuota 130 = .ok (.iload 5, 2) := dw21 (n := 128) (i := 2) (a := 5) kc_cX8_seatByQuota_4 (by decide +kernel) (by decide)
theorem dX8_seatByQuota_132 : decode cX8_seatByQuota 132 = .ok (.lload_n 2, 1) := dw32 (n := 128) (i := 4) kc_cX8_seatByQuota_4 (by decide +kernel)
theorem dX8_seatByQuota_133 : decode cX8_seatByQuota 133 = .ok (.aload_n 1, 1) := dw43 (n := 128) (i := 5) kc_cX8_seatByQuota_4 (by decide +kernel)
theorem dX8_seatByQuota_134 : decode cX8_seatByQuota 134 = .ok (.invokevirtual 60, 3) := dw182 (n := 128) (i := 6) (a := 0) (b := 60) kc_cX8_seatByQuota_4 (by decide +kernel) (by decide)
set_option maxRecDepth 20000 in
theorem ggX8_seatByQuota_X8_endRound : GoodIn wsX8_seatByQuota wsX8_endRound := (gk_code 84 rfl (gk_fieldLink 1 rfl (gk_fieldLink 5 rfl (gk_fieldLink 6 rfl (gk_fieldLink 45 rfl (gk_fieldLink 46 rfl (gk_fieldLink 85 rfl (gk_methodLink 86 rfl (gk_instanceMethod 87 rfl (gk_selects 88 rfl (gk_initialized 10 rfl (gk_code 89 rfl (gk_fieldLink 39 rfl (gk_methodLink 90 rfl (gk_instanceMethod 91 rfl (gk_selects 92 rfl (gk_code 93 rfl (gk_fieldLink 70 rfl (gk_fieldLink 71 rfl (gk_fieldLink 72 rfl (gk_methodLink 73 rfl (gk_instanceMethod 74 rfl (gk_selects 75 rfl (gk_code 76 rfl (gk_fieldLink 31 rfl (gk_fieldLink 32 rfl (gk_methodLink 77 rfl (gk_static 78 rfl (gk_initialized 79 rfl (gk_code 80 rfl (gk_methodLink 94 rfl (gk_instanceMethod 95 rfl (gk_selects 96 rfl (gk_initialized 24 rfl (gk_code 97 rfl (gk_methodLink 98 rfl (gk_instanceMethod 99 rfl (gk_selects 100 rfl (gk_initialized 101 rfl (gk_code 102 rfl (gk_fieldLink 103 rfl (gk_fieldLink 104 rfl (gk_fieldLink 105 rfl (gk_fieldLink 106 rfl (gk_fieldLink 107 rfl (gk_fieldLink 108 rfl (gk_fieldLink 109 rfl (gk_methodLink 110 rfl (gk_instanceMethod 111 rfl (gk_selects 112 rfl (gk_code 113 rfl (gk_fieldLink 114 rfl (gk_fieldLink 115 rfl (gk_methodLink 116 rfl (gk_instanceMethod 117 rfl (gk_selects 118 rfl (gk_code 119 rfl (gk_fieldLink 44 rfl (gk_fieldLink 47 rfl (gk_fieldLink 48 rfl (gk_fieldLink 2 rfl (gk_fieldLink 26 rfl (gk_fieldLink 3 rfl (gk_fieldLink 4 rfl (gk_methodLink 49 rfl (gk_instanceMethod 50 rfl (gk_selects 51 rfl (gk_initialized 52 rfl (gk_code 53 rfl (gk_fieldLink 54 rfl (gk_fieldLink 55 rfl (gk_methodLink 61 rfl (gk_instanceMethod 62 rfl (gk_selects 63 rfl (gk_code 64 rfl (gk_constantLong 65 rfl (gk_methodLink 120 rfl (gk_instanceMethod 121 rfl (gk_selects 122 rfl (gk_code 123 rfl (gk_methodLink 60 rfl (gk_laysFinal 124 rfl (gk_laysFinal 125 rfl (gk_laysFinal 126 rfl (gk_laysFinal 127 rfl (gk_laysFinal 128 rfl (gk_laysFinal 129 rfl (gk_laysFinal 130 rfl (gk_laysFinal 131 rfl (gk_lays 132 rfl (gk_lays 133 rfl (gk_laysFinal 134 rfl (gk_laysFinal 135 rfl (gk_laysFinal 136 rfl (gk_lays 137 rfl (gk_laysFinal 138 rfl (gk_lays 139 rfl (gk_laysFinal 140 rfl (gk_laysFinal 141 rfl (gk_laysFinal 142 rfl (gk_laysFinal 143 rfl (gk_lays 151 rfl (gk_laysFinal 152 rfl (gk_lays 149 rfl (gk_lays 150 rfl (gn))))))))))))))))))))))))))))))))))))))))))))))))))))))))))))))))))))))))))))))))))))))))))))))))))))))))))
set_option maxRecDepth 20000 in
theorem gX8_seatByQuota_X8_endRound : GoodIn wsX8_seatByQuota (wsV RX8 60 RX8 yX8_endRound wsX8_endRound) := goodIn_app (gk_methodLink 81 rfl (gk_instanceMethod 82 rfl (gk_selects 83 rfl (gk_initialized 24 rfl (gn))))) ggX8_seatByQuota_X8_endRound
theorem dX8_seatByQuota_137 : decode cX8_seatByQuota 137 = .ok (.ifCond .ne 5, 3) := dw154 (n := 128) (i := 9) (a := 0) (b := 5) kc_cX8_seatByQuota_4 (by decide +kernel) (by decide)
theorem dX8_seatByQuota_142 : decode cX8_seatByQuota 142 = .ok (.iinc 4 1, 3) := by decide +kernel
theorem dX8_seatByQuota_145 : decode cX8_seatByQuota 145 = .ok (.goto (-65), 3) := dw167 (n := 128) (i := 17) (a := 255) (b := 191) kc_cX8_seatByQuota_4 (by decide +kernel) (by decide)
theorem dX8_seatByQuota_13 : decode cX8_seatByQuota 13 = .ok (.aload_n 0, 1) := dw42 (n := 0) (i := 13) kc_cX8_seatByQuota_0 (by decide +kernel)
theorem dX8_seatByQuota_14 : decode cX8_seatByQuota 14 = .ok (.getfield 9, 3) := dw180 (n := 0) (i := 14) (a := 0) (b := 9) kc_cX8_seatByQuota_0 (by decide +kernel) (by decide)
theorem dX8_seatByQuota_17 : decode cX8_seatByQuota 17 = .ok (.iload_n 2, 1) := dw28 (n := 0) (i := 17) kc_cX8_seatByQuota_0 (by decide +kernel)
theorem dX8_seatByQuota_18 : decode cX8_seatByQuota 18 = .ok (.aload_n 0, 1) := dw42 (n := 0) (i := 18) kc_cX8_seatByQuota_0 (by decide +kernel)
theorem dX8_seatByQuota_19 : decode cX8_seatByQuota 19 = .ok (.getfield 29, 3) := dw180 (n := 0) (i := 19) (a := 0) (b := 29) kc_cX8_seatByQuota_0 (by decide +kernel) (by decide)
theorem dX8_seatByQuota_22 : decode cX8_seatByQuota 22 = .ok (.iload_n 2, 1) := dw28 (n := 0) (i := 22) kc_cX8_seatByQuota_0 (by decide +kernel)
theorem dX8_seatByQuota_23 : decode cX8_seatByQuota 23 = .ok (.invokevirtual 39, 3) := dw182 (n := 0) (i := 23) (a := 0) (b := 39) kc_cX8_seatByQuota_0 (by decide +kernel) (by decide)
set_option maxRecDepth 20000 in
theorem ggX8_seatByQuota_X6_papersOf : GoodIn wsX8_seatByQuota wsX6_papersOf := (gk_code 11 rfl (gk_fieldLink 12 rfl (gk_fieldLink 13 rfl (gk_fieldLink 14 rfl (gk_laysFinal 129 rfl (gk_laysFinal 130 rfl (gk_laysFinal 131 rfl (gk_lays 132 rfl (gk_lays 133 rfl (gk_laysFinal 134 rfl (gk_laysFinal 135 rfl (gk_laysFinal 136 rfl (gk_lays 144 rfl (gk_laysFinal 145 rfl (gk_laysFinal 146 rfl (gk_laysFinal 147 rfl (gk_laysFinal 148 rfl (gn))))))))))))))))))
set_option maxRecDepth 20000 in
theorem gX8_seatByQuota_X6_papersOf : GoodIn wsX8_seatByQuota (wsV RX8 39 RX6 yX6_papersOf wsX6_papersOf) := goodIn_app (gk_methodLink 7 rfl (gk_instanceMethod 8 rfl (gk_selects 9 rfl (gk_initialized 10 rfl (gn))))) ggX8_seatByQuota_X6_papersOf
theorem dX8_seatByQuota_26 : decode cX8_seatByQuota 26 = .ok (.i2l, 1) := dw133 (n := 0) (i := 26) kc_cX8_seatByQuota_0 (by decide +kernel)
theorem dX8_seatByQuota_27 : decode cX8_seatByQuota 27 = .ok (.lastore, 1) := dw80 (n := 0) (i := 27) kc_cX8_seatByQuota_0 (by decide +kernel)
theorem dX8_seatByQuota_28 : decode cX8_seatByQuota 28 = .ok (.aload_n 0, 1) := dw42 (n := 0) (i := 28) kc_cX8_seatByQuota_0 (by decide +kernel)
theorem dX8_seatByQuota_29 : decode cX8_seatByQuota 29 = .ok (.getfield 15, 3) := dw180 (n := 0) (i := 29) (a := 0) (b := 15) kc_cX8_seatByQuota_0 (by decide +kernel) (by decide)
theorem dX8_seatByQuota_32 : decode cX8_seatByQuota 32 = .ok (.iload_n 2, 1) := dw28 (n := 32) (i := 0) kc_cX8_seatByQuota_1 (by decide +kernel)
theorem dX8_seatByQuota_33 : decode cX8_seatByQuota 33 = .ok (.lconst 1, 1) := dw10 (n := 32) (i := 1) kc_cX8_seatByQuota_1 (by decide +kernel)
theorem dX8_seatByQuota_34 : decode cX8_seatByQuota 34 = .ok (.lastore, 1) := dw80 (n := 32) (i := 2) kc_cX8_seatByQuota_1 (by decide +kernel)
theorem dX8_seatByQuota_35 : decode cX8_seatByQuota 35 = .ok (.iinc 2 1, 3) := by decide +kernel
theorem dX8_seatByQuota_38 : decode cX8_seatByQuota 38 = .ok (.goto (-36), 3) := dw167 (n := 32) (i := 6) (a := 255) (b := 220) kc_cX8_seatByQuota_1 (by decide +kernel) (by decide)
