theorem dX9_seatByWays_0 : decode cX9_seatByWays 0 = .ok (.aload_n 0, 1) := dw42 (n := 0) (i := 0) kc_cX9_seatByWays_0 (by decide +kernel)
theorem dX9_seatByWays_1 : decode cX9_seatByWays 1 = .ok (.invokevirtual 27, 3) := dw182 (n := 0) (i := 1) (a := 0) (b := 27) kc_cX9_seatByWays_0 (by decide +kernel) (by decide)
set_option maxRecDepth 20000 in
theorem ggX9_seatByWays_X9_compareAll : GoodIn wsX9_seatByWays wsX9_compareAll := (gk_code 9 rfl (gk_fieldLink 10 rfl (gk_fieldLink 1 rfl (gk_fieldLink 11 rfl (gk_methodLink 12 rfl (gk_instanceMethod 13 rfl (gk_selects 14 rfl (gk_initialized 8 rfl (gk_code 15 rfl (gk_fieldLink 16 rfl (gk_fieldLink 17 rfl (gk_fieldLink 18 rfl (gk_fieldLink 19 rfl (gk_fieldLink 20 rfl (gk_methodLink 21 rfl (gk_instanceMethod 22 rfl (gk_selects 23 rfl (gk_initialized 24 rfl (gk_code 25 rfl (gk_fieldLink 26 rfl (gk_fieldLink 27 rfl (gk_fieldLink 28 rfl (gk_methodLink 29 rfl (gk_instanceMethod 30 rfl (gk_selects 31 rfl (gk_initialized 32 rfl (gk_code 33 rfl (gk_fieldLink 34 rfl (gk_fieldLink 35 rfl (gk_laysFinal 89 rfl (gk_laysFinal 90 rfl (gk_laysFinal 91 rfl (gk_laysFinal 92 rfl (gk_laysFinal 93 rfl (gk_laysFinal 94 rfl (gk_laysFinal 95 rfl (gk_lays 96 rfl (gk_lays 97 rfl (gk_laysFinal 98 rfl (gk_laysFinal 99 rfl (gk_laysFinal 100 rfl (gk_lays 101 rfl (gk_laysFinal 102 rfl (gk_lays 103 rfl (gk_laysFinal 104 rfl (gk_laysFinal 105 rfl (gk_laysFinal 106 rfl (gk_laysFinal 107 rfl (gn)))))))))))))))))))))))))))))))))))))))))))))))))
set_option maxRecDepth 20000 in
theorem gX9_seatByWays_X9_compareAll : GoodIn wsX9_seatByWays (wsV RX9 27 RX9 yX9_compareAll wsX9_compareAll) := goodIn_app (gk_methodLink 5 rfl (gk_instanceMethod 6 rfl (gk_selects 7 rfl (gk_initialized 8 rfl (gn))))) ggX9_seatByWays_X9_compareAll
theorem dX9_seatByWays_4 : decode cX9_seatByWays 4 = .ok (.aload_n 0, 1) := dw42 (n := 0) (i := 4) kc_cX9_seatByWays_0 (by decide +kernel)
theorem dX9_seatByWays_5 : decode cX9_seatByWays 5 = .ok (.invokevirtual 30, 3) := dw182 (n := 0) (i := 5) (a := 0) (b := 30) kc_cX9_seatByWays_0 (by decide +kernel) (by decide)
set_option maxRecDepth 20000 in
theorem ggX9_seatByWays_X9_beginWays : GoodIn wsX9_seatByWays wsX9_beginWays := (gk_code 39 rfl (gk_fieldLink 1 rfl (gk_fieldLink 16 rfl (gk_fieldLink 17 rfl (gk_fieldLink 40 rfl (gk_fieldLink 10 rfl (gk_laysFinal 89 rfl (gk_laysFinal 90 rfl (gk_laysFinal 91 rfl (gk_laysFinal 92 rfl (gk_laysFinal 93 rfl (gk_laysFinal 94 rfl (gk_laysFinal 95 rfl (gk_lays 96 rfl (gk_lays 97 rfl (gk_laysFinal 98 rfl (gk_laysFinal 99 rfl (gk_laysFinal 100 rfl (gk_lays 101 rfl (gk_laysFinal 102 rfl (gn)))))))))))))))))))))
set_option maxRecDepth 20000 in
theorem gX9_seatByWays_X9_beginWays : GoodIn wsX9_seatByWays (wsV RX9 30 RX9 yX9_beginWays wsX9_beginWays) := goodIn_app (gk_methodLink 36 rfl (gk_instanceMethod 37 rfl (gk_selects 38 rfl (gk_initialized 8 rfl (gn))))) ggX9_seatByWays_X9_beginWays
theorem dX9_seatByWays_8 : decode cX9_seatByWays 8 = .ok (.aload_n 0, 1) := dw42 (n := 0) (i := 8) kc_cX9_seatByWays_0 (by decide +kernel)
theorem dX9_seatByWays_9 : decode cX9_seatByWays 9 = .ok (.invokevirtual 33, 3) := dw182 (n := 0) (i := 9) (a := 0) (b := 33) kc_cX9_seatByWays_0 (by decide +kernel) (by decide)
set_option maxRecDepth 20000 in
theorem ggX9_seatByWays_X9_strengthenWays : GoodIn wsX9_seatByWays wsX9_strengthenWays := (gk_code 44 rfl (gk_fieldLink 1 rfl (gk_fieldLink 16 rfl (gk_fieldLink 17 rfl (gk_fieldLink 40 rfl (gk_methodLink 45 rfl (gk_static 46 rfl (gk_initialized 47 rfl (gk_code 48 rfl (gk_methodLink 49 rfl (gk_static 50 rfl (gk_code 51 rfl (gk_laysFinal 89 rfl (gk_laysFinal 90 rfl (gk_laysFinal 91 rfl (gk_laysFinal 92 rfl (gk_laysFinal 93 rfl (gk_laysFinal 94 rfl (gk_laysFinal 95 rfl (gk_lays 96 rfl (gk_lays 97 rfl (gk_laysFinal 98 rfl (gk_laysFinal 99 rfl (gk_laysFinal 100 rfl (gk_lays 101 rfl (gk_laysFinal 102 rfl (gn)))))))))))))))))))))))))))
set_option maxRecDepth 20000 in
theorem gX9_seatByWays_X9_strengthenWays : GoodIn wsX9_seatByWays (wsV RX9 33 RX9 yX9_strengthenWays wsX9_strengthenWays) := goodIn_app (gk_methodLink 41 rfl (gk_instanceMethod 42 rfl (gk_selects 43 rfl (gk_initialized 8 rfl (gn))))) ggX9_seatByWays_X9_strengthenWays
theorem dX9_seatByWays_12 : decode cX9_seatByWays 12 = .ok (.iconst 0, 1) := dw3 (n := 0) (i := 12) kc_cX9_seatByWays_0 (by decide +kernel)
theorem dX9_seatByWays_13 : decode cX9_seatByWays 13 = .ok (.istore_n 2, 1) := dw61 (n := 0) (i := 13) kc_cX9_seatByWays_0 (by decide +kernel)
theorem dX9_seatByWays_14 : decode cX9_seatByWays 14 = .ok (.iload_n 2, 1) := dw28 (n := 0) (i := 14) kc_cX9_seatByWays_0 (by decide +kernel)
theorem dX9_seatByWays_15 : decode cX9_seatByWays 15 = .ok (.aload_n 0, 1) := dw42 (n := 0) (i := 15) kc_cX9_seatByWays_0 (by decide +kernel)
theorem dX9_seatByWays_16 : decode cX9_seatByWays 16 = .ok (.getfield 23, 3) := dw180 (n := 0) (i := 16) (a := 0) (b := 23) kc_cX9_seatByWays_0 (by decide +kernel) (by decide)
theorem in_X9_seatByWays_9 : ∀ w ∈ u_ws RX9 TX9 4, w ∈ wsX9_seatByWays := fun _ h => List.mem_cons_of_mem _ (List.mem_append_left _ (List.mem_append_left _ (List.mem_append_left _ (List.mem_append_left _ (List.mem_append_right _ h)))))
theorem dX9_seatByWays_19 : decode cX9_seatByWays 19 = .ok (.getfield 36, 3) := dw180 (n := 0) (i := 19) (a := 0) (b := 36) kc_cX9_seatByWays_0 (by decide +kernel) (by decide)
theorem in_X9_seatByWays_6 : ∀ w ∈ u_ws RX6 TX6 8, w ∈ wsX9_seatByWays := fun _ h => List.mem_cons_of_mem _ (List.mem_append_left _ (List.mem_append_left _ (List.mem_append_left _ (List.mem_append_right _ h))))
theorem dX9_seatByWays_22 : decode cX9_seatByWays 22 = .ok (.if_icmp .ge 68, 3) := dw162 (n := 0) (i := 22) (a := 0) (b := 68) kc_cX9_seatByWays_0 (by decide +kernel) (by decide)
theorem dX9_seatByWays_90 : decode cX9_seatByWays 90 = .ok (.return_, 1) := dw177 (n := 64) (i := 26) kc_cX9_seatByWays_2 (by decide +kernel)
theorem dX9_seatByWays_25 : decode cX9_seatByWays 25 = .ok (.aload_n 0, 1) := dw42 (n := 0) (i := 25) kc_cX9_seatByWays_0 (by decide +kernel)
theorem dX9_seatByWays_26 : decode cX9_seatByWays 26 = .ok (.invokevirtual 42, 3) := dw182 (n := 0) (i := 26) (a := 0) (b := 42) kc_cX9_seatByWays_0 (by decide +kernel) (by decide)
set_option maxRecDepth 20000 in
theorem ggX9_seatByWays_X9_firstUnbeaten : GoodIn wsX9_seatByWays wsX9_firstUnbeaten := (gk_code 55 rfl (gk_fieldLink 1 rfl (gk_fieldLink 16 rfl (gk_fieldLink 17 rfl (gk_fieldLink 56 rfl (gk_fieldLink 4 rfl (gk_methodLink 57 rfl (gk_instanceMethod 58 rfl (gk_selects 59 rfl (gk_initialized 8 rfl (gk_code 60 rfl (gk_fieldLink 40 rfl (gk_laysFinal 89 rfl (gk_laysFinal 90 rfl (gk_laysFinal 91 rfl (gk_laysFinal 92 rfl (gk_laysFinal 93 rfl (gk_laysFinal 94 rfl (gk_laysFinal 95 rfl (gk_lays 96 rfl (gk_lays 97 rfl (gk_laysFinal 98 rfl (gk_laysFinal 99 rfl (gk_laysFinal 100 rfl (gk_lays 101 rfl (gk_laysFinal 102 rfl (gn)))))))))))))))))))))))))))
set_option maxRecDepth 20000 in
theorem gX9_seatByWays_X9_firstUnbeaten : GoodIn wsX9_seatByWays (wsV RX9 42 RX9 yX9_firstUnbeaten wsX9_firstUnbeaten) := goodIn_app (gk_methodLink 52 rfl (gk_instanceMethod 53 rfl (gk_selects 54 rfl (gk_initialized 8 rfl (gn))))) ggX9_seatByWays_X9_firstUnbeaten
theorem dX9_seatByWays_29 : decode cX9_seatByWays 29 = .ok (.istore_n 3, 1) := dw62 (n := 0) (i := 29) kc_cX9_seatByWays_0 (by decide +kernel)
theorem dX9_seatByWays_30 : decode cX9_seatByWays 30 = .ok (.iload_n 3, 1) := dw29 (n := 0) (i := 30) kc_cX9_seatByWays_0 (by decide +kernel)
theorem dX9_seatByWays_31 : decode cX9_seatByWays 31 = .ok (.bipush (-9), 2) := dw16 (n := 0) (i := 31) (a := 247) kc_cX9_seatByWays_0 (by decide +kernel) (by decide)
theorem dX9_seatByWays_33 : decode cX9_seatByWays 33 = .ok (.if_icmp .ne 4, 3) := dw160 (n := 32) (i := 1) (a := 0) (b := 4) kc_cX9_seatByWays_1 (by decide +kernel) (by decide)
theorem dX9_seatByWays_37 : decode cX9_seatByWays 37 = .ok (.aload_n 0, 1) := dw42 (n := 32) (i := 5) kc_cX9_seatByWays_1 (by decide +kernel)
theorem dX9_seatByWays_38 : decode cX9_seatByWays 38 = .ok (.getfield 23, 3) := dw180 (n := 32) (i := 6) (a := 0) (b := 23) kc_cX9_seatByWays_1 (by decide +kernel) (by decide)
theorem dX9_seatByWays_41 : decode cX9_seatByWays 41 = .ok (.invokevirtual 46, 3) := dw182 (n := 32) (i := 9) (a := 0) (b := 46) kc_cX9_seatByWays_1 (by decide +kernel) (by decide)
set_option maxRecDepth 20000 in
theorem ggX9_seatByWays_X6_clearTallies : GoodIn wsX9_seatByWays wsX6_clearTallies := (gk_code 64 rfl (gk_fieldLink 65 rfl (gk_fieldLink 66 rfl (gk_laysFinal 93 rfl (gk_laysFinal 94 rfl (gk_laysFinal 95 rfl (gk_lays 96 rfl (gk_lays 97 rfl (gk_laysFinal 98 rfl (gk_laysFinal 99 rfl (gk_laysFinal 100 rfl (gn))))))))))))
set_option maxRecDepth 20000 in
theorem gX9_seatByWays_X6_clearTallies : GoodIn wsX9_seatByWays (wsV RX9 46 RX6 yX6_clearTallies wsX6_clearTallies) := goodIn_app (gk_methodLink 61 rfl (gk_instanceMethod 62 rfl (gk_selects 63 rfl (gk_initialized 24 rfl (gn))))) ggX9_seatByWays_X6_clearTallies
theorem dX9_seatByWays_44 : decode cX9_seatByWays 44 = .ok (.aload_n 0, 1) := dw42 (n := 32) (i := 12) kc_cX9_seatByWays_1 (by decide +kernel)
theorem dX9_seatByWays_45 : decode cX9_seatByWays 45 = .ok (.getfield 23, 3) := dw180 (n := 32) (i := 13) (a := 0) (b := 23) kc_cX9_seatByWays_1 (by decide +kernel) (by decide)
theorem dX9_seatByWays_48 : decode cX9_seatByWays 48 = .ok (.getfield 49, 3) := dw180 (n := 32) (i := 16) (a := 0) (b := 49) kc_cX9_seatByWays_1 (by decide +kernel) (by decide)
theorem dX9_seatByWays_51 : decode cX9_seatByWays 51 = .ok (.iload_n 3, 1) := dw29 (n := 32) (i := 19) kc_cX9_seatByWays_1 (by decide +kernel)
theorem dX9_seatByWays_52 : decode cX9_seatByWays 52 = .ok (.aload_n 0, 1) := dw42 (n := 32) (i := 20) kc_cX9_seatByWays_1 (by decide +kernel)
theorem dX9_seatByWays_53 : decode cX9_seatByWays 53 = .ok (.iload_n 3, 1) := dw29 (n := 32) (i := 21) kc_cX9_seatByWays_1 (by decide +kernel)
theorem dX9_seatByWays_54 : decode cX9_seatByWays 54 = .ok (.invokevirtual 53, 3) := dw182 (n := 32) (i := 22) (a := 0) (b := 53) kc_cX9_seatByWays_1 (by decide +kernel) (by decide)
set_option maxRecDepth 20000 in
theorem ggX9_seatByWays_X9_leastWay : GoodIn wsX9_seatByWays wsX9_leastWay := (gk_code 70 rfl (gk_fieldLink 1 rfl (gk_fieldLink 16 rfl (gk_fieldLink 17 rfl (gk_fieldLink 4 rfl (gk_fieldLink 40 rfl (gk_laysFinal 89 rfl (gk_laysFinal 90 rfl (gk_laysFinal 91 rfl (gk_laysFinal 92 rfl (gk_laysFinal 93 rfl (gk_laysFinal 94 rfl (gk_laysFinal 95 rfl (gk_lays 96 rfl (gk_lays 97 rfl (gk_laysFinal 98 rfl (gk_laysFinal 99 rfl (gk_laysFinal 100 rfl (gk_lays 101 rfl (gk_laysFinal 102 rfl (gn)))))))))))))))))))))
set_option maxRecDepth 20000 in
theorem gX9_seatByWays_X9_leastWay : GoodIn wsX9_seatByWays (wsV RX9 53 RX9 yX9_leastWay wsX9_leastWay) := goodIn_app (gk_methodLink 67 rfl (gk_instanceMethod 68 rfl (gk_selects 69 rfl (gk_initialized 8 rfl (gn))))) ggX9_seatByWays_X9_leastWay
theorem dX9_seatByWays_57 : decode cX9_seatByWays 57 = .ok (.i2l, 1) := dw133 (n := 32) (i := 25) kc_cX9_seatByWays_1 (by decide +kernel)
theorem dX9_seatByWays_58 : decode cX9_seatByWays 58 = .ok (.lastore, 1) := dw80 (n := 32) (i := 26) kc_cX9_seatByWays_1 (by decide +kernel)
theorem dX9_seatByWays_59 : decode cX9_seatByWays 59 = .ok (.aload_n 1, 1) := dw43 (n := 32) (i := 27) kc_cX9_seatByWays_1 (by decide +kernel)
theorem dX9_seatByWays_60 : decode cX9_seatByWays 60 = .ok (.iconst 1, 1) := dw4 (n := 32) (i := 28) kc_cX9_seatByWays_1 (by decide +kernel)
theorem dX9_seatByWays_61 : decode cX9_seatByWays 61 = .ok (.iload_n 3, 1) := dw29 (n := 32) (i := 29) kc_cX9_seatByWays_1 (by decide +kernel)
theorem dX9_seatByWays_62 : decode cX9_seatByWays 62 = .ok (.aload_n 0, 1) := dw42 (n := 32) (i := 30) kc_cX9_seatByWays_1 (by decide +kernel)
theorem dX9_seatByWays_63 : decode cX9_seatByWays 63 = .ok (.getfield 23, 3) := dw180 (n := 32) (i := 31) (a := 0) (b := 23) kc_cX9_seatByWays_1 (by decide +kernel) (by decide)
theorem dX9_seatByWays_66 : decode cX9_seatByWays 66 = .ok (.invokevirtual 57, 3) := dw182 (n := 64) (i := 2) (a := 0) (b := 57) kc_cX9_seatByWays_2 (by decide +kernel) (by decide)
set_option maxRecDepth 20000 in
theorem ggX9_seatByWays_X7_note : GoodIn wsX9_seatByWays wsX7_note := (gk_code 75 rfl (gk_fieldLink 76 rfl (gk_fieldLink 77 rfl (gk_fieldLink 78 rfl (gk_fieldLink 79 rfl (gk_fieldLink 80 rfl (gk_fieldLink 81 rfl (gk_fieldLink 82 rfl (gk_lays 108 rfl (gk_laysFinal 109 rfl (gk_lays 110 rfl (gk_laysFinal 111 rfl (gk_laysFinal 112 rfl (gk_laysFinal 113 rfl (gk_laysFinal 114 rfl (gk_laysFinal 93 rfl (gk_laysFinal 94 rfl (gk_laysFinal 95 rfl (gk_lays 96 rfl (gk_lays 97 rfl (gk_laysFinal 98 rfl (gk_laysFinal 99 rfl (gk_laysFinal 100 rfl (gn))))))))))))))))))))))))
set_option maxRecDepth 20000 in
theorem gX9_seatByWays_X7_note : GoodIn wsX9_seatByWays (wsV RX9 57 RX7 yX7_note wsX7_note) := goodIn_app (gk_methodLink 71 rfl (gk_instanceMethod 72 rfl (gk_selects 73 rfl (gk_initialized 74 rfl (gn))))) ggX9_seatByWays_X7_note
theorem dX9_seatByWays_69 : decode cX9_seatByWays 69 = .ok (.aload_n 1, 1) := dw43 (n := 64) (i := 5) kc_cX9_seatByWays_2 (by decide +kernel)
theorem dX9_seatByWays_70 : decode cX9_seatByWays 70 = .ok (.iload_n 3, 1) := dw29 (n := 64) (i := 6) kc_cX9_seatByWays_2 (by decide +kernel)
theorem dX9_seatByWays_71 : decode cX9_seatByWays 71 = .ok (.invokevirtual 63, 3) := dw182 (n := 64) (i := 7) (a := 0) (b := 63) kc_cX9_seatByWays_2 (by decide +kernel) (by decide)
set_option maxRecDepth 20000 in
theorem ggX9_seatByWays_X7_give : GoodIn wsX9_seatByWays wsX7_give := (gk_code 86 rfl (gk_fieldLink 87 rfl (gk_fieldLink 88 rfl (gk_lays 108 rfl (gk_laysFinal 109 rfl (gk_lays 110 rfl (gk_laysFinal 111 rfl (gk_laysFinal 112 rfl (gk_laysFinal 113 rfl (gk_laysFinal 114 rfl (gn)))))))))))
set_option maxRecDepth 20000 in
theorem gX9_seatByWays_X7_give : GoodIn wsX9_seatByWays (wsV RX9 63 RX7 yX7_give wsX7_give) := goodIn_app (gk_methodLink 83 rfl (gk_instanceMethod 84 rfl (gk_selects 85 rfl (gk_initialized 74 rfl (gn))))) ggX9_seatByWays_X7_give
theorem dX9_seatByWays_74 : decode cX9_seatByWays 74 = .ok (.aload_n 0, 1) := dw42 (n := 64) (i := 10) kc_cX9_seatByWays_2 (by decide +kernel)
theorem dX9_seatByWays_75 : decode cX9_seatByWays 75 = .ok (.getfield 23, 3) := dw180 (n := 64) (i := 11) (a := 0) (b := 23) kc_cX9_seatByWays_2 (by decide +kernel) (by decide)
theorem dX9_seatByWays_78 : decode cX9_seatByWays 78 = .ok (.getfield 67, 3) := dw180 (n := 64) (i := 14) (a := 0) (b := 67) kc_cX9_seatByWays_2 (by decide +kernel) (by decide)
theorem dX9_seatByWays_81 : decode cX9_seatByWays 81 = .ok (.iload_n 3, 1) := dw29 (n := 64) (i := 17) kc_cX9_seatByWays_2 (by decide +kernel)
theorem dX9_seatByWays_82 : decode cX9_seatByWays 82 = .ok (.iconst 0, 1) := dw3 (n := 64) (i := 18) kc_cX9_seatByWays_2 (by decide +kernel)
theorem dX9_seatByWays_83 : decode cX9_seatByWays 83 = .ok (.bastore, 1) := dw84 (n := 64) (i := 19) kc_cX9_seatByWays_2 (by decide +kernel)
theorem dX9_seatByWays_84 : decode cX9_seatByWays 84 = .ok (.iinc 2 1, 3) := by decide +kernel
theorem dX9_seatByWays_87 : decode cX9_seatByWays 87 = .ok (.goto (-73), 3) := dw167 (n := 64) (i := 23) (a := 255) (b := 183) kc_cX9_seatByWays_2 (by decide +kernel) (by decide)
theorem dX9_seatByWays_36 : decode cX9_seatByWays 36 = .ok (.return_, 1) := dw177 (n := 32) (i := 4) kc_cX9_seatByWays_1 (by decide +kernel)
set_option maxHeartbeats 4000000 in
set_option maxRecDepth 100000 in
theorem s_X9_sbw_a (l : Launch) (D : va_G) (ad : Nat → Nat) (cs : Nat → ClassId) (M : MI) (L : ML)  (hI : IC M) : Cv l yX9_seatByWays wsX9_seatByWays ({ frames := 3, cells := 0, slots := 0, locals := 70 }) D ad cs [.ref (ad 96), .ref (ad 125)] M L (fun M1 L1 => IC M1 ∧ (∀ k, k ≠ 90 ∧ k ≠ 97 ∧ ¬ (100 ≤ k ∧ k < 120) ∧ k ≠ 125 ∧ k ≠ 126 ∧ k ≠ 127 ∧ k ≠ 128 → M1 k = M k) ∧ ∀ k, 258 ≤ k → L1 k = L k) := by
  refine enter_v RX9 rfl [(0, .ref (ad 96)), (1, .ref (ad 125))] rfl (Nat.le_of_ble_eq_true rfl) (by decide +kernel) rfl ?_
  intro p e s m below meth c C hr
  have hF : ∀ k, k ≠ 90 ∧ k ≠ 97 ∧ ¬ (100 ≤ k ∧ k < 120) ∧ k ≠ 125 ∧ k ≠ 126 ∧ k ≠ 127 ∧ k ≠ 128 → M k = M k := fun _ _ => rfl
  have hG : ∀ k, 258 ≤ k → L k = L k := fun _ _ => rfl
  refine g_aload_n C 0 dX9_seatByWays_0 rfl ?_
  refine g_callVv C (n := 0) (As := []) (st := []) (s_X9_compareAll l D ad cs _ _ hI) gX9_seatByWays_X9_compareAll rfl rfl rfl (by decide +kernel) ⟨Nat.le_of_ble_eq_true rfl, Nat.le_of_ble_eq_true rfl⟩ rfl (Nat.le_of_ble_eq_true rfl) ⟨Nat.zero_le _, Nat.zero_le _⟩ (by decide) (ce_ways ad cs _ _) rfl rfl dX9_seatByWays_1 (fun M2 L3 hr1 => ?_)
  obtain ⟨hI, hF1, hG1⟩ := hr1
  have hF : ∀ k, k ≠ 90 ∧ k ≠ 97 ∧ ¬ (100 ≤ k ∧ k < 120) ∧ k ≠ 125 ∧ k ≠ 126 ∧ k ≠ 127 ∧ k ≠ 128 → M2 k = M k := fun k hk => by (rw [hF1 k (by omega)]; try exact hF k hk)
  have hG : ∀ k, 258 ≤ k → L3 k = L k := fun k hk => by (rw [hG1 k hk]; try exact hG k hk)
  refine g_aload_n C 0 dX9_seatByWays_4 rfl ?_
  refine g_callVv C (n := 0) (As := []) (st := []) (s_X9_beginWays l D ad cs _ _ hI) gX9_seatByWays_X9_beginWays rfl rfl rfl (by decide +kernel) ⟨Nat.le_of_ble_eq_true rfl, Nat.le_of_ble_eq_true rfl⟩ rfl (Nat.le_of_ble_eq_true rfl) ⟨Nat.zero_le _, Nat.zero_le _⟩ (by decide) (ce_ways ad cs _ _) rfl rfl dX9_seatByWays_5 (fun M5 L6 hr4 => ?_)
  obtain ⟨hI, hF1, hG1⟩ := hr4
  have hF : ∀ k, k ≠ 90 ∧ k ≠ 97 ∧ ¬ (100 ≤ k ∧ k < 120) ∧ k ≠ 125 ∧ k ≠ 126 ∧ k ≠ 127 ∧ k ≠ 128 → M5 k = M k := fun k hk => by (rw [hF1 k (by omega)]; try exact hF k hk)
  have hG : ∀ k, 258 ≤ k → L6 k = L k := fun k hk => by (rw [hG1 k hk]; try exact hG k hk)
  refine g_aload_n C 0 dX9_seatByWays_8 rfl ?_
  refine g_callVv C (n := 0) (As := []) (st := []) (s_X9_strengthenWays l D ad cs _ _ hI) gX9_seatByWays_X9_strengthenWays rfl rfl rfl (by decide +kernel) ⟨Nat.le_of_ble_eq_true rfl, Nat.le_of_ble_eq_true rfl⟩ rfl (Nat.le_of_ble_eq_true rfl) ⟨Nat.zero_le _, Nat.zero_le _⟩ (by decide) (ce_ways ad cs _ _) rfl rfl dX9_seatByWays_9 (fun M8 L9 hr7 => ?_)
  obtain ⟨hI, hF1, hG1⟩ := hr7
  have hF : ∀ k, k ≠ 90 ∧ k ≠ 97 ∧ ¬ (100 ≤ k ∧ k < 120) ∧ k ≠ 125 ∧ k ≠ 126 ∧ k ≠ 127 ∧ k ≠ 128 → M8 k = M k := fun k hk => by (rw [hF1 k (by omega)]; try exact hF k hk)
  have hG : ∀ k, 258 ≤ k → L9 k = L k := fun k hk => by (rw [hG1 k hk]; try exact hG k hk)
  refine g_iconst C 0 dX9_seatByWays_12 (by decide) ?_
  refine g_istore_n C [(2, .int 0), (0, .ref (ad 96)), (1, .ref (ad 125))] dX9_seatByWays_13 (by decide) rfl ?_
  have zy10 : (0 : Int32).toInt = 0 := by decide
  refine g_loop (α := Int32 × MI × ML) (fun a => (31 - a.1.toInt).toNat) (fun a => 0 ≤ a.1.toInt ∧ a.1.toInt ≤ 30 ∧ IC a.2.1 ∧ (∀ k, k ≠ 90 ∧ k ≠ 97 ∧ ¬ (100 ≤ k ∧ k < 120) ∧ k ≠ 125 ∧ k ≠ 126 ∧ k ≠ 127 ∧ k ≠ 128 → a.2.1 k = M k) ∧ (∀ k, 258 ≤ k → a.2.2 k = L k)) (fun a => a.2.1) (fun a => a.2.2) (fun a => [(2, .int a.1), (0, .ref (ad 96)), (1, .ref (ad 125))]) (0, M8, L9) ⟨by show 0 ≤ (0 : Int32).toInt; omega, by show (0 : Int32).toInt ≤ 30; omega, hI, hF, hG⟩ rfl rfl rfl ?_
  rintro ⟨x2_14, M_14, L_14⟩ ⟨j14_0, j14_1, hI, hF, hG⟩ ih_14
  dsimp only at j14_0 j14_1 hI hF hG ih_14 ⊢
  refine g_iload_n C 0 dX9_seatByWays_14 rfl ?_
  refine g_aload_n C 1 dX9_seatByWays_15 rfl ?_
  refine g_get C (.ref (ad 88)) 0 in_X9_seatByWays_9 (List.mem_of_getElem? (i := 1) rfl) (by decide) (ce_ways ad cs _ _) rfl (by decide) rfl rfl dX9_seatByWays_16 ?_
  refine g_get C (.int (M_14 88 4)) 4 in_X9_seatByWays_6 (List.mem_of_getElem? (i := 2) rfl) (by decide) (ce_poll ad cs _ _) rfl (by decide) rfl rfl dX9_seatByWays_19 ?_
  refine g_ni (fun v11 ev11 => ?_)
  have tv11 := congrArg Int32.toInt ev11
  obtain ⟨bv11, dv11⟩ := (show rg 0 30 v11 from (by rw [ev11]; exact (hI 88 4).2 rfl))
  refine g_icmp_ge C 90 dX9_seatByWays_22 (by decide) (fun c12 => ?_) (fun c12 => ?_)
  ·
    have f13 := fle rfl rfl c12
    exact g_vret C hr ⟨hI, hF, hG⟩ dX9_seatByWays_90
  ·
    have f14 := fnle rfl rfl c12
    refine g_aload_n C 1 dX9_seatByWays_25 rfl ?_
    refine g_callVi C (n := 0) (As := []) (st := []) (s_X9_firstUnbeaten l D ad cs _ _ hI) gX9_seatByWays_X9_firstUnbeaten rfl rfl rfl (by decide +kernel) ⟨Nat.le_of_ble_eq_true rfl, Nat.le_of_ble_eq_true rfl⟩ rfl (Nat.le_of_ble_eq_true rfl) ⟨Nat.zero_le _, Nat.zero_le _⟩ (by decide) (ce_ways ad cs _ _) rfl rfl dX9_seatByWays_26 (fun r15 M16 L17 hr15 => ?_)
    obtain ⟨hq1, hq2, hr15⟩ := hr15
    obtain rfl := hq1.symm
    obtain rfl := hq2.symm
    obtain ⟨br15, dr15⟩ := hr15
    refine g_istore_n C [(3, .int r15), (2, .int x2_14), (0, .ref (ad 96)), (1, .ref (ad 125))] dX9_seatByWays_29 (by decide) rfl ?_
    refine g_iload_n C 0 dX9_seatByWays_30 rfl ?_
    refine g_bipush C (-9) dX9_seatByWays_31 (by decide) ?_
    refine g_icmp_ne C 37 dX9_seatByWays_33 (by decide) (fun c18 => ?_) (fun c18 => ?_)
    ·
      have f19 := fne rfl (by decide : ((-9) : Int32).toInt = (-9)) c18
      refine g_aload_n C 2 dX9_seatByWays_37 rfl ?_
      refine g_get C (.ref (ad 88)) 0 in_X9_seatByWays_9 (List.mem_of_getElem? (i := 1) rfl) (by decide) (ce_ways ad cs _ _) rfl (by decide) rfl rfl dX9_seatByWays_38 ?_
      refine g_callVv C (n := 0) (As := []) (st := []) (s_X6_clearTallies l D ad cs _ _ hI) gX9_seatByWays_X6_clearTallies rfl rfl rfl (by decide +kernel) ⟨Nat.le_of_ble_eq_true rfl, Nat.le_of_ble_eq_true rfl⟩ rfl (Nat.le_of_ble_eq_true rfl) ⟨Nat.zero_le _, Nat.zero_le _⟩ (by decide) (ce_poll ad cs _ _) rfl rfl dX9_seatByWays_41 (fun M21 L22 hr20 => ?_)
      obtain ⟨hI, hF1, hG1⟩ := hr20
      have hF : ∀ k, k ≠ 90 ∧ k ≠ 97 ∧ ¬ (100 ≤ k ∧ k < 120) ∧ k ≠ 125 ∧ k ≠ 126 ∧ k ≠ 127 ∧ k ≠ 128 → M21 k = M k := fun k hk => by (rw [hF1 k (by omega)]; try exact hF k hk)
      have hG : ∀ k, 258 ≤ k → L22 k = L k := fun k hk => by (rw [hG1 k hk]; try exact hG k hk)
      refine g_aload_n C 2 dX9_seatByWays_44 rfl ?_
      refine g_get C (.ref (ad 88)) 0 in_X9_seatByWays_9 (List.mem_of_getElem? (i := 1) rfl) (by decide) (ce_ways ad cs _ _) rfl (by decide) rfl rfl dX9_seatByWays_45 ?_
      refine g_get C (.ref (ad 91)) 6 in_X9_seatByWays_6 (List.mem_of_getElem? (i := 3) rfl) (by decide) (ce_poll ad cs _ _) rfl (by decide) rfl rfl dX9_seatByWays_48 ?_
      refine g_iload_n C 0 dX9_seatByWays_51 rfl ?_
      refine g_aload_n C 2 dX9_seatByWays_52 rfl ?_
      refine g_iload_n C 0 dX9_seatByWays_53 rfl ?_
      refine g_callVi C (n := 1) (As := [.int r15]) (st := [.int r15, .ref (ad 91)]) (s_X9_leastWay l D ad cs _ _ r15 hI ⟨by omega, by omega⟩) gX9_seatByWays_X9_leastWay rfl rfl rfl (by decide +kernel) ⟨Nat.le_of_ble_eq_true rfl, Nat.le_of_ble_eq_true rfl⟩ rfl (Nat.le_of_ble_eq_true rfl) ⟨Nat.zero_le _, Nat.zero_le _⟩ (by decide) (ce_ways ad cs _ _) rfl rfl dX9_seatByWays_54 (fun r23 M24 L25 hr23 => ?_)
      obtain ⟨hq1, hq2, hr23⟩ := hr23
      obtain rfl := hq1.symm
      obtain rfl := hq2.symm
      refine g_i2l C dX9_seatByWays_57 ?_
      refine g_nl (fun v26 ev26 => ?_)
      refine g_last C (by decide) (ce_pupper ad cs _ _) (by rw [sJ_k]; rfl) (fin' (n := 10) rfl (by omega) (by omega)) dX9_seatByWays_58 ?_
      refine g_nmL (fun L27 hL27 => ?_)
      have hG : ∀ k, 258 ≤ k → L27 k = L k := fun k hk => by (rw [hL27, sJ_n _ _ _ (by omega)]; try exact hG k hk)
      refine g_aload_n C 3 dX9_seatByWays_59 rfl ?_
      refine g_iconst C 1 dX9_seatByWays_60 (by decide) ?_
      refine g_iload_n C 0 dX9_seatByWays_61 rfl ?_
      refine g_aload_n C 2 dX9_seatByWays_62 rfl ?_
      refine g_get C (.ref (ad 88)) 0 in_X9_seatByWays_9 (List.mem_of_getElem? (i := 1) rfl) (by decide) (ce_ways ad cs _ _) rfl (by decide) rfl rfl dX9_seatByWays_63 ?_
      refine g_callVv C (n := 3) (As := [.int 1, .int r15, .ref (ad 88)]) (st := []) (s_X7_note_a l D ad cs _ _ 1 r15 hI) gX9_seatByWays_X7_note rfl rfl rfl (by decide +kernel) ⟨Nat.le_of_ble_eq_true rfl, Nat.le_of_ble_eq_true rfl⟩ rfl (Nat.le_of_ble_eq_true rfl) ⟨Nat.zero_le _, Nat.zero_le _⟩ (by decide) (ce_ra ad cs _ _) rfl rfl dX9_seatByWays_66 (fun M29 L30 hr28 => ?_)
      obtain ⟨hI, hF1, hG1⟩ := hr28
      have hF : ∀ k, k ≠ 90 ∧ k ≠ 97 ∧ ¬ (100 ≤ k ∧ k < 120) ∧ k ≠ 125 ∧ k ≠ 126 ∧ k ≠ 127 ∧ k ≠ 128 → M29 k = M k := fun k hk => by (rw [hF1 k (by omega)]; try exact hF k hk)
      have hG : ∀ k, 258 ≤ k → L30 k = L k := fun k hk => by (rw [hG1 k hk]; try exact hG k hk)
      refine g_aload_n C 3 dX9_seatByWays_69 rfl ?_
      refine g_iload_n C 0 dX9_seatByWays_70 rfl ?_
      refine g_callVv C (n := 1) (As := [.int r15]) (st := []) (s_X7_give_a l D ad cs _ _ r15 hI) gX9_seatByWays_X7_give rfl rfl rfl (by decide +kernel) ⟨Nat.le_of_ble_eq_true rfl, Nat.le_of_ble_eq_true rfl⟩ rfl (Nat.le_of_ble_eq_true rfl) ⟨Nat.zero_le _, Nat.zero_le _⟩ (by decide) (ce_ra ad cs _ _) rfl rfl dX9_seatByWays_71 (fun M32 L33 hr31 => ?_)
      obtain ⟨hI, hF1, hG1⟩ := hr31
      have hF : ∀ k, k ≠ 90 ∧ k ≠ 97 ∧ ¬ (100 ≤ k ∧ k < 120) ∧ k ≠ 125 ∧ k ≠ 126 ∧ k ≠ 127 ∧ k ≠ 128 → M32 k = M k := fun k hk => by (rw [hF1 k (by omega)]; try exact hF k hk)
      have hG : ∀ k, 258 ≤ k → L33 k = L k := fun k hk => by (rw [hG1 k hk]; try exact hG k hk)
      refine g_aload_n C 2 dX9_seatByWays_74 rfl ?_
      refine g_get C (.ref (ad 88)) 0 in_X9_seatByWays_9 (List.mem_of_getElem? (i := 1) rfl) (by decide) (ce_ways ad cs _ _) rfl (by decide) rfl rfl dX9_seatByWays_75 ?_
      refine g_get C (.ref (ad 90)) 5 in_X9_seatByWays_6 (List.mem_of_getElem? (i := 4) rfl) (by decide) (ce_poll ad cs _ _) rfl (by decide) rfl rfl dX9_seatByWays_78 ?_
      refine g_iload_n C 0 dX9_seatByWays_81 rfl ?_
      refine g_iconst C 0 dX9_seatByWays_82 (by decide) ?_
      refine g_zast C (by decide) (ce_pin ad cs _ _) (by rw [sI_k]; rfl) (fin' (n := 10) rfl (by omega) (by omega)) dX9_seatByWays_83 ?_
      refine g_nm (fun M34 hM34 => ?_)
      have hI : IC M34 := by rw [hM34]; exact hI.st (bC_free (by decide) (by decide) (by decide) (by decide) (by decide) (by decide) (by decide))
      have hF : ∀ k, k ≠ 90 ∧ k ≠ 97 ∧ ¬ (100 ≤ k ∧ k < 120) ∧ k ≠ 125 ∧ k ≠ 126 ∧ k ≠ 127 ∧ k ≠ 128 → M34 k = M k := fun k hk => by (rw [hM34, sI_n _ _ _ (by omega)]; try exact hF k hk)
      obtain ⟨v35, ev35⟩ : ∃ y : Int32, y = x2_14 + 1 := ⟨_, rfl⟩
      try have fv35 := fadd rfl (by decide : (1 : Int32).toInt = 1) ev35 (by omega) (by omega)
      refine g_iinc C 1 v35 [(2, .int v35), (3, .int r15), (0, .ref (ad 96)), (1, .ref (ad 125))] dX9_seatByWays_84 rfl (by rw [ev35]; rfl) (by decide) rfl ?_
      refine g_goto C 14 dX9_seatByWays_87 (by decide) ?_
      refine g_lv [0, 2, 3] [(2, .int v35), (0, .ref (ad 96)), (1, .ref (ad 125))] rfl ?_
      exact ih_14 (v35, M34, L33) ⟨by show 0 ≤ v35.toInt; omega, by show v35.toInt ≤ 30; omega, hI, hF, hG⟩ (by show (31 - v35.toInt).toNat < (31 - x2_14.toInt).toNat; omega)
    ·
      have f36 := feq rfl (by decide : ((-9) : Int32).toInt = (-9)) c18
      exact g_vret C hr ⟨hI, hF, hG⟩ dX9_seatByWays_36
theorem dX8_leaveOut_0 : decode cX8_leaveOut 0 = .ok (.iload_n 1, 1) := dw27 (n := 0) (i := 0) kc_cX8_leaveOut_0 (by decide +kernel)
theorem dX8_leaveOut_1 : decode cX8_leaveOut 1 = .ok (.bipush (-9), 2) := dw16 (n := 0) (i := 1) (a := 247) kc_cX8_leaveOut_0 (by decide +kernel) (by decide)
theorem dX8_leaveOut_3 : decode cX8_leaveOut 3 = .ok (.if_icmp .ne 5, 3) := dw160 (n := 0) (i := 3) (a := 0) (b := 5) kc_cX8_leaveOut_0 (by decide +kernel) (by decide)
theorem dX8_leaveOut_8 : decode cX8_leaveOut 8 = .ok (.aload_n 2, 1) := dw44 (n := 0) (i := 8) kc_cX8_leaveOut_0 (by decide +kernel)
theorem dX8_leaveOut_9 : decode cX8_leaveOut 9 = .ok (.iconst 2, 1) := dw5 (n := 0) (i := 9) kc_cX8_leaveOut_0 (by decide +kernel)
theorem dX8_leaveOut_10 : decode cX8_leaveOut 10 = .ok (.iload_n 1, 1) := dw27 (n := 0) (i := 10) kc_cX8_leaveOut_0 (by decide +kernel)
theorem dX8_leaveOut_11 : decode cX8_leaveOut 11 = .ok (.aload_n 0, 1) := dw42 (n := 0) (i := 11) kc_cX8_leaveOut_0 (by decide +kernel)
theorem dX8_leaveOut_12 : decode cX8_leaveOut 12 = .ok (.getfield 29, 3) := dw180 (n := 0) (i := 12) (a := 0) (b := 29) kc_cX8_leaveOut_0 (by decide +kernel) (by decide)
theorem in_X8_leaveOut_8 : ∀ w ∈ u_ws RX8 TX8 5, w ∈ wsX8_leaveOut := fun _ h => List.mem_cons_of_mem _ (List.mem_append_left _ (List.mem_append_left _ (List.mem_append_right _ h)))
theorem dX8_leaveOut_15 : decode cX8_leaveOut 15 = .ok (.invokevirtual 105, 3) := dw182 (n := 0) (i := 15) (a := 0) (b := 105) kc_cX8_leaveOut_0 (by decide +kernel) (by decide)
set_option maxRecDepth 20000 in
theorem ggX8_leaveOut_X7_note : GoodIn wsX8_leaveOut wsX7_note := (gk_code 7 rfl (gk_fieldLink 8 rfl (gk_fieldLink 9 rfl (gk_fieldLink 10 rfl (gk_fieldLink 11 rfl (gk_fieldLink 12 rfl (gk_fieldLink 13 rfl (gk_fieldLink 14 rfl (gk_lays 28 rfl (gk_laysFinal 29 rfl (gk_lays 30 rfl (gk_laysFinal 31 rfl (gk_laysFinal 32 rfl (gk_laysFinal 33 rfl (gk_laysFinal 34 rfl (gk_laysFinal 20 rfl (gk_laysFinal 21 rfl (gk_laysFinal 22 rfl (gk_lays 23 rfl (gk_lays 24 rfl (gk_laysFinal 25 rfl (gk_laysFinal 26 rfl (gk_laysFinal 27 rfl (gn))))))))))))))))))))))))
set_option maxRecDepth 20000 in
theorem gX8_leaveOut_X7_note : GoodIn wsX8_leaveOut (wsV RX8 105 RX7 yX7_note wsX7_note) := goodIn_app (gk_methodLink 3 rfl (gk_instanceMethod 4 rfl (gk_selects 5 rfl (gk_initialized 6 rfl (gn))))) ggX8_leaveOut_X7_note
theorem dX8_leaveOut_18 : decode cX8_leaveOut 18 = .ok (.aload_n 0, 1) := dw42 (n := 0) (i := 18) kc_cX8_leaveOut_0 (by decide +kernel)
theorem dX8_leaveOut_19 : decode cX8_leaveOut 19 = .ok (.getfield 29, 3) := dw180 (n := 0) (i := 19) (a := 0) (b := 29) kc_cX8_leaveOut_0 (by decide +kernel) (by decide)
theorem dX8_leaveOut_22 : decode cX8_leaveOut 22 = .ok (.getfield 113, 3) := dw180 (n := 0) (i := 22) (a := 0) (b := 113) kc_cX8_leaveOut_0 (by decide +kernel) (by decide)
theorem in_X8_leaveOut_6 : ∀ w ∈ u_ws RX6 TX6 8, w ∈ wsX8_leaveOut := fun _ h => List.mem_cons_of_mem _ (List.mem_append_left _ (List.mem_append_right _ h))
theorem dX8_leaveOut_25 : decode cX8_leaveOut 25 = .ok (.iload_n 1, 1) := dw27 (n := 0) (i := 25) kc_cX8_leaveOut_0 (by decide +kernel)
theorem dX8_leaveOut_26 : decode cX8_leaveOut 26 = .ok (.iconst 0, 1) := dw3 (n := 0) (i := 26) kc_cX8_leaveOut_0 (by decide +kernel)
theorem dX8_leaveOut_27 : decode cX8_leaveOut 27 = .ok (.bastore, 1) := dw84 (n := 0) (i := 27) kc_cX8_leaveOut_0 (by decide +kernel)
theorem dX8_leaveOut_28 : decode cX8_leaveOut 28 = .ok (.iconst 1, 1) := dw4 (n := 0) (i := 28) kc_cX8_leaveOut_0 (by decide +kernel)
theorem dX8_leaveOut_29 : decode cX8_leaveOut 29 = .ok (.ireturn, 1) := dw172 (n := 0) (i := 29) kc_cX8_leaveOut_0 (by decide +kernel)
theorem dX8_leaveOut_6 : decode cX8_leaveOut 6 = .ok (.iconst 0, 1) := dw3 (n := 0) (i := 6) kc_cX8_leaveOut_0 (by decide +kernel)
theorem dX8_leaveOut_7 : decode cX8_leaveOut 7 = .ok (.ireturn, 1) := dw172 (n := 0) (i := 7) kc_cX8_leaveOut_0 (by decide +kernel)
set_option maxHeartbeats 4000000 in
set_option maxRecDepth 100000 in
theorem s_X8_leaveOut_a (l : Launch) (D : va_G) (ad : Nat → Nat) (cs : Nat → ClassId) (M : MI) (L : ML) (x : Int32) (hI : IC M) (hx : x.toInt = -9 ∨ 0 ≤ x.toInt) (hx2 : x.toInt < 10) : Ci l yX8_leaveOut wsX8_leaveOut ({ frames := 1, cells := 0, slots := 0, locals := 24 }) D ad cs [.ref (ad 120), .int x, .ref (ad 125)] M L (fun r M1 L1 => (r = 0 ∨ r = 1) ∧ IC M1 ∧ (∀ k, k ≠ 90 ∧ k ≠ 125 ∧ k ≠ 126 ∧ k ≠ 127 ∧ k ≠ 128 → M1 k = M k) ∧ ∀ k, 258 ≤ k → L1 k = L k) := by
  refine enter_i RX8 rfl [(0, .ref (ad 120)), (1, .int x), (2, .ref (ad 125))] rfl (Nat.le_of_ble_eq_true rfl) (by decide +kernel) rfl ?_
  intro p e s m below meth c C hr
  have hF : ∀ k, k ≠ 90 ∧ k ≠ 125 ∧ k ≠ 126 ∧ k ≠ 127 ∧ k ≠ 128 → M k = M k := fun _ _ => rfl
  have hG : ∀ k, 258 ≤ k → L k = L k := fun _ _ => rfl
  refine g_iload_n C 1 dX8_leaveOut_0 rfl ?_
  refine g_bipush C (-9) dX8_leaveOut_1 (by decide) ?_
  refine g_icmp_ne C 8 dX8_leaveOut_3 (by decide) (fun c1 => ?_) (fun c1 => ?_)
  ·
    have f2 := fne rfl (by decide : ((-9) : Int32).toInt = (-9)) c1
    refine g_aload_n C 2 dX8_leaveOut_8 rfl ?_
    refine g_iconst C 2 dX8_leaveOut_9 (by decide) ?_
    refine g_iload_n C 1 dX8_leaveOut_10 rfl ?_
    refine g_aload_n C 0 dX8_leaveOut_11 rfl ?_
    refine g_get C (.ref (ad 88)) 0 in_X8_leaveOut_8 (List.mem_of_getElem? (i := 1) rfl) (by decide) (ce_trans ad cs _ _) rfl (by decide) rfl rfl dX8_leaveOut_12 ?_
    refine g_callVv C (n := 3) (As := [.int 2, .int x, .ref (ad 88)]) (st := []) (s_X7_note_a l D ad cs _ _ 2 x hI) gX8_leaveOut_X7_note rfl rfl rfl (by decide +kernel) ⟨Nat.le_of_ble_eq_true rfl, Nat.le_of_ble_eq_true rfl⟩ rfl (Nat.le_of_ble_eq_true rfl) ⟨Nat.zero_le _, Nat.zero_le _⟩ (by decide) (ce_ra ad cs _ _) rfl rfl dX8_leaveOut_15 (fun M4 L5 hr3 => ?_)
    obtain ⟨hI, hF1, hG1⟩ := hr3
    have hF : ∀ k, k ≠ 90 ∧ k ≠ 125 ∧ k ≠ 126 ∧ k ≠ 127 ∧ k ≠ 128 → M4 k = M k := fun k hk => by (rw [hF1 k (by omega)]; try exact hF k hk)
    have hG : ∀ k, 258 ≤ k → L5 k = L k := fun k hk => by (rw [hG1 k hk]; try exact hG k hk)
    refine g_aload_n C 0 dX8_leaveOut_18 rfl ?_
    refine g_get C (.ref (ad 88)) 0 in_X8_leaveOut_8 (List.mem_of_getElem? (i := 1) rfl) (by decide) (ce_trans ad cs _ _) rfl (by decide) rfl rfl dX8_leaveOut_19 ?_
    refine g_get C (.ref (ad 90)) 5 in_X8_leaveOut_6 (List.mem_of_getElem? (i := 2) rfl) (by decide) (ce_poll ad cs _ _) rfl (by decide) rfl rfl dX8_leaveOut_22 ?_
    refine g_iload_n C 1 dX8_leaveOut_25 rfl ?_
    refine g_iconst C 0 dX8_leaveOut_26 (by decide) ?_
    refine g_zast C (by decide) (ce_pin ad cs _ _) (by rw [sI_k]; rfl) (fin' (n := 10) rfl (by omega) (by omega)) dX8_leaveOut_27 ?_
    refine g_nm (fun M6 hM6 => ?_)
    have hI : IC M6 := by rw [hM6]; exact hI.st (bC_free (by decide) (by decide) (by decide) (by decide) (by decide) (by decide) (by decide))
    have hF : ∀ k, k ≠ 90 ∧ k ≠ 125 ∧ k ≠ 126 ∧ k ≠ 127 ∧ k ≠ 128 → M6 k = M k := fun k hk => by (rw [hM6, sI_n _ _ _ (by omega)]; try exact hF k hk)
    refine g_iconst C 1 dX8_leaveOut_28 (by decide) ?_
    exact g_zret C hr (by first | rfl | (rcases hz with rfl | rfl <;> rfl)) ⟨(by first | exact Or.inl rfl | exact Or.inr rfl | exact hz), hI, hF, hG⟩ dX8_leaveOut_29
  ·
    have f7 := feq rfl (by decide : ((-9) : Int32).toInt = (-9)) c1
    refine g_iconst C 0 dX8_leaveOut_6 (by decide) ?_
    exact g_zret C hr (by first | rfl | (rcases hz with rfl | rfl <;> rfl)) ⟨(by first | exact Or.inl rfl | exact Or.inr rfl | exact hz), hI, hF, hG⟩ dX8_leaveOut_7
theorem dX8_endRound_0 : decode cX8_endRound 0 = .ok (.aload_n 0, 1) := dw42 (n := 0) (i := 0) kc_cX8_endRound_0 (by decide +kernel)
theorem dX8_endRound_1 : decode cX8_endRound 1 = .ok (.getfield 29, 3) := dw180 (n := 0) (i := 1) (a := 0) (b := 29) kc_cX8_endRound_0 (by decide +kernel) (by decide)
theorem in_X8_endRound_8 : ∀ w ∈ u_ws RX8 TX8 5, w ∈ wsX8_endRound := fun _ h => List.mem_cons_of_mem _ (List.mem_append_left _ (List.mem_append_left _ (List.mem_append_left _ (List.mem_append_left _ (List.mem_append_right _ h)))))
theorem dX8_endRound_4 : decode cX8_endRound 4 = .ok (.invokevirtual 95, 3) := dw182 (n := 0) (i := 4) (a := 0) (b := 95) kc_cX8_endRound_0 (by decide +kernel) (by decide)
set_option maxRecDepth 20000 in
theorem ggX8_endRound_X6_manyIn : GoodIn wsX8_endRound wsX6_manyIn := (gk_code 11 rfl (gk_fieldLink 12 rfl (gk_laysFinal 86 rfl (gk_laysFinal 87 rfl (gk_laysFinal 88 rfl (gk_lays 89 rfl (gk_lays 90 rfl (gk_laysFinal 91 rfl (gk_laysFinal 92 rfl (gk_laysFinal 93 rfl (gn)))))))))))
set_option maxRecDepth 20000 in
theorem gX8_endRound_X6_manyIn : GoodIn wsX8_endRound (wsV RX8 95 RX6 yX6_manyIn wsX6_manyIn) := goodIn_app (gk_methodLink 7 rfl (gk_instanceMethod 8 rfl (gk_selects 9 rfl (gk_initialized 10 rfl (gn))))) ggX8_endRound_X6_manyIn
theorem dX8_endRound_7 : decode cX8_endRound 7 = .ok (.aload_n 0, 1) := dw42 (n := 0) (i := 7) kc_cX8_endRound_0 (by decide +kernel)
theorem dX8_endRound_8 : decode cX8_endRound 8 = .ok (.getfield 29, 3) := dw180 (n := 0) (i := 8) (a := 0) (b := 29) kc_cX8_endRound_0 (by decide +kernel) (by decide)
theorem dX8_endRound_11 : decode cX8_endRound 11 = .ok (.getfield 43, 3) := dw180 (n := 0) (i := 11) (a := 0) (b := 43) kc_cX8_endRound_0 (by decide +kernel) (by decide)
theorem in_X8_endRound_6 : ∀ w ∈ u_ws RX6 TX6 8, w ∈ wsX8_endRound := fun _ h => List.mem_cons_of_mem _ (List.mem_append_left _ (List.mem_append_left _ (List.mem_append_left _ (List.mem_append_right _ h))))
theorem dX8_endRound_14 : decode cX8_endRound 14 = .ok (.aload 4, 2) := dw25 (n := 0) (i := 14) (a := 4) kc_cX8_endRound_0 (by decide +kernel) (by decide)
theorem dX8_endRound_16 : decode cX8_endRound 16 = .ok (.getfield 50, 3) := dw180 (n := 0) (i := 16) (a := 0) (b := 50) kc_cX8_endRound_0 (by decide +kernel) (by decide)
theorem in_X8_endRound_7 : ∀ w ∈ u_ws RX7 TX7 7, w ∈ wsX8_endRound := fun _ h => List.mem_cons_of_mem _ (List.mem_append_left _ (List.mem_append_left _ (List.mem_append_right _ h)))
theorem dX8_endRound_19 : decode cX8_endRound 19 = .ok (.isub, 1) := dw100 (n := 0) (i := 19) kc_cX8_endRound_0 (by decide +kernel)
theorem dX8_endRound_20 : decode cX8_endRound 20 = .ok (.if_icmp .gt 7, 3) := dw163 (n := 0) (i := 20) (a := 0) (b := 7) kc_cX8_endRound_0 (by decide +kernel) (by decide)
theorem dX8_endRound_27 : decode cX8_endRound 27 = .ok (.iconst 0, 1) := dw3 (n := 0) (i := 27) kc_cX8_endRound_0 (by decide +kernel)
theorem dX8_endRound_28 : decode cX8_endRound 28 = .ok (.istore 5, 2) := dw54 (n := 0) (i := 28) (a := 5) kc_cX8_endRound_0 (by decide +kernel) (by decide)
theorem dX8_endRound_30 : decode cX8_endRound 30 = .ok (.aload_n 0, 1) := dw42 (n := 0) (i := 30) kc_cX8_endRound_0 (by decide +kernel)
theorem dX8_endRound_31 : decode cX8_endRound 31 = .ok (.getfield 29, 3) := dw180 (n := 0) (i := 31) (a := 0) (b := 29) kc_cX8_endRound_0 (by decide +kernel) (by decide)
theorem dX8_endRound_34 : decode cX8_endRound 34 = .ok (.getfield 74, 3) := dw180 (n := 32) (i := 2) (a := 0) (b := 74) kc_cX8_endRound_1 (by decide +kernel) (by decide)
theorem dX8_endRound_37 : decode cX8_endRound 37 = .ok (.iload_n 1, 1) := dw27 (n := 32) (i := 5) kc_cX8_endRound_1 (by decide +kernel)
theorem dX8_endRound_38 : decode cX8_endRound 38 = .ok (.laload, 1) := dw47 (n := 32) (i := 6) kc_cX8_endRound_1 (by decide +kernel)
theorem dX8_endRound_39 : decode cX8_endRound 39 = .ok (.lload_n 2, 1) := dw32 (n := 32) (i := 7) kc_cX8_endRound_1 (by decide +kernel)
theorem dX8_endRound_40 : decode cX8_endRound 40 = .ok (.aload_n 0, 1) := dw42 (n := 32) (i := 8) kc_cX8_endRound_1 (by decide +kernel)
theorem dX8_endRound_41 : decode cX8_endRound 41 = .ok (.getfield 29, 3) := dw180 (n := 32) (i := 9) (a := 0) (b := 29) kc_cX8_endRound_1 (by decide +kernel) (by decide)
theorem dX8_endRound_44 : decode cX8_endRound 44 = .ok (.getfield 77, 3) := dw180 (n := 32) (i := 12) (a := 0) (b := 77) kc_cX8_endRound_1 (by decide +kernel) (by decide)
theorem dX8_endRound_47 : decode cX8_endRound 47 = .ok (.iload_n 1, 1) := dw27 (n := 32) (i := 15) kc_cX8_endRound_1 (by decide +kernel)
theorem dX8_endRound_48 : decode cX8_endRound 48 = .ok (.laload, 1) := dw47 (n := 32) (i := 16) kc_cX8_endRound_1 (by decide +kernel)
theorem dX8_endRound_49 : decode cX8_endRound 49 = .ok (.lmul, 1) := dw105 (n := 32) (i := 17) kc_cX8_endRound_1 (by decide +kernel)
theorem dX8_endRound_50 : decode cX8_endRound 50 = .ok (.lcmp, 1) := dw148 (n := 32) (i := 18) kc_cX8_endRound_1 (by decide +kernel)
theorem dX8_endRound_51 : decode cX8_endRound 51 = .ok (.ifCond .lt 7, 3) := dw155 (n := 32) (i := 19) (a := 0) (b := 7) kc_cX8_endRound_1 (by decide +kernel) (by decide)
theorem dX8_endRound_58 : decode cX8_endRound 58 = .ok (.iconst 0, 1) := dw3 (n := 32) (i := 26) kc_cX8_endRound_1 (by decide +kernel)
theorem dX8_endRound_59 : decode cX8_endRound 59 = .ok (.istore 6, 2) := dw54 (n := 32) (i := 27) (a := 6) kc_cX8_endRound_1 (by decide +kernel) (by decide)
theorem dX8_endRound_61 : decode cX8_endRound 61 = .ok (.iload 5, 2) := dw21 (n := 32) (i := 29) (a := 5) kc_cX8_endRound_1 (by decide +kernel) (by decide)
theorem dX8_endRound_63 : decode cX8_endRound 63 = .ok (.ifCond .ne 22, 3) := dw154 (n := 32) (i := 31) (a := 0) (b := 22) kc_cX8_endRound_1 (by decide +kernel) (by decide)
theorem dX8_endRound_66 : decode cX8_endRound 66 = .ok (.iload 6, 2) := dw21 (n := 64) (i := 2) (a := 6) kc_cX8_endRound_2 (by decide +kernel) (by decide)
theorem dX8_endRound_68 : decode cX8_endRound 68 = .ok (.ifCond .ne 17, 3) := dw154 (n := 64) (i := 4) (a := 0) (b := 17) kc_cX8_endRound_2 (by decide +kernel) (by decide)
theorem dX8_endRound_71 : decode cX8_endRound 71 = .ok (.aload_n 0, 1) := dw42 (n := 64) (i := 7) kc_cX8_endRound_2 (by decide +kernel)
theorem dX8_endRound_72 : decode cX8_endRound 72 = .ok (.aload_n 0, 1) := dw42 (n := 64) (i := 8) kc_cX8_endRound_2 (by decide +kernel)
theorem dX8_endRound_73 : decode cX8_endRound 73 = .ok (.getfield 29, 3) := dw180 (n := 64) (i := 9) (a := 0) (b := 29) kc_cX8_endRound_2 (by decide +kernel) (by decide)
theorem dX8_endRound_76 : decode cX8_endRound 76 = .ok (.invokevirtual 98, 3) := dw182 (n := 64) (i := 12) (a := 0) (b := 98) kc_cX8_endRound_2 (by decide +kernel) (by decide)
set_option maxRecDepth 20000 in
theorem ggX8_endRound_X6_leastIn : GoodIn wsX8_endRound wsX6_leastIn := (gk_code 16 rfl (gk_fieldLink 17 rfl (gk_fieldLink 18 rfl (gk_fieldLink 19 rfl (gk_fieldLink 12 rfl (gk_methodLink 20 rfl (gk_instanceMethod 21 rfl (gk_selects 22 rfl (gk_initialized 10 rfl (gk_code 23 rfl (gk_fieldLink 24 rfl (gk_fieldLink 25 rfl (gk_methodLink 26 rfl (gk_static 27 rfl (gk_initialized 28 rfl (gk_code 29 rfl (gk_laysFinal 86 rfl (gk_laysFinal 87 rfl (gk_laysFinal 88 rfl (gk_lays 89 rfl (gk_lays 90 rfl (gk_laysFinal 91 rfl (gk_laysFinal 92 rfl (gk_laysFinal 93 rfl (gk_lays 101 rfl (gk_laysFinal 102 rfl (gn)))))))))))))))))))))))))))
set_option maxRecDepth 20000 in
theorem gX8_endRound_X6_leastIn : GoodIn wsX8_endRound (wsV RX8 98 RX6 yX6_leastIn wsX6_leastIn) := goodIn_app (gk_methodLink 13 rfl (gk_instanceMethod 14 rfl (gk_selects 15 rfl (gk_initialized 10 rfl (gn))))) ggX8_endRound_X6_leastIn
theorem dX8_endRound_79 : decode cX8_endRound 79 = .ok (.aload 4, 2) := dw25 (n := 64) (i := 15) (a := 4) kc_cX8_endRound_2 (by decide +kernel) (by decide)
theorem dX8_endRound_81 : decode cX8_endRound 81 = .ok (.invokevirtual 101, 3) := dw182 (n := 64) (i := 17) (a := 0) (b := 101) kc_cX8_endRound_2 (by decide +kernel) (by decide)
set_option maxRecDepth 20000 in
theorem ggX8_endRound_X8_leaveOut : GoodIn wsX8_endRound wsX8_leaveOut := (gk_code 34 rfl (gk_fieldLink 1 rfl (gk_fieldLink 6 rfl (gk_methodLink 35 rfl (gk_instanceMethod 36 rfl (gk_selects 37 rfl (gk_initialized 38 rfl (gk_code 39 rfl (gk_fieldLink 40 rfl (gk_fieldLink 41 rfl (gk_fieldLink 42 rfl (gk_fieldLink 43 rfl (gk_fieldLink 44 rfl (gk_fieldLink 45 rfl (gk_fieldLink 46 rfl (gk_laysFinal 81 rfl (gk_laysFinal 82 rfl (gk_laysFinal 83 rfl (gk_laysFinal 84 rfl (gk_laysFinal 85 rfl (gk_laysFinal 86 rfl (gk_laysFinal 87 rfl (gk_laysFinal 88 rfl (gk_lays 89 rfl (gk_lays 90 rfl (gk_laysFinal 91 rfl (gk_laysFinal 92 rfl (gk_laysFinal 93 rfl (gk_lays 94 rfl (gk_laysFinal 95 rfl (gk_lays 96 rfl (gk_laysFinal 97 rfl (gk_laysFinal 98 rfl (gk_laysFinal 99 rfl (gk_laysFinal 100 rfl (gn))))))))))))))))))))))))))))))))))))
set_option maxRecDepth 20000 in
theorem gX8_endRound_X8_leaveOut : GoodIn wsX8_endRound (wsV RX8 101 RX8 yX8_leaveOut wsX8_leaveOut) := goodIn_app (gk_methodLink 30 rfl (gk_instanceMethod 31 rfl (gk_selects 32 rfl (gk_initialized 33 rfl (gn))))) ggX8_endRound_X8_leaveOut
theorem dX8_endRound_84 : decode cX8_endRound 84 = .ok (.ireturn, 1) := dw172 (n := 64) (i := 20) kc_cX8_endRound_2 (by decide +kernel)
theorem dX8_endRound_54 : decode cX8_endRound 54 = .ok (.iconst 1, 1) := dw4 (n := 32) (i := 22) kc_cX8_endRound_1 (by decide +kernel)
theorem dX8_endRound_55 : decode cX8_endRound 55 = .ok (.goto 4, 3) := dw167 (n := 32) (i := 23) (a := 0) (b := 4) kc_cX8_endRound_1 (by decide +kernel) (by decide)
theorem dX8_endRound_85 : decode cX8_endRound 85 = .ok (.aload 4, 2) := dw25 (n := 64) (i := 21) (a := 4) kc_cX8_endRound_2 (by decide +kernel) (by decide)
theorem dX8_endRound_87 : decode cX8_endRound 87 = .ok (.iconst 1, 1) := dw4 (n := 64) (i := 23) kc_cX8_endRound_2 (by decide +kernel)
theorem dX8_endRound_88 : decode cX8_endRound 88 = .ok (.iload_n 1, 1) := dw27 (n := 64) (i := 24) kc_cX8_endRound_2 (by decide +kernel)
theorem dX8_endRound_89 : decode cX8_endRound 89 = .ok (.aload_n 0, 1) := dw42 (n := 64) (i := 25) kc_cX8_endRound_2 (by decide +kernel)
theorem dX8_endRound_90 : decode cX8_endRound 90 = .ok (.getfield 29, 3) := dw180 (n := 64) (i := 26) (a := 0) (b := 29) kc_cX8_endRound_2 (by decide +kernel) (by decide)
theorem dX8_endRound_93 : decode cX8_endRound 93 = .ok (.invokevirtual 105, 3) := dw182 (n := 64) (i := 29) (a := 0) (b := 105) kc_cX8_endRound_2 (by decide +kernel) (by decide)
set_option maxRecDepth 20000 in
theorem ggX8_endRound_X7_note : GoodIn wsX8_endRound wsX7_note := (gk_code 39 rfl (gk_fieldLink 40 rfl (gk_fieldLink 41 rfl (gk_fieldLink 42 rfl (gk_fieldLink 43 rfl (gk_fieldLink 44 rfl (gk_fieldLink 45 rfl (gk_fieldLink 46 rfl (gk_lays 94 rfl (gk_laysFinal 95 rfl (gk_lays 96 rfl (gk_laysFinal 97 rfl (gk_laysFinal 98 rfl (gk_laysFinal 99 rfl (gk_laysFinal 100 rfl (gk_laysFinal 86 rfl (gk_laysFinal 87 rfl (gk_laysFinal 88 rfl (gk_lays 89 rfl (gk_lays 90 rfl (gk_laysFinal 91 rfl (gk_laysFinal 92 rfl (gk_laysFinal 93 rfl (gn))))))))))))))))))))))))
set_option maxRecDepth 20000 in
theorem gX8_endRound_X7_note : GoodIn wsX8_endRound (wsV RX8 105 RX7 yX7_note wsX7_note) := goodIn_app (gk_methodLink 35 rfl (gk_instanceMethod 36 rfl (gk_selects 37 rfl (gk_initialized 38 rfl (gn))))) ggX8_endRound_X7_note
theorem dX8_endRound_96 : decode cX8_endRound 96 = .ok (.aload 4, 2) := dw25 (n := 96) (i := 0) (a := 4) kc_cX8_endRound_3 (by decide +kernel) (by decide)
theorem dX8_endRound_98 : decode cX8_endRound 98 = .ok (.iload_n 1, 1) := dw27 (n := 96) (i := 2) kc_cX8_endRound_3 (by decide +kernel)
theorem dX8_endRound_99 : decode cX8_endRound 99 = .ok (.invokevirtual 109, 3) := dw182 (n := 96) (i := 3) (a := 0) (b := 109) kc_cX8_endRound_3 (by decide +kernel) (by decide)
set_option maxRecDepth 20000 in
theorem ggX8_endRound_X7_give : GoodIn wsX8_endRound wsX7_give := (gk_code 50 rfl (gk_fieldLink 51 rfl (gk_fieldLink 52 rfl (gk_lays 94 rfl (gk_laysFinal 95 rfl (gk_lays 96 rfl (gk_laysFinal 97 rfl (gk_laysFinal 98 rfl (gk_laysFinal 99 rfl (gk_laysFinal 100 rfl (gn)))))))))))
set_option maxRecDepth 20000 in
theorem gX8_endRound_X7_give : GoodIn wsX8_endRound (wsV RX8 109 RX7 yX7_give wsX7_give) := goodIn_app (gk_methodLink 47 rfl (gk_instanceMethod 48 rfl (gk_selects 49 rfl (gk_initialized 38 rfl (gn))))) ggX8_endRound_X7_give
theorem dX8_endRound_102 : decode cX8_endRound 102 = .ok (.aload_n 0, 1) := dw42 (n := 96) (i := 6) kc_cX8_endRound_3 (by decide +kernel)
theorem dX8_endRound_103 : decode cX8_endRound 103 = .ok (.getfield 29, 3) := dw180 (n := 96) (i := 7) (a := 0) (b := 29) kc_cX8_endRound_3 (by decide +kernel) (by decide)
theorem dX8_endRound_106 : decode cX8_endRound 106 = .ok (.getfield 113, 3) := dw180 (n := 96) (i := 10) (a := 0) (b := 113) kc_cX8_endRound_3 (by decide +kernel) (by decide)
theorem dX8_endRound_109 : decode cX8_endRound 109 = .ok (.iload_n 1, 1) := dw27 (n := 96) (i := 13) kc_cX8_endRound_3 (by decide +kernel)
theorem dX8_endRound_110 : decode cX8_endRound 110 = .ok (.iconst 0, 1) := dw3 (n := 96) (i := 14) kc_cX8_endRound_3 (by decide +kernel)
theorem dX8_endRound_111 : decode cX8_endRound 111 = .ok (.bastore, 1) := dw84 (n := 96) (i := 15) kc_cX8_endRound_3 (by decide +kernel)
theorem dX8_endRound_112 : decode cX8_endRound 112 = .ok (.iload 5, 2) := dw21 (n := 96) (i := 16) (a := 5) kc_cX8_endRound_3 (by decide +kernel) (by decide)
theorem dX8_endRound_114 : decode cX8_endRound 114 = .ok (.ifCond .ne 12, 3) := dw154 (n := 96) (i := 18) (a := 0) (b := 12) kc_cX8_endRound_3 (by decide +kernel) (by decide)
theorem dX8_endRound_117 : decode cX8_endRound 117 = .ok (.aload_n 0, 1) := dw42 (n := 96) (i := 21) kc_cX8_endRound_3 (by decide +kernel)
theorem dX8_endRound_118 : decode cX8_endRound 118 = .ok (.iload_n 1, 1) := dw27 (n := 96) (i := 22) kc_cX8_endRound_3 (by decide +kernel)
theorem dX8_endRound_119 : decode cX8_endRound 119 = .ok (.lload_n 2, 1) := dw32 (n := 96) (i := 23) kc_cX8_endRound_3 (by decide +kernel)
theorem dX8_endRound_120 : decode cX8_endRound 120 = .ok (.invokevirtual 117, 3) := dw182 (n := 96) (i := 24) (a := 0) (b := 117) kc_cX8_endRound_3 (by decide +kernel) (by decide)
set_option maxRecDepth 20000 in
theorem ggX8_endRound_X8_passOn : GoodIn wsX8_endRound wsX8_passOn := (gk_code 56 rfl (gk_fieldLink 1 rfl (gk_fieldLink 4 rfl (gk_fieldLink 5 rfl (gk_fieldLink 57 rfl (gk_fieldLink 58 rfl (gk_fieldLink 59 rfl (gk_fieldLink 60 rfl (gk_fieldLink 61 rfl (gk_fieldLink 62 rfl (gk_fieldLink 63 rfl (gk_methodLink 64 rfl (gk_instanceMethod 65 rfl (gk_selects 66 rfl (gk_initialized 67 rfl (gk_code 68 rfl (gk_fieldLink 69 rfl (gk_fieldLink 70 rfl (gk_methodLink 71 rfl (gk_instanceMethod 72 rfl (gk_selects 73 rfl (gk_code 74 rfl (gk_constantLong 75 rfl (gk_methodLink 76 rfl (gk_instanceMethod 77 rfl (gk_selects 78 rfl (gk_code 79 rfl (gk_methodLink 80 rfl (gk_laysFinal 81 rfl (gk_laysFinal 82 rfl (gk_laysFinal 83 rfl (gk_laysFinal 84 rfl (gk_laysFinal 85 rfl (gk_laysFinal 86 rfl (gk_laysFinal 87 rfl (gk_laysFinal 88 rfl (gk_lays 89 rfl (gk_lays 90 rfl (gk_laysFinal 91 rfl (gk_laysFinal 92 rfl (gk_laysFinal 93 rfl (gk_lays 103 rfl (gk_lays 104 rfl (gn))))))))))))))))))))))))))))))))))))))))))))
set_option maxRecDepth 20000 in
theorem gX8_endRound_X8_passOn : GoodIn wsX8_endRound (wsV RX8 117 RX8 yX8_passOn wsX8_passOn) := goodIn_app (gk_methodLink 53 rfl (gk_instanceMethod 54 rfl (gk_selects 55 rfl (gk_initialized 33 rfl (gn))))) ggX8_endRound_X8_passOn
theorem dX8_endRound_123 : decode cX8_endRound 123 = .ok (.ifCond .eq 7, 3) := dw153 (n := 96) (i := 27) (a := 0) (b := 7) kc_cX8_endRound_3 (by decide +kernel) (by decide)
theorem dX8_endRound_130 : decode cX8_endRound 130 = .ok (.iconst 0, 1) := dw3 (n := 128) (i := 2) kc_cX8_endRound_4 (by decide +kernel)
theorem dX8_endRound_131 : decode cX8_endRound 131 = .ok (.ireturn, 1) := dw172 (n := 128) (i := 3) kc_cX8_endRound_4 (by decide +kernel)
theorem dX8_endRound_126 : decode cX8_endRound 126 = .ok (.iconst 1, 1) := dw4 (n := 96) (i := 30) kc_cX8_endRound_3 (by decide +kernel)
theorem dX8_endRound_127 : decode cX8_endRound 127 = .ok (.goto 4, 3) := dw167 (n := 96) (i := 31) (a := 0) (b := 4) kc_cX8_endRound_3 (by decide +kernel) (by decide)
theorem dX8_endRound_23 : decode cX8_endRound 23 = .ok (.iconst 1, 1) := dw4 (n := 0) (i := 23) kc_cX8_endRound_0 (by decide +kernel)
theorem dX8_endRound_24 : decode cX8_endRound 24 = .ok (.goto 4, 3) := dw167 (n := 0) (i := 24) (a := 0) (b := 4) kc_cX8_endRound_0 (by decide +kernel) (by decide)
set_option maxHeartbeats 4000000 in
set_option maxRecDepth 100000 in
theorem s_X8_endRound_a (l : Launch) (D : va_G) (ad : Nat → Nat) (cs : Nat → ClassId) (M : MI) (L : ML) (x : Int32) (y : Int64) (hI : IC M) (hx : 0 ≤ x.toInt ∧ x.toInt < 10) : Ci l yX8_endRound wsX8_endRound ({ frames := 3, cells := 0, slots := 0, locals := 88 }) D ad cs [.ref (ad 120), .int x, .long y, .ref (ad 125)] M L (fun r M1 L1 => (r = 0 ∨ r = 1) ∧ IC M1 ∧ (∀ k, k ≠ 90 ∧ k ≠ 125 ∧ k ≠ 126 ∧ k ≠ 127 ∧ k ≠ 128 → M1 k = M k) ∧ ∀ k, 258 ≤ k → L1 k = L k) := by
  refine enter_i RX8 rfl [(0, .ref (ad 120)), (1, .int x), (2, .long y), (4, .ref (ad 125))] rfl (Nat.le_of_ble_eq_true rfl) (by decide +kernel) rfl ?_
  intro p e s m below meth c C hr
  have hF : ∀ k, k ≠ 90 ∧ k ≠ 125 ∧ k ≠ 126 ∧ k ≠ 127 ∧ k ≠ 128 → M k = M k := fun _ _ => rfl
  have hG : ∀ k, 258 ≤ k → L k = L k := fun _ _ => rfl
  obtain ⟨hx1, hx2⟩ := hx
  refine g_aload_n C 0 dX8_endRound_0 rfl ?_
  refine g_get C (.ref (ad 88)) 0 in_X8_endRound_8 (List.mem_of_getElem? (i := 1) rfl) (by decide) (ce_trans ad cs _ _) rfl (by decide) rfl rfl dX8_endRound_1 ?_
  refine g_callVi C (n := 0) (As := []) (st := []) (s_X6_manyIn l D ad cs _ _ hI) gX8_endRound_X6_manyIn rfl rfl rfl (by decide +kernel) ⟨Nat.le_of_ble_eq_true rfl, Nat.le_of_ble_eq_true rfl⟩ rfl (Nat.le_of_ble_eq_true rfl) ⟨Nat.zero_le _, Nat.zero_le _⟩ (by decide) (ce_poll ad cs _ _) rfl rfl dX8_endRound_4 (fun r1 M2 L3 hr1 => ?_)
  obtain ⟨hq1, hq2, hr1⟩ := hr1
  obtain rfl := hq1.symm
  obtain rfl := hq2.symm
  refine g_aload_n C 0 dX8_endRound_7 rfl ?_
  refine g_get C (.ref (ad 88)) 0 in_X8_endRound_8 (List.mem_of_getElem? (i := 1) rfl) (by decide) (ce_trans ad cs _ _) rfl (by decide) rfl rfl dX8_endRound_8 ?_
  refine g_get C (.int (M 88 4)) 4 in_X8_endRound_6 (List.mem_of_getElem? (i := 2) rfl) (by decide) (ce_poll ad cs _ _) rfl (by decide) rfl rfl dX8_endRound_11 ?_
  refine g_ni (fun v4 ev4 => ?_)
  have tv4 := congrArg Int32.toInt ev4
  obtain ⟨bv4, dv4⟩ := (show rg 0 30 v4 from (by rw [ev4]; exact (hI 88 4).2 rfl))
  refine g_aload C 3 dX8_endRound_14 rfl ?_
  refine g_get C (.int (M 125 0)) 0 in_X8_endRound_7 (List.mem_of_getElem? (i := 3) rfl) (by decide) (ce_ra ad cs _ _) rfl (by decide) rfl rfl dX8_endRound_16 ?_
  refine g_ni (fun v5 ev5 => ?_)
  have tv5 := congrArg Int32.toInt ev5
  obtain ⟨bv5, dv5⟩ := (show rg 0 30 v5 from (by rw [ev5]; exact hI 125 0 (Or.inl rfl)))
  refine g_isub C dX8_endRound_19 ?_
  refine g_ni (fun v6 ev6 => ?_)
  try have fv6 := fsub rfl rfl ev6 (by omega) (by omega)
  refine g_icmp_gt C 27 dX8_endRound_20 (by decide) (fun c7 => ?_) (fun c7 => ?_)
  ·
    have f8 := fl rfl rfl c7
    refine g_iconst C 0 dX8_endRound_27 (by decide) ?_
    refine g_istore C [(5, .int 0), (0, .ref (ad 120)), (1, .int x), (2, .long y), (4, .ref (ad 125))] dX8_endRound_28 (by decide) rfl ?_
    refine g_aload_n C 1 dX8_endRound_30 rfl ?_
    refine g_get C (.ref (ad 88)) 0 in_X8_endRound_8 (List.mem_of_getElem? (i := 1) rfl) (by decide) (ce_trans ad cs _ _) rfl (by decide) rfl rfl dX8_endRound_31 ?_
    refine g_get C (.ref (ad 91)) 6 in_X8_endRound_6 (List.mem_of_getElem? (i := 4) rfl) (by decide) (ce_poll ad cs _ _) rfl (by decide) rfl rfl dX8_endRound_34 ?_
    refine g_iload_n C 2 dX8_endRound_37 rfl ?_
    refine g_lald C (by decide) (ce_pupper ad cs _ _) (fin' (n := 10) rfl (by omega) (by omega)) dX8_endRound_38 ?_
    refine g_nl (fun v9 ev9 => ?_)
    refine g_lload_n C 3 dX8_endRound_39 rfl ?_
    refine g_aload_n C 1 dX8_endRound_40 rfl ?_
    refine g_get C (.ref (ad 88)) 0 in_X8_endRound_8 (List.mem_of_getElem? (i := 1) rfl) (by decide) (ce_trans ad cs _ _) rfl (by decide) rfl rfl dX8_endRound_41 ?_
    refine g_get C (.ref (ad 92)) 7 in_X8_endRound_6 (List.mem_of_getElem? (i := 5) rfl) (by decide) (ce_poll ad cs _ _) rfl (by decide) rfl rfl dX8_endRound_44 ?_
    refine g_iload_n C 2 dX8_endRound_47 rfl ?_
    refine g_lald C (by decide) (ce_plower ad cs _ _) (fin' (n := 10) rfl (by omega) (by omega)) dX8_endRound_48 ?_
    refine g_nl (fun v10 ev10 => ?_)
    refine g_lmul C dX8_endRound_49 ?_
    refine g_nl (fun v11 ev11 => ?_)
    refine g_lcmp C dX8_endRound_50 ?_
    refine g_ni (fun v12 ev12 => ?_)
    refine g_if_lt C 58 dX8_endRound_51 (by decide) (fun c13 => ?_) (fun c13 => ?_)
    ·
      have f14 := fl rfl (by decide : (0 : Int32).toInt = 0) c13
      refine g_iconst C 0 dX8_endRound_58 (by decide) ?_
      refine g_istore C [(6, .int 0), (5, .int 0), (0, .ref (ad 120)), (1, .int x), (2, .long y), (4, .ref (ad 125))] dX8_endRound_59 (by decide) rfl ?_
      refine g_iload C 1 dX8_endRound_61 rfl ?_
      refine g_if_ne C 85 dX8_endRound_63 (by decide) (fun c15 => absurd c15 (by decide)) (fun _ => ?_)
      refine g_iload C 0 dX8_endRound_66 rfl ?_
      refine g_if_ne C 85 dX8_endRound_68 (by decide) (fun c16 => absurd c16 (by decide)) (fun _ => ?_)
      refine g_aload_n C 2 dX8_endRound_71 rfl ?_
      refine g_aload_n C 2 dX8_endRound_72 rfl ?_
      refine g_get C (.ref (ad 88)) 0 in_X8_endRound_8 (List.mem_of_getElem? (i := 1) rfl) (by decide) (ce_trans ad cs _ _) rfl (by decide) rfl rfl dX8_endRound_73 ?_
      refine g_callVi C (n := 0) (As := []) (st := [.ref (ad 120)]) (s_X6_leastIn l D ad cs _ _ hI) gX8_endRound_X6_leastIn rfl rfl rfl (by decide +kernel) ⟨Nat.le_of_ble_eq_true rfl, Nat.le_of_ble_eq_true rfl⟩ rfl (Nat.le_of_ble_eq_true rfl) ⟨Nat.zero_le _, Nat.zero_le _⟩ (by decide) (ce_poll ad cs _ _) rfl rfl dX8_endRound_76 (fun r17 M18 L19 hr17 => ?_)
      obtain ⟨hq1, hq2, hr17⟩ := hr17
      obtain rfl := hq1.symm
      obtain rfl := hq2.symm
      obtain ⟨br17, dr17⟩ := hr17
      refine g_aload C 5 dX8_endRound_79 rfl ?_
      refine g_callVi C (n := 2) (As := [.int r17, .ref (ad 125)]) (st := []) (s_X8_leaveOut_a l D ad cs _ _ r17 hI (by omega) (by omega)) gX8_endRound_X8_leaveOut rfl rfl rfl (by decide +kernel) ⟨Nat.le_of_ble_eq_true rfl, Nat.le_of_ble_eq_true rfl⟩ rfl (Nat.le_of_ble_eq_true rfl) ⟨Nat.zero_le _, Nat.zero_le _⟩ (by decide) (ce_trans ad cs _ _) rfl rfl dX8_endRound_81 (fun r20 M21 L22 hr20 => ?_)
      obtain ⟨hr20, hI, hF1, hG1⟩ := hr20
      have hF : ∀ k, k ≠ 90 ∧ k ≠ 125 ∧ k ≠ 126 ∧ k ≠ 127 ∧ k ≠ 128 → M21 k = M k := fun k hk => by (rw [hF1 k (by omega)]; try exact hF k hk)
      have hG : ∀ k, 258 ≤ k → L22 k = L k := fun k hk => by (rw [hG1 k hk]; try exact hG k hk)
      have hz := hr20
      obtain ⟨zar20, zbr20⟩ := z_to hr20
      have hz := z_of (r := r20) (by omega) (by omega)
      exact g_zret C hr (by first | rfl | (rcases hz with rfl | rfl <;> rfl)) ⟨(by first | exact Or.inl rfl | exact Or.inr rfl | exact hz), hI, hF, hG⟩ dX8_endRound_84
    ·
      have f23 := fnl rfl (by decide : (0 : Int32).toInt = 0) c13
      refine g_iconst C 1 dX8_endRound_54 (by decide) ?_
      refine g_goto C 59 dX8_endRound_55 (by decide) ?_
      refine g_istore C [(6, .int 1), (5, .int 0), (0, .ref (ad 120)), (1, .int x), (2, .long y), (4, .ref (ad 125))] dX8_endRound_59 (by decide) rfl ?_
      refine g_iload C 1 dX8_endRound_61 rfl ?_
      refine g_if_ne C 85 dX8_endRound_63 (by decide) (fun c24 => absurd c24 (by decide)) (fun _ => ?_)
      refine g_iload C 0 dX8_endRound_66 rfl ?_
      refine g_if_ne C 85 dX8_endRound_68 (by decide) (fun _ => ?_) (fun c25 => absurd c25 (by decide))
      refine g_aload C 5 dX8_endRound_85 rfl ?_
      refine g_iconst C 1 dX8_endRound_87 (by decide) ?_
      refine g_iload_n C 3 dX8_endRound_88 rfl ?_
      refine g_aload_n C 2 dX8_endRound_89 rfl ?_
      refine g_get C (.ref (ad 88)) 0 in_X8_endRound_8 (List.mem_of_getElem? (i := 1) rfl) (by decide) (ce_trans ad cs _ _) rfl (by decide) rfl rfl dX8_endRound_90 ?_
      refine g_callVv C (n := 3) (As := [.int 1, .int x, .ref (ad 88)]) (st := []) (s_X7_note_a l D ad cs _ _ 1 x hI) gX8_endRound_X7_note rfl rfl rfl (by decide +kernel) ⟨Nat.le_of_ble_eq_true rfl, Nat.le_of_ble_eq_true rfl⟩ rfl (Nat.le_of_ble_eq_true rfl) ⟨Nat.zero_le _, Nat.zero_le _⟩ (by decide) (ce_ra ad cs _ _) rfl rfl dX8_endRound_93 (fun M27 L28 hr26 => ?_)
      obtain ⟨hI, hF1, hG1⟩ := hr26
      have hF : ∀ k, k ≠ 90 ∧ k ≠ 125 ∧ k ≠ 126 ∧ k ≠ 127 ∧ k ≠ 128 → M27 k = M k := fun k hk => by (rw [hF1 k (by omega)]; try exact hF k hk)
      have hG : ∀ k, 258 ≤ k → L28 k = L k := fun k hk => by (rw [hG1 k hk]; try exact hG k hk)
      refine g_aload C 5 dX8_endRound_96 rfl ?_
      refine g_iload_n C 3 dX8_endRound_98 rfl ?_
      refine g_callVv C (n := 1) (As := [.int x]) (st := []) (s_X7_give_a l D ad cs _ _ x hI) gX8_endRound_X7_give rfl rfl rfl (by decide +kernel) ⟨Nat.le_of_ble_eq_true rfl, Nat.le_of_ble_eq_true rfl⟩ rfl (Nat.le_of_ble_eq_true rfl) ⟨Nat.zero_le _, Nat.zero_le _⟩ (by decide) (ce_ra ad cs _ _) rfl rfl dX8_endRound_99 (fun M30 L31 hr29 => ?_)
      obtain ⟨hI, hF1, hG1⟩ := hr29
      have hF : ∀ k, k ≠ 90 ∧ k ≠ 125 ∧ k ≠ 126 ∧ k ≠ 127 ∧ k ≠ 128 → M30 k = M k := fun k hk => by (rw [hF1 k (by omega)]; try exact hF k hk)
      have hG : ∀ k, 258 ≤ k → L31 k = L k := fun k hk => by (rw [hG1 k hk]; try exact hG k hk)
      refine g_aload_n C 2 dX8_endRound_102 rfl ?_
      refine g_get C (.ref (ad 88)) 0 in_X8_endRound_8 (List.mem_of_getElem? (i := 1) rfl) (by decide) (ce_trans ad cs _ _) rfl (by decide) rfl rfl dX8_endRound_103 ?_
      refine g_get C (.ref (ad 90)) 5 in_X8_endRound_6 (List.mem_of_getElem? (i := 6) rfl) (by decide) (ce_poll ad cs _ _) rfl (by decide) rfl rfl dX8_endRound_106 ?_
      refine g_iload_n C 3 dX8_endRound_109 rfl ?_
      refine g_iconst C 0 dX8_endRound_110 (by decide) ?_
      refine g_zast C (by decide) (ce_pin ad cs _ _) (by rw [sI_k]; rfl) (fin' (n := 10) rfl (by omega) (by omega)) dX8_endRound_111 ?_
      refine g_nm (fun M32 hM32 => ?_)
      have hI : IC M32 := by rw [hM32]; exact hI.st (bC_free (by decide) (by decide) (by decide) (by decide) (by decide) (by decide) (by decide))
      have hF : ∀ k, k ≠ 90 ∧ k ≠ 125 ∧ k ≠ 126 ∧ k ≠ 127 ∧ k ≠ 128 → M32 k = M k := fun k hk => by (rw [hM32, sI_n _ _ _ (by omega)]; try exact hF k hk)
      refine g_iload C 1 dX8_endRound_112 rfl ?_
      refine g_if_ne C 126 dX8_endRound_114 (by decide) (fun c33 => absurd c33 (by decide)) (fun _ => ?_)
      refine g_aload_n C 2 dX8_endRound_117 rfl ?_
      refine g_iload_n C 3 dX8_endRound_118 rfl ?_
      refine g_lload_n C 4 dX8_endRound_119 rfl ?_
      refine g_callVi C (n := 2) (As := [.int x, .long y]) (st := []) (s_X8_passOn l D ad cs _ _ x y hI ⟨by omega, by omega⟩) gX8_endRound_X8_passOn rfl rfl rfl (by decide +kernel) ⟨Nat.le_of_ble_eq_true rfl, Nat.le_of_ble_eq_true rfl⟩ rfl (Nat.le_of_ble_eq_true rfl) ⟨Nat.zero_le _, Nat.zero_le _⟩ (by decide) (ce_trans ad cs _ _) rfl rfl dX8_endRound_120 (fun r34 M35 L36 hr34 => ?_)
      obtain ⟨hr34, hI, hF1, hG1⟩ := hr34
      have hF : ∀ k, k ≠ 90 ∧ k ≠ 125 ∧ k ≠ 126 ∧ k ≠ 127 ∧ k ≠ 128 → M35 k = M k := fun k hk => by (rw [hF1 k (by omega)]; try exact hF k hk)
      have hG : ∀ k, 258 ≤ k → L36 k = L k := fun k hk => by (rw [hG1 k hk]; try exact hG k hk)
      have hz := hr34
      obtain ⟨zar34, zbr34⟩ := z_to hr34
      refine g_if_eq C 130 dX8_endRound_123 (by decide) (fun c37 => ?_) (fun c37 => ?_)
      ·
        have f38 := feq rfl (by decide : (0 : Int32).toInt = 0) c37
        refine g_iconst C 0 dX8_endRound_130 (by decide) ?_
        exact g_zret C hr (by first | rfl | (rcases hz with rfl | rfl <;> rfl)) ⟨(by first | exact Or.inl rfl | exact Or.inr rfl | exact hz), hI, hF, hG⟩ dX8_endRound_131
      ·
        have f39 := fne rfl (by decide : (0 : Int32).toInt = 0) c37
        refine g_iconst C 1 dX8_endRound_126 (by decide) ?_
        refine g_goto C 131 dX8_endRound_127 (by decide) ?_
        exact g_zret C hr (by first | rfl | (rcases hz with rfl | rfl <;> rfl)) ⟨(by first | exact Or.inl rfl | exact Or.inr rfl | exact hz), hI, hF, hG⟩ dX8_endRound_131
  ·
    have f40 := fnl rfl rfl c7
    refine g_iconst C 1 dX8_endRound_23 (by decide) ?_
    refine g_goto C 28 dX8_endRound_24 (by decide) ?_
    refine g_istore C [(5, .int 1), (0, .ref (ad 120)), (1, .int x), (2, .long y), (4, .ref (ad 125))] dX8_endRound_28 (by decide) rfl ?_
    refine g_aload_n C 1 dX8_endRound_30 rfl ?_
    refine g_get C (.ref (ad 88)) 0 in_X8_endRound_8 (List.mem_of_getElem? (i := 1) rfl) (by decide) (ce_trans ad cs _ _) rfl (by decide) rfl rfl dX8_endRound_31 ?_
    refine g_get C (.ref (ad 91)) 6 in_X8_endRound_6 (List.mem_of_getElem? (i := 4) rfl) (by decide) (ce_poll ad cs _ _) rfl (by decide) rfl rfl dX8_endRound_34 ?_
    refine g_iload_n C 2 dX8_endRound_37 rfl ?_
    refine g_lald C (by decide) (ce_pupper ad cs _ _) (fin' (n := 10) rfl (by omega) (by omega)) dX8_endRound_38 ?_
    refine g_nl (fun v41 ev41 => ?_)
    refine g_lload_n C 3 dX8_endRound_39 rfl ?_
    refine g_aload_n C 1 dX8_endRound_40 rfl ?_
    refine g_get C (.ref (ad 88)) 0 in_X8_endRound_8 (List.mem_of_getElem? (i := 1) rfl) (by decide) (ce_trans ad cs _ _) rfl (by decide) rfl rfl dX8_endRound_41 ?_
    refine g_get C (.ref (ad 92)) 7 in_X8_endRound_6 (List.mem_of_getElem? (i := 5) rfl) (by decide) (ce_poll ad cs _ _) rfl (by decide) rfl rfl dX8_endRound_44 ?_
    refine g_iload_n C 2 dX8_endRound_47 rfl ?_
    refine g_lald C (by decide) (ce_plower ad cs _ _) (fin' (n := 10) rfl (by omega) (by omega)) dX8_endRound_48 ?_
    refine g_nl (fun v42 ev42 => ?_)
    refine g_lmul C dX8_endRound_49 ?_
    refine g_nl (fun v43 ev43 => ?_)
    refine g_lcmp C dX8_endRound_50 ?_
    refine g_ni (fun v44 ev44 => ?_)
    refine g_if_lt C 58 dX8_endRound_51 (by decide) (fun c45 => ?_) (fun c45 => ?_)
    ·
      have f46 := fl rfl (by decide : (0 : Int32).toInt = 0) c45
      refine g_iconst C 0 dX8_endRound_58 (by decide) ?_
      refine g_istore C [(6, .int 0), (5, .int 1), (0, .ref (ad 120)), (1, .int x), (2, .long y), (4, .ref (ad 125))] dX8_endRound_59 (by decide) rfl ?_
      refine g_iload C 1 dX8_endRound_61 rfl ?_
      refine g_if_ne C 85 dX8_endRound_63 (by decide) (fun _ => ?_) (fun c47 => absurd c47 (by decide))
      refine g_aload C 5 dX8_endRound_85 rfl ?_
      refine g_iconst C 1 dX8_endRound_87 (by decide) ?_
      refine g_iload_n C 3 dX8_endRound_88 rfl ?_
      refine g_aload_n C 2 dX8_endRound_89 rfl ?_
      refine g_get C (.ref (ad 88)) 0 in_X8_endRound_8 (List.mem_of_getElem? (i := 1) rfl) (by decide) (ce_trans ad cs _ _) rfl (by decide) rfl rfl dX8_endRound_90 ?_
      refine g_callVv C (n := 3) (As := [.int 1, .int x, .ref (ad 88)]) (st := []) (s_X7_note_a l D ad cs _ _ 1 x hI) gX8_endRound_X7_note rfl rfl rfl (by decide +kernel) ⟨Nat.le_of_ble_eq_true rfl, Nat.le_of_ble_eq_true rfl⟩ rfl (Nat.le_of_ble_eq_true rfl) ⟨Nat.zero_le _, Nat.zero_le _⟩ (by decide) (ce_ra ad cs _ _) rfl rfl dX8_endRound_93 (fun M49 L50 hr48 => ?_)
      obtain ⟨hI, hF1, hG1⟩ := hr48
      have hF : ∀ k, k ≠ 90 ∧ k ≠ 125 ∧ k ≠ 126 ∧ k ≠ 127 ∧ k ≠ 128 → M49 k = M k := fun k hk => by (rw [hF1 k (by omega)]; try exact hF k hk)
      have hG : ∀ k, 258 ≤ k → L50 k = L k := fun k hk => by (rw [hG1 k hk]; try exact hG k hk)
      refine g_aload C 5 dX8_endRound_96 rfl ?_
      refine g_iload_n C 3 dX8_endRound_98 rfl ?_
      refine g_callVv C (n := 1) (As := [.int x]) (st := []) (s_X7_give_a l D ad cs _ _ x hI) gX8_endRound_X7_give rfl rfl rfl (by decide +kernel) ⟨Nat.le_of_ble_eq_true rfl, Nat.le_of_ble_eq_true rfl⟩ rfl (Nat.le_of_ble_eq_true rfl) ⟨Nat.zero_le _, Nat.zero_le _⟩ (by decide) (ce_ra ad cs _ _) rfl rfl dX8_endRound_99 (fun M52 L53 hr51 => ?_)
      obtain ⟨hI, hF1, hG1⟩ := hr51
      have hF : ∀ k, k ≠ 90 ∧ k ≠ 125 ∧ k ≠ 126 ∧ k ≠ 127 ∧ k ≠ 128 → M52 k = M k := fun k hk => by (rw [hF1 k (by omega)]; try exact hF k hk)
      have hG : ∀ k, 258 ≤ k → L53 k = L k := fun k hk => by (rw [hG1 k hk]; try exact hG k hk)
      refine g_aload_n C 2 dX8_endRound_102 rfl ?_
      refine g_get C (.ref (ad 88)) 0 in_X8_endRound_8 (List.mem_of_getElem? (i := 1) rfl) (by decide) (ce_trans ad cs _ _) rfl (by decide) rfl rfl dX8_endRound_103 ?_
      refine g_get C (.ref (ad 90)) 5 in_X8_endRound_6 (List.mem_of_getElem? (i := 6) rfl) (by decide) (ce_poll ad cs _ _) rfl (by decide) rfl rfl dX8_endRound_106 ?_
      refine g_iload_n C 3 dX8_endRound_109 rfl ?_
      refine g_iconst C 0 dX8_endRound_110 (by decide) ?_
      refine g_zast C (by decide) (ce_pin ad cs _ _) (by rw [sI_k]; rfl) (fin' (n := 10) rfl (by omega) (by omega)) dX8_endRound_111 ?_
      refine g_nm (fun M54 hM54 => ?_)
      have hI : IC M54 := by rw [hM54]; exact hI.st (bC_free (by decide) (by decide) (by decide) (by decide) (by decide) (by decide) (by decide))
      have hF : ∀ k, k ≠ 90 ∧ k ≠ 125 ∧ k ≠ 126 ∧ k ≠ 127 ∧ k ≠ 128 → M54 k = M k := fun k hk => by (rw [hM54, sI_n _ _ _ (by omega)]; try exact hF k hk)
      refine g_iload C 1 dX8_endRound_112 rfl ?_
      refine g_if_ne C 126 dX8_endRound_114 (by decide) (fun _ => ?_) (fun c55 => absurd c55 (by decide))
      refine g_iconst C 1 dX8_endRound_126 (by decide) ?_
      refine g_goto C 131 dX8_endRound_127 (by decide) ?_
      exact g_zret C hr (by first | rfl | (rcases hz with rfl | rfl <;> rfl)) ⟨(by first | exact Or.inl rfl | exact Or.inr rfl | exact hz), hI, hF, hG⟩ dX8_endRound_131
    ·
      have f56 := fnl rfl (by decide : (0 : Int32).toInt = 0) c45
      refine g_iconst C 1 dX8_endRound_54 (by decide) ?_
      refine g_goto C 59 dX8_endRound_55 (by decide) ?_
      refine g_istore C [(6, .int 1), (5, .int 1), (0, .ref (ad 120)), (1, .int x), (2, .long y), (4, .ref (ad 125))] dX8_endRound_59 (by decide) rfl ?_
      refine g_iload C 1 dX8_endRound_61 rfl ?_
      refine g_if_ne C 85 dX8_endRound_63 (by decide) (fun _ => ?_) (fun c57 => absurd c57 (by decide))
      refine g_aload C 5 dX8_endRound_85 rfl ?_
      refine g_iconst C 1 dX8_endRound_87 (by decide) ?_
      refine g_iload_n C 3 dX8_endRound_88 rfl ?_
      refine g_aload_n C 2 dX8_endRound_89 rfl ?_
      refine g_get C (.ref (ad 88)) 0 in_X8_endRound_8 (List.mem_of_getElem? (i := 1) rfl) (by decide) (ce_trans ad cs _ _) rfl (by decide) rfl rfl dX8_endRound_90 ?_
      refine g_callVv C (n := 3) (As := [.int 1, .int x, .ref (ad 88)]) (st := []) (s_X7_note_a l D ad cs _ _ 1 x hI) gX8_endRound_X7_note rfl rfl rfl (by decide +kernel) ⟨Nat.le_of_ble_eq_true rfl, Nat.le_of_ble_eq_true rfl⟩ rfl (Nat.le_of_ble_eq_true rfl) ⟨Nat.zero_le _, Nat.zero_le _⟩ (by decide) (ce_ra ad cs _ _) rfl rfl dX8_endRound_93 (fun M59 L60 hr58 => ?_)
      obtain ⟨hI, hF1, hG1⟩ := hr58
      have hF : ∀ k, k ≠ 90 ∧ k ≠ 125 ∧ k ≠ 126 ∧ k ≠ 127 ∧ k ≠ 128 → M59 k = M k := fun k hk => by (rw [hF1 k (by omega)]; try exact hF k hk)
      have hG : ∀ k, 258 ≤ k → L60 k = L k := fun k hk => by (rw [hG1 k hk]; try exact hG k hk)
      refine g_aload C 5 dX8_endRound_96 rfl ?_
      refine g_iload_n C 3 dX8_endRound_98 rfl ?_
      refine g_callVv C (n := 1) (As := [.int x]) (st := []) (s_X7_give_a l D ad cs _ _ x hI) gX8_endRound_X7_give rfl rfl rfl (by decide +kernel) ⟨Nat.le_of_ble_eq_true rfl, Nat.le_of_ble_eq_true rfl⟩ rfl (Nat.le_of_ble_eq_true rfl) ⟨Nat.zero_le _, Nat.zero_le _⟩ (by decide) (ce_ra ad cs _ _) rfl rfl dX8_endRound_99 (fun M62 L63 hr61 => ?_)
      obtain ⟨hI, hF1, hG1⟩ := hr61
      have hF : ∀ k, k ≠ 90 ∧ k ≠ 125 ∧ k ≠ 126 ∧ k ≠ 127 ∧ k ≠ 128 → M62 k = M k := fun k hk => by (rw [hF1 k (by omega)]; try exact hF k hk)
      have hG : ∀ k, 258 ≤ k → L63 k = L k := fun k hk => by (rw [hG1 k hk]; try exact hG k hk)
      refine g_aload_n C 2 dX8_endRound_102 rfl ?_
      refine g_get C (.ref (ad 88)) 0 in_X8_endRound_8 (List.mem_of_getElem? (i := 1) rfl) (by decide) (ce_trans ad cs _ _) rfl (by decide) rfl rfl dX8_endRound_103 ?_
      refine g_get C (.ref (ad 90)) 5 in_X8_endRound_6 (List.mem_of_getElem? (i := 6) rfl) (by decide) (ce_poll ad cs _ _) rfl (by decide) rfl rfl dX8_endRound_106 ?_
      refine g_iload_n C 3 dX8_endRound_109 rfl ?_
      refine g_iconst C 0 dX8_endRound_110 (by decide) ?_
      refine g_zast C (by decide) (ce_pin ad cs _ _) (by rw [sI_k]; rfl) (fin' (n := 10) rfl (by omega) (by omega)) dX8_endRound_111 ?_
      refine g_nm (fun M64 hM64 => ?_)
      have hI : IC M64 := by rw [hM64]; exact hI.st (bC_free (by decide) (by decide) (by decide) (by decide) (by decide) (by decide) (by decide))
      have hF : ∀ k, k ≠ 90 ∧ k ≠ 125 ∧ k ≠ 126 ∧ k ≠ 127 ∧ k ≠ 128 → M64 k = M k := fun k hk => by (rw [hM64, sI_n _ _ _ (by omega)]; try exact hF k hk)
      refine g_iload C 1 dX8_endRound_112 rfl ?_
      refine g_if_ne C 126 dX8_endRound_114 (by decide) (fun _ => ?_) (fun c65 => absurd c65 (by decide))
      refine g_iconst C 1 dX8_endRound_126 (by decide) ?_
      refine g_goto C 131 dX8_endRound_127 (by decide) ?_
      exact g_zret C hr (by first | rfl | (rcases hz with rfl | rfl <;> rfl)) ⟨(by first | exact Or.inl rfl | exact Or.inr rfl | exact hz), hI, hF, hG⟩ dX8_endRound_131
theorem dX8_seatByQuota_0 : decode cX8_seatByQuota 0 = .ok (.iconst 0, 1) := dw3 (n := 0) (i := 0) kc_cX8_seatByQuota_0 (by decide +kernel)
theorem dX8_seatByQuota_1 : decode cX8_seatByQuota 1 = .ok (.istore_n 2, 1) := dw61 (n := 0) (i := 1) kc_cX8_seatByQuota_0 (by decide +kernel)
theorem dX8_seatByQuota_2 : decode cX8_seatByQuota 2 = .ok (.iload_n 2, 1) := dw28 (n := 0) (i := 2) kc_cX8_seatByQuota_0 (by decide +kernel)
theorem dX8_seatByQuota_3 : decode cX8_seatByQuota 3 = .ok (.aload_n 0, 1) := dw42 (n := 0) (i := 3) kc_cX8_seatByQuota_0 (by decide +kernel)
theorem dX8_seatByQuota_4 : decode cX8_seatByQuota 4 = .ok (.getfield 29, 3) := dw180 (n := 0) (i := 4) (a := 0) (b := 29) kc_cX8_seatByQuota_0 (by decide +kernel) (by decide)
theorem in_X8_seatByQuota_8 : ∀ w ∈ u_ws RX8 TX8 5, w ∈ wsX8_seatByQuota := fun _ h => List.mem_cons_of_mem _ (List.mem_append_left _ (List.mem_append_left _ (List.mem_append_left _ (List.mem_append_left _ (List.mem_append_left _ (List.mem_append_right _ h))))))
theorem dX8_seatByQuota_7 : decode cX8_seatByQuota 7 = .ok (.getfield 33, 3) := dw180 (n := 0) (i := 7) (a := 0) (b := 33) kc_cX8_seatByQuota_0 (by decide +kernel) (by decide)
theorem in_X8_seatByQuota_6 : ∀ w ∈ u_ws RX6 TX6 8, w ∈ wsX8_seatByQuota := fun _ h => List.mem_cons_of_mem _ (List.mem_append_left _ (List.mem_append_left _ (List.mem_append_left _ (List.mem_append_left _ (List.mem_append_right _ h)))))
theorem dX8_seatByQuota_10 : decode cX8_seatByQuota 10 = .ok (.if_icmp .ge 31, 3) := dw162 (n := 0) (i := 10) (a := 0) (b := 31) kc_cX8_seatByQuota_0 (by decide +kernel) (by decide)
theorem dX8_seatByQuota_41 : decode cX8_seatByQuota 41 = .ok (.aload_n 0, 1) := dw42 (n := 32) (i := 9) kc_cX8_seatByQuota_1 (by decide +kernel)
theorem dX8_seatByQuota_42 : decode cX8_seatByQuota 42 = .ok (.getfield 29, 3) := dw180 (n := 32) (i := 10) (a := 0) (b := 29) kc_cX8_seatByQuota_1 (by decide +kernel) (by decide)
theorem dX8_seatByQuota_45 : decode cX8_seatByQuota 45 = .ok (.getfield 43, 3) := dw180 (n := 32) (i := 13) (a := 0) (b := 43) kc_cX8_seatByQuota_1 (by decide +kernel) (by decide)
theorem dX8_seatByQuota_48 : decode cX8_seatByQuota 48 = .ok (.iconst 1, 1) := dw4 (n := 32) (i := 16) kc_cX8_seatByQuota_1 (by decide +kernel)
theorem dX8_seatByQuota_49 : decode cX8_seatByQuota 49 = .ok (.if_icmp .ge 7, 3) := dw162 (n := 32) (i := 17) (a := 0) (b := 7) kc_cX8_seatByQuota_1 (by decide +kernel) (by decide)
theorem dX8_seatByQuota_56 : decode cX8_seatByQuota 56 = .ok (.aload_n 0, 1) := dw42 (n := 32) (i := 24) kc_cX8_seatByQuota_1 (by decide +kernel)
theorem dX8_seatByQuota_57 : decode cX8_seatByQuota 57 = .ok (.getfield 29, 3) := dw180 (n := 32) (i := 25) (a := 0) (b := 29) kc_cX8_seatByQuota_1 (by decide +kernel) (by decide)
theorem dX8_seatByQuota_60 : decode cX8_seatByQuota 60 = .ok (.invokevirtual 46, 3) := dw182 (n := 32) (i := 28) (a := 0) (b := 46) kc_cX8_seatByQuota_1 (by decide +kernel) (by decide)
set_option maxRecDepth 20000 in
theorem ggX8_seatByQuota_X6_allPapers : GoodIn wsX8_seatByQuota wsX6_allPapers := (gk_code 18 rfl (gk_fieldLink 19 rfl (gk_methodLink 20 rfl (gk_instanceMethod 8 rfl (gk_selects 9 rfl (gk_initialized 10 rfl (gk_code 11 rfl (gk_fieldLink 12 rfl (gk_fieldLink 13 rfl (gk_fieldLink 14 rfl (gk_laysFinal 129 rfl (gk_laysFinal 130 rfl (gk_laysFinal 131 rfl (gk_lays 132 rfl (gk_lays 133 rfl (gk_laysFinal 134 rfl (gk_laysFinal 135 rfl (gk_laysFinal 136 rfl (gk_lays 144 rfl (gk_laysFinal 145 rfl (gk_laysFinal 146 rfl (gk_laysFinal 147 rfl (gk_laysFinal 148 rfl (gn))))))))))))))))))))))))
set_option maxRecDepth 20000 in
theorem gX8_seatByQuota_X6_allPapers : GoodIn wsX8_seatByQuota (wsV RX8 46 RX6 yX6_allPapers wsX6_allPapers) := goodIn_app (gk_methodLink 15 rfl (gk_instanceMethod 16 rfl (gk_selects 17 rfl (gk_initialized 10 rfl (gn))))) ggX8_seatByQuota_X6_allPapers
theorem dX8_seatByQuota_63 : decode cX8_seatByQuota 63 = .ok (.aload_n 0, 1) := dw42 (n := 32) (i := 31) kc_cX8_seatByQuota_1 (by decide +kernel)
theorem dX8_seatByQuota_64 : decode cX8_seatByQuota 64 = .ok (.getfield 29, 3) := dw180 (n := 64) (i := 0) (a := 0) (b := 29) kc_cX8_seatByQuota_2 (by decide +kernel) (by decide)
theorem dX8_seatByQuota_67 : decode cX8_seatByQuota 67 = .ok (.getfield 43, 3) := dw180 (n := 64) (i := 3) (a := 0) (b := 43) kc_cX8_seatByQuota_2 (by decide +kernel) (by decide)
theorem dX8_seatByQuota_70 : decode cX8_seatByQuota 70 = .ok (.iconst 1, 1) := dw4 (n := 64) (i := 6) kc_cX8_seatByQuota_2 (by decide +kernel)
theorem dX8_seatByQuota_71 : decode cX8_seatByQuota 71 = .ok (.iadd, 1) := dw96 (n := 64) (i := 7) kc_cX8_seatByQuota_2 (by decide +kernel)
theorem dX8_seatByQuota_72 : decode cX8_seatByQuota 72 = .ok (.idiv, 1) := dw108 (n := 64) (i := 8) kc_cX8_seatByQuota_2 (by decide +kernel)
theorem dX8_seatByQuota_73 : decode cX8_seatByQuota 73 = .ok (.iconst 1, 1) := dw4 (n := 64) (i := 9) kc_cX8_seatByQuota_2 (by decide +kernel)
theorem dX8_seatByQuota_74 : decode cX8_seatByQuota 74 = .ok (.iadd, 1) := dw96 (n := 64) (i := 10) kc_cX8_seatByQuota_2 (by decide +kernel)
theorem dX8_seatByQuota_75 : decode cX8_seatByQuota 75 = .ok (.i2l, 1) := dw133 (n := 64) (i := 11) kc_cX8_seatByQuota_2 (by decide +kernel)
theorem dX8_seatByQuota_76 : decode cX8_seatByQuota 76 = .ok (.lstore_n 2, 1) := dw65 (n := 64) (i := 12) kc_cX8_seatByQuota_2 (by decide +kernel)
theorem dX8_seatByQuota_77 : decode cX8_seatByQuota 77 = .ok (.iconst 0, 1) := dw3 (n := 64) (i := 13) kc_cX8_seatByQuota_2 (by decide +kernel)
theorem dX8_seatByQuota_78 : decode cX8_seatByQuota 78 = .ok (.istore 4, 2) := dw54 (n := 64) (i := 14) (a := 4) kc_cX8_seatByQuota_2 (by decide +kernel) (by decide)
theorem dX8_seatByQuota_80 : decode cX8_seatByQuota 80 = .ok (.iload 4, 2) := dw21 (n := 64) (i := 16) (a := 4) kc_cX8_seatByQuota_2 (by decide +kernel) (by decide)
theorem dX8_seatByQuota_82 : decode cX8_seatByQuota 82 = .ok (.bipush 10, 2) := dw16 (n := 64) (i := 18) (a := 10) kc_cX8_seatByQuota_2 (by decide +kernel) (by decide)
theorem dX8_seatByQuota_84 : decode cX8_seatByQuota 84 = .ok (.if_icmp .ge 64, 3) := dw162 (n := 64) (i := 20) (a := 0) (b := 64) kc_cX8_seatByQuota_2 (by decide +kernel) (by decide)
theorem dX8_seatByQuota_148 : decode cX8_seatByQuota 148 = .ok (.iconst 1, 1) := dw4 (n := 128) (i := 20) kc_cX8_seatByQuota_4 (by decide +kernel)
theorem dX8_seatByQuota_149 : decode cX8_seatByQuota 149 = .ok (.ireturn, 1) := dw172 (n := 128) (i := 21) kc_cX8_seatByQuota_4 (by decide +kernel)
theorem dX8_seatByQuota_87 : decode cX8_seatByQuota 87 = .ok (.aload_n 1, 1) := dw43 (n := 64) (i := 23) kc_cX8_seatByQuota_2 (by decide +kernel)
theorem dX8_seatByQuota_88 : decode cX8_seatByQuota 88 = .ok (.getfield 50, 3) := dw180 (n := 64) (i := 24) (a := 0) (b := 50) kc_cX8_seatByQuota_2 (by decide +kernel) (by decide)
theorem in_X8_seatByQuota_7 : ∀ w ∈ u_ws RX7 TX7 7, w ∈ wsX8_seatByQuota := fun _ h => List.mem_cons_of_mem _ (List.mem_append_left _ (List.mem_append_left _ (List.mem_append_left _ (List.mem_append_right _ h))))
theorem dX8_seatByQuota_91 : decode cX8_seatByQuota 91 = .ok (.aload_n 0, 1) := dw42 (n := 64) (i := 27) kc_cX8_seatByQuota_2 (by decide +kernel)
theorem dX8_seatByQuota_92 : decode cX8_seatByQuota 92 = .ok (.getfield 29, 3) := dw180 (n := 64) (i := 28) (a := 0) (b := 29) kc_cX8_seatByQuota_2 (by decide +kernel) (by decide)
theorem dX8_seatByQuota_95 : decode cX8_seatByQuota 95 = .ok (.getfield 43, 3) := dw180 (n := 64) (i := 31) (a := 0) (b := 43) kc_cX8_seatByQuota_2 (by decide +kernel) (by decide)
theorem dX8_seatByQuota_98 : decode cX8_seatByQuota 98 = .ok (.if_icmp .ge 50, 3) := dw162 (n := 96) (i := 2) (a := 0) (b := 50) kc_cX8_seatByQuota_3 (by decide +kernel) (by decide)
theorem dX8_seatByQuota_101 : decode cX8_seatByQuota 101 = .ok (.aload_n 0, 1) := dw42 (n := 96) (i := 5) kc_cX8_seatByQuota_3 (by decide +kernel)
theorem dX8_seatByQuota_102 : decode cX8_seatByQuota 102 = .ok (.invokevirtual 53, 3) := dw182 (n := 96) (i := 6) (a := 0) (b := 53) kc_cX8_seatByQuota_3 (by decide +kernel) (by decide)
set_option maxRecDepth 20000 in
theorem ggX8_seatByQuota_X8_tallyWeights : GoodIn wsX8_seatByQuota wsX8_tallyWeights := (gk_code 25 rfl (gk_fieldLink 1 rfl (gk_fieldLink 2 rfl (gk_fieldLink 26 rfl (gk_methodLink 27 rfl (gk_instanceMethod 28 rfl (gk_selects 29 rfl (gk_initialized 10 rfl (gk_code 30 rfl (gk_fieldLink 31 rfl (gk_fieldLink 32 rfl (gk_methodLink 33 rfl (gk_instanceMethod 34 rfl (gk_selects 35 rfl (gk_code 36 rfl (gk_fieldLink 14 rfl (gk_fieldLink 12 rfl (gk_fieldLink 37 rfl (gk_fieldLink 38 rfl (gk_fieldLink 39 rfl (gk_methodLink 40 rfl (gk_instanceMethod 41 rfl (gk_selects 42 rfl (gk_initialized 24 rfl (gk_code 43 rfl (gk_fieldLink 44 rfl (gk_fieldLink 45 rfl (gk_fieldLink 46 rfl (gk_fieldLink 3 rfl (gk_fieldLink 4 rfl (gk_fieldLink 47 rfl (gk_fieldLink 48 rfl (gk_methodLink 49 rfl (gk_instanceMethod 50 rfl (gk_selects 51 rfl (gk_initialized 52 rfl (gk_code 53 rfl (gk_fieldLink 54 rfl (gk_fieldLink 55 rfl (gk_methodLink 56 rfl (gk_instanceMethod 57 rfl (gk_selects 58 rfl (gk_code 59 rfl (gk_methodLink 60 rfl (gk_methodLink 61 rfl (gk_instanceMethod 62 rfl (gk_selects 63 rfl (gk_code 64 rfl (gk_constantLong 65 rfl (gk_laysFinal 124 rfl (gk_laysFinal 125 rfl (gk_laysFinal 126 rfl (gk_laysFinal 127 rfl (gk_laysFinal 128 rfl (gk_laysFinal 129 rfl (gk_laysFinal 130 rfl (gk_laysFinal 131 rfl (gk_lays 132 rfl (gk_lays 133 rfl (gk_laysFinal 134 rfl (gk_laysFinal 135 rfl (gk_laysFinal 136 rfl (gk_lays 144 rfl (gk_laysFinal 145 rfl (gk_laysFinal 146 rfl (gk_laysFinal 147 rfl (gk_laysFinal 148 rfl (gk_lays 149 rfl (gk_lays 150 rfl (gn))))))))))))))))))))))))))))))))))))))))))))))))))))))))))))))))))))))
set_option maxRecDepth 20000 in
theorem gX8_seatByQuota_X8_tallyWeights : GoodIn wsX8_seatByQuota (wsV RX8 53 RX8 yX8_tallyWeights wsX8_tallyWeights) := goodIn_app (gk_methodLink 21 rfl (gk_instanceMethod 22 rfl (gk_selects 23 rfl (gk_initialized 24 rfl (gn))))) ggX8_seatByQuota_X8_tallyWeights
theorem dX8_seatByQuota_105 : decode cX8_seatByQuota 105 = .ok (.ifCond .eq 13, 3) := dw153 (n := 96) (i := 9) (a := 0) (b := 13) kc_cX8_seatByQuota_3 (by decide +kernel) (by decide)
theorem dX8_seatByQuota_118 : decode cX8_seatByQuota 118 = .ok (.bipush (-9), 2) := dw16 (n := 96) (i := 22) (a := 247) kc_cX8_seatByQuota_3 (by decide +kernel) (by decide)
theorem dX8_seatByQuota_120 : decode cX8_seatByQuota 120 = .ok (.istore 5, 2) := dw54 (n := 96) (i := 24) (a := 5) kc_cX8_seatByQuota_3 (by decide +kernel) (by decide)
theorem dX8_seatByQuota_122 : decode cX8_seatByQuota 122 = .ok (.iload 5, 2) := dw21 (n := 96) (i := 26) (a := 5) kc_cX8_seatByQuota_3 (by decide +kernel) (by decide)
theorem dX8_seatByQuota_124 : decode cX8_seatByQuota 124 = .ok (.bipush (-9), 2) := dw16 (n := 96) (i := 28) (a := 247) kc_cX8_seatByQuota_3 (by decide +kernel) (by decide)
theorem dX8_seatByQuota_126 : decode cX8_seatByQuota 126 = .ok (.if_icmp .eq 14, 3) := dw159 (n := 96) (i := 30) (a := 0) (b := 14) kc_cX8_seatByQuota_3 (by decide +kernel) (by decide)
theorem dX8_seatByQuota_140 : decode cX8_seatByQuota 140 = .ok (.iconst 0, 1) := dw3 (n := 128) (i := 12) kc_cX8_seatByQuota_4 (by decide +kernel)
theorem dX8_seatByQuota_141 : decode cX8_seatByQuota 141 = .ok (.ireturn, 1) := dw172 (n := 128) (i := 13) kc_cX8_seatByQuota_4 (by decide +kernel)
theorem dX8_seatByQuota_108 : decode cX8_seatByQuota 108 = .ok (.aload_n 0, 1) := dw42 (n := 96) (i := 12) kc_cX8_seatByQuota_3 (by decide +kernel)
theorem dX8_seatByQuota_109 : decode cX8_seatByQuota 109 = .ok (.getfield 29, 3) := dw180 (n := 96) (i := 13) (a := 0) (b := 29) kc_cX8_seatByQuota_3 (by decide +kernel) (by decide)
theorem dX8_seatByQuota_112 : decode cX8_seatByQuota 112 = .ok (.invokevirtual 57, 3) := dw182 (n := 96) (i := 16) (a := 0) (b := 57) kc_cX8_seatByQuota_3 (by decide +kernel) (by decide)
set_option maxRecDepth 20000 in
theorem ggX8_seatByQuota_X6_greatestIn : GoodIn wsX8_seatByQuota wsX6_greatestIn := (gk_code 69 rfl (gk_fieldLink 70 rfl (gk_fieldLink 71 rfl (gk_fieldLink 72 rfl (gk_fieldLink 39 rfl (gk_methodLink 73 rfl (gk_instanceMethod 74 rfl (gk_selects 75 rfl (gk_initialized 10 rfl (gk_code 76 rfl (gk_fieldLink 31 rfl (gk_fieldLink 32 rfl (gk_methodLink 77 rfl (gk_static 78 rfl (gk_initialized 79 rfl (gk_code 80 rfl (gk_laysFinal 129 rfl (gk_laysFinal 130 rfl (gk_laysFinal 131 rfl (gk_lays 132 rfl (gk_lays 133 rfl (gk_laysFinal 134 rfl (gk_laysFinal 135 rfl (gk_laysFinal 136 rfl (gk_lays 151 rfl (gk_laysFinal 152 rfl (gn)))))))))))))))))))))))))))
set_option maxRecDepth 20000 in
theorem gX8_seatByQuota_X6_greatestIn : GoodIn wsX8_seatByQuota (wsV RX8 57 RX6 yX6_greatestIn wsX6_greatestIn) := goodIn_app (gk_methodLink 66 rfl (gk_instanceMethod 67 rfl (gk_selects 68 rfl (gk_initialized 10 rfl (gn))))) ggX8_seatByQuota_X6_greatestIn
theorem dX8_seatByQuota_115 : decode cX8_seatByQuota 115 = .ok (.goto 5, 3) := dw167 (n := 96) (i := 19) (a := 0) (b := 5) kc_cX8_seatByQuota_3 (by decide +kernel) (by decide)
theorem dX8_seatByQuota_129 : decode cX8_seatByQuota 129 = .ok (.aload_n 0, 1) := dw42 (n := 128) (i := 1) kc_cX8_seatByQuota_4 (by decide +kernel)
theorem dX8_seatByQuota_130 : decode cX8_seatByQuota 130 = .ok (.iload 5, 2) := dw21 (n := 128) (i := 2) (a := 5) kc_cX8_seatByQuota_4 (by decide +kernel) (by decide)
theorem dX8_seatByQuota_132 : decode cX8_seatByQuota 132 = .ok (.lload_n 2, 1) := dw32 (n := 128) (i := 4) kc_cX8_seatByQuota_4 (by decide +kernel)
theorem dX8_seatByQuota_133 : decode cX8_seatByQuota 133 = .ok (.aload_n 1, 1) := dw43 (n := 128) (i := 5) kc_cX8_seatByQuota_4 (by decide +kernel)
theorem dX8_seatByQuota_134 : decode cX8_seatByQuota 134 = .ok (.invokevirtual 60, 3) := dw182 (n := 128) (i := 6) (a := 0) (b := 60) kc_cX8_seatByQuota_4 (by decide +kernel) (by decide)
set_option maxRecDepth 20000 in
theorem ggX8_seatByQuota_X8_endRound : GoodIn wsX8_seatByQuota wsX8_endRound := (gk_code 84 rfl (gk_fieldLink 1 rfl (gk_fieldLink 5 rfl (gk_fieldLink 6 rfl (gk_fieldLink 45 rfl (gk_fieldLink 46 rfl (gk_fieldLink 85 rfl (gk_methodLink 86 rfl (gk_instanceMethod 87 rfl (gk_selects 88 rfl (gk_initialized 10 rfl (gk_code 89 rfl (gk_fieldLink 39 rfl (gk_methodLink 90 rfl (gk_instanceMethod 91 rfl (gk_selects 92 rfl (gk_code 93 rfl (gk_fieldLink 70 rfl (gk_fieldLink 71 rfl (gk_fieldLink 72 rfl (gk_methodLink 73 rfl (gk_instanceMethod 74 rfl (gk_selects 75 rfl (gk_code 76 rfl (gk_fieldLink 31 rfl (gk_fieldLink 32 rfl (gk_methodLink 77 rfl (gk_static 78 rfl (gk_initialized 79 rfl (gk_code 80 rfl (gk_methodLink 94 rfl (gk_instanceMethod 95 rfl (gk_selects 96 rfl (gk_initialized 24 rfl (gk_code 97 rfl (gk_methodLink 98 rfl (gk_instanceMethod 99 rfl (gk_selects 100 rfl (gk_initialized 101 rfl (gk_code 102 rfl (gk_fieldLink 103 rfl (gk_fieldLink 104 rfl (gk_fieldLink 105 rfl (gk_fieldLink 106 rfl (gk_fieldLink 107 rfl (gk_fieldLink 108 rfl (gk_fieldLink 109 rfl (gk_methodLink 110 rfl (gk_instanceMethod 111 rfl (gk_selects 112 rfl (gk_code 113 rfl (gk_fieldLink 114 rfl (gk_fieldLink 115 rfl (gk_methodLink 116 rfl (gk_instanceMethod 117 rfl (gk_selects 118 rfl (gk_code 119 rfl (gk_fieldLink 44 rfl (gk_fieldLink 47 rfl (gk_fieldLink 48 rfl (gk_fieldLink 2 rfl (gk_fieldLink 26 rfl (gk_fieldLink 3 rfl (gk_fieldLink 4 rfl (gk_methodLink 49 rfl (gk_instanceMethod 50 rfl (gk_selects 51 rfl (gk_initialized 52 rfl (gk_code 53 rfl (gk_fieldLink 54 rfl (gk_fieldLink 55 rfl (gk_methodLink 61 rfl (gk_instanceMethod 62 rfl (gk_selects 63 rfl (gk_code 64 rfl (gk_constantLong 65 rfl (gk_methodLink 120 rfl (gk_instanceMethod 121 rfl (gk_selects 122 rfl (gk_code 123 rfl (gk_methodLink 60 rfl (gk_laysFinal 124 rfl (gk_laysFinal 125 rfl (gk_laysFinal 126 rfl (gk_laysFinal 127 rfl (gk_laysFinal 128 rfl (gk_laysFinal 129 rfl (gk_laysFinal 130 rfl (gk_laysFinal 131 rfl (gk_lays 132 rfl (gk_lays 133 rfl (gk_laysFinal 134 rfl (gk_laysFinal 135 rfl (gk_laysFinal 136 rfl (gk_lays 137 rfl (gk_laysFinal 138 rfl (gk_lays 139 rfl (gk_laysFinal 140 rfl (gk_laysFinal 141 rfl (gk_laysFinal 142 rfl (gk_laysFinal 143 rfl (gk_lays 151 rfl (gk_laysFinal 152 rfl (gk_lays 149 rfl (gk_lays 150 rfl (gn))))))))))))))))))))))))))))))))))))))))))))))))))))))))))))))))))))))))))))))))))))))))))))))))))))))))))
set_option maxRecDepth 20000 in
theorem gX8_seatByQuota_X8_endRound : GoodIn wsX8_seatByQuota (wsV RX8 60 RX8 yX8_endRound wsX8_endRound) := goodIn_app (gk_methodLink 81 rfl (gk_instanceMethod 82 rfl (gk_selects 83 rfl (gk_initialized 24 rfl (gn))))) ggX8_seatByQuota_X8_endRound
theorem dX8_seatByQuota_137 : decode cX8_seatByQuota 137 = .ok (.ifCond .ne 5, 3) := dw154 (n := 128) (i := 9) (a := 0) (b := 5) kc_cX8_seatByQuota_4 (by decide +kernel) (by decide)
theorem dX8_seatByQuota_142 : decode cX8_seatByQuota 142 = .ok (.iinc 4 1, 3) := by decide +kernel
theorem dX8_seatByQuota_145 : decode cX8_seatByQuota 145 = .ok (.goto (-65), 3) := dw167 (n := 128) (i := 17) (a := 255) (b := 191) kc_cX8_seatByQuota_4 (by decide +kernel) (by decide)
theorem dX8_seatByQuota_52 : decode cX8_seatByQuota 52 = .ok (.lconst 1, 1) := dw10 (n := 32) (i := 20) kc_cX8_seatByQuota_1 (by decide +kernel)
theorem dX8_seatByQuota_53 : decode cX8_seatByQuota 53 = .ok (.goto 23, 3) := dw167 (n := 32) (i := 21) (a := 0) (b := 23) kc_cX8_seatByQuota_1 (by decide +kernel) (by decide)
theorem dX8_seatByQuota_13 : decode cX8_seatByQuota 13 = .ok (.aload_n 0, 1) := dw42 (n := 0) (i := 13) kc_cX8_seatByQuota_0 (by decide +kernel)
theorem dX8_seatByQuota_14 : decode cX8_seatByQuota 14 = .ok (.getfield 9, 3) := dw180 (n := 0) (i := 14) (a := 0) (b := 9) kc_cX8_seatByQuota_0 (by decide +kernel) (by decide)
theorem dX8_seatByQuota_17 : decode cX8_seatByQuota 17 = .ok (.iload_n 2, 1) := dw28 (n := 0) (i := 17) kc_cX8_seatByQuota_0 (by decide +kernel)
theorem dX8_seatByQuota_18 : decode cX8_seatByQuota 18 = .ok (.aload_n 0, 1) := dw42 (n := 0) (i := 18) kc_cX8_seatByQuota_0 (by decide +kernel)
theorem dX8_seatByQuota_19 : decode cX8_seatByQuota 19 = .ok (.getfield 29, 3) := dw180 (n := 0) (i := 19) (a := 0) (b := 29) kc_cX8_seatByQuota_0 (by decide +kernel) (by decide)
theorem dX8_seatByQuota_22 : decode cX8_seatByQuota 22 = .ok (.iload_n 2, 1) := dw28 (n := 0) (i := 22) kc_cX8_seatByQuota_0 (by decide +kernel)
theorem dX8_seatByQuota_23 : decode cX8_seatByQuota 23 = .ok (.invokevirtual 39, 3) := dw182 (n := 0) (i := 23) (a := 0) (b := 39) kc_cX8_seatByQuota_0 (by decide +kernel) (by decide)
set_option maxRecDepth 20000 in
theorem ggX8_seatByQuota_X6_papersOf : GoodIn wsX8_seatByQuota wsX6_papersOf := (gk_code 11 rfl (gk_fieldLink 12 rfl (gk_fieldLink 13 rfl (gk_fieldLink 14 rfl (gk_laysFinal 129 rfl (gk_laysFinal 130 rfl (gk_laysFinal 131 rfl (gk_lays 132 rfl (gk_lays 133 rfl (gk_laysFinal 134 rfl (gk_laysFinal 135 rfl (gk_laysFinal 136 rfl (gk_lays 144 rfl (gk_laysFinal 145 rfl (gk_laysFinal 146 rfl (gk_laysFinal 147 rfl (gk_laysFinal 148 rfl (gn))))))))))))))))))
set_option maxRecDepth 20000 in
theorem gX8_seatByQuota_X6_papersOf : GoodIn wsX8_seatByQuota (wsV RX8 39 RX6 yX6_papersOf wsX6_papersOf) := goodIn_app (gk_methodLink 7 rfl (gk_instanceMethod 8 rfl (gk_selects 9 rfl (gk_initialized 10 rfl (gn))))) ggX8_seatByQuota_X6_papersOf
theorem dX8_seatByQuota_26 : decode cX8_seatByQuota 26 = .ok (.i2l, 1) := dw133 (n := 0) (i := 26) kc_cX8_seatByQuota_0 (by decide +kernel)
theorem dX8_seatByQuota_27 : decode cX8_seatByQuota 27 = .ok (.lastore, 1) := dw80 (n := 0) (i := 27) kc_cX8_seatByQuota_0 (by decide +kernel)
theorem dX8_seatByQuota_28 : decode cX8_seatByQuota 28 = .ok (.aload_n 0, 1) := dw42 (n := 0) (i := 28) kc_cX8_seatByQuota_0 (by decide +kernel)
theorem dX8_seatByQuota_29 : decode cX8_seatByQuota 29 = .ok (.getfield 15, 3) := dw180 (n := 0) (i := 29) (a := 0) (b := 15) kc_cX8_seatByQuota_0 (by decide +kernel) (by decide)
theorem dX8_seatByQuota_32 : decode cX8_seatByQuota 32 = .ok (.iload_n 2, 1) := dw28 (n := 32) (i := 0) kc_cX8_seatByQuota_1 (by decide +kernel)
theorem dX8_seatByQuota_33 : decode cX8_seatByQuota 33 = .ok (.lconst 1, 1) := dw10 (n := 32) (i := 1) kc_cX8_seatByQuota_1 (by decide +kernel)
theorem dX8_seatByQuota_34 : decode cX8_seatByQuota 34 = .ok (.lastore, 1) := dw80 (n := 32) (i := 2) kc_cX8_seatByQuota_1 (by decide +kernel)
theorem dX8_seatByQuota_35 : decode cX8_seatByQuota 35 = .ok (.iinc 2 1, 3) := by decide +kernel
theorem dX8_seatByQuota_38 : decode cX8_seatByQuota 38 = .ok (.goto (-36), 3) := dw167 (n := 32) (i := 6) (a := 255) (b := 220) kc_cX8_seatByQuota_1 (by decide +kernel) (by decide)
set_option maxHeartbeats 4000000 in
set_option maxRecDepth 100000 in
theorem s_X8_sbq_a (l : Launch) (D : va_G) (ad : Nat → Nat) (cs : Nat → ClassId) (M : MI) (L : ML)  (hI : IC M) : Ci l yX8_seatByQuota wsX8_seatByQuota ({ frames := 4, cells := 0, slots := 0, locals := 114 }) D ad cs [.ref (ad 120), .ref (ad 125)] M L (fun r M1 L1 => (r = 0 ∨ r = 1) ∧ IC M1 ∧ (∀ k, k ≠ 90 ∧ k ≠ 123 ∧ k ≠ 125 ∧ k ≠ 126 ∧ k ≠ 127 ∧ k ≠ 128 → M1 k = M k) ∧ ∀ k, 258 ≤ k → L1 k = L k) := by
  refine enter_i RX8 rfl [(0, .ref (ad 120)), (1, .ref (ad 125))] rfl (Nat.le_of_ble_eq_true rfl) (by decide +kernel) rfl ?_
  intro p e s m below meth c C hr
  have hF : ∀ k, k ≠ 90 ∧ k ≠ 123 ∧ k ≠ 125 ∧ k ≠ 126 ∧ k ≠ 127 ∧ k ≠ 128 → M k = M k := fun _ _ => rfl
  have hG : ∀ k, 258 ≤ k → L k = L k := fun _ _ => rfl
  refine g_iconst C 0 dX8_seatByQuota_0 (by decide) ?_
  refine g_istore_n C [(2, .int 0), (0, .ref (ad 120)), (1, .ref (ad 125))] dX8_seatByQuota_1 (by decide) rfl ?_
  have zy1 : (0 : Int32).toInt = 0 := by decide
  refine g_loop (α := Int32 × MI × ML) (fun a => (41 - a.1.toInt).toNat) (fun a => 0 ≤ a.1.toInt ∧ a.1.toInt ≤ 40 ∧ IC a.2.1 ∧ (∀ k, k ≠ 90 ∧ k ≠ 123 ∧ k ≠ 125 ∧ k ≠ 126 ∧ k ≠ 127 ∧ k ≠ 128 → a.2.1 k = M k) ∧ (∀ k, 258 ≤ k → a.2.2 k = L k)) (fun a => a.2.1) (fun a => a.2.2) (fun a => [(2, .int a.1), (0, .ref (ad 120)), (1, .ref (ad 125))]) (0, M, L) ⟨by show 0 ≤ (0 : Int32).toInt; omega, by show (0 : Int32).toInt ≤ 40; omega, hI, hF, hG⟩ rfl rfl rfl ?_
  rintro ⟨x2_2, M_2, L_2⟩ ⟨j2_0, j2_1, hI, hF, hG⟩ ih_2
  dsimp only at j2_0 j2_1 hI hF hG ih_2 ⊢
  refine g_iload_n C 0 dX8_seatByQuota_2 rfl ?_
  refine g_aload_n C 1 dX8_seatByQuota_3 rfl ?_
  refine g_get C (.ref (ad 88)) 0 in_X8_seatByQuota_8 (List.mem_of_getElem? (i := 1) rfl) (by decide) (ce_trans ad cs _ _) rfl (by decide) rfl rfl dX8_seatByQuota_4 ?_
  refine g_get C (.int (M_2 88 3)) 3 in_X8_seatByQuota_6 (List.mem_of_getElem? (i := 2) rfl) (by decide) (ce_poll ad cs _ _) rfl (by decide) rfl rfl dX8_seatByQuota_7 ?_
  refine g_ni (fun v2 ev2 => ?_)
  have tv2 := congrArg Int32.toInt ev2
  obtain ⟨bv2, dv2⟩ := (show rg 0 40 v2 from (by rw [ev2]; exact (hI 88 3).1 rfl))
  refine g_icmp_ge C 41 dX8_seatByQuota_10 (by decide) (fun c3 => ?_) (fun c3 => ?_)
  ·
    have f4 := fle rfl rfl c3
    refine g_aload_n C 1 dX8_seatByQuota_41 rfl ?_
    refine g_get C (.ref (ad 88)) 0 in_X8_seatByQuota_8 (List.mem_of_getElem? (i := 1) rfl) (by decide) (ce_trans ad cs _ _) rfl (by decide) rfl rfl dX8_seatByQuota_42 ?_
    refine g_get C (.int (M_2 88 4)) 4 in_X8_seatByQuota_6 (List.mem_of_getElem? (i := 5) rfl) (by decide) (ce_poll ad cs _ _) rfl (by decide) rfl rfl dX8_seatByQuota_45 ?_
    refine g_ni (fun v5 ev5 => ?_)
    have tv5 := congrArg Int32.toInt ev5
    obtain ⟨bv5, dv5⟩ := (show rg 0 30 v5 from (by rw [ev5]; exact (hI 88 4).2 rfl))
    refine g_iconst C 1 dX8_seatByQuota_48 (by decide) ?_
    refine g_icmp_ge C 56 dX8_seatByQuota_49 (by decide) (fun c6 => ?_) (fun c6 => ?_)
    ·
      have f7 := fle (by decide : (1 : Int32).toInt = 1) rfl c6
      refine g_aload_n C 1 dX8_seatByQuota_56 rfl ?_
      refine g_get C (.ref (ad 88)) 0 in_X8_seatByQuota_8 (List.mem_of_getElem? (i := 1) rfl) (by decide) (ce_trans ad cs _ _) rfl (by decide) rfl rfl dX8_seatByQuota_57 ?_
      refine g_callVi C (n := 0) (As := []) (st := []) (s_X6_allPapers l D ad cs _ _ hI) gX8_seatByQuota_X6_allPapers rfl rfl rfl (by decide +kernel) ⟨Nat.le_of_ble_eq_true rfl, Nat.le_of_ble_eq_true rfl⟩ rfl (Nat.le_of_ble_eq_true rfl) ⟨Nat.zero_le _, Nat.zero_le _⟩ (by decide) (ce_poll ad cs _ _) rfl rfl dX8_seatByQuota_60 (fun r8 M9 L10 hr8 => ?_)
      obtain ⟨hq1, hq2, hr8⟩ := hr8
      obtain rfl := hq1.symm
      obtain rfl := hq2.symm
      refine g_aload_n C 1 dX8_seatByQuota_63 rfl ?_
      refine g_get C (.ref (ad 88)) 0 in_X8_seatByQuota_8 (List.mem_of_getElem? (i := 1) rfl) (by decide) (ce_trans ad cs _ _) rfl (by decide) rfl rfl dX8_seatByQuota_64 ?_
      refine g_get C (.int (M_2 88 4)) 4 in_X8_seatByQuota_6 (List.mem_of_getElem? (i := 5) rfl) (by decide) (ce_poll ad cs _ _) rfl (by decide) rfl rfl dX8_seatByQuota_67 ?_
      refine g_ni (fun v11 ev11 => ?_)
      have tv11 := congrArg Int32.toInt ev11
      obtain ⟨bv11, dv11⟩ := (show rg 0 30 v11 from (by rw [ev11]; exact (hI 88 4).2 rfl))
      have uv11 : v11 = v5 := by rw [ev11]; exact ev5.symm
      have wv11 := congrArg Int32.toInt uv11
      refine g_iconst C 1 dX8_seatByQuota_70 (by decide) ?_
      refine g_iadd C dX8_seatByQuota_71 ?_
      refine g_ni (fun v12 ev12 => ?_)
      try have fv12 := fadd rfl (by decide : (1 : Int32).toInt = 1) ev12 (by omega) (by omega)
      refine g_idiv C dX8_seatByQuota_72 (by intro h9; first | (have h8 := congrArg Int32.toInt h9; have h7 : (0 : Int32).toInt = 0 := (by decide); omega)) ?_
      refine g_ni (fun v13 ev13 => ?_)
      refine g_iconst C 1 dX8_seatByQuota_73 (by decide) ?_
      refine g_iadd C dX8_seatByQuota_74 ?_
      refine g_ni (fun v14 ev14 => ?_)
      try have fv14 := fadd rfl (by decide : (1 : Int32).toInt = 1) ev14 (by omega) (by omega)
      refine g_i2l C dX8_seatByQuota_75 ?_
      refine g_nl (fun v15 ev15 => ?_)
      refine g_lstore_n C [(2, .long v15), (0, .ref (ad 120)), (1, .ref (ad 125))] dX8_seatByQuota_76 (by decide) rfl ?_
      refine g_iconst C 0 dX8_seatByQuota_77 (by decide) ?_
      refine g_istore C [(4, .int 0), (2, .long v15), (0, .ref (ad 120)), (1, .ref (ad 125))] dX8_seatByQuota_78 (by decide) rfl ?_
      have zy16 : (0 : Int32).toInt = 0 := by decide
      refine g_loop (α := Int32 × MI × ML) (fun a => (11 - a.1.toInt).toNat) (fun a => 0 ≤ a.1.toInt ∧ a.1.toInt ≤ 10 ∧ IC a.2.1 ∧ (∀ k, k ≠ 90 ∧ k ≠ 123 ∧ k ≠ 125 ∧ k ≠ 126 ∧ k ≠ 127 ∧ k ≠ 128 → a.2.1 k = M k) ∧ (∀ k, 258 ≤ k → a.2.2 k = L k)) (fun a => a.2.1) (fun a => a.2.2) (fun a => [(4, .int a.1), (2, .long v15), (0, .ref (ad 120)), (1, .ref (ad 125))]) (0, M_2, L_2) ⟨by show 0 ≤ (0 : Int32).toInt; omega, by show (0 : Int32).toInt ≤ 10; omega, hI, hF, hG⟩ rfl rfl rfl ?_
      rintro ⟨x4_80, M_80, L_80⟩ ⟨j80_0, j80_1, hI, hF, hG⟩ ih_80
      dsimp only at j80_0 j80_1 hI hF hG ih_80 ⊢
      refine g_iload C 0 dX8_seatByQuota_80 rfl ?_
      refine g_bipush C 10 dX8_seatByQuota_82 (by decide) ?_
      refine g_icmp_ge C 148 dX8_seatByQuota_84 (by decide) (fun c17 => ?_) (fun c17 => ?_)
      ·
        have f18 := fle (by decide : (10 : Int32).toInt = 10) rfl c17
        refine g_iconst C 1 dX8_seatByQuota_148 (by decide) ?_
        exact g_zret C hr (by first | rfl | (rcases hz with rfl | rfl <;> rfl)) ⟨(by first | exact Or.inl rfl | exact Or.inr rfl | exact hz), hI, hF, hG⟩ dX8_seatByQuota_149
      ·
        have f19 := fnle (by decide : (10 : Int32).toInt = 10) rfl c17
        refine g_aload_n C 3 dX8_seatByQuota_87 rfl ?_
        refine g_get C (.int (M_80 125 0)) 0 in_X8_seatByQuota_7 (List.mem_of_getElem? (i := 6) rfl) (by decide) (ce_ra ad cs _ _) rfl (by decide) rfl rfl dX8_seatByQuota_88 ?_
        refine g_ni (fun v20 ev20 => ?_)
        have tv20 := congrArg Int32.toInt ev20
        obtain ⟨bv20, dv20⟩ := (show rg 0 30 v20 from (by rw [ev20]; exact hI 125 0 (Or.inl rfl)))
        refine g_aload_n C 2 dX8_seatByQuota_91 rfl ?_
        refine g_get C (.ref (ad 88)) 0 in_X8_seatByQuota_8 (List.mem_of_getElem? (i := 1) rfl) (by decide) (ce_trans ad cs _ _) rfl (by decide) rfl rfl dX8_seatByQuota_92 ?_
        refine g_get C (.int (M_80 88 4)) 4 in_X8_seatByQuota_6 (List.mem_of_getElem? (i := 5) rfl) (by decide) (ce_poll ad cs _ _) rfl (by decide) rfl rfl dX8_seatByQuota_95 ?_
        refine g_ni (fun v21 ev21 => ?_)
        have tv21 := congrArg Int32.toInt ev21
        obtain ⟨bv21, dv21⟩ := (show rg 0 30 v21 from (by rw [ev21]; exact (hI 88 4).2 rfl))
        refine g_icmp_ge C 148 dX8_seatByQuota_98 (by decide) (fun c22 => ?_) (fun c22 => ?_)
        ·
          have f23 := fle rfl rfl c22
          refine g_iconst C 1 dX8_seatByQuota_148 (by decide) ?_
          exact g_zret C hr (by first | rfl | (rcases hz with rfl | rfl <;> rfl)) ⟨(by first | exact Or.inl rfl | exact Or.inr rfl | exact hz), hI, hF, hG⟩ dX8_seatByQuota_149
        ·
          have f24 := fnle rfl rfl c22
          refine g_aload_n C 2 dX8_seatByQuota_101 rfl ?_
          refine g_callVi C (n := 0) (As := []) (st := []) (s_X8_tallyWeights l D ad cs _ _ hI) gX8_seatByQuota_X8_tallyWeights rfl rfl rfl (by decide +kernel) ⟨Nat.le_of_ble_eq_true rfl, Nat.le_of_ble_eq_true rfl⟩ rfl (Nat.le_of_ble_eq_true rfl) ⟨Nat.zero_le _, Nat.zero_le _⟩ (by decide) (ce_trans ad cs _ _) rfl rfl dX8_seatByQuota_102 (fun r25 M26 L27 hr25 => ?_)
          obtain ⟨hr25, hI, hF1, hG1⟩ := hr25
          have hF : ∀ k, k ≠ 90 ∧ k ≠ 123 ∧ k ≠ 125 ∧ k ≠ 126 ∧ k ≠ 127 ∧ k ≠ 128 → M26 k = M k := fun k hk => by (rw [hF1 k (by omega)]; try exact hF k hk)
          have hG : ∀ k, 258 ≤ k → L27 k = L k := fun k hk => by (rw [hG1 k hk]; try exact hG k hk)
          have hz := hr25
          obtain ⟨zar25, zbr25⟩ := z_to hr25
          refine g_if_eq C 118 dX8_seatByQuota_105 (by decide) (fun c28 => ?_) (fun c28 => ?_)
          ·
            have f29 := feq rfl (by decide : (0 : Int32).toInt = 0) c28
            refine g_bipush C (-9) dX8_seatByQuota_118 (by decide) ?_
            refine g_istore C [(5, .int ((-9))), (4, .int x4_80), (2, .long v15), (0, .ref (ad 120)), (1, .ref (ad 125))] dX8_seatByQuota_120 (by decide) rfl ?_
            refine g_iload C 0 dX8_seatByQuota_122 rfl ?_
            refine g_bipush C (-9) dX8_seatByQuota_124 (by decide) ?_
            refine g_icmp_eq C 140 dX8_seatByQuota_126 (by decide) (fun _ => ?_) (fun c30 => absurd c30 (by decide))
            refine g_iconst C 0 dX8_seatByQuota_140 (by decide) ?_
            exact g_zret C hr (by first | rfl | (rcases hz with rfl | rfl <;> rfl)) ⟨(by first | exact Or.inl rfl | exact Or.inr rfl | exact hz), hI, hF, hG⟩ dX8_seatByQuota_141
          ·
            have f31 := fne rfl (by decide : (0 : Int32).toInt = 0) c28
            refine g_aload_n C 2 dX8_seatByQuota_108 rfl ?_
            refine g_get C (.ref (ad 88)) 0 in_X8_seatByQuota_8 (List.mem_of_getElem? (i := 1) rfl) (by decide) (ce_trans ad cs _ _) rfl (by decide) rfl rfl dX8_seatByQuota_109 ?_
            refine g_callVi C (n := 0) (As := []) (st := []) (s_X6_greatestIn l D ad cs _ _ hI) gX8_seatByQuota_X6_greatestIn rfl rfl rfl (by decide +kernel) ⟨Nat.le_of_ble_eq_true rfl, Nat.le_of_ble_eq_true rfl⟩ rfl (Nat.le_of_ble_eq_true rfl) ⟨Nat.zero_le _, Nat.zero_le _⟩ (by decide) (ce_poll ad cs _ _) rfl rfl dX8_seatByQuota_112 (fun r32 M33 L34 hr32 => ?_)
            obtain ⟨hq1, hq2, hr32⟩ := hr32
            obtain rfl := hq1.symm
            obtain rfl := hq2.symm
            obtain ⟨br32, dr32⟩ := hr32
            refine g_goto C 120 dX8_seatByQuota_115 (by decide) ?_
            refine g_istore C [(5, .int r32), (4, .int x4_80), (2, .long v15), (0, .ref (ad 120)), (1, .ref (ad 125))] dX8_seatByQuota_120 (by decide) rfl ?_
            refine g_iload C 0 dX8_seatByQuota_122 rfl ?_
            refine g_bipush C (-9) dX8_seatByQuota_124 (by decide) ?_
            refine g_icmp_eq C 140 dX8_seatByQuota_126 (by decide) (fun c35 => ?_) (fun c35 => ?_)
            ·
              have f36 := feq rfl (by decide : ((-9) : Int32).toInt = (-9)) c35
              refine g_iconst C 0 dX8_seatByQuota_140 (by decide) ?_
              exact g_zret C hr (by first | rfl | (rcases hz with rfl | rfl <;> rfl)) ⟨(by first | exact Or.inl rfl | exact Or.inr rfl | exact hz), hI, hF, hG⟩ dX8_seatByQuota_141
            ·
              have f37 := fne rfl (by decide : ((-9) : Int32).toInt = (-9)) c35
              refine g_aload_n C 3 dX8_seatByQuota_129 rfl ?_
              refine g_iload C 0 dX8_seatByQuota_130 rfl ?_
              refine g_lload_n C 2 dX8_seatByQuota_132 rfl ?_
              refine g_aload_n C 4 dX8_seatByQuota_133 rfl ?_
              refine g_callVi C (n := 3) (As := [.int r32, .long v15, .ref (ad 125)]) (st := []) (s_X8_endRound_a l D ad cs _ _ r32 v15 hI ⟨by omega, by omega⟩) gX8_seatByQuota_X8_endRound rfl rfl rfl (by decide +kernel) ⟨Nat.le_of_ble_eq_true rfl, Nat.le_of_ble_eq_true rfl⟩ rfl (Nat.le_of_ble_eq_true rfl) ⟨Nat.zero_le _, Nat.zero_le _⟩ (by decide) (ce_trans ad cs _ _) rfl rfl dX8_seatByQuota_134 (fun r38 M39 L40 hr38 => ?_)
              obtain ⟨hr38, hI, hF1, hG1⟩ := hr38
              have hF : ∀ k, k ≠ 90 ∧ k ≠ 123 ∧ k ≠ 125 ∧ k ≠ 126 ∧ k ≠ 127 ∧ k ≠ 128 → M39 k = M k := fun k hk => by (rw [hF1 k (by omega)]; try exact hF k hk)
              have hG : ∀ k, 258 ≤ k → L40 k = L k := fun k hk => by (rw [hG1 k hk]; try exact hG k hk)
              have hz := hr38
              obtain ⟨zar38, zbr38⟩ := z_to hr38
              refine g_if_ne C 142 dX8_seatByQuota_137 (by decide) (fun c41 => ?_) (fun c41 => ?_)
              ·
                have f42 := fne rfl (by decide : (0 : Int32).toInt = 0) c41
                obtain ⟨v43, ev43⟩ : ∃ y : Int32, y = x4_80 + 1 := ⟨_, rfl⟩
                try have fv43 := fadd rfl (by decide : (1 : Int32).toInt = 1) ev43 (by omega) (by omega)
                refine g_iinc C 1 v43 [(4, .int v43), (5, .int r32), (2, .long v15), (0, .ref (ad 120)), (1, .ref (ad 125))] dX8_seatByQuota_142 rfl (by rw [ev43]; rfl) (by decide) rfl ?_
                refine g_goto C 80 dX8_seatByQuota_145 (by decide) ?_
                refine g_lv [0, 2, 3, 4] [(4, .int v43), (2, .long v15), (0, .ref (ad 120)), (1, .ref (ad 125))] rfl ?_
                exact ih_80 (v43, M39, L40) ⟨by show 0 ≤ v43.toInt; omega, by show v43.toInt ≤ 10; omega, hI, hF, hG⟩ (by show (11 - v43.toInt).toNat < (11 - x4_80.toInt).toNat; omega)
              ·
                have f44 := feq rfl (by decide : (0 : Int32).toInt = 0) c41
                refine g_iconst C 0 dX8_seatByQuota_140 (by decide) ?_
                exact g_zret C hr (by first | rfl | (rcases hz with rfl | rfl <;> rfl)) ⟨(by first | exact Or.inl rfl | exact Or.inr rfl | exact hz), hI, hF, hG⟩ dX8_seatByQuota_141
    ·
      have f45 := fnle (by decide : (1 : Int32).toInt = 1) rfl c6
      refine g_lconst C 1 dX8_seatByQuota_52 (by decide) ?_
      refine g_goto C 76 dX8_seatByQuota_53 (by decide) ?_
      refine g_lstore_n C [(2, .long 1), (0, .ref (ad 120)), (1, .ref (ad 125))] dX8_seatByQuota_76 (by decide) rfl ?_
      refine g_iconst C 0 dX8_seatByQuota_77 (by decide) ?_
      refine g_istore C [(4, .int 0), (2, .long 1), (0, .ref (ad 120)), (1, .ref (ad 125))] dX8_seatByQuota_78 (by decide) rfl ?_
      have zy46 : (0 : Int32).toInt = 0 := by decide
      refine g_loop (α := Int32 × MI × ML) (fun a => (11 - a.1.toInt).toNat) (fun a => 0 ≤ a.1.toInt ∧ a.1.toInt ≤ 10 ∧ IC a.2.1 ∧ (∀ k, k ≠ 90 ∧ k ≠ 123 ∧ k ≠ 125 ∧ k ≠ 126 ∧ k ≠ 127 ∧ k ≠ 128 → a.2.1 k = M k) ∧ (∀ k, 258 ≤ k → a.2.2 k = L k)) (fun a => a.2.1) (fun a => a.2.2) (fun a => [(4, .int a.1), (2, .long 1), (0, .ref (ad 120)), (1, .ref (ad 125))]) (0, M_2, L_2) ⟨by show 0 ≤ (0 : Int32).toInt; omega, by show (0 : Int32).toInt ≤ 10; omega, hI, hF, hG⟩ rfl rfl rfl ?_
      rintro ⟨x4_80, M_80, L_80⟩ ⟨j80_0, j80_1, hI, hF, hG⟩ ih_80
      dsimp only at j80_0 j80_1 hI hF hG ih_80 ⊢
      refine g_iload C 0 dX8_seatByQuota_80 rfl ?_
      refine g_bipush C 10 dX8_seatByQuota_82 (by decide) ?_
      refine g_icmp_ge C 148 dX8_seatByQuota_84 (by decide) (fun c47 => ?_) (fun c47 => ?_)
      ·
        have f48 := fle (by decide : (10 : Int32).toInt = 10) rfl c47
        refine g_iconst C 1 dX8_seatByQuota_148 (by decide) ?_
        exact g_zret C hr (by first | rfl | (rcases hz with rfl | rfl <;> rfl)) ⟨(by first | exact Or.inl rfl | exact Or.inr rfl | exact hz), hI, hF, hG⟩ dX8_seatByQuota_149
      ·
        have f49 := fnle (by decide : (10 : Int32).toInt = 10) rfl c47
        refine g_aload_n C 3 dX8_seatByQuota_87 rfl ?_
        refine g_get C (.int (M_80 125 0)) 0 in_X8_seatByQuota_7 (List.mem_of_getElem? (i := 6) rfl) (by decide) (ce_ra ad cs _ _) rfl (by decide) rfl rfl dX8_seatByQuota_88 ?_
        refine g_ni (fun v50 ev50 => ?_)
        have tv50 := congrArg Int32.toInt ev50
        obtain ⟨bv50, dv50⟩ := (show rg 0 30 v50 from (by rw [ev50]; exact hI 125 0 (Or.inl rfl)))
        refine g_aload_n C 2 dX8_seatByQuota_91 rfl ?_
        refine g_get C (.ref (ad 88)) 0 in_X8_seatByQuota_8 (List.mem_of_getElem? (i := 1) rfl) (by decide) (ce_trans ad cs _ _) rfl (by decide) rfl rfl dX8_seatByQuota_92 ?_
        refine g_get C (.int (M_80 88 4)) 4 in_X8_seatByQuota_6 (List.mem_of_getElem? (i := 5) rfl) (by decide) (ce_poll ad cs _ _) rfl (by decide) rfl rfl dX8_seatByQuota_95 ?_
        refine g_ni (fun v51 ev51 => ?_)
        have tv51 := congrArg Int32.toInt ev51
        obtain ⟨bv51, dv51⟩ := (show rg 0 30 v51 from (by rw [ev51]; exact (hI 88 4).2 rfl))
        refine g_icmp_ge C 148 dX8_seatByQuota_98 (by decide) (fun c52 => ?_) (fun c52 => ?_)
        ·
          have f53 := fle rfl rfl c52
          refine g_iconst C 1 dX8_seatByQuota_148 (by decide) ?_
          exact g_zret C hr (by first | rfl | (rcases hz with rfl | rfl <;> rfl)) ⟨(by first | exact Or.inl rfl | exact Or.inr rfl | exact hz), hI, hF, hG⟩ dX8_seatByQuota_149
        ·
          have f54 := fnle rfl rfl c52
          refine g_aload_n C 2 dX8_seatByQuota_101 rfl ?_
          refine g_callVi C (n := 0) (As := []) (st := []) (s_X8_tallyWeights l D ad cs _ _ hI) gX8_seatByQuota_X8_tallyWeights rfl rfl rfl (by decide +kernel) ⟨Nat.le_of_ble_eq_true rfl, Nat.le_of_ble_eq_true rfl⟩ rfl (Nat.le_of_ble_eq_true rfl) ⟨Nat.zero_le _, Nat.zero_le _⟩ (by decide) (ce_trans ad cs _ _) rfl rfl dX8_seatByQuota_102 (fun r55 M56 L57 hr55 => ?_)
          obtain ⟨hr55, hI, hF1, hG1⟩ := hr55
          have hF : ∀ k, k ≠ 90 ∧ k ≠ 123 ∧ k ≠ 125 ∧ k ≠ 126 ∧ k ≠ 127 ∧ k ≠ 128 → M56 k = M k := fun k hk => by (rw [hF1 k (by omega)]; try exact hF k hk)
          have hG : ∀ k, 258 ≤ k → L57 k = L k := fun k hk => by (rw [hG1 k hk]; try exact hG k hk)
          have hz := hr55
          obtain ⟨zar55, zbr55⟩ := z_to hr55
          refine g_if_eq C 118 dX8_seatByQuota_105 (by decide) (fun c58 => ?_) (fun c58 => ?_)
          ·
            have f59 := feq rfl (by decide : (0 : Int32).toInt = 0) c58
            refine g_bipush C (-9) dX8_seatByQuota_118 (by decide) ?_
            refine g_istore C [(5, .int ((-9))), (4, .int x4_80), (2, .long 1), (0, .ref (ad 120)), (1, .ref (ad 125))] dX8_seatByQuota_120 (by decide) rfl ?_
            refine g_iload C 0 dX8_seatByQuota_122 rfl ?_
            refine g_bipush C (-9) dX8_seatByQuota_124 (by decide) ?_
            refine g_icmp_eq C 140 dX8_seatByQuota_126 (by decide) (fun _ => ?_) (fun c60 => absurd c60 (by decide))
            refine g_iconst C 0 dX8_seatByQuota_140 (by decide) ?_
            exact g_zret C hr (by first | rfl | (rcases hz with rfl | rfl <;> rfl)) ⟨(by first | exact Or.inl rfl | exact Or.inr rfl | exact hz), hI, hF, hG⟩ dX8_seatByQuota_141
          ·
            have f61 := fne rfl (by decide : (0 : Int32).toInt = 0) c58
            refine g_aload_n C 2 dX8_seatByQuota_108 rfl ?_
            refine g_get C (.ref (ad 88)) 0 in_X8_seatByQuota_8 (List.mem_of_getElem? (i := 1) rfl) (by decide) (ce_trans ad cs _ _) rfl (by decide) rfl rfl dX8_seatByQuota_109 ?_
            refine g_callVi C (n := 0) (As := []) (st := []) (s_X6_greatestIn l D ad cs _ _ hI) gX8_seatByQuota_X6_greatestIn rfl rfl rfl (by decide +kernel) ⟨Nat.le_of_ble_eq_true rfl, Nat.le_of_ble_eq_true rfl⟩ rfl (Nat.le_of_ble_eq_true rfl) ⟨Nat.zero_le _, Nat.zero_le _⟩ (by decide) (ce_poll ad cs _ _) rfl rfl dX8_seatByQuota_112 (fun r62 M63 L64 hr62 => ?_)
            obtain ⟨hq1, hq2, hr62⟩ := hr62
            obtain rfl := hq1.symm
            obtain rfl := hq2.symm
            obtain ⟨br62, dr62⟩ := hr62
            refine g_goto C 120 dX8_seatByQuota_115 (by decide) ?_
            refine g_istore C [(5, .int r62), (4, .int x4_80), (2, .long 1), (0, .ref (ad 120)), (1, .ref (ad 125))] dX8_seatByQuota_120 (by decide) rfl ?_
            refine g_iload C 0 dX8_seatByQuota_122 rfl ?_
            refine g_bipush C (-9) dX8_seatByQuota_124 (by decide) ?_
            refine g_icmp_eq C 140 dX8_seatByQuota_126 (by decide) (fun c65 => ?_) (fun c65 => ?_)
            ·
              have f66 := feq rfl (by decide : ((-9) : Int32).toInt = (-9)) c65
              refine g_iconst C 0 dX8_seatByQuota_140 (by decide) ?_
              exact g_zret C hr (by first | rfl | (rcases hz with rfl | rfl <;> rfl)) ⟨(by first | exact Or.inl rfl | exact Or.inr rfl | exact hz), hI, hF, hG⟩ dX8_seatByQuota_141
            ·
              have f67 := fne rfl (by decide : ((-9) : Int32).toInt = (-9)) c65
              refine g_aload_n C 3 dX8_seatByQuota_129 rfl ?_
              refine g_iload C 0 dX8_seatByQuota_130 rfl ?_
              refine g_lload_n C 2 dX8_seatByQuota_132 rfl ?_
              refine g_aload_n C 4 dX8_seatByQuota_133 rfl ?_
              refine g_callVi C (n := 3) (As := [.int r62, .long 1, .ref (ad 125)]) (st := []) (s_X8_endRound_a l D ad cs _ _ r62 1 hI ⟨by omega, by omega⟩) gX8_seatByQuota_X8_endRound rfl rfl rfl (by decide +kernel) ⟨Nat.le_of_ble_eq_true rfl, Nat.le_of_ble_eq_true rfl⟩ rfl (Nat.le_of_ble_eq_true rfl) ⟨Nat.zero_le _, Nat.zero_le _⟩ (by decide) (ce_trans ad cs _ _) rfl rfl dX8_seatByQuota_134 (fun r68 M69 L70 hr68 => ?_)
              obtain ⟨hr68, hI, hF1, hG1⟩ := hr68
              have hF : ∀ k, k ≠ 90 ∧ k ≠ 123 ∧ k ≠ 125 ∧ k ≠ 126 ∧ k ≠ 127 ∧ k ≠ 128 → M69 k = M k := fun k hk => by (rw [hF1 k (by omega)]; try exact hF k hk)
              have hG : ∀ k, 258 ≤ k → L70 k = L k := fun k hk => by (rw [hG1 k hk]; try exact hG k hk)
              have hz := hr68
              obtain ⟨zar68, zbr68⟩ := z_to hr68
              refine g_if_ne C 142 dX8_seatByQuota_137 (by decide) (fun c71 => ?_) (fun c71 => ?_)
              ·
                have f72 := fne rfl (by decide : (0 : Int32).toInt = 0) c71
                obtain ⟨v73, ev73⟩ : ∃ y : Int32, y = x4_80 + 1 := ⟨_, rfl⟩
                try have fv73 := fadd rfl (by decide : (1 : Int32).toInt = 1) ev73 (by omega) (by omega)
                refine g_iinc C 1 v73 [(4, .int v73), (5, .int r62), (2, .long 1), (0, .ref (ad 120)), (1, .ref (ad 125))] dX8_seatByQuota_142 rfl (by rw [ev73]; rfl) (by decide) rfl ?_
                refine g_goto C 80 dX8_seatByQuota_145 (by decide) ?_
                refine g_lv [0, 2, 3, 4] [(4, .int v73), (2, .long 1), (0, .ref (ad 120)), (1, .ref (ad 125))] rfl ?_
                exact ih_80 (v73, M69, L70) ⟨by show 0 ≤ v73.toInt; omega, by show v73.toInt ≤ 10; omega, hI, hF, hG⟩ (by show (11 - v73.toInt).toNat < (11 - x4_80.toInt).toNat; omega)
              ·
                have f74 := feq rfl (by decide : (0 : Int32).toInt = 0) c71
                refine g_iconst C 0 dX8_seatByQuota_140 (by decide) ?_
                exact g_zret C hr (by first | rfl | (rcases hz with rfl | rfl <;> rfl)) ⟨(by first | exact Or.inl rfl | exact Or.inr rfl | exact hz), hI, hF, hG⟩ dX8_seatByQuota_141
  ·
    have f75 := fnle rfl rfl c3
    refine g_aload_n C 1 dX8_seatByQuota_13 rfl ?_
    refine g_get C (.ref (ad 121)) 1 in_X8_seatByQuota_8 (List.mem_of_getElem? (i := 3) rfl) (by decide) (ce_trans ad cs _ _) rfl (by decide) rfl rfl dX8_seatByQuota_14 ?_
    refine g_iload_n C 0 dX8_seatByQuota_17 rfl ?_
    refine g_aload_n C 1 dX8_seatByQuota_18 rfl ?_
    refine g_get C (.ref (ad 88)) 0 in_X8_seatByQuota_8 (List.mem_of_getElem? (i := 1) rfl) (by decide) (ce_trans ad cs _ _) rfl (by decide) rfl rfl dX8_seatByQuota_19 ?_
    refine g_iload_n C 0 dX8_seatByQuota_22 rfl ?_
    refine g_callVi C (n := 1) (As := [.int x2_2]) (st := [.int x2_2, .ref (ad 121)]) (s_X6_papersOf l D ad cs _ _ x2_2 hI ⟨by omega, by omega⟩) gX8_seatByQuota_X6_papersOf rfl rfl rfl (by decide +kernel) ⟨Nat.le_of_ble_eq_true rfl, Nat.le_of_ble_eq_true rfl⟩ rfl (Nat.le_of_ble_eq_true rfl) ⟨Nat.zero_le _, Nat.zero_le _⟩ (by decide) (ce_poll ad cs _ _) rfl rfl dX8_seatByQuota_23 (fun r76 M77 L78 hr76 => ?_)
    obtain ⟨hq1, hq2, hr76⟩ := hr76
    obtain rfl := hq1.symm
    obtain rfl := hq2.symm
    refine g_i2l C dX8_seatByQuota_26 ?_
    refine g_nl (fun v79 ev79 => ?_)
    refine g_last C (by decide) (ce_tup ad cs _ _) (by rw [sJ_k]; rfl) (fin' (n := 40) rfl (by omega) (by omega)) dX8_seatByQuota_27 ?_
    refine g_nmL (fun L80 hL80 => ?_)
    have hG : ∀ k, 258 ≤ k → L80 k = L k := fun k hk => by (rw [hL80, sJ_n _ _ _ (by omega)]; try exact hG k hk)
    refine g_aload_n C 1 dX8_seatByQuota_28 rfl ?_
    refine g_get C (.ref (ad 122)) 2 in_X8_seatByQuota_8 (List.mem_of_getElem? (i := 4) rfl) (by decide) (ce_trans ad cs _ _) rfl (by decide) rfl rfl dX8_seatByQuota_29 ?_
    refine g_iload_n C 0 dX8_seatByQuota_32 rfl ?_
    refine g_lconst C 1 dX8_seatByQuota_33 (by decide) ?_
    refine g_last C (by decide) (ce_tlow ad cs _ _) (by rw [sJ_k]; rfl) (fin' (n := 40) rfl (by omega) (by omega)) dX8_seatByQuota_34 ?_
    refine g_nmL (fun L81 hL81 => ?_)
    have hG : ∀ k, 258 ≤ k → L81 k = L k := fun k hk => by (rw [hL81, sJ_n _ _ _ (by omega)]; try exact hG k hk)
    obtain ⟨v82, ev82⟩ : ∃ y : Int32, y = x2_2 + 1 := ⟨_, rfl⟩
    try have fv82 := fadd rfl (by decide : (1 : Int32).toInt = 1) ev82 (by omega) (by omega)
    refine g_iinc C 0 v82 [(2, .int v82), (0, .ref (ad 120)), (1, .ref (ad 125))] dX8_seatByQuota_35 rfl (by rw [ev82]; rfl) (by decide) rfl ?_
    refine g_goto C 2 dX8_seatByQuota_38 (by decide) ?_
    exact ih_2 (v82, M_2, L81) ⟨by show 0 ≤ v82.toInt; omega, by show v82.toInt ≤ 40; omega, hI, hF, hG⟩ (by show (41 - v82.toInt).toNat < (41 - x2_2.toInt).toNat; omega)
set_option maxHeartbeats 4000000 in
set_option maxRecDepth 100000 in
theorem s_X9_sbw_b (l : Launch) (D : va_G) (ad : Nat → Nat) (cs : Nat → ClassId) (M : MI) (L : ML)  (hI : IC M) : Cv l yX9_seatByWays wsX9_seatByWays ({ frames := 3, cells := 0, slots := 0, locals := 70 }) D ad cs [.ref (ad 96), .ref (ad 191)] M L (fun M1 L1 => IC M1 ∧ (∀ k, k ≠ 90 ∧ k ≠ 97 ∧ ¬ (100 ≤ k ∧ k < 120) ∧ k ≠ 191 ∧ k ≠ 192 ∧ k ≠ 193 ∧ k ≠ 194 → M1 k = M k) ∧ ∀ k, 258 ≤ k → L1 k = L k) := by
  refine enter_v RX9 rfl [(0, .ref (ad 96)), (1, .ref (ad 191))] rfl (Nat.le_of_ble_eq_true rfl) (by decide +kernel) rfl ?_
  intro p e s m below meth c C hr
  have hF : ∀ k, k ≠ 90 ∧ k ≠ 97 ∧ ¬ (100 ≤ k ∧ k < 120) ∧ k ≠ 191 ∧ k ≠ 192 ∧ k ≠ 193 ∧ k ≠ 194 → M k = M k := fun _ _ => rfl
  have hG : ∀ k, 258 ≤ k → L k = L k := fun _ _ => rfl
  refine g_aload_n C 0 dX9_seatByWays_0 rfl ?_
  refine g_callVv C (n := 0) (As := []) (st := []) (s_X9_compareAll l D ad cs _ _ hI) gX9_seatByWays_X9_compareAll rfl rfl rfl (by decide +kernel) ⟨Nat.le_of_ble_eq_true rfl, Nat.le_of_ble_eq_true rfl⟩ rfl (Nat.le_of_ble_eq_true rfl) ⟨Nat.zero_le _, Nat.zero_le _⟩ (by decide) (ce_ways ad cs _ _) rfl rfl dX9_seatByWays_1 (fun M2 L3 hr1 => ?_)
  obtain ⟨hI, hF1, hG1⟩ := hr1
  have hF : ∀ k, k ≠ 90 ∧ k ≠ 97 ∧ ¬ (100 ≤ k ∧ k < 120) ∧ k ≠ 191 ∧ k ≠ 192 ∧ k ≠ 193 ∧ k ≠ 194 → M2 k = M k := fun k hk => by (rw [hF1 k (by omega)]; try exact hF k hk)
  have hG : ∀ k, 258 ≤ k → L3 k = L k := fun k hk => by (rw [hG1 k hk]; try exact hG k hk)
  refine g_aload_n C 0 dX9_seatByWays_4 rfl ?_
  refine g_callVv C (n := 0) (As := []) (st := []) (s_X9_beginWays l D ad cs _ _ hI) gX9_seatByWays_X9_beginWays rfl rfl rfl (by decide +kernel) ⟨Nat.le_of_ble_eq_true rfl, Nat.le_of_ble_eq_true rfl⟩ rfl (Nat.le_of_ble_eq_true rfl) ⟨Nat.zero_le _, Nat.zero_le _⟩ (by decide) (ce_ways ad cs _ _) rfl rfl dX9_seatByWays_5 (fun M5 L6 hr4 => ?_)
  obtain ⟨hI, hF1, hG1⟩ := hr4
  have hF : ∀ k, k ≠ 90 ∧ k ≠ 97 ∧ ¬ (100 ≤ k ∧ k < 120) ∧ k ≠ 191 ∧ k ≠ 192 ∧ k ≠ 193 ∧ k ≠ 194 → M5 k = M k := fun k hk => by (rw [hF1 k (by omega)]; try exact hF k hk)
  have hG : ∀ k, 258 ≤ k → L6 k = L k := fun k hk => by (rw [hG1 k hk]; try exact hG k hk)
  refine g_aload_n C 0 dX9_seatByWays_8 rfl ?_
  refine g_callVv C (n := 0) (As := []) (st := []) (s_X9_strengthenWays l D ad cs _ _ hI) gX9_seatByWays_X9_strengthenWays rfl rfl rfl (by decide +kernel) ⟨Nat.le_of_ble_eq_true rfl, Nat.le_of_ble_eq_true rfl⟩ rfl (Nat.le_of_ble_eq_true rfl) ⟨Nat.zero_le _, Nat.zero_le _⟩ (by decide) (ce_ways ad cs _ _) rfl rfl dX9_seatByWays_9 (fun M8 L9 hr7 => ?_)
  obtain ⟨hI, hF1, hG1⟩ := hr7
  have hF : ∀ k, k ≠ 90 ∧ k ≠ 97 ∧ ¬ (100 ≤ k ∧ k < 120) ∧ k ≠ 191 ∧ k ≠ 192 ∧ k ≠ 193 ∧ k ≠ 194 → M8 k = M k := fun k hk => by (rw [hF1 k (by omega)]; try exact hF k hk)
  have hG : ∀ k, 258 ≤ k → L9 k = L k := fun k hk => by (rw [hG1 k hk]; try exact hG k hk)
  refine g_iconst C 0 dX9_seatByWays_12 (by decide) ?_
  refine g_istore_n C [(2, .int 0), (0, .ref (ad 96)), (1, .ref (ad 191))] dX9_seatByWays_13 (by decide) rfl ?_
  have zy10 : (0 : Int32).toInt = 0 := by decide
  refine g_loop (α := Int32 × MI × ML) (fun a => (31 - a.1.toInt).toNat) (fun a => 0 ≤ a.1.toInt ∧ a.1.toInt ≤ 30 ∧ IC a.2.1 ∧ (∀ k, k ≠ 90 ∧ k ≠ 97 ∧ ¬ (100 ≤ k ∧ k < 120) ∧ k ≠ 191 ∧ k ≠ 192 ∧ k ≠ 193 ∧ k ≠ 194 → a.2.1 k = M k) ∧ (∀ k, 258 ≤ k → a.2.2 k = L k)) (fun a => a.2.1) (fun a => a.2.2) (fun a => [(2, .int a.1), (0, .ref (ad 96)), (1, .ref (ad 191))]) (0, M8, L9) ⟨by show 0 ≤ (0 : Int32).toInt; omega, by show (0 : Int32).toInt ≤ 30; omega, hI, hF, hG⟩ rfl rfl rfl ?_
  rintro ⟨x2_14, M_14, L_14⟩ ⟨j14_0, j14_1, hI, hF, hG⟩ ih_14
  dsimp only at j14_0 j14_1 hI hF hG ih_14 ⊢
  refine g_iload_n C 0 dX9_seatByWays_14 rfl ?_
  refine g_aload_n C 1 dX9_seatByWays_15 rfl ?_
  refine g_get C (.ref (ad 88)) 0 in_X9_seatByWays_9 (List.mem_of_getElem? (i := 1) rfl) (by decide) (ce_ways ad cs _ _) rfl (by decide) rfl rfl dX9_seatByWays_16 ?_
  refine g_get C (.int (M_14 88 4)) 4 in_X9_seatByWays_6 (List.mem_of_getElem? (i := 2) rfl) (by decide) (ce_poll ad cs _ _) rfl (by decide) rfl rfl dX9_seatByWays_19 ?_
  refine g_ni (fun v11 ev11 => ?_)
  have tv11 := congrArg Int32.toInt ev11
  obtain ⟨bv11, dv11⟩ := (show rg 0 30 v11 from (by rw [ev11]; exact (hI 88 4).2 rfl))
  refine g_icmp_ge C 90 dX9_seatByWays_22 (by decide) (fun c12 => ?_) (fun c12 => ?_)
  ·
    have f13 := fle rfl rfl c12
    exact g_vret C hr ⟨hI, hF, hG⟩ dX9_seatByWays_90
  ·
    have f14 := fnle rfl rfl c12
    refine g_aload_n C 1 dX9_seatByWays_25 rfl ?_
    refine g_callVi C (n := 0) (As := []) (st := []) (s_X9_firstUnbeaten l D ad cs _ _ hI) gX9_seatByWays_X9_firstUnbeaten rfl rfl rfl (by decide +kernel) ⟨Nat.le_of_ble_eq_true rfl, Nat.le_of_ble_eq_true rfl⟩ rfl (Nat.le_of_ble_eq_true rfl) ⟨Nat.zero_le _, Nat.zero_le _⟩ (by decide) (ce_ways ad cs _ _) rfl rfl dX9_seatByWays_26 (fun r15 M16 L17 hr15 => ?_)
    obtain ⟨hq1, hq2, hr15⟩ := hr15
    obtain rfl := hq1.symm
    obtain rfl := hq2.symm
    obtain ⟨br15, dr15⟩ := hr15
    refine g_istore_n C [(3, .int r15), (2, .int x2_14), (0, .ref (ad 96)), (1, .ref (ad 191))] dX9_seatByWays_29 (by decide) rfl ?_
    refine g_iload_n C 0 dX9_seatByWays_30 rfl ?_
    refine g_bipush C (-9) dX9_seatByWays_31 (by decide) ?_
    refine g_icmp_ne C 37 dX9_seatByWays_33 (by decide) (fun c18 => ?_) (fun c18 => ?_)
    ·
      have f19 := fne rfl (by decide : ((-9) : Int32).toInt = (-9)) c18
      refine g_aload_n C 2 dX9_seatByWays_37 rfl ?_
      refine g_get C (.ref (ad 88)) 0 in_X9_seatByWays_9 (List.mem_of_getElem? (i := 1) rfl) (by decide) (ce_ways ad cs _ _) rfl (by decide) rfl rfl dX9_seatByWays_38 ?_
      refine g_callVv C (n := 0) (As := []) (st := []) (s_X6_clearTallies l D ad cs _ _ hI) gX9_seatByWays_X6_clearTallies rfl rfl rfl (by decide +kernel) ⟨Nat.le_of_ble_eq_true rfl, Nat.le_of_ble_eq_true rfl⟩ rfl (Nat.le_of_ble_eq_true rfl) ⟨Nat.zero_le _, Nat.zero_le _⟩ (by decide) (ce_poll ad cs _ _) rfl rfl dX9_seatByWays_41 (fun M21 L22 hr20 => ?_)
      obtain ⟨hI, hF1, hG1⟩ := hr20
      have hF : ∀ k, k ≠ 90 ∧ k ≠ 97 ∧ ¬ (100 ≤ k ∧ k < 120) ∧ k ≠ 191 ∧ k ≠ 192 ∧ k ≠ 193 ∧ k ≠ 194 → M21 k = M k := fun k hk => by (rw [hF1 k (by omega)]; try exact hF k hk)
      have hG : ∀ k, 258 ≤ k → L22 k = L k := fun k hk => by (rw [hG1 k hk]; try exact hG k hk)
      refine g_aload_n C 2 dX9_seatByWays_44 rfl ?_
      refine g_get C (.ref (ad 88)) 0 in_X9_seatByWays_9 (List.mem_of_getElem? (i := 1) rfl) (by decide) (ce_ways ad cs _ _) rfl (by decide) rfl rfl dX9_seatByWays_45 ?_
      refine g_get C (.ref (ad 91)) 6 in_X9_seatByWays_6 (List.mem_of_getElem? (i := 3) rfl) (by decide) (ce_poll ad cs _ _) rfl (by decide) rfl rfl dX9_seatByWays_48 ?_
      refine g_iload_n C 0 dX9_seatByWays_51 rfl ?_
      refine g_aload_n C 2 dX9_seatByWays_52 rfl ?_
      refine g_iload_n C 0 dX9_seatByWays_53 rfl ?_
      refine g_callVi C (n := 1) (As := [.int r15]) (st := [.int r15, .ref (ad 91)]) (s_X9_leastWay l D ad cs _ _ r15 hI ⟨by omega, by omega⟩) gX9_seatByWays_X9_leastWay rfl rfl rfl (by decide +kernel) ⟨Nat.le_of_ble_eq_true rfl, Nat.le_of_ble_eq_true rfl⟩ rfl (Nat.le_of_ble_eq_true rfl) ⟨Nat.zero_le _, Nat.zero_le _⟩ (by decide) (ce_ways ad cs _ _) rfl rfl dX9_seatByWays_54 (fun r23 M24 L25 hr23 => ?_)
      obtain ⟨hq1, hq2, hr23⟩ := hr23
      obtain rfl := hq1.symm
      obtain rfl := hq2.symm
      refine g_i2l C dX9_seatByWays_57 ?_
      refine g_nl (fun v26 ev26 => ?_)
      refine g_last C (by decide) (ce_pupper ad cs _ _) (by rw [sJ_k]; rfl) (fin' (n := 10) rfl (by omega) (by omega)) dX9_seatByWays_58 ?_
      refine g_nmL (fun L27 hL27 => ?_)
      have hG : ∀ k, 258 ≤ k → L27 k = L k := fun k hk => by (rw [hL27, sJ_n _ _ _ (by omega)]; try exact hG k hk)
      refine g_aload_n C 3 dX9_seatByWays_59 rfl ?_
      refine g_iconst C 1 dX9_seatByWays_60 (by decide) ?_
      refine g_iload_n C 0 dX9_seatByWays_61 rfl ?_
      refine g_aload_n C 2 dX9_seatByWays_62 rfl ?_
      refine g_get C (.ref (ad 88)) 0 in_X9_seatByWays_9 (List.mem_of_getElem? (i := 1) rfl) (by decide) (ce_ways ad cs _ _) rfl (by decide) rfl rfl dX9_seatByWays_63 ?_
      refine g_callVv C (n := 3) (As := [.int 1, .int r15, .ref (ad 88)]) (st := []) (s_X7_note_b l D ad cs _ _ 1 r15 hI) gX9_seatByWays_X7_note rfl rfl rfl (by decide +kernel) ⟨Nat.le_of_ble_eq_true rfl, Nat.le_of_ble_eq_true rfl⟩ rfl (Nat.le_of_ble_eq_true rfl) ⟨Nat.zero_le _, Nat.zero_le _⟩ (by decide) (ce_rb ad cs _ _) rfl rfl dX9_seatByWays_66 (fun M29 L30 hr28 => ?_)
      obtain ⟨hI, hF1, hG1⟩ := hr28
      have hF : ∀ k, k ≠ 90 ∧ k ≠ 97 ∧ ¬ (100 ≤ k ∧ k < 120) ∧ k ≠ 191 ∧ k ≠ 192 ∧ k ≠ 193 ∧ k ≠ 194 → M29 k = M k := fun k hk => by (rw [hF1 k (by omega)]; try exact hF k hk)
      have hG : ∀ k, 258 ≤ k → L30 k = L k := fun k hk => by (rw [hG1 k hk]; try exact hG k hk)
      refine g_aload_n C 3 dX9_seatByWays_69 rfl ?_
      refine g_iload_n C 0 dX9_seatByWays_70 rfl ?_
      refine g_callVv C (n := 1) (As := [.int r15]) (st := []) (s_X7_give_b l D ad cs _ _ r15 hI) gX9_seatByWays_X7_give rfl rfl rfl (by decide +kernel) ⟨Nat.le_of_ble_eq_true rfl, Nat.le_of_ble_eq_true rfl⟩ rfl (Nat.le_of_ble_eq_true rfl) ⟨Nat.zero_le _, Nat.zero_le _⟩ (by decide) (ce_rb ad cs _ _) rfl rfl dX9_seatByWays_71 (fun M32 L33 hr31 => ?_)
      obtain ⟨hI, hF1, hG1⟩ := hr31
      have hF : ∀ k, k ≠ 90 ∧ k ≠ 97 ∧ ¬ (100 ≤ k ∧ k < 120) ∧ k ≠ 191 ∧ k ≠ 192 ∧ k ≠ 193 ∧ k ≠ 194 → M32 k = M k := fun k hk => by (rw [hF1 k (by omega)]; try exact hF k hk)
      have hG : ∀ k, 258 ≤ k → L33 k = L k := fun k hk => by (rw [hG1 k hk]; try exact hG k hk)
      refine g_aload_n C 2 dX9_seatByWays_74 rfl ?_
      refine g_get C (.ref (ad 88)) 0 in_X9_seatByWays_9 (List.mem_of_getElem? (i := 1) rfl) (by decide) (ce_ways ad cs _ _) rfl (by decide) rfl rfl dX9_seatByWays_75 ?_
      refine g_get C (.ref (ad 90)) 5 in_X9_seatByWays_6 (List.mem_of_getElem? (i := 4) rfl) (by decide) (ce_poll ad cs _ _) rfl (by decide) rfl rfl dX9_seatByWays_78 ?_
      refine g_iload_n C 0 dX9_seatByWays_81 rfl ?_
      refine g_iconst C 0 dX9_seatByWays_82 (by decide) ?_
      refine g_zast C (by decide) (ce_pin ad cs _ _) (by rw [sI_k]; rfl) (fin' (n := 10) rfl (by omega) (by omega)) dX9_seatByWays_83 ?_
      refine g_nm (fun M34 hM34 => ?_)
      have hI : IC M34 := by rw [hM34]; exact hI.st (bC_free (by decide) (by decide) (by decide) (by decide) (by decide) (by decide) (by decide))
      have hF : ∀ k, k ≠ 90 ∧ k ≠ 97 ∧ ¬ (100 ≤ k ∧ k < 120) ∧ k ≠ 191 ∧ k ≠ 192 ∧ k ≠ 193 ∧ k ≠ 194 → M34 k = M k := fun k hk => by (rw [hM34, sI_n _ _ _ (by omega)]; try exact hF k hk)
      obtain ⟨v35, ev35⟩ : ∃ y : Int32, y = x2_14 + 1 := ⟨_, rfl⟩
      try have fv35 := fadd rfl (by decide : (1 : Int32).toInt = 1) ev35 (by omega) (by omega)
      refine g_iinc C 1 v35 [(2, .int v35), (3, .int r15), (0, .ref (ad 96)), (1, .ref (ad 191))] dX9_seatByWays_84 rfl (by rw [ev35]; rfl) (by decide) rfl ?_
      refine g_goto C 14 dX9_seatByWays_87 (by decide) ?_
      refine g_lv [0, 2, 3] [(2, .int v35), (0, .ref (ad 96)), (1, .ref (ad 191))] rfl ?_
      exact ih_14 (v35, M34, L33) ⟨by show 0 ≤ v35.toInt; omega, by show v35.toInt ≤ 30; omega, hI, hF, hG⟩ (by show (31 - v35.toInt).toNat < (31 - x2_14.toInt).toNat; omega)
    ·
      have f36 := feq rfl (by decide : ((-9) : Int32).toInt = (-9)) c18
      exact g_vret C hr ⟨hI, hF, hG⟩ dX9_seatByWays_36
set_option maxHeartbeats 4000000 in
set_option maxRecDepth 100000 in
theorem s_X8_leaveOut_b (l : Launch) (D : va_G) (ad : Nat → Nat) (cs : Nat → ClassId) (M : MI) (L : ML) (x : Int32) (hI : IC M) (hx : x.toInt = -9 ∨ 0 ≤ x.toInt) (hx2 : x.toInt < 10) : Ci l yX8_leaveOut wsX8_leaveOut ({ frames := 1, cells := 0, slots := 0, locals := 24 }) D ad cs [.ref (ad 120), .int x, .ref (ad 191)] M L (fun r M1 L1 => (r = 0 ∨ r = 1) ∧ IC M1 ∧ (∀ k, k ≠ 90 ∧ k ≠ 191 ∧ k ≠ 192 ∧ k ≠ 193 ∧ k ≠ 194 → M1 k = M k) ∧ ∀ k, 258 ≤ k → L1 k = L k) := by
  refine enter_i RX8 rfl [(0, .ref (ad 120)), (1, .int x), (2, .ref (ad 191))] rfl (Nat.le_of_ble_eq_true rfl) (by decide +kernel) rfl ?_
  intro p e s m below meth c C hr
  have hF : ∀ k, k ≠ 90 ∧ k ≠ 191 ∧ k ≠ 192 ∧ k ≠ 193 ∧ k ≠ 194 → M k = M k := fun _ _ => rfl
  have hG : ∀ k, 258 ≤ k → L k = L k := fun _ _ => rfl
  refine g_iload_n C 1 dX8_leaveOut_0 rfl ?_
  refine g_bipush C (-9) dX8_leaveOut_1 (by decide) ?_
  refine g_icmp_ne C 8 dX8_leaveOut_3 (by decide) (fun c1 => ?_) (fun c1 => ?_)
  ·
    have f2 := fne rfl (by decide : ((-9) : Int32).toInt = (-9)) c1
    refine g_aload_n C 2 dX8_leaveOut_8 rfl ?_
    refine g_iconst C 2 dX8_leaveOut_9 (by decide) ?_
    refine g_iload_n C 1 dX8_leaveOut_10 rfl ?_
    refine g_aload_n C 0 dX8_leaveOut_11 rfl ?_
    refine g_get C (.ref (ad 88)) 0 in_X8_leaveOut_8 (List.mem_of_getElem? (i := 1) rfl) (by decide) (ce_trans ad cs _ _) rfl (by decide) rfl rfl dX8_leaveOut_12 ?_
    refine g_callVv C (n := 3) (As := [.int 2, .int x, .ref (ad 88)]) (st := []) (s_X7_note_b l D ad cs _ _ 2 x hI) gX8_leaveOut_X7_note rfl rfl rfl (by decide +kernel) ⟨Nat.le_of_ble_eq_true rfl, Nat.le_of_ble_eq_true rfl⟩ rfl (Nat.le_of_ble_eq_true rfl) ⟨Nat.zero_le _, Nat.zero_le _⟩ (by decide) (ce_rb ad cs _ _) rfl rfl dX8_leaveOut_15 (fun M4 L5 hr3 => ?_)
    obtain ⟨hI, hF1, hG1⟩ := hr3
    have hF : ∀ k, k ≠ 90 ∧ k ≠ 191 ∧ k ≠ 192 ∧ k ≠ 193 ∧ k ≠ 194 → M4 k = M k := fun k hk => by (rw [hF1 k (by omega)]; try exact hF k hk)
    have hG : ∀ k, 258 ≤ k → L5 k = L k := fun k hk => by (rw [hG1 k hk]; try exact hG k hk)
    refine g_aload_n C 0 dX8_leaveOut_18 rfl ?_
    refine g_get C (.ref (ad 88)) 0 in_X8_leaveOut_8 (List.mem_of_getElem? (i := 1) rfl) (by decide) (ce_trans ad cs _ _) rfl (by decide) rfl rfl dX8_leaveOut_19 ?_
    refine g_get C (.ref (ad 90)) 5 in_X8_leaveOut_6 (List.mem_of_getElem? (i := 2) rfl) (by decide) (ce_poll ad cs _ _) rfl (by decide) rfl rfl dX8_leaveOut_22 ?_
    refine g_iload_n C 1 dX8_leaveOut_25 rfl ?_
    refine g_iconst C 0 dX8_leaveOut_26 (by decide) ?_
    refine g_zast C (by decide) (ce_pin ad cs _ _) (by rw [sI_k]; rfl) (fin' (n := 10) rfl (by omega) (by omega)) dX8_leaveOut_27 ?_
    refine g_nm (fun M6 hM6 => ?_)
    have hI : IC M6 := by rw [hM6]; exact hI.st (bC_free (by decide) (by decide) (by decide) (by decide) (by decide) (by decide) (by decide))
    have hF : ∀ k, k ≠ 90 ∧ k ≠ 191 ∧ k ≠ 192 ∧ k ≠ 193 ∧ k ≠ 194 → M6 k = M k := fun k hk => by (rw [hM6, sI_n _ _ _ (by omega)]; try exact hF k hk)
    refine g_iconst C 1 dX8_leaveOut_28 (by decide) ?_
    exact g_zret C hr (by first | rfl | (rcases hz with rfl | rfl <;> rfl)) ⟨(by first | exact Or.inl rfl | exact Or.inr rfl | exact hz), hI, hF, hG⟩ dX8_leaveOut_29
  ·
    have f7 := feq rfl (by decide : ((-9) : Int32).toInt = (-9)) c1
    refine g_iconst C 0 dX8_leaveOut_6 (by decide) ?_
    exact g_zret C hr (by first | rfl | (rcases hz with rfl | rfl <;> rfl)) ⟨(by first | exact Or.inl rfl | exact Or.inr rfl | exact hz), hI, hF, hG⟩ dX8_leaveOut_7
set_option maxHeartbeats 4000000 in
set_option maxRecDepth 100000 in
theorem s_X8_endRound_b (l : Launch) (D : va_G) (ad : Nat → Nat) (cs : Nat → ClassId) (M : MI) (L : ML) (x : Int32) (y : Int64) (hI : IC M) (hx : 0 ≤ x.toInt ∧ x.toInt < 10) : Ci l yX8_endRound wsX8_endRound ({ frames := 3, cells := 0, slots := 0, locals := 88 }) D ad cs [.ref (ad 120), .int x, .long y, .ref (ad 191)] M L (fun r M1 L1 => (r = 0 ∨ r = 1) ∧ IC M1 ∧ (∀ k, k ≠ 90 ∧ k ≠ 191 ∧ k ≠ 192 ∧ k ≠ 193 ∧ k ≠ 194 → M1 k = M k) ∧ ∀ k, 258 ≤ k → L1 k = L k) := by
  refine enter_i RX8 rfl [(0, .ref (ad 120)), (1, .int x), (2, .long y), (4, .ref (ad 191))] rfl (Nat.le_of_ble_eq_true rfl) (by decide +kernel) rfl ?_
  intro p e s m below meth c C hr
  have hF : ∀ k, k ≠ 90 ∧ k ≠ 191 ∧ k ≠ 192 ∧ k ≠ 193 ∧ k ≠ 194 → M k = M k := fun _ _ => rfl
  have hG : ∀ k, 258 ≤ k → L k = L k := fun _ _ => rfl
  obtain ⟨hx1, hx2⟩ := hx
  refine g_aload_n C 0 dX8_endRound_0 rfl ?_
  refine g_get C (.ref (ad 88)) 0 in_X8_endRound_8 (List.mem_of_getElem? (i := 1) rfl) (by decide) (ce_trans ad cs _ _) rfl (by decide) rfl rfl dX8_endRound_1 ?_
  refine g_callVi C (n := 0) (As := []) (st := []) (s_X6_manyIn l D ad cs _ _ hI) gX8_endRound_X6_manyIn rfl rfl rfl (by decide +kernel) ⟨Nat.le_of_ble_eq_true rfl, Nat.le_of_ble_eq_true rfl⟩ rfl (Nat.le_of_ble_eq_true rfl) ⟨Nat.zero_le _, Nat.zero_le _⟩ (by decide) (ce_poll ad cs _ _) rfl rfl dX8_endRound_4 (fun r1 M2 L3 hr1 => ?_)
  obtain ⟨hq1, hq2, hr1⟩ := hr1
  obtain rfl := hq1.symm
  obtain rfl := hq2.symm
  refine g_aload_n C 0 dX8_endRound_7 rfl ?_
  refine g_get C (.ref (ad 88)) 0 in_X8_endRound_8 (List.mem_of_getElem? (i := 1) rfl) (by decide) (ce_trans ad cs _ _) rfl (by decide) rfl rfl dX8_endRound_8 ?_
  refine g_get C (.int (M 88 4)) 4 in_X8_endRound_6 (List.mem_of_getElem? (i := 2) rfl) (by decide) (ce_poll ad cs _ _) rfl (by decide) rfl rfl dX8_endRound_11 ?_
  refine g_ni (fun v4 ev4 => ?_)
  have tv4 := congrArg Int32.toInt ev4
  obtain ⟨bv4, dv4⟩ := (show rg 0 30 v4 from (by rw [ev4]; exact (hI 88 4).2 rfl))
  refine g_aload C 3 dX8_endRound_14 rfl ?_
  refine g_get C (.int (M 191 0)) 0 in_X8_endRound_7 (List.mem_of_getElem? (i := 3) rfl) (by decide) (ce_rb ad cs _ _) rfl (by decide) rfl rfl dX8_endRound_16 ?_
  refine g_ni (fun v5 ev5 => ?_)
  have tv5 := congrArg Int32.toInt ev5
  obtain ⟨bv5, dv5⟩ := (show rg 0 30 v5 from (by rw [ev5]; exact hI 191 0 (Or.inl rfl)))
  refine g_isub C dX8_endRound_19 ?_
  refine g_ni (fun v6 ev6 => ?_)
  try have fv6 := fsub rfl rfl ev6 (by omega) (by omega)
  refine g_icmp_gt C 27 dX8_endRound_20 (by decide) (fun c7 => ?_) (fun c7 => ?_)
  ·
    have f8 := fl rfl rfl c7
    refine g_iconst C 0 dX8_endRound_27 (by decide) ?_
    refine g_istore C [(5, .int 0), (0, .ref (ad 120)), (1, .int x), (2, .long y), (4, .ref (ad 191))] dX8_endRound_28 (by decide) rfl ?_
    refine g_aload_n C 1 dX8_endRound_30 rfl ?_
    refine g_get C (.ref (ad 88)) 0 in_X8_endRound_8 (List.mem_of_getElem? (i := 1) rfl) (by decide) (ce_trans ad cs _ _) rfl (by decide) rfl rfl dX8_endRound_31 ?_
    refine g_get C (.ref (ad 91)) 6 in_X8_endRound_6 (List.mem_of_getElem? (i := 4) rfl) (by decide) (ce_poll ad cs _ _) rfl (by decide) rfl rfl dX8_endRound_34 ?_
    refine g_iload_n C 2 dX8_endRound_37 rfl ?_
    refine g_lald C (by decide) (ce_pupper ad cs _ _) (fin' (n := 10) rfl (by omega) (by omega)) dX8_endRound_38 ?_
    refine g_nl (fun v9 ev9 => ?_)
    refine g_lload_n C 3 dX8_endRound_39 rfl ?_
    refine g_aload_n C 1 dX8_endRound_40 rfl ?_
    refine g_get C (.ref (ad 88)) 0 in_X8_endRound_8 (List.mem_of_getElem? (i := 1) rfl) (by decide) (ce_trans ad cs _ _) rfl (by decide) rfl rfl dX8_endRound_41 ?_
    refine g_get C (.ref (ad 92)) 7 in_X8_endRound_6 (List.mem_of_getElem? (i := 5) rfl) (by decide) (ce_poll ad cs _ _) rfl (by decide) rfl rfl dX8_endRound_44 ?_
    refine g_iload_n C 2 dX8_endRound_47 rfl ?_
    refine g_lald C (by decide) (ce_plower ad cs _ _) (fin' (n := 10) rfl (by omega) (by omega)) dX8_endRound_48 ?_
    refine g_nl (fun v10 ev10 => ?_)
    refine g_lmul C dX8_endRound_49 ?_
    refine g_nl (fun v11 ev11 => ?_)
    refine g_lcmp C dX8_endRound_50 ?_
    refine g_ni (fun v12 ev12 => ?_)
    refine g_if_lt C 58 dX8_endRound_51 (by decide) (fun c13 => ?_) (fun c13 => ?_)
    ·
      have f14 := fl rfl (by decide : (0 : Int32).toInt = 0) c13
      refine g_iconst C 0 dX8_endRound_58 (by decide) ?_
      refine g_istore C [(6, .int 0), (5, .int 0), (0, .ref (ad 120)), (1, .int x), (2, .long y), (4, .ref (ad 191))] dX8_endRound_59 (by decide) rfl ?_
      refine g_iload C 1 dX8_endRound_61 rfl ?_
      refine g_if_ne C 85 dX8_endRound_63 (by decide) (fun c15 => absurd c15 (by decide)) (fun _ => ?_)
      refine g_iload C 0 dX8_endRound_66 rfl ?_
      refine g_if_ne C 85 dX8_endRound_68 (by decide) (fun c16 => absurd c16 (by decide)) (fun _ => ?_)
      refine g_aload_n C 2 dX8_endRound_71 rfl ?_
      refine g_aload_n C 2 dX8_endRound_72 rfl ?_
      refine g_get C (.ref (ad 88)) 0 in_X8_endRound_8 (List.mem_of_getElem? (i := 1) rfl) (by decide) (ce_trans ad cs _ _) rfl (by decide) rfl rfl dX8_endRound_73 ?_
      refine g_callVi C (n := 0) (As := []) (st := [.ref (ad 120)]) (s_X6_leastIn l D ad cs _ _ hI) gX8_endRound_X6_leastIn rfl rfl rfl (by decide +kernel) ⟨Nat.le_of_ble_eq_true rfl, Nat.le_of_ble_eq_true rfl⟩ rfl (Nat.le_of_ble_eq_true rfl) ⟨Nat.zero_le _, Nat.zero_le _⟩ (by decide) (ce_poll ad cs _ _) rfl rfl dX8_endRound_76 (fun r17 M18 L19 hr17 => ?_)
      obtain ⟨hq1, hq2, hr17⟩ := hr17
      obtain rfl := hq1.symm
      obtain rfl := hq2.symm
      obtain ⟨br17, dr17⟩ := hr17
      refine g_aload C 5 dX8_endRound_79 rfl ?_
      refine g_callVi C (n := 2) (As := [.int r17, .ref (ad 191)]) (st := []) (s_X8_leaveOut_b l D ad cs _ _ r17 hI (by omega) (by omega)) gX8_endRound_X8_leaveOut rfl rfl rfl (by decide +kernel) ⟨Nat.le_of_ble_eq_true rfl, Nat.le_of_ble_eq_true rfl⟩ rfl (Nat.le_of_ble_eq_true rfl) ⟨Nat.zero_le _, Nat.zero_le _⟩ (by decide) (ce_trans ad cs _ _) rfl rfl dX8_endRound_81 (fun r20 M21 L22 hr20 => ?_)
      obtain ⟨hr20, hI, hF1, hG1⟩ := hr20
      have hF : ∀ k, k ≠ 90 ∧ k ≠ 191 ∧ k ≠ 192 ∧ k ≠ 193 ∧ k ≠ 194 → M21 k = M k := fun k hk => by (rw [hF1 k (by omega)]; try exact hF k hk)
      have hG : ∀ k, 258 ≤ k → L22 k = L k := fun k hk => by (rw [hG1 k hk]; try exact hG k hk)
      have hz := hr20
      obtain ⟨zar20, zbr20⟩ := z_to hr20
      have hz := z_of (r := r20) (by omega) (by omega)
      exact g_zret C hr (by first | rfl | (rcases hz with rfl | rfl <;> rfl)) ⟨(by first | exact Or.inl rfl | exact Or.inr rfl | exact hz), hI, hF, hG⟩ dX8_endRound_84
    ·
      have f23 := fnl rfl (by decide : (0 : Int32).toInt = 0) c13
      refine g_iconst C 1 dX8_endRound_54 (by decide) ?_
      refine g_goto C 59 dX8_endRound_55 (by decide) ?_
      refine g_istore C [(6, .int 1), (5, .int 0), (0, .ref (ad 120)), (1, .int x), (2, .long y), (4, .ref (ad 191))] dX8_endRound_59 (by decide) rfl ?_
      refine g_iload C 1 dX8_endRound_61 rfl ?_
      refine g_if_ne C 85 dX8_endRound_63 (by decide) (fun c24 => absurd c24 (by decide)) (fun _ => ?_)
      refine g_iload C 0 dX8_endRound_66 rfl ?_
      refine g_if_ne C 85 dX8_endRound_68 (by decide) (fun _ => ?_) (fun c25 => absurd c25 (by decide))
      refine g_aload C 5 dX8_endRound_85 rfl ?_
      refine g_iconst C 1 dX8_endRound_87 (by decide) ?_
      refine g_iload_n C 3 dX8_endRound_88 rfl ?_
      refine g_aload_n C 2 dX8_endRound_89 rfl ?_
      refine g_get C (.ref (ad 88)) 0 in_X8_endRound_8 (List.mem_of_getElem? (i := 1) rfl) (by decide) (ce_trans ad cs _ _) rfl (by decide) rfl rfl dX8_endRound_90 ?_
      refine g_callVv C (n := 3) (As := [.int 1, .int x, .ref (ad 88)]) (st := []) (s_X7_note_b l D ad cs _ _ 1 x hI) gX8_endRound_X7_note rfl rfl rfl (by decide +kernel) ⟨Nat.le_of_ble_eq_true rfl, Nat.le_of_ble_eq_true rfl⟩ rfl (Nat.le_of_ble_eq_true rfl) ⟨Nat.zero_le _, Nat.zero_le _⟩ (by decide) (ce_rb ad cs _ _) rfl rfl dX8_endRound_93 (fun M27 L28 hr26 => ?_)
      obtain ⟨hI, hF1, hG1⟩ := hr26
      have hF : ∀ k, k ≠ 90 ∧ k ≠ 191 ∧ k ≠ 192 ∧ k ≠ 193 ∧ k ≠ 194 → M27 k = M k := fun k hk => by (rw [hF1 k (by omega)]; try exact hF k hk)
      have hG : ∀ k, 258 ≤ k → L28 k = L k := fun k hk => by (rw [hG1 k hk]; try exact hG k hk)
      refine g_aload C 5 dX8_endRound_96 rfl ?_
      refine g_iload_n C 3 dX8_endRound_98 rfl ?_
      refine g_callVv C (n := 1) (As := [.int x]) (st := []) (s_X7_give_b l D ad cs _ _ x hI) gX8_endRound_X7_give rfl rfl rfl (by decide +kernel) ⟨Nat.le_of_ble_eq_true rfl, Nat.le_of_ble_eq_true rfl⟩ rfl (Nat.le_of_ble_eq_true rfl) ⟨Nat.zero_le _, Nat.zero_le _⟩ (by decide) (ce_rb ad cs _ _) rfl rfl dX8_endRound_99 (fun M30 L31 hr29 => ?_)
      obtain ⟨hI, hF1, hG1⟩ := hr29
      have hF : ∀ k, k ≠ 90 ∧ k ≠ 191 ∧ k ≠ 192 ∧ k ≠ 193 ∧ k ≠ 194 → M30 k = M k := fun k hk => by (rw [hF1 k (by omega)]; try exact hF k hk)
      have hG : ∀ k, 258 ≤ k → L31 k = L k := fun k hk => by (rw [hG1 k hk]; try exact hG k hk)
      refine g_aload_n C 2 dX8_endRound_102 rfl ?_
      refine g_get C (.ref (ad 88)) 0 in_X8_endRound_8 (List.mem_of_getElem? (i := 1) rfl) (by decide) (ce_trans ad cs _ _) rfl (by decide) rfl rfl dX8_endRound_103 ?_
      refine g_get C (.ref (ad 90)) 5 in_X8_endRound_6 (List.mem_of_getElem? (i := 6) rfl) (by decide) (ce_poll ad cs _ _) rfl (by decide) rfl rfl dX8_endRound_106 ?_
      refine g_iload_n C 3 dX8_endRound_109 rfl ?_
      refine g_iconst C 0 dX8_endRound_110 (by decide) ?_
      refine g_zast C (by decide) (ce_pin ad cs _ _) (by rw [sI_k]; rfl) (fin' (n := 10) rfl (by omega) (by omega)) dX8_endRound_111 ?_
      refine g_nm (fun M32 hM32 => ?_)
      have hI : IC M32 := by rw [hM32]; exact hI.st (bC_free (by decide) (by decide) (by decide) (by decide) (by decide) (by decide) (by decide))
      have hF : ∀ k, k ≠ 90 ∧ k ≠ 191 ∧ k ≠ 192 ∧ k ≠ 193 ∧ k ≠ 194 → M32 k = M k := fun k hk => by (rw [hM32, sI_n _ _ _ (by omega)]; try exact hF k hk)
      refine g_iload C 1 dX8_endRound_112 rfl ?_
      refine g_if_ne C 126 dX8_endRound_114 (by decide) (fun c33 => absurd c33 (by decide)) (fun _ => ?_)
      refine g_aload_n C 2 dX8_endRound_117 rfl ?_
      refine g_iload_n C 3 dX8_endRound_118 rfl ?_
      refine g_lload_n C 4 dX8_endRound_119 rfl ?_
      refine g_callVi C (n := 2) (As := [.int x, .long y]) (st := []) (s_X8_passOn l D ad cs _ _ x y hI ⟨by omega, by omega⟩) gX8_endRound_X8_passOn rfl rfl rfl (by decide +kernel) ⟨Nat.le_of_ble_eq_true rfl, Nat.le_of_ble_eq_true rfl⟩ rfl (Nat.le_of_ble_eq_true rfl) ⟨Nat.zero_le _, Nat.zero_le _⟩ (by decide) (ce_trans ad cs _ _) rfl rfl dX8_endRound_120 (fun r34 M35 L36 hr34 => ?_)
      obtain ⟨hr34, hI, hF1, hG1⟩ := hr34
      have hF : ∀ k, k ≠ 90 ∧ k ≠ 191 ∧ k ≠ 192 ∧ k ≠ 193 ∧ k ≠ 194 → M35 k = M k := fun k hk => by (rw [hF1 k (by omega)]; try exact hF k hk)
      have hG : ∀ k, 258 ≤ k → L36 k = L k := fun k hk => by (rw [hG1 k hk]; try exact hG k hk)
      have hz := hr34
      obtain ⟨zar34, zbr34⟩ := z_to hr34
      refine g_if_eq C 130 dX8_endRound_123 (by decide) (fun c37 => ?_) (fun c37 => ?_)
      ·
        have f38 := feq rfl (by decide : (0 : Int32).toInt = 0) c37
        refine g_iconst C 0 dX8_endRound_130 (by decide) ?_
        exact g_zret C hr (by first | rfl | (rcases hz with rfl | rfl <;> rfl)) ⟨(by first | exact Or.inl rfl | exact Or.inr rfl | exact hz), hI, hF, hG⟩ dX8_endRound_131
      ·
        have f39 := fne rfl (by decide : (0 : Int32).toInt = 0) c37
        refine g_iconst C 1 dX8_endRound_126 (by decide) ?_
        refine g_goto C 131 dX8_endRound_127 (by decide) ?_
        exact g_zret C hr (by first | rfl | (rcases hz with rfl | rfl <;> rfl)) ⟨(by first | exact Or.inl rfl | exact Or.inr rfl | exact hz), hI, hF, hG⟩ dX8_endRound_131
  ·
    have f40 := fnl rfl rfl c7
    refine g_iconst C 1 dX8_endRound_23 (by decide) ?_
    refine g_goto C 28 dX8_endRound_24 (by decide) ?_
    refine g_istore C [(5, .int 1), (0, .ref (ad 120)), (1, .int x), (2, .long y), (4, .ref (ad 191))] dX8_endRound_28 (by decide) rfl ?_
    refine g_aload_n C 1 dX8_endRound_30 rfl ?_
    refine g_get C (.ref (ad 88)) 0 in_X8_endRound_8 (List.mem_of_getElem? (i := 1) rfl) (by decide) (ce_trans ad cs _ _) rfl (by decide) rfl rfl dX8_endRound_31 ?_
    refine g_get C (.ref (ad 91)) 6 in_X8_endRound_6 (List.mem_of_getElem? (i := 4) rfl) (by decide) (ce_poll ad cs _ _) rfl (by decide) rfl rfl dX8_endRound_34 ?_
    refine g_iload_n C 2 dX8_endRound_37 rfl ?_
    refine g_lald C (by decide) (ce_pupper ad cs _ _) (fin' (n := 10) rfl (by omega) (by omega)) dX8_endRound_38 ?_
    refine g_nl (fun v41 ev41 => ?_)
    refine g_lload_n C 3 dX8_endRound_39 rfl ?_
    refine g_aload_n C 1 dX8_endRound_40 rfl ?_
    refine g_get C (.ref (ad 88)) 0 in_X8_endRound_8 (List.mem_of_getElem? (i := 1) rfl) (by decide) (ce_trans ad cs _ _) rfl (by decide) rfl rfl dX8_endRound_41 ?_
    refine g_get C (.ref (ad 92)) 7 in_X8_endRound_6 (List.mem_of_getElem? (i := 5) rfl) (by decide) (ce_poll ad cs _ _) rfl (by decide) rfl rfl dX8_endRound_44 ?_
    refine g_iload_n C 2 dX8_endRound_47 rfl ?_
    refine g_lald C (by decide) (ce_plower ad cs _ _) (fin' (n := 10) rfl (by omega) (by omega)) dX8_endRound_48 ?_
    refine g_nl (fun v42 ev42 => ?_)
    refine g_lmul C dX8_endRound_49 ?_
    refine g_nl (fun v43 ev43 => ?_)
    refine g_lcmp C dX8_endRound_50 ?_
    refine g_ni (fun v44 ev44 => ?_)
    refine g_if_lt C 58 dX8_endRound_51 (by decide) (fun c45 => ?_) (fun c45 => ?_)
    ·
      have f46 := fl rfl (by decide : (0 : Int32).toInt = 0) c45
      refine g_iconst C 0 dX8_endRound_58 (by decide) ?_
      refine g_istore C [(6, .int 0), (5, .int 1), (0, .ref (ad 120)), (1, .int x), (2, .long y), (4, .ref (ad 191))] dX8_endRound_59 (by decide) rfl ?_
      refine g_iload C 1 dX8_endRound_61 rfl ?_
      refine g_if_ne C 85 dX8_endRound_63 (by decide) (fun _ => ?_) (fun c47 => absurd c47 (by decide))
      refine g_aload C 5 dX8_endRound_85 rfl ?_
      refine g_iconst C 1 dX8_endRound_87 (by decide) ?_
      refine g_iload_n C 3 dX8_endRound_88 rfl ?_
      refine g_aload_n C 2 dX8_endRound_89 rfl ?_
      refine g_get C (.ref (ad 88)) 0 in_X8_endRound_8 (List.mem_of_getElem? (i := 1) rfl) (by decide) (ce_trans ad cs _ _) rfl (by decide) rfl rfl dX8_endRound_90 ?_
      refine g_callVv C (n := 3) (As := [.int 1, .int x, .ref (ad 88)]) (st := []) (s_X7_note_b l D ad cs _ _ 1 x hI) gX8_endRound_X7_note rfl rfl rfl (by decide +kernel) ⟨Nat.le_of_ble_eq_true rfl, Nat.le_of_ble_eq_true rfl⟩ rfl (Nat.le_of_ble_eq_true rfl) ⟨Nat.zero_le _, Nat.zero_le _⟩ (by decide) (ce_rb ad cs _ _) rfl rfl dX8_endRound_93 (fun M49 L50 hr48 => ?_)
      obtain ⟨hI, hF1, hG1⟩ := hr48
      have hF : ∀ k, k ≠ 90 ∧ k ≠ 191 ∧ k ≠ 192 ∧ k ≠ 193 ∧ k ≠ 194 → M49 k = M k := fun k hk => by (rw [hF1 k (by omega)]; try exact hF k hk)
      have hG : ∀ k, 258 ≤ k → L50 k = L k := fun k hk => by (rw [hG1 k hk]; try exact hG k hk)
      refine g_aload C 5 dX8_endRound_96 rfl ?_
      refine g_iload_n C 3 dX8_endRound_98 rfl ?_
      refine g_callVv C (n := 1) (As := [.int x]) (st := []) (s_X7_give_b l D ad cs _ _ x hI) gX8_endRound_X7_give rfl rfl rfl (by decide +kernel) ⟨Nat.le_of_ble_eq_true rfl, Nat.le_of_ble_eq_true rfl⟩ rfl (Nat.le_of_ble_eq_true rfl) ⟨Nat.zero_le _, Nat.zero_le _⟩ (by decide) (ce_rb ad cs _ _) rfl rfl dX8_endRound_99 (fun M52 L53 hr51 => ?_)
      obtain ⟨hI, hF1, hG1⟩ := hr51
      have hF : ∀ k, k ≠ 90 ∧ k ≠ 191 ∧ k ≠ 192 ∧ k ≠ 193 ∧ k ≠ 194 → M52 k = M k := fun k hk => by (rw [hF1 k (by omega)]; try exact hF k hk)
      have hG : ∀ k, 258 ≤ k → L53 k = L k := fun k hk => by (rw [hG1 k hk]; try exact hG k hk)
      refine g_aload_n C 2 dX8_endRound_102 rfl ?_
      refine g_get C (.ref (ad 88)) 0 in_X8_endRound_8 (List.mem_of_getElem? (i := 1) rfl) (by decide) (ce_trans ad cs _ _) rfl (by decide) rfl rfl dX8_endRound_103 ?_
      refine g_get C (.ref (ad 90)) 5 in_X8_endRound_6 (List.mem_of_getElem? (i := 6) rfl) (by decide) (ce_poll ad cs _ _) rfl (by decide) rfl rfl dX8_endRound_106 ?_
      refine g_iload_n C 3 dX8_endRound_109 rfl ?_
      refine g_iconst C 0 dX8_endRound_110 (by decide) ?_
      refine g_zast C (by decide) (ce_pin ad cs _ _) (by rw [sI_k]; rfl) (fin' (n := 10) rfl (by omega) (by omega)) dX8_endRound_111 ?_
      refine g_nm (fun M54 hM54 => ?_)
      have hI : IC M54 := by rw [hM54]; exact hI.st (bC_free (by decide) (by decide) (by decide) (by decide) (by decide) (by decide) (by decide))
      have hF : ∀ k, k ≠ 90 ∧ k ≠ 191 ∧ k ≠ 192 ∧ k ≠ 193 ∧ k ≠ 194 → M54 k = M k := fun k hk => by (rw [hM54, sI_n _ _ _ (by omega)]; try exact hF k hk)
      refine g_iload C 1 dX8_endRound_112 rfl ?_
      refine g_if_ne C 126 dX8_endRound_114 (by decide) (fun _ => ?_) (fun c55 => absurd c55 (by decide))
      refine g_iconst C 1 dX8_endRound_126 (by decide) ?_
      refine g_goto C 131 dX8_endRound_127 (by decide) ?_
      exact g_zret C hr (by first | rfl | (rcases hz with rfl | rfl <;> rfl)) ⟨(by first | exact Or.inl rfl | exact Or.inr rfl | exact hz), hI, hF, hG⟩ dX8_endRound_131
    ·
      have f56 := fnl rfl (by decide : (0 : Int32).toInt = 0) c45
      refine g_iconst C 1 dX8_endRound_54 (by decide) ?_
      refine g_goto C 59 dX8_endRound_55 (by decide) ?_
      refine g_istore C [(6, .int 1), (5, .int 1), (0, .ref (ad 120)), (1, .int x), (2, .long y), (4, .ref (ad 191))] dX8_endRound_59 (by decide) rfl ?_
      refine g_iload C 1 dX8_endRound_61 rfl ?_
      refine g_if_ne C 85 dX8_endRound_63 (by decide) (fun _ => ?_) (fun c57 => absurd c57 (by decide))
      refine g_aload C 5 dX8_endRound_85 rfl ?_
      refine g_iconst C 1 dX8_endRound_87 (by decide) ?_
      refine g_iload_n C 3 dX8_endRound_88 rfl ?_
      refine g_aload_n C 2 dX8_endRound_89 rfl ?_
      refine g_get C (.ref (ad 88)) 0 in_X8_endRound_8 (List.mem_of_getElem? (i := 1) rfl) (by decide) (ce_trans ad cs _ _) rfl (by decide) rfl rfl dX8_endRound_90 ?_
      refine g_callVv C (n := 3) (As := [.int 1, .int x, .ref (ad 88)]) (st := []) (s_X7_note_b l D ad cs _ _ 1 x hI) gX8_endRound_X7_note rfl rfl rfl (by decide +kernel) ⟨Nat.le_of_ble_eq_true rfl, Nat.le_of_ble_eq_true rfl⟩ rfl (Nat.le_of_ble_eq_true rfl) ⟨Nat.zero_le _, Nat.zero_le _⟩ (by decide) (ce_rb ad cs _ _) rfl rfl dX8_endRound_93 (fun M59 L60 hr58 => ?_)
      obtain ⟨hI, hF1, hG1⟩ := hr58
      have hF : ∀ k, k ≠ 90 ∧ k ≠ 191 ∧ k ≠ 192 ∧ k ≠ 193 ∧ k ≠ 194 → M59 k = M k := fun k hk => by (rw [hF1 k (by omega)]; try exact hF k hk)
      have hG : ∀ k, 258 ≤ k → L60 k = L k := fun k hk => by (rw [hG1 k hk]; try exact hG k hk)
      refine g_aload C 5 dX8_endRound_96 rfl ?_
      refine g_iload_n C 3 dX8_endRound_98 rfl ?_
      refine g_callVv C (n := 1) (As := [.int x]) (st := []) (s_X7_give_b l D ad cs _ _ x hI) gX8_endRound_X7_give rfl rfl rfl (by decide +kernel) ⟨Nat.le_of_ble_eq_true rfl, Nat.le_of_ble_eq_true rfl⟩ rfl (Nat.le_of_ble_eq_true rfl) ⟨Nat.zero_le _, Nat.zero_le _⟩ (by decide) (ce_rb ad cs _ _) rfl rfl dX8_endRound_99 (fun M62 L63 hr61 => ?_)
      obtain ⟨hI, hF1, hG1⟩ := hr61
      have hF : ∀ k, k ≠ 90 ∧ k ≠ 191 ∧ k ≠ 192 ∧ k ≠ 193 ∧ k ≠ 194 → M62 k = M k := fun k hk => by (rw [hF1 k (by omega)]; try exact hF k hk)
      have hG : ∀ k, 258 ≤ k → L63 k = L k := fun k hk => by (rw [hG1 k hk]; try exact hG k hk)
      refine g_aload_n C 2 dX8_endRound_102 rfl ?_
      refine g_get C (.ref (ad 88)) 0 in_X8_endRound_8 (List.mem_of_getElem? (i := 1) rfl) (by decide) (ce_trans ad cs _ _) rfl (by decide) rfl rfl dX8_endRound_103 ?_
      refine g_get C (.ref (ad 90)) 5 in_X8_endRound_6 (List.mem_of_getElem? (i := 6) rfl) (by decide) (ce_poll ad cs _ _) rfl (by decide) rfl rfl dX8_endRound_106 ?_
      refine g_iload_n C 3 dX8_endRound_109 rfl ?_
      refine g_iconst C 0 dX8_endRound_110 (by decide) ?_
      refine g_zast C (by decide) (ce_pin ad cs _ _) (by rw [sI_k]; rfl) (fin' (n := 10) rfl (by omega) (by omega)) dX8_endRound_111 ?_
      refine g_nm (fun M64 hM64 => ?_)
      have hI : IC M64 := by rw [hM64]; exact hI.st (bC_free (by decide) (by decide) (by decide) (by decide) (by decide) (by decide) (by decide))
      have hF : ∀ k, k ≠ 90 ∧ k ≠ 191 ∧ k ≠ 192 ∧ k ≠ 193 ∧ k ≠ 194 → M64 k = M k := fun k hk => by (rw [hM64, sI_n _ _ _ (by omega)]; try exact hF k hk)
      refine g_iload C 1 dX8_endRound_112 rfl ?_
      refine g_if_ne C 126 dX8_endRound_114 (by decide) (fun _ => ?_) (fun c65 => absurd c65 (by decide))
      refine g_iconst C 1 dX8_endRound_126 (by decide) ?_
      refine g_goto C 131 dX8_endRound_127 (by decide) ?_
      exact g_zret C hr (by first | rfl | (rcases hz with rfl | rfl <;> rfl)) ⟨(by first | exact Or.inl rfl | exact Or.inr rfl | exact hz), hI, hF, hG⟩ dX8_endRound_131
set_option maxHeartbeats 4000000 in
set_option maxRecDepth 100000 in
theorem s_X8_sbq_b (l : Launch) (D : va_G) (ad : Nat → Nat) (cs : Nat → ClassId) (M : MI) (L : ML)  (hI : IC M) : Ci l yX8_seatByQuota wsX8_seatByQuota ({ frames := 4, cells := 0, slots := 0, locals := 114 }) D ad cs [.ref (ad 120), .ref (ad 191)] M L (fun r M1 L1 => (r = 0 ∨ r = 1) ∧ IC M1 ∧ (∀ k, k ≠ 90 ∧ k ≠ 123 ∧ k ≠ 191 ∧ k ≠ 192 ∧ k ≠ 193 ∧ k ≠ 194 → M1 k = M k) ∧ ∀ k, 258 ≤ k → L1 k = L k) := by
  refine enter_i RX8 rfl [(0, .ref (ad 120)), (1, .ref (ad 191))] rfl (Nat.le_of_ble_eq_true rfl) (by decide +kernel) rfl ?_
  intro p e s m below meth c C hr
  have hF : ∀ k, k ≠ 90 ∧ k ≠ 123 ∧ k ≠ 191 ∧ k ≠ 192 ∧ k ≠ 193 ∧ k ≠ 194 → M k = M k := fun _ _ => rfl
  have hG : ∀ k, 258 ≤ k → L k = L k := fun _ _ => rfl
  refine g_iconst C 0 dX8_seatByQuota_0 (by decide) ?_
  refine g_istore_n C [(2, .int 0), (0, .ref (ad 120)), (1, .ref (ad 191))] dX8_seatByQuota_1 (by decide) rfl ?_
  have zy1 : (0 : Int32).toInt = 0 := by decide
  refine g_loop (α := Int32 × MI × ML) (fun a => (41 - a.1.toInt).toNat) (fun a => 0 ≤ a.1.toInt ∧ a.1.toInt ≤ 40 ∧ IC a.2.1 ∧ (∀ k, k ≠ 90 ∧ k ≠ 123 ∧ k ≠ 191 ∧ k ≠ 192 ∧ k ≠ 193 ∧ k ≠ 194 → a.2.1 k = M k) ∧ (∀ k, 258 ≤ k → a.2.2 k = L k)) (fun a => a.2.1) (fun a => a.2.2) (fun a => [(2, .int a.1), (0, .ref (ad 120)), (1, .ref (ad 191))]) (0, M, L) ⟨by show 0 ≤ (0 : Int32).toInt; omega, by show (0 : Int32).toInt ≤ 40; omega, hI, hF, hG⟩ rfl rfl rfl ?_
  rintro ⟨x2_2, M_2, L_2⟩ ⟨j2_0, j2_1, hI, hF, hG⟩ ih_2
  dsimp only at j2_0 j2_1 hI hF hG ih_2 ⊢
  refine g_iload_n C 0 dX8_seatByQuota_2 rfl ?_
  refine g_aload_n C 1 dX8_seatByQuota_3 rfl ?_
  refine g_get C (.ref (ad 88)) 0 in_X8_seatByQuota_8 (List.mem_of_getElem? (i := 1) rfl) (by decide) (ce_trans ad cs _ _) rfl (by decide) rfl rfl dX8_seatByQuota_4 ?_
  refine g_get C (.int (M_2 88 3)) 3 in_X8_seatByQuota_6 (List.mem_of_getElem? (i := 2) rfl) (by decide) (ce_poll ad cs _ _) rfl (by decide) rfl rfl dX8_seatByQuota_7 ?_
  refine g_ni (fun v2 ev2 => ?_)
  have tv2 := congrArg Int32.toInt ev2
  obtain ⟨bv2, dv2⟩ := (show rg 0 40 v2 from (by rw [ev2]; exact (hI 88 3).1 rfl))
  refine g_icmp_ge C 41 dX8_seatByQuota_10 (by decide) (fun c3 => ?_) (fun c3 => ?_)
  ·
    have f4 := fle rfl rfl c3
    refine g_aload_n C 1 dX8_seatByQuota_41 rfl ?_
    refine g_get C (.ref (ad 88)) 0 in_X8_seatByQuota_8 (List.mem_of_getElem? (i := 1) rfl) (by decide) (ce_trans ad cs _ _) rfl (by decide) rfl rfl dX8_seatByQuota_42 ?_
    refine g_get C (.int (M_2 88 4)) 4 in_X8_seatByQuota_6 (List.mem_of_getElem? (i := 5) rfl) (by decide) (ce_poll ad cs _ _) rfl (by decide) rfl rfl dX8_seatByQuota_45 ?_
    refine g_ni (fun v5 ev5 => ?_)
    have tv5 := congrArg Int32.toInt ev5
    obtain ⟨bv5, dv5⟩ := (show rg 0 30 v5 from (by rw [ev5]; exact (hI 88 4).2 rfl))
    refine g_iconst C 1 dX8_seatByQuota_48 (by decide) ?_
    refine g_icmp_ge C 56 dX8_seatByQuota_49 (by decide) (fun c6 => ?_) (fun c6 => ?_)
    ·
      have f7 := fle (by decide : (1 : Int32).toInt = 1) rfl c6
      refine g_aload_n C 1 dX8_seatByQuota_56 rfl ?_
      refine g_get C (.ref (ad 88)) 0 in_X8_seatByQuota_8 (List.mem_of_getElem? (i := 1) rfl) (by decide) (ce_trans ad cs _ _) rfl (by decide) rfl rfl dX8_seatByQuota_57 ?_
      refine g_callVi C (n := 0) (As := []) (st := []) (s_X6_allPapers l D ad cs _ _ hI) gX8_seatByQuota_X6_allPapers rfl rfl rfl (by decide +kernel) ⟨Nat.le_of_ble_eq_true rfl, Nat.le_of_ble_eq_true rfl⟩ rfl (Nat.le_of_ble_eq_true rfl) ⟨Nat.zero_le _, Nat.zero_le _⟩ (by decide) (ce_poll ad cs _ _) rfl rfl dX8_seatByQuota_60 (fun r8 M9 L10 hr8 => ?_)
      obtain ⟨hq1, hq2, hr8⟩ := hr8
      obtain rfl := hq1.symm
      obtain rfl := hq2.symm
      refine g_aload_n C 1 dX8_seatByQuota_63 rfl ?_
      refine g_get C (.ref (ad 88)) 0 in_X8_seatByQuota_8 (List.mem_of_getElem? (i := 1) rfl) (by decide) (ce_trans ad cs _ _) rfl (by decide) rfl rfl dX8_seatByQuota_64 ?_
      refine g_get C (.int (M_2 88 4)) 4 in_X8_seatByQuota_6 (List.mem_of_getElem? (i := 5) rfl) (by decide) (ce_poll ad cs _ _) rfl (by decide) rfl rfl dX8_seatByQuota_67 ?_
      refine g_ni (fun v11 ev11 => ?_)
      have tv11 := congrArg Int32.toInt ev11
      obtain ⟨bv11, dv11⟩ := (show rg 0 30 v11 from (by rw [ev11]; exact (hI 88 4).2 rfl))
      have uv11 : v11 = v5 := by rw [ev11]; exact ev5.symm
      have wv11 := congrArg Int32.toInt uv11
      refine g_iconst C 1 dX8_seatByQuota_70 (by decide) ?_
      refine g_iadd C dX8_seatByQuota_71 ?_
      refine g_ni (fun v12 ev12 => ?_)
      try have fv12 := fadd rfl (by decide : (1 : Int32).toInt = 1) ev12 (by omega) (by omega)
      refine g_idiv C dX8_seatByQuota_72 (by intro h9; first | (have h8 := congrArg Int32.toInt h9; have h7 : (0 : Int32).toInt = 0 := (by decide); omega)) ?_
      refine g_ni (fun v13 ev13 => ?_)
      refine g_iconst C 1 dX8_seatByQuota_73 (by decide) ?_
      refine g_iadd C dX8_seatByQuota_74 ?_
      refine g_ni (fun v14 ev14 => ?_)
      try have fv14 := fadd rfl (by decide : (1 : Int32).toInt = 1) ev14 (by omega) (by omega)
      refine g_i2l C dX8_seatByQuota_75 ?_
      refine g_nl (fun v15 ev15 => ?_)
      refine g_lstore_n C [(2, .long v15), (0, .ref (ad 120)), (1, .ref (ad 191))] dX8_seatByQuota_76 (by decide) rfl ?_
      refine g_iconst C 0 dX8_seatByQuota_77 (by decide) ?_
      refine g_istore C [(4, .int 0), (2, .long v15), (0, .ref (ad 120)), (1, .ref (ad 191))] dX8_seatByQuota_78 (by decide) rfl ?_
      have zy16 : (0 : Int32).toInt = 0 := by decide
      refine g_loop (α := Int32 × MI × ML) (fun a => (11 - a.1.toInt).toNat) (fun a => 0 ≤ a.1.toInt ∧ a.1.toInt ≤ 10 ∧ IC a.2.1 ∧ (∀ k, k ≠ 90 ∧ k ≠ 123 ∧ k ≠ 191 ∧ k ≠ 192 ∧ k ≠ 193 ∧ k ≠ 194 → a.2.1 k = M k) ∧ (∀ k, 258 ≤ k → a.2.2 k = L k)) (fun a => a.2.1) (fun a => a.2.2) (fun a => [(4, .int a.1), (2, .long v15), (0, .ref (ad 120)), (1, .ref (ad 191))]) (0, M_2, L_2) ⟨by show 0 ≤ (0 : Int32).toInt; omega, by show (0 : Int32).toInt ≤ 10; omega, hI, hF, hG⟩ rfl rfl rfl ?_
      rintro ⟨x4_80, M_80, L_80⟩ ⟨j80_0, j80_1, hI, hF, hG⟩ ih_80
      dsimp only at j80_0 j80_1 hI hF hG ih_80 ⊢
      refine g_iload C 0 dX8_seatByQuota_80 rfl ?_
      refine g_bipush C 10 dX8_seatByQuota_82 (by decide) ?_
      refine g_icmp_ge C 148 dX8_seatByQuota_84 (by decide) (fun c17 => ?_) (fun c17 => ?_)
      ·
        have f18 := fle (by decide : (10 : Int32).toInt = 10) rfl c17
        refine g_iconst C 1 dX8_seatByQuota_148 (by decide) ?_
        exact g_zret C hr (by first | rfl | (rcases hz with rfl | rfl <;> rfl)) ⟨(by first | exact Or.inl rfl | exact Or.inr rfl | exact hz), hI, hF, hG⟩ dX8_seatByQuota_149
      ·
        have f19 := fnle (by decide : (10 : Int32).toInt = 10) rfl c17
        refine g_aload_n C 3 dX8_seatByQuota_87 rfl ?_
        refine g_get C (.int (M_80 191 0)) 0 in_X8_seatByQuota_7 (List.mem_of_getElem? (i := 6) rfl) (by decide) (ce_rb ad cs _ _) rfl (by decide) rfl rfl dX8_seatByQuota_88 ?_
        refine g_ni (fun v20 ev20 => ?_)
        have tv20 := congrArg Int32.toInt ev20
        obtain ⟨bv20, dv20⟩ := (show rg 0 30 v20 from (by rw [ev20]; exact hI 191 0 (Or.inl rfl)))
        refine g_aload_n C 2 dX8_seatByQuota_91 rfl ?_
        refine g_get C (.ref (ad 88)) 0 in_X8_seatByQuota_8 (List.mem_of_getElem? (i := 1) rfl) (by decide) (ce_trans ad cs _ _) rfl (by decide) rfl rfl dX8_seatByQuota_92 ?_
        refine g_get C (.int (M_80 88 4)) 4 in_X8_seatByQuota_6 (List.mem_of_getElem? (i := 5) rfl) (by decide) (ce_poll ad cs _ _) rfl (by decide) rfl rfl dX8_seatByQuota_95 ?_
        refine g_ni (fun v21 ev21 => ?_)
        have tv21 := congrArg Int32.toInt ev21
        obtain ⟨bv21, dv21⟩ := (show rg 0 30 v21 from (by rw [ev21]; exact (hI 88 4).2 rfl))
        refine g_icmp_ge C 148 dX8_seatByQuota_98 (by decide) (fun c22 => ?_) (fun c22 => ?_)
        ·
          have f23 := fle rfl rfl c22
          refine g_iconst C 1 dX8_seatByQuota_148 (by decide) ?_
          exact g_zret C hr (by first | rfl | (rcases hz with rfl | rfl <;> rfl)) ⟨(by first | exact Or.inl rfl | exact Or.inr rfl | exact hz), hI, hF, hG⟩ dX8_seatByQuota_149
        ·
          have f24 := fnle rfl rfl c22
          refine g_aload_n C 2 dX8_seatByQuota_101 rfl ?_
          refine g_callVi C (n := 0) (As := []) (st := []) (s_X8_tallyWeights l D ad cs _ _ hI) gX8_seatByQuota_X8_tallyWeights rfl rfl rfl (by decide +kernel) ⟨Nat.le_of_ble_eq_true rfl, Nat.le_of_ble_eq_true rfl⟩ rfl (Nat.le_of_ble_eq_true rfl) ⟨Nat.zero_le _, Nat.zero_le _⟩ (by decide) (ce_trans ad cs _ _) rfl rfl dX8_seatByQuota_102 (fun r25 M26 L27 hr25 => ?_)
          obtain ⟨hr25, hI, hF1, hG1⟩ := hr25
          have hF : ∀ k, k ≠ 90 ∧ k ≠ 123 ∧ k ≠ 191 ∧ k ≠ 192 ∧ k ≠ 193 ∧ k ≠ 194 → M26 k = M k := fun k hk => by (rw [hF1 k (by omega)]; try exact hF k hk)
          have hG : ∀ k, 258 ≤ k → L27 k = L k := fun k hk => by (rw [hG1 k hk]; try exact hG k hk)
          have hz := hr25
          obtain ⟨zar25, zbr25⟩ := z_to hr25
          refine g_if_eq C 118 dX8_seatByQuota_105 (by decide) (fun c28 => ?_) (fun c28 => ?_)
          ·
            have f29 := feq rfl (by decide : (0 : Int32).toInt = 0) c28
            refine g_bipush C (-9) dX8_seatByQuota_118 (by decide) ?_
            refine g_istore C [(5, .int ((-9))), (4, .int x4_80), (2, .long v15), (0, .ref (ad 120)), (1, .ref (ad 191))] dX8_seatByQuota_120 (by decide) rfl ?_
            refine g_iload C 0 dX8_seatByQuota_122 rfl ?_
            refine g_bipush C (-9) dX8_seatByQuota_124 (by decide) ?_
            refine g_icmp_eq C 140 dX8_seatByQuota_126 (by decide) (fun _ => ?_) (fun c30 => absurd c30 (by decide))
            refine g_iconst C 0 dX8_seatByQuota_140 (by decide) ?_
            exact g_zret C hr (by first | rfl | (rcases hz with rfl | rfl <;> rfl)) ⟨(by first | exact Or.inl rfl | exact Or.inr rfl | exact hz), hI, hF, hG⟩ dX8_seatByQuota_141
          ·
            have f31 := fne rfl (by decide : (0 : Int32).toInt = 0) c28
            refine g_aload_n C 2 dX8_seatByQuota_108 rfl ?_
            refine g_get C (.ref (ad 88)) 0 in_X8_seatByQuota_8 (List.mem_of_getElem? (i := 1) rfl) (by decide) (ce_trans ad cs _ _) rfl (by decide) rfl rfl dX8_seatByQuota_109 ?_
            refine g_callVi C (n := 0) (As := []) (st := []) (s_X6_greatestIn l D ad cs _ _ hI) gX8_seatByQuota_X6_greatestIn rfl rfl rfl (by decide +kernel) ⟨Nat.le_of_ble_eq_true rfl, Nat.le_of_ble_eq_true rfl⟩ rfl (Nat.le_of_ble_eq_true rfl) ⟨Nat.zero_le _, Nat.zero_le _⟩ (by decide) (ce_poll ad cs _ _) rfl rfl dX8_seatByQuota_112 (fun r32 M33 L34 hr32 => ?_)
            obtain ⟨hq1, hq2, hr32⟩ := hr32
            obtain rfl := hq1.symm
            obtain rfl := hq2.symm
            obtain ⟨br32, dr32⟩ := hr32
            refine g_goto C 120 dX8_seatByQuota_115 (by decide) ?_
            refine g_istore C [(5, .int r32), (4, .int x4_80), (2, .long v15), (0, .ref (ad 120)), (1, .ref (ad 191))] dX8_seatByQuota_120 (by decide) rfl ?_
            refine g_iload C 0 dX8_seatByQuota_122 rfl ?_
            refine g_bipush C (-9) dX8_seatByQuota_124 (by decide) ?_
            refine g_icmp_eq C 140 dX8_seatByQuota_126 (by decide) (fun c35 => ?_) (fun c35 => ?_)
            ·
              have f36 := feq rfl (by decide : ((-9) : Int32).toInt = (-9)) c35
              refine g_iconst C 0 dX8_seatByQuota_140 (by decide) ?_
              exact g_zret C hr (by first | rfl | (rcases hz with rfl | rfl <;> rfl)) ⟨(by first | exact Or.inl rfl | exact Or.inr rfl | exact hz), hI, hF, hG⟩ dX8_seatByQuota_141
            ·
              have f37 := fne rfl (by decide : ((-9) : Int32).toInt = (-9)) c35
              refine g_aload_n C 3 dX8_seatByQuota_129 rfl ?_
              refine g_iload C 0 dX8_seatByQuota_130 rfl ?_
              refine g_lload_n C 2 dX8_seatByQuota_132 rfl ?_
              refine g_aload_n C 4 dX8_seatByQuota_133 rfl ?_
              refine g_callVi C (n := 3) (As := [.int r32, .long v15, .ref (ad 191)]) (st := []) (s_X8_endRound_b l D ad cs _ _ r32 v15 hI ⟨by omega, by omega⟩) gX8_seatByQuota_X8_endRound rfl rfl rfl (by decide +kernel) ⟨Nat.le_of_ble_eq_true rfl, Nat.le_of_ble_eq_true rfl⟩ rfl (Nat.le_of_ble_eq_true rfl) ⟨Nat.zero_le _, Nat.zero_le _⟩ (by decide) (ce_trans ad cs _ _) rfl rfl dX8_seatByQuota_134 (fun r38 M39 L40 hr38 => ?_)
              obtain ⟨hr38, hI, hF1, hG1⟩ := hr38
              have hF : ∀ k, k ≠ 90 ∧ k ≠ 123 ∧ k ≠ 191 ∧ k ≠ 192 ∧ k ≠ 193 ∧ k ≠ 194 → M39 k = M k := fun k hk => by (rw [hF1 k (by omega)]; try exact hF k hk)
              have hG : ∀ k, 258 ≤ k → L40 k = L k := fun k hk => by (rw [hG1 k hk]; try exact hG k hk)
              have hz := hr38
              obtain ⟨zar38, zbr38⟩ := z_to hr38
              refine g_if_ne C 142 dX8_seatByQuota_137 (by decide) (fun c41 => ?_) (fun c41 => ?_)
              ·
                have f42 := fne rfl (by decide : (0 : Int32).toInt = 0) c41
                obtain ⟨v43, ev43⟩ : ∃ y : Int32, y = x4_80 + 1 := ⟨_, rfl⟩
                try have fv43 := fadd rfl (by decide : (1 : Int32).toInt = 1) ev43 (by omega) (by omega)
                refine g_iinc C 1 v43 [(4, .int v43), (5, .int r32), (2, .long v15), (0, .ref (ad 120)), (1, .ref (ad 191))] dX8_seatByQuota_142 rfl (by rw [ev43]; rfl) (by decide) rfl ?_
                refine g_goto C 80 dX8_seatByQuota_145 (by decide) ?_
                refine g_lv [0, 2, 3, 4] [(4, .int v43), (2, .long v15), (0, .ref (ad 120)), (1, .ref (ad 191))] rfl ?_
                exact ih_80 (v43, M39, L40) ⟨by show 0 ≤ v43.toInt; omega, by show v43.toInt ≤ 10; omega, hI, hF, hG⟩ (by show (11 - v43.toInt).toNat < (11 - x4_80.toInt).toNat; omega)
              ·
                have f44 := feq rfl (by decide : (0 : Int32).toInt = 0) c41
                refine g_iconst C 0 dX8_seatByQuota_140 (by decide) ?_
                exact g_zret C hr (by first | rfl | (rcases hz with rfl | rfl <;> rfl)) ⟨(by first | exact Or.inl rfl | exact Or.inr rfl | exact hz), hI, hF, hG⟩ dX8_seatByQuota_141
    ·
      have f45 := fnle (by decide : (1 : Int32).toInt = 1) rfl c6
      refine g_lconst C 1 dX8_seatByQuota_52 (by decide) ?_
      refine g_goto C 76 dX8_seatByQuota_53 (by decide) ?_
      refine g_lstore_n C [(2, .long 1), (0, .ref (ad 120)), (1, .ref (ad 191))] dX8_seatByQuota_76 (by decide) rfl ?_
      refine g_iconst C 0 dX8_seatByQuota_77 (by decide) ?_
      refine g_istore C [(4, .int 0), (2, .long 1), (0, .ref (ad 120)), (1, .ref (ad 191))] dX8_seatByQuota_78 (by decide) rfl ?_
      have zy46 : (0 : Int32).toInt = 0 := by decide
      refine g_loop (α := Int32 × MI × ML) (fun a => (11 - a.1.toInt).toNat) (fun a => 0 ≤ a.1.toInt ∧ a.1.toInt ≤ 10 ∧ IC a.2.1 ∧ (∀ k, k ≠ 90 ∧ k ≠ 123 ∧ k ≠ 191 ∧ k ≠ 192 ∧ k ≠ 193 ∧ k ≠ 194 → a.2.1 k = M k) ∧ (∀ k, 258 ≤ k → a.2.2 k = L k)) (fun a => a.2.1) (fun a => a.2.2) (fun a => [(4, .int a.1), (2, .long 1), (0, .ref (ad 120)), (1, .ref (ad 191))]) (0, M_2, L_2) ⟨by show 0 ≤ (0 : Int32).toInt; omega, by show (0 : Int32).toInt ≤ 10; omega, hI, hF, hG⟩ rfl rfl rfl ?_
      rintro ⟨x4_80, M_80, L_80⟩ ⟨j80_0, j80_1, hI, hF, hG⟩ ih_80
      dsimp only at j80_0 j80_1 hI hF hG ih_80 ⊢
      refine g_iload C 0 dX8_seatByQuota_80 rfl ?_
      refine g_bipush C 10 dX8_seatByQuota_82 (by decide) ?_
      refine g_icmp_ge C 148 dX8_seatByQuota_84 (by decide) (fun c47 => ?_) (fun c47 => ?_)
      ·
        have f48 := fle (by decide : (10 : Int32).toInt = 10) rfl c47
        refine g_iconst C 1 dX8_seatByQuota_148 (by decide) ?_
        exact g_zret C hr (by first | rfl | (rcases hz with rfl | rfl <;> rfl)) ⟨(by first | exact Or.inl rfl | exact Or.inr rfl | exact hz), hI, hF, hG⟩ dX8_seatByQuota_149
      ·
        have f49 := fnle (by decide : (10 : Int32).toInt = 10) rfl c47
        refine g_aload_n C 3 dX8_seatByQuota_87 rfl ?_
        refine g_get C (.int (M_80 191 0)) 0 in_X8_seatByQuota_7 (List.mem_of_getElem? (i := 6) rfl) (by decide) (ce_rb ad cs _ _) rfl (by decide) rfl rfl dX8_seatByQuota_88 ?_
        refine g_ni (fun v50 ev50 => ?_)
        have tv50 := congrArg Int32.toInt ev50
        obtain ⟨bv50, dv50⟩ := (show rg 0 30 v50 from (by rw [ev50]; exact hI 191 0 (Or.inl rfl)))
        refine g_aload_n C 2 dX8_seatByQuota_91 rfl ?_
        refine g_get C (.ref (ad 88)) 0 in_X8_seatByQuota_8 (List.mem_of_getElem? (i := 1) rfl) (by decide) (ce_trans ad cs _ _) rfl (by decide) rfl rfl dX8_seatByQuota_92 ?_
        refine g_get C (.int (M_80 88 4)) 4 in_X8_seatByQuota_6 (List.mem_of_getElem? (i := 5) rfl) (by decide) (ce_poll ad cs _ _) rfl (by decide) rfl rfl dX8_seatByQuota_95 ?_
        refine g_ni (fun v51 ev51 => ?_)
        have tv51 := congrArg Int32.toInt ev51
        obtain ⟨bv51, dv51⟩ := (show rg 0 30 v51 from (by rw [ev51]; exact (hI 88 4).2 rfl))
        refine g_icmp_ge C 148 dX8_seatByQuota_98 (by decide) (fun c52 => ?_) (fun c52 => ?_)
        ·
          have f53 := fle rfl rfl c52
          refine g_iconst C 1 dX8_seatByQuota_148 (by decide) ?_
          exact g_zret C hr (by first | rfl | (rcases hz with rfl | rfl <;> rfl)) ⟨(by first | exact Or.inl rfl | exact Or.inr rfl | exact hz), hI, hF, hG⟩ dX8_seatByQuota_149
        ·
          have f54 := fnle rfl rfl c52
          refine g_aload_n C 2 dX8_seatByQuota_101 rfl ?_
          refine g_callVi C (n := 0) (As := []) (st := []) (s_X8_tallyWeights l D ad cs _ _ hI) gX8_seatByQuota_X8_tallyWeights rfl rfl rfl (by decide +kernel) ⟨Nat.le_of_ble_eq_true rfl, Nat.le_of_ble_eq_true rfl⟩ rfl (Nat.le_of_ble_eq_true rfl) ⟨Nat.zero_le _, Nat.zero_le _⟩ (by decide) (ce_trans ad cs _ _) rfl rfl dX8_seatByQuota_102 (fun r55 M56 L57 hr55 => ?_)
          obtain ⟨hr55, hI, hF1, hG1⟩ := hr55
          have hF : ∀ k, k ≠ 90 ∧ k ≠ 123 ∧ k ≠ 191 ∧ k ≠ 192 ∧ k ≠ 193 ∧ k ≠ 194 → M56 k = M k := fun k hk => by (rw [hF1 k (by omega)]; try exact hF k hk)
          have hG : ∀ k, 258 ≤ k → L57 k = L k := fun k hk => by (rw [hG1 k hk]; try exact hG k hk)
          have hz := hr55
          obtain ⟨zar55, zbr55⟩ := z_to hr55
          refine g_if_eq C 118 dX8_seatByQuota_105 (by decide) (fun c58 => ?_) (fun c58 => ?_)
          ·
            have f59 := feq rfl (by decide : (0 : Int32).toInt = 0) c58
            refine g_bipush C (-9) dX8_seatByQuota_118 (by decide) ?_
            refine g_istore C [(5, .int ((-9))), (4, .int x4_80), (2, .long 1), (0, .ref (ad 120)), (1, .ref (ad 191))] dX8_seatByQuota_120 (by decide) rfl ?_
            refine g_iload C 0 dX8_seatByQuota_122 rfl ?_
            refine g_bipush C (-9) dX8_seatByQuota_124 (by decide) ?_
            refine g_icmp_eq C 140 dX8_seatByQuota_126 (by decide) (fun _ => ?_) (fun c60 => absurd c60 (by decide))
            refine g_iconst C 0 dX8_seatByQuota_140 (by decide) ?_
            exact g_zret C hr (by first | rfl | (rcases hz with rfl | rfl <;> rfl)) ⟨(by first | exact Or.inl rfl | exact Or.inr rfl | exact hz), hI, hF, hG⟩ dX8_seatByQuota_141
          ·
            have f61 := fne rfl (by decide : (0 : Int32).toInt = 0) c58
            refine g_aload_n C 2 dX8_seatByQuota_108 rfl ?_
            refine g_get C (.ref (ad 88)) 0 in_X8_seatByQuota_8 (List.mem_of_getElem? (i := 1) rfl) (by decide) (ce_trans ad cs _ _) rfl (by decide) rfl rfl dX8_seatByQuota_109 ?_
            refine g_callVi C (n := 0) (As := []) (st := []) (s_X6_greatestIn l D ad cs _ _ hI) gX8_seatByQuota_X6_greatestIn rfl rfl rfl (by decide +kernel) ⟨Nat.le_of_ble_eq_true rfl, Nat.le_of_ble_eq_true rfl⟩ rfl (Nat.le_of_ble_eq_true rfl) ⟨Nat.zero_le _, Nat.zero_le _⟩ (by decide) (ce_poll ad cs _ _) rfl rfl dX8_seatByQuota_112 (fun r62 M63 L64 hr62 => ?_)
            obtain ⟨hq1, hq2, hr62⟩ := hr62
            obtain rfl := hq1.symm
            obtain rfl := hq2.symm
            obtain ⟨br62, dr62⟩ := hr62
            refine g_goto C 120 dX8_seatByQuota_115 (by decide) ?_
            refine g_istore C [(5, .int r62), (4, .int x4_80), (2, .long 1), (0, .ref (ad 120)), (1, .ref (ad 191))] dX8_seatByQuota_120 (by decide) rfl ?_
            refine g_iload C 0 dX8_seatByQuota_122 rfl ?_
            refine g_bipush C (-9) dX8_seatByQuota_124 (by decide) ?_
            refine g_icmp_eq C 140 dX8_seatByQuota_126 (by decide) (fun c65 => ?_) (fun c65 => ?_)
            ·
              have f66 := feq rfl (by decide : ((-9) : Int32).toInt = (-9)) c65
              refine g_iconst C 0 dX8_seatByQuota_140 (by decide) ?_
              exact g_zret C hr (by first | rfl | (rcases hz with rfl | rfl <;> rfl)) ⟨(by first | exact Or.inl rfl | exact Or.inr rfl | exact hz), hI, hF, hG⟩ dX8_seatByQuota_141
            ·
              have f67 := fne rfl (by decide : ((-9) : Int32).toInt = (-9)) c65
              refine g_aload_n C 3 dX8_seatByQuota_129 rfl ?_
              refine g_iload C 0 dX8_seatByQuota_130 rfl ?_
              refine g_lload_n C 2 dX8_seatByQuota_132 rfl ?_
              refine g_aload_n C 4 dX8_seatByQuota_133 rfl ?_
              refine g_callVi C (n := 3) (As := [.int r62, .long 1, .ref (ad 191)]) (st := []) (s_X8_endRound_b l D ad cs _ _ r62 1 hI ⟨by omega, by omega⟩) gX8_seatByQuota_X8_endRound rfl rfl rfl (by decide +kernel) ⟨Nat.le_of_ble_eq_true rfl, Nat.le_of_ble_eq_true rfl⟩ rfl (Nat.le_of_ble_eq_true rfl) ⟨Nat.zero_le _, Nat.zero_le _⟩ (by decide) (ce_trans ad cs _ _) rfl rfl dX8_seatByQuota_134 (fun r68 M69 L70 hr68 => ?_)
              obtain ⟨hr68, hI, hF1, hG1⟩ := hr68
              have hF : ∀ k, k ≠ 90 ∧ k ≠ 123 ∧ k ≠ 191 ∧ k ≠ 192 ∧ k ≠ 193 ∧ k ≠ 194 → M69 k = M k := fun k hk => by (rw [hF1 k (by omega)]; try exact hF k hk)
              have hG : ∀ k, 258 ≤ k → L70 k = L k := fun k hk => by (rw [hG1 k hk]; try exact hG k hk)
              have hz := hr68
              obtain ⟨zar68, zbr68⟩ := z_to hr68
              refine g_if_ne C 142 dX8_seatByQuota_137 (by decide) (fun c71 => ?_) (fun c71 => ?_)
              ·
                have f72 := fne rfl (by decide : (0 : Int32).toInt = 0) c71
                obtain ⟨v73, ev73⟩ : ∃ y : Int32, y = x4_80 + 1 := ⟨_, rfl⟩
                try have fv73 := fadd rfl (by decide : (1 : Int32).toInt = 1) ev73 (by omega) (by omega)
                refine g_iinc C 1 v73 [(4, .int v73), (5, .int r62), (2, .long 1), (0, .ref (ad 120)), (1, .ref (ad 191))] dX8_seatByQuota_142 rfl (by rw [ev73]; rfl) (by decide) rfl ?_
                refine g_goto C 80 dX8_seatByQuota_145 (by decide) ?_
                refine g_lv [0, 2, 3, 4] [(4, .int v73), (2, .long 1), (0, .ref (ad 120)), (1, .ref (ad 191))] rfl ?_
                exact ih_80 (v73, M69, L70) ⟨by show 0 ≤ v73.toInt; omega, by show v73.toInt ≤ 10; omega, hI, hF, hG⟩ (by show (11 - v73.toInt).toNat < (11 - x4_80.toInt).toNat; omega)
              ·
                have f74 := feq rfl (by decide : (0 : Int32).toInt = 0) c71
                refine g_iconst C 0 dX8_seatByQuota_140 (by decide) ?_
                exact g_zret C hr (by first | rfl | (rcases hz with rfl | rfl <;> rfl)) ⟨(by first | exact Or.inl rfl | exact Or.inr rfl | exact hz), hI, hF, hG⟩ dX8_seatByQuota_141
  ·
    have f75 := fnle rfl rfl c3
    refine g_aload_n C 1 dX8_seatByQuota_13 rfl ?_
    refine g_get C (.ref (ad 121)) 1 in_X8_seatByQuota_8 (List.mem_of_getElem? (i := 3) rfl) (by decide) (ce_trans ad cs _ _) rfl (by decide) rfl rfl dX8_seatByQuota_14 ?_
    refine g_iload_n C 0 dX8_seatByQuota_17 rfl ?_
    refine g_aload_n C 1 dX8_seatByQuota_18 rfl ?_
    refine g_get C (.ref (ad 88)) 0 in_X8_seatByQuota_8 (List.mem_of_getElem? (i := 1) rfl) (by decide) (ce_trans ad cs _ _) rfl (by decide) rfl rfl dX8_seatByQuota_19 ?_
    refine g_iload_n C 0 dX8_seatByQuota_22 rfl ?_
    refine g_callVi C (n := 1) (As := [.int x2_2]) (st := [.int x2_2, .ref (ad 121)]) (s_X6_papersOf l D ad cs _ _ x2_2 hI ⟨by omega, by omega⟩) gX8_seatByQuota_X6_papersOf rfl rfl rfl (by decide +kernel) ⟨Nat.le_of_ble_eq_true rfl, Nat.le_of_ble_eq_true rfl⟩ rfl (Nat.le_of_ble_eq_true rfl) ⟨Nat.zero_le _, Nat.zero_le _⟩ (by decide) (ce_poll ad cs _ _) rfl rfl dX8_seatByQuota_23 (fun r76 M77 L78 hr76 => ?_)
    obtain ⟨hq1, hq2, hr76⟩ := hr76
    obtain rfl := hq1.symm
    obtain rfl := hq2.symm
    refine g_i2l C dX8_seatByQuota_26 ?_
    refine g_nl (fun v79 ev79 => ?_)
    refine g_last C (by decide) (ce_tup ad cs _ _) (by rw [sJ_k]; rfl) (fin' (n := 40) rfl (by omega) (by omega)) dX8_seatByQuota_27 ?_
    refine g_nmL (fun L80 hL80 => ?_)
    have hG : ∀ k, 258 ≤ k → L80 k = L k := fun k hk => by (rw [hL80, sJ_n _ _ _ (by omega)]; try exact hG k hk)
    refine g_aload_n C 1 dX8_seatByQuota_28 rfl ?_
    refine g_get C (.ref (ad 122)) 2 in_X8_seatByQuota_8 (List.mem_of_getElem? (i := 4) rfl) (by decide) (ce_trans ad cs _ _) rfl (by decide) rfl rfl dX8_seatByQuota_29 ?_
    refine g_iload_n C 0 dX8_seatByQuota_32 rfl ?_
    refine g_lconst C 1 dX8_seatByQuota_33 (by decide) ?_
    refine g_last C (by decide) (ce_tlow ad cs _ _) (by rw [sJ_k]; rfl) (fin' (n := 40) rfl (by omega) (by omega)) dX8_seatByQuota_34 ?_
    refine g_nmL (fun L81 hL81 => ?_)
    have hG : ∀ k, 258 ≤ k → L81 k = L k := fun k hk => by (rw [hL81, sJ_n _ _ _ (by omega)]; try exact hG k hk)
    obtain ⟨v82, ev82⟩ : ∃ y : Int32, y = x2_2 + 1 := ⟨_, rfl⟩
    try have fv82 := fadd rfl (by decide : (1 : Int32).toInt = 1) ev82 (by omega) (by omega)
    refine g_iinc C 0 v82 [(2, .int v82), (0, .ref (ad 120)), (1, .ref (ad 191))] dX8_seatByQuota_35 rfl (by rw [ev82]; rfl) (by decide) rfl ?_
    refine g_goto C 2 dX8_seatByQuota_38 (by decide) ?_
    exact ih_2 (v82, M_2, L81) ⟨by show 0 ≤ v82.toInt; omega, by show v82.toInt ≤ 40; omega, hI, hF, hG⟩ (by show (41 - v82.toInt).toNat < (41 - x2_2.toInt).toNat; omega)
