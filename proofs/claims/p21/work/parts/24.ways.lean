theorem dX9_addBallot_0 : decode cX9_addBallot 0 = .ok (.aload_n 0, 1) := by decide +kernel
theorem dX9_addBallot_1 : decode cX9_addBallot 1 = .ok (.getfield 23, 3) := by decide +kernel
theorem in_X9_addBallot_9 : ∀ w ∈ u_ws RX9 TX9 4, w ∈ wsX9_addBallot := fun _ h => List.mem_cons_of_mem _ (List.mem_append_left _ (List.mem_append_left _ (List.mem_append_left _ (List.mem_append_right _ h))))
theorem dX9_addBallot_4 : decode cX9_addBallot 4 = .ok (.getfield 77, 3) := by decide +kernel
theorem in_X9_addBallot_6 : ∀ w ∈ u_ws RX6 TX6 8, w ∈ wsX9_addBallot := fun _ h => List.mem_cons_of_mem _ (List.mem_append_left _ (List.mem_append_left _ (List.mem_append_right _ h)))
theorem dX9_addBallot_7 : decode cX9_addBallot 7 = .ok (.getfield 81, 3) := by decide +kernel
theorem in_X9_addBallot_2 : ∀ w ∈ u_ws RX2 TX2 2, w ∈ wsX9_addBallot := fun _ h => List.mem_cons_of_mem _ (List.mem_append_left _ (List.mem_append_right _ h))
theorem dX9_addBallot_10 : decode cX9_addBallot 10 = .ok (.istore_n 2, 1) := by decide +kernel
theorem dX9_addBallot_11 : decode cX9_addBallot 11 = .ok (.aload_n 0, 1) := by decide +kernel
theorem dX9_addBallot_12 : decode cX9_addBallot 12 = .ok (.getfield 23, 3) := by decide +kernel
theorem dX9_addBallot_15 : decode cX9_addBallot 15 = .ok (.iload_n 1, 1) := by decide +kernel
theorem dX9_addBallot_16 : decode cX9_addBallot 16 = .ok (.invokevirtual 84, 3) := by decide +kernel
set_option maxRecDepth 20000 in
theorem ggX9_addBallot_X6_papersOf : GoodIn wsX9_addBallot wsX6_papersOf := (gk_code 12 rfl (gk_fieldLink 13 rfl (gk_fieldLink 14 rfl (gk_fieldLink 15 rfl (gk_laysFinal 27 rfl (gk_laysFinal 28 rfl (gk_laysFinal 29 rfl (gk_lays 30 rfl (gk_lays 31 rfl (gk_laysFinal 32 rfl (gk_laysFinal 33 rfl (gk_laysFinal 34 rfl (gk_lays 37 rfl (gk_laysFinal 38 rfl (gk_laysFinal 39 rfl (gk_laysFinal 40 rfl (gk_laysFinal 41 rfl (gn))))))))))))))))))
set_option maxRecDepth 20000 in
theorem gX9_addBallot_X6_papersOf : GoodIn wsX9_addBallot (wsV RX9 84 RX6 yX6_papersOf wsX6_papersOf) := goodIn_app (gk_methodLink 8 rfl (gk_instanceMethod 9 rfl (gk_selects 10 rfl (gk_initialized 11 rfl (gn))))) ggX9_addBallot_X6_papersOf
theorem dX9_addBallot_19 : decode cX9_addBallot 19 = .ok (.istore_n 3, 1) := by decide +kernel
theorem dX9_addBallot_20 : decode cX9_addBallot 20 = .ok (.iconst 0, 1) := by decide +kernel
theorem dX9_addBallot_21 : decode cX9_addBallot 21 = .ok (.istore 4, 2) := by decide +kernel
theorem dX9_addBallot_23 : decode cX9_addBallot 23 = .ok (.iload 4, 2) := by decide +kernel
theorem dX9_addBallot_25 : decode cX9_addBallot 25 = .ok (.iload_n 2, 1) := by decide +kernel
theorem dX9_addBallot_26 : decode cX9_addBallot 26 = .ok (.if_icmp .ge 37, 3) := by decide +kernel
theorem dX9_addBallot_63 : decode cX9_addBallot 63 = .ok (.iconst 0, 1) := by decide +kernel
theorem dX9_addBallot_64 : decode cX9_addBallot 64 = .ok (.istore 4, 2) := by decide +kernel
theorem dX9_addBallot_66 : decode cX9_addBallot 66 = .ok (.iload 4, 2) := by decide +kernel
theorem dX9_addBallot_68 : decode cX9_addBallot 68 = .ok (.iload_n 2, 1) := by decide +kernel
theorem dX9_addBallot_69 : decode cX9_addBallot 69 = .ok (.if_icmp .ge 59, 3) := by decide +kernel
theorem dX9_addBallot_128 : decode cX9_addBallot 128 = .ok (.return_, 1) := by decide +kernel
theorem dX9_addBallot_72 : decode cX9_addBallot 72 = .ok (.iconst 0, 1) := by decide +kernel
theorem dX9_addBallot_73 : decode cX9_addBallot 73 = .ok (.istore 5, 2) := by decide +kernel
theorem dX9_addBallot_75 : decode cX9_addBallot 75 = .ok (.iload 5, 2) := by decide +kernel
theorem dX9_addBallot_77 : decode cX9_addBallot 77 = .ok (.iload_n 2, 1) := by decide +kernel
theorem dX9_addBallot_78 : decode cX9_addBallot 78 = .ok (.if_icmp .ge 44, 3) := by decide +kernel
theorem dX9_addBallot_122 : decode cX9_addBallot 122 = .ok (.iinc 4 1, 3) := by decide +kernel
theorem dX9_addBallot_125 : decode cX9_addBallot 125 = .ok (.goto (-59), 3) := by decide +kernel
theorem dX9_addBallot_81 : decode cX9_addBallot 81 = .ok (.aload_n 0, 1) := by decide +kernel
theorem dX9_addBallot_82 : decode cX9_addBallot 82 = .ok (.getfield 17, 3) := by decide +kernel
theorem dX9_addBallot_85 : decode cX9_addBallot 85 = .ok (.iload 4, 2) := by decide +kernel
theorem dX9_addBallot_87 : decode cX9_addBallot 87 = .ok (.aaload, 1) := by decide +kernel
theorem dX9_addBallot_88 : decode cX9_addBallot 88 = .ok (.iload 5, 2) := by decide +kernel
theorem dX9_addBallot_90 : decode cX9_addBallot 90 = .ok (.dup2, 1) := by decide +kernel
theorem dX9_addBallot_91 : decode cX9_addBallot 91 = .ok (.iaload, 1) := by decide +kernel
theorem dX9_addBallot_92 : decode cX9_addBallot 92 = .ok (.aload_n 0, 1) := by decide +kernel
theorem dX9_addBallot_93 : decode cX9_addBallot 93 = .ok (.getfield 9, 3) := by decide +kernel
theorem dX9_addBallot_96 : decode cX9_addBallot 96 = .ok (.iload 4, 2) := by decide +kernel
theorem dX9_addBallot_98 : decode cX9_addBallot 98 = .ok (.iaload, 1) := by decide +kernel
theorem dX9_addBallot_99 : decode cX9_addBallot 99 = .ok (.aload_n 0, 1) := by decide +kernel
theorem dX9_addBallot_100 : decode cX9_addBallot 100 = .ok (.getfield 9, 3) := by decide +kernel
theorem dX9_addBallot_103 : decode cX9_addBallot 103 = .ok (.iload 5, 2) := by decide +kernel
theorem dX9_addBallot_105 : decode cX9_addBallot 105 = .ok (.iaload, 1) := by decide +kernel
theorem dX9_addBallot_106 : decode cX9_addBallot 106 = .ok (.if_icmp .ge 7, 3) := by decide +kernel
theorem dX9_addBallot_113 : decode cX9_addBallot 113 = .ok (.iconst 0, 1) := by decide +kernel
theorem dX9_addBallot_114 : decode cX9_addBallot 114 = .ok (.iadd, 1) := by decide +kernel
theorem dX9_addBallot_115 : decode cX9_addBallot 115 = .ok (.iastore, 1) := by decide +kernel
theorem dX9_addBallot_116 : decode cX9_addBallot 116 = .ok (.iinc 5 1, 3) := by decide +kernel
theorem dX9_addBallot_119 : decode cX9_addBallot 119 = .ok (.goto (-44), 3) := by decide +kernel
theorem dX9_addBallot_109 : decode cX9_addBallot 109 = .ok (.iload_n 3, 1) := by decide +kernel
theorem dX9_addBallot_110 : decode cX9_addBallot 110 = .ok (.goto 4, 3) := by decide +kernel
theorem dX9_addBallot_29 : decode cX9_addBallot 29 = .ok (.aload_n 0, 1) := by decide +kernel
theorem dX9_addBallot_30 : decode cX9_addBallot 30 = .ok (.getfield 9, 3) := by decide +kernel
theorem dX9_addBallot_33 : decode cX9_addBallot 33 = .ok (.iload 4, 2) := by decide +kernel
theorem dX9_addBallot_35 : decode cX9_addBallot 35 = .ok (.aload_n 0, 1) := by decide +kernel
theorem dX9_addBallot_36 : decode cX9_addBallot 36 = .ok (.getfield 23, 3) := by decide +kernel
theorem dX9_addBallot_39 : decode cX9_addBallot 39 = .ok (.getfield 87, 3) := by decide +kernel
theorem dX9_addBallot_42 : decode cX9_addBallot 42 = .ok (.aload_n 0, 1) := by decide +kernel
theorem dX9_addBallot_43 : decode cX9_addBallot 43 = .ok (.getfield 23, 3) := by decide +kernel
theorem dX9_addBallot_46 : decode cX9_addBallot 46 = .ok (.getfield 91, 3) := by decide +kernel
theorem dX9_addBallot_49 : decode cX9_addBallot 49 = .ok (.iload_n 1, 1) := by decide +kernel
theorem dX9_addBallot_50 : decode cX9_addBallot 50 = .ok (.iaload, 1) := by decide +kernel
theorem dX9_addBallot_51 : decode cX9_addBallot 51 = .ok (.iload 4, 2) := by decide +kernel
theorem dX9_addBallot_53 : decode cX9_addBallot 53 = .ok (.invokevirtual 94, 3) := by decide +kernel
set_option maxRecDepth 20000 in
theorem ggX9_addBallot_X0_placeOf : GoodIn wsX9_addBallot wsX0_placeOf := (gk_code 20 rfl (gk_fieldLink 21 rfl (gk_fieldLink 22 rfl (gk_lays 37 rfl (gk_laysFinal 38 rfl (gk_laysFinal 39 rfl (gk_laysFinal 40 rfl (gk_laysFinal 41 rfl (gn)))))))))
set_option maxRecDepth 20000 in
theorem gX9_addBallot_X0_placeOf : GoodIn wsX9_addBallot (wsV RX9 94 RX0 yX0_placeOf wsX0_placeOf) := goodIn_app (gk_methodLink 16 rfl (gk_instanceMethod 17 rfl (gk_selects 18 rfl (gk_initialized 19 rfl (gn))))) ggX9_addBallot_X0_placeOf
theorem dX9_addBallot_56 : decode cX9_addBallot 56 = .ok (.iastore, 1) := by decide +kernel
theorem dX9_addBallot_57 : decode cX9_addBallot 57 = .ok (.iinc 4 1, 3) := by decide +kernel
theorem dX9_addBallot_60 : decode cX9_addBallot 60 = .ok (.goto (-37), 3) := by decide +kernel
theorem dX9_compareAll_0 : decode cX9_compareAll 0 = .ok (.iconst 0, 1) := by decide +kernel
theorem dX9_compareAll_1 : decode cX9_compareAll 1 = .ok (.istore_n 1, 1) := by decide +kernel
theorem dX9_compareAll_2 : decode cX9_compareAll 2 = .ok (.iload_n 1, 1) := by decide +kernel
theorem dX9_compareAll_3 : decode cX9_compareAll 3 = .ok (.bipush 10, 2) := by decide +kernel
theorem dX9_compareAll_5 : decode cX9_compareAll 5 = .ok (.if_icmp .ge 32, 3) := by decide +kernel
theorem dX9_compareAll_37 : decode cX9_compareAll 37 = .ok (.iconst 0, 1) := by decide +kernel
theorem dX9_compareAll_38 : decode cX9_compareAll 38 = .ok (.istore_n 1, 1) := by decide +kernel
theorem dX9_compareAll_39 : decode cX9_compareAll 39 = .ok (.iload_n 1, 1) := by decide +kernel
theorem dX9_compareAll_40 : decode cX9_compareAll 40 = .ok (.aload_n 0, 1) := by decide +kernel
theorem dX9_compareAll_41 : decode cX9_compareAll 41 = .ok (.getfield 23, 3) := by decide +kernel
theorem in_X9_compareAll_9 : ∀ w ∈ u_ws RX9 TX9 4, w ∈ wsX9_compareAll := fun _ h => List.mem_cons_of_mem _ (List.mem_append_left _ (List.mem_append_left _ (List.mem_append_left _ (List.mem_append_right _ h))))
theorem dX9_compareAll_44 : decode cX9_compareAll 44 = .ok (.getfield 71, 3) := by decide +kernel
theorem in_X9_compareAll_6 : ∀ w ∈ u_ws RX6 TX6 8, w ∈ wsX9_compareAll := fun _ h => List.mem_cons_of_mem _ (List.mem_append_left _ (List.mem_append_left _ (List.mem_append_right _ h)))
theorem dX9_compareAll_47 : decode cX9_compareAll 47 = .ok (.if_icmp .ge 14, 3) := by decide +kernel
theorem dX9_compareAll_61 : decode cX9_compareAll 61 = .ok (.return_, 1) := by decide +kernel
theorem dX9_compareAll_50 : decode cX9_compareAll 50 = .ok (.aload_n 0, 1) := by decide +kernel
theorem dX9_compareAll_51 : decode cX9_compareAll 51 = .ok (.iload_n 1, 1) := by decide +kernel
theorem dX9_compareAll_52 : decode cX9_compareAll 52 = .ok (.invokevirtual 74, 3) := by decide +kernel
set_option maxRecDepth 20000 in
theorem ggX9_compareAll_X9_addBallot : GoodIn wsX9_compareAll wsX9_addBallot := (gk_code 8 rfl (gk_fieldLink 2 rfl (gk_fieldLink 9 rfl (gk_fieldLink 10 rfl (gk_fieldLink 11 rfl (gk_fieldLink 12 rfl (gk_fieldLink 13 rfl (gk_fieldLink 1 rfl (gk_methodLink 14 rfl (gk_instanceMethod 15 rfl (gk_selects 16 rfl (gk_initialized 17 rfl (gk_code 18 rfl (gk_fieldLink 19 rfl (gk_fieldLink 20 rfl (gk_fieldLink 21 rfl (gk_methodLink 22 rfl (gk_instanceMethod 23 rfl (gk_selects 24 rfl (gk_initialized 25 rfl (gk_code 26 rfl (gk_fieldLink 27 rfl (gk_fieldLink 28 rfl (gk_laysFinal 29 rfl (gk_laysFinal 30 rfl (gk_laysFinal 31 rfl (gk_laysFinal 32 rfl (gk_laysFinal 33 rfl (gk_laysFinal 34 rfl (gk_laysFinal 35 rfl (gk_lays 36 rfl (gk_lays 37 rfl (gk_laysFinal 38 rfl (gk_laysFinal 39 rfl (gk_laysFinal 40 rfl (gk_lays 41 rfl (gk_laysFinal 42 rfl (gk_lays 43 rfl (gk_laysFinal 44 rfl (gk_laysFinal 45 rfl (gk_laysFinal 46 rfl (gk_laysFinal 47 rfl (gn)))))))))))))))))))))))))))))))))))))))))))
set_option maxRecDepth 20000 in
theorem gX9_compareAll_X9_addBallot : GoodIn wsX9_compareAll (wsV RX9 74 RX9 yX9_addBallot wsX9_addBallot) := goodIn_app (gk_methodLink 4 rfl (gk_instanceMethod 5 rfl (gk_selects 6 rfl (gk_initialized 7 rfl (gn))))) ggX9_compareAll_X9_addBallot
theorem dX9_compareAll_55 : decode cX9_compareAll 55 = .ok (.iinc 1 1, 3) := by decide +kernel
theorem dX9_compareAll_58 : decode cX9_compareAll 58 = .ok (.goto (-19), 3) := by decide +kernel
theorem dX9_compareAll_8 : decode cX9_compareAll 8 = .ok (.iconst 0, 1) := by decide +kernel
theorem dX9_compareAll_9 : decode cX9_compareAll 9 = .ok (.istore_n 2, 1) := by decide +kernel
theorem dX9_compareAll_10 : decode cX9_compareAll 10 = .ok (.iload_n 2, 1) := by decide +kernel
theorem dX9_compareAll_11 : decode cX9_compareAll 11 = .ok (.bipush 10, 2) := by decide +kernel
theorem dX9_compareAll_13 : decode cX9_compareAll 13 = .ok (.if_icmp .ge 18, 3) := by decide +kernel
theorem dX9_compareAll_31 : decode cX9_compareAll 31 = .ok (.iinc 1 1, 3) := by decide +kernel
theorem dX9_compareAll_34 : decode cX9_compareAll 34 = .ok (.goto (-32), 3) := by decide +kernel
theorem dX9_compareAll_16 : decode cX9_compareAll 16 = .ok (.aload_n 0, 1) := by decide +kernel
theorem dX9_compareAll_17 : decode cX9_compareAll 17 = .ok (.getfield 17, 3) := by decide +kernel
theorem dX9_compareAll_20 : decode cX9_compareAll 20 = .ok (.iload_n 1, 1) := by decide +kernel
theorem dX9_compareAll_21 : decode cX9_compareAll 21 = .ok (.aaload, 1) := by decide +kernel
theorem dX9_compareAll_22 : decode cX9_compareAll 22 = .ok (.iload_n 2, 1) := by decide +kernel
theorem dX9_compareAll_23 : decode cX9_compareAll 23 = .ok (.iconst 0, 1) := by decide +kernel
theorem dX9_compareAll_24 : decode cX9_compareAll 24 = .ok (.iastore, 1) := by decide +kernel
theorem dX9_compareAll_25 : decode cX9_compareAll 25 = .ok (.iinc 2 1, 3) := by decide +kernel
theorem dX9_compareAll_28 : decode cX9_compareAll 28 = .ok (.goto (-18), 3) := by decide +kernel
theorem dX9_beginWays_0 : decode cX9_beginWays 0 = .ok (.aload_n 0, 1) := by decide +kernel
theorem dX9_beginWays_1 : decode cX9_beginWays 1 = .ok (.getfield 23, 3) := by decide +kernel
theorem in_X9_beginWays_9 : ∀ w ∈ u_ws RX9 TX9 4, w ∈ wsX9_beginWays := fun _ h => List.mem_cons_of_mem _ (List.mem_append_left _ (List.mem_append_left _ (List.mem_append_right _ h)))
theorem dX9_beginWays_4 : decode cX9_beginWays 4 = .ok (.getfield 77, 3) := by decide +kernel
theorem in_X9_beginWays_6 : ∀ w ∈ u_ws RX6 TX6 8, w ∈ wsX9_beginWays := fun _ h => List.mem_cons_of_mem _ (List.mem_append_left _ (List.mem_append_right _ h))
theorem dX9_beginWays_7 : decode cX9_beginWays 7 = .ok (.getfield 81, 3) := by decide +kernel
theorem in_X9_beginWays_2 : ∀ w ∈ u_ws RX2 TX2 2, w ∈ wsX9_beginWays := fun _ h => List.mem_cons_of_mem _ (List.mem_append_right _ h)
theorem dX9_beginWays_10 : decode cX9_beginWays 10 = .ok (.istore_n 1, 1) := by decide +kernel
theorem dX9_beginWays_11 : decode cX9_beginWays 11 = .ok (.iconst 0, 1) := by decide +kernel
theorem dX9_beginWays_12 : decode cX9_beginWays 12 = .ok (.istore_n 2, 1) := by decide +kernel
theorem dX9_beginWays_13 : decode cX9_beginWays 13 = .ok (.iload_n 2, 1) := by decide +kernel
theorem dX9_beginWays_14 : decode cX9_beginWays 14 = .ok (.iload_n 1, 1) := by decide +kernel
theorem dX9_beginWays_15 : decode cX9_beginWays 15 = .ok (.if_icmp .ge 61, 3) := by decide +kernel
theorem dX9_beginWays_76 : decode cX9_beginWays 76 = .ok (.return_, 1) := by decide +kernel
theorem dX9_beginWays_18 : decode cX9_beginWays 18 = .ok (.iconst 0, 1) := by decide +kernel
theorem dX9_beginWays_19 : decode cX9_beginWays 19 = .ok (.istore_n 3, 1) := by decide +kernel
theorem dX9_beginWays_20 : decode cX9_beginWays 20 = .ok (.iload_n 3, 1) := by decide +kernel
theorem dX9_beginWays_21 : decode cX9_beginWays 21 = .ok (.iload_n 1, 1) := by decide +kernel
theorem dX9_beginWays_22 : decode cX9_beginWays 22 = .ok (.if_icmp .ge 48, 3) := by decide +kernel
theorem dX9_beginWays_70 : decode cX9_beginWays 70 = .ok (.iinc 2 1, 3) := by decide +kernel
theorem dX9_beginWays_73 : decode cX9_beginWays 73 = .ok (.goto (-60), 3) := by decide +kernel
theorem dX9_beginWays_25 : decode cX9_beginWays 25 = .ok (.aload_n 0, 1) := by decide +kernel
theorem dX9_beginWays_26 : decode cX9_beginWays 26 = .ok (.getfield 20, 3) := by decide +kernel
theorem dX9_beginWays_29 : decode cX9_beginWays 29 = .ok (.iload_n 2, 1) := by decide +kernel
theorem dX9_beginWays_30 : decode cX9_beginWays 30 = .ok (.aaload, 1) := by decide +kernel
theorem dX9_beginWays_31 : decode cX9_beginWays 31 = .ok (.iload_n 3, 1) := by decide +kernel
theorem dX9_beginWays_32 : decode cX9_beginWays 32 = .ok (.aload_n 0, 1) := by decide +kernel
theorem dX9_beginWays_33 : decode cX9_beginWays 33 = .ok (.getfield 17, 3) := by decide +kernel
theorem dX9_beginWays_36 : decode cX9_beginWays 36 = .ok (.iload_n 2, 1) := by decide +kernel
theorem dX9_beginWays_37 : decode cX9_beginWays 37 = .ok (.aaload, 1) := by decide +kernel
theorem dX9_beginWays_38 : decode cX9_beginWays 38 = .ok (.iload_n 3, 1) := by decide +kernel
theorem dX9_beginWays_39 : decode cX9_beginWays 39 = .ok (.iaload, 1) := by decide +kernel
theorem dX9_beginWays_40 : decode cX9_beginWays 40 = .ok (.aload_n 0, 1) := by decide +kernel
theorem dX9_beginWays_41 : decode cX9_beginWays 41 = .ok (.getfield 17, 3) := by decide +kernel
theorem dX9_beginWays_44 : decode cX9_beginWays 44 = .ok (.iload_n 3, 1) := by decide +kernel
theorem dX9_beginWays_45 : decode cX9_beginWays 45 = .ok (.aaload, 1) := by decide +kernel
theorem dX9_beginWays_46 : decode cX9_beginWays 46 = .ok (.iload_n 2, 1) := by decide +kernel
theorem dX9_beginWays_47 : decode cX9_beginWays 47 = .ok (.iaload, 1) := by decide +kernel
theorem dX9_beginWays_48 : decode cX9_beginWays 48 = .ok (.if_icmp .le 14, 3) := by decide +kernel
theorem dX9_beginWays_62 : decode cX9_beginWays 62 = .ok (.iconst 0, 1) := by decide +kernel
theorem dX9_beginWays_63 : decode cX9_beginWays 63 = .ok (.iastore, 1) := by decide +kernel
theorem dX9_beginWays_64 : decode cX9_beginWays 64 = .ok (.iinc 3 1, 3) := by decide +kernel
theorem dX9_beginWays_67 : decode cX9_beginWays 67 = .ok (.goto (-47), 3) := by decide +kernel
theorem dX9_beginWays_51 : decode cX9_beginWays 51 = .ok (.aload_n 0, 1) := by decide +kernel
theorem dX9_beginWays_52 : decode cX9_beginWays 52 = .ok (.getfield 17, 3) := by decide +kernel
theorem dX9_beginWays_55 : decode cX9_beginWays 55 = .ok (.iload_n 2, 1) := by decide +kernel
theorem dX9_beginWays_56 : decode cX9_beginWays 56 = .ok (.aaload, 1) := by decide +kernel
theorem dX9_beginWays_57 : decode cX9_beginWays 57 = .ok (.iload_n 3, 1) := by decide +kernel
theorem dX9_beginWays_58 : decode cX9_beginWays 58 = .ok (.iaload, 1) := by decide +kernel
theorem dX9_beginWays_59 : decode cX9_beginWays 59 = .ok (.goto 4, 3) := by decide +kernel
theorem dX9_strengthenWays_0 : decode cX9_strengthenWays 0 = .ok (.aload_n 0, 1) := by decide +kernel
theorem dX9_strengthenWays_1 : decode cX9_strengthenWays 1 = .ok (.getfield 23, 3) := by decide +kernel
theorem in_X9_strengthenWays_9 : ∀ w ∈ u_ws RX9 TX9 4, w ∈ wsX9_strengthenWays := fun _ h => List.mem_cons_of_mem _ (List.mem_append_left _ (List.mem_append_left _ (List.mem_append_right _ h)))
theorem dX9_strengthenWays_4 : decode cX9_strengthenWays 4 = .ok (.getfield 77, 3) := by decide +kernel
theorem in_X9_strengthenWays_6 : ∀ w ∈ u_ws RX6 TX6 8, w ∈ wsX9_strengthenWays := fun _ h => List.mem_cons_of_mem _ (List.mem_append_left _ (List.mem_append_right _ h))
theorem dX9_strengthenWays_7 : decode cX9_strengthenWays 7 = .ok (.getfield 81, 3) := by decide +kernel
theorem in_X9_strengthenWays_2 : ∀ w ∈ u_ws RX2 TX2 2, w ∈ wsX9_strengthenWays := fun _ h => List.mem_cons_of_mem _ (List.mem_append_right _ h)
theorem dX9_strengthenWays_10 : decode cX9_strengthenWays 10 = .ok (.istore_n 1, 1) := by decide +kernel
theorem dX9_strengthenWays_11 : decode cX9_strengthenWays 11 = .ok (.iconst 0, 1) := by decide +kernel
theorem dX9_strengthenWays_12 : decode cX9_strengthenWays 12 = .ok (.istore_n 2, 1) := by decide +kernel
theorem dX9_strengthenWays_13 : decode cX9_strengthenWays 13 = .ok (.iload_n 2, 1) := by decide +kernel
theorem dX9_strengthenWays_14 : decode cX9_strengthenWays 14 = .ok (.iload_n 1, 1) := by decide +kernel
theorem dX9_strengthenWays_15 : decode cX9_strengthenWays 15 = .ok (.if_icmp .ge 78, 3) := by decide +kernel
theorem dX9_strengthenWays_93 : decode cX9_strengthenWays 93 = .ok (.return_, 1) := by decide +kernel
theorem dX9_strengthenWays_18 : decode cX9_strengthenWays 18 = .ok (.iconst 0, 1) := by decide +kernel
theorem dX9_strengthenWays_19 : decode cX9_strengthenWays 19 = .ok (.istore_n 3, 1) := by decide +kernel
theorem dX9_strengthenWays_20 : decode cX9_strengthenWays 20 = .ok (.iload_n 3, 1) := by decide +kernel
theorem dX9_strengthenWays_21 : decode cX9_strengthenWays 21 = .ok (.iload_n 1, 1) := by decide +kernel
theorem dX9_strengthenWays_22 : decode cX9_strengthenWays 22 = .ok (.if_icmp .ge 65, 3) := by decide +kernel
theorem dX9_strengthenWays_87 : decode cX9_strengthenWays 87 = .ok (.iinc 2 1, 3) := by decide +kernel
theorem dX9_strengthenWays_90 : decode cX9_strengthenWays 90 = .ok (.goto (-77), 3) := by decide +kernel
theorem dX9_strengthenWays_25 : decode cX9_strengthenWays 25 = .ok (.iconst 0, 1) := by decide +kernel
theorem dX9_strengthenWays_26 : decode cX9_strengthenWays 26 = .ok (.istore 4, 2) := by decide +kernel
theorem dX9_strengthenWays_28 : decode cX9_strengthenWays 28 = .ok (.iload 4, 2) := by decide +kernel
theorem dX9_strengthenWays_30 : decode cX9_strengthenWays 30 = .ok (.iload_n 1, 1) := by decide +kernel
theorem dX9_strengthenWays_31 : decode cX9_strengthenWays 31 = .ok (.if_icmp .ge 50, 3) := by decide +kernel
theorem dX9_strengthenWays_81 : decode cX9_strengthenWays 81 = .ok (.iinc 3 1, 3) := by decide +kernel
theorem dX9_strengthenWays_84 : decode cX9_strengthenWays 84 = .ok (.goto (-64), 3) := by decide +kernel
theorem dX9_strengthenWays_34 : decode cX9_strengthenWays 34 = .ok (.aload_n 0, 1) := by decide +kernel
theorem dX9_strengthenWays_35 : decode cX9_strengthenWays 35 = .ok (.getfield 20, 3) := by decide +kernel
theorem dX9_strengthenWays_38 : decode cX9_strengthenWays 38 = .ok (.iload_n 3, 1) := by decide +kernel
theorem dX9_strengthenWays_39 : decode cX9_strengthenWays 39 = .ok (.aaload, 1) := by decide +kernel
theorem dX9_strengthenWays_40 : decode cX9_strengthenWays 40 = .ok (.iload 4, 2) := by decide +kernel
theorem dX9_strengthenWays_42 : decode cX9_strengthenWays 42 = .ok (.aload_n 0, 1) := by decide +kernel
theorem dX9_strengthenWays_43 : decode cX9_strengthenWays 43 = .ok (.getfield 20, 3) := by decide +kernel
theorem dX9_strengthenWays_46 : decode cX9_strengthenWays 46 = .ok (.iload_n 3, 1) := by decide +kernel
theorem dX9_strengthenWays_47 : decode cX9_strengthenWays 47 = .ok (.aaload, 1) := by decide +kernel
theorem dX9_strengthenWays_48 : decode cX9_strengthenWays 48 = .ok (.iload 4, 2) := by decide +kernel
theorem dX9_strengthenWays_50 : decode cX9_strengthenWays 50 = .ok (.iaload, 1) := by decide +kernel
theorem dX9_strengthenWays_51 : decode cX9_strengthenWays 51 = .ok (.aload_n 0, 1) := by decide +kernel
theorem dX9_strengthenWays_52 : decode cX9_strengthenWays 52 = .ok (.getfield 20, 3) := by decide +kernel
theorem dX9_strengthenWays_55 : decode cX9_strengthenWays 55 = .ok (.iload_n 3, 1) := by decide +kernel
theorem dX9_strengthenWays_56 : decode cX9_strengthenWays 56 = .ok (.aaload, 1) := by decide +kernel
theorem dX9_strengthenWays_57 : decode cX9_strengthenWays 57 = .ok (.iload_n 2, 1) := by decide +kernel
theorem dX9_strengthenWays_58 : decode cX9_strengthenWays 58 = .ok (.iaload, 1) := by decide +kernel
theorem dX9_strengthenWays_59 : decode cX9_strengthenWays 59 = .ok (.aload_n 0, 1) := by decide +kernel
theorem dX9_strengthenWays_60 : decode cX9_strengthenWays 60 = .ok (.getfield 20, 3) := by decide +kernel
theorem dX9_strengthenWays_63 : decode cX9_strengthenWays 63 = .ok (.iload_n 2, 1) := by decide +kernel
theorem dX9_strengthenWays_64 : decode cX9_strengthenWays 64 = .ok (.aaload, 1) := by decide +kernel
theorem dX9_strengthenWays_65 : decode cX9_strengthenWays 65 = .ok (.iload 4, 2) := by decide +kernel
theorem dX9_strengthenWays_67 : decode cX9_strengthenWays 67 = .ok (.iaload, 1) := by decide +kernel
theorem dX9_strengthenWays_68 : decode cX9_strengthenWays 68 = .ok (.invokestatic 100, 3) := by decide +kernel
theorem dX9_strengthenWays_71 : decode cX9_strengthenWays 71 = .ok (.invokestatic 105, 3) := by decide +kernel
theorem dX9_strengthenWays_74 : decode cX9_strengthenWays 74 = .ok (.iastore, 1) := by decide +kernel
theorem dX9_strengthenWays_75 : decode cX9_strengthenWays 75 = .ok (.iinc 4 1, 3) := by decide +kernel
theorem dX9_strengthenWays_78 : decode cX9_strengthenWays 78 = .ok (.goto (-50), 3) := by decide +kernel
theorem dX9_isUnbeaten_0 : decode cX9_isUnbeaten 0 = .ok (.iconst 0, 1) := by decide +kernel
theorem dX9_isUnbeaten_1 : decode cX9_isUnbeaten 1 = .ok (.istore_n 2, 1) := by decide +kernel
theorem dX9_isUnbeaten_2 : decode cX9_isUnbeaten 2 = .ok (.iload_n 2, 1) := by decide +kernel
theorem dX9_isUnbeaten_3 : decode cX9_isUnbeaten 3 = .ok (.aload_n 0, 1) := by decide +kernel
theorem dX9_isUnbeaten_4 : decode cX9_isUnbeaten 4 = .ok (.getfield 23, 3) := by decide +kernel
theorem in_X9_isUnbeaten_9 : ∀ w ∈ u_ws RX9 TX9 4, w ∈ wsX9_isUnbeaten := fun _ h => List.mem_cons_of_mem _ (List.mem_append_left _ (List.mem_append_left _ (List.mem_append_right _ h)))
theorem dX9_isUnbeaten_7 : decode cX9_isUnbeaten 7 = .ok (.getfield 77, 3) := by decide +kernel
theorem in_X9_isUnbeaten_6 : ∀ w ∈ u_ws RX6 TX6 8, w ∈ wsX9_isUnbeaten := fun _ h => List.mem_cons_of_mem _ (List.mem_append_left _ (List.mem_append_right _ h))
theorem dX9_isUnbeaten_10 : decode cX9_isUnbeaten 10 = .ok (.getfield 81, 3) := by decide +kernel
theorem in_X9_isUnbeaten_2 : ∀ w ∈ u_ws RX2 TX2 2, w ∈ wsX9_isUnbeaten := fun _ h => List.mem_cons_of_mem _ (List.mem_append_right _ h)
theorem dX9_isUnbeaten_13 : decode cX9_isUnbeaten 13 = .ok (.if_icmp .ge 42, 3) := by decide +kernel
theorem dX9_isUnbeaten_55 : decode cX9_isUnbeaten 55 = .ok (.iconst 1, 1) := by decide +kernel
theorem dX9_isUnbeaten_56 : decode cX9_isUnbeaten 56 = .ok (.ireturn, 1) := by decide +kernel
theorem dX9_isUnbeaten_16 : decode cX9_isUnbeaten 16 = .ok (.aload_n 0, 1) := by decide +kernel
theorem dX9_isUnbeaten_17 : decode cX9_isUnbeaten 17 = .ok (.getfield 23, 3) := by decide +kernel
theorem dX9_isUnbeaten_20 : decode cX9_isUnbeaten 20 = .ok (.getfield 67, 3) := by decide +kernel
theorem dX9_isUnbeaten_23 : decode cX9_isUnbeaten 23 = .ok (.iload_n 2, 1) := by decide +kernel
theorem dX9_isUnbeaten_24 : decode cX9_isUnbeaten 24 = .ok (.baload, 1) := by decide +kernel
theorem dX9_isUnbeaten_25 : decode cX9_isUnbeaten 25 = .ok (.ifCond .eq 24, 3) := by decide +kernel
theorem dX9_isUnbeaten_49 : decode cX9_isUnbeaten 49 = .ok (.iinc 2 1, 3) := by decide +kernel
theorem dX9_isUnbeaten_52 : decode cX9_isUnbeaten 52 = .ok (.goto (-50), 3) := by decide +kernel
theorem dX9_isUnbeaten_28 : decode cX9_isUnbeaten 28 = .ok (.aload_n 0, 1) := by decide +kernel
theorem dX9_isUnbeaten_29 : decode cX9_isUnbeaten 29 = .ok (.getfield 20, 3) := by decide +kernel
theorem dX9_isUnbeaten_32 : decode cX9_isUnbeaten 32 = .ok (.iload_n 2, 1) := by decide +kernel
theorem dX9_isUnbeaten_33 : decode cX9_isUnbeaten 33 = .ok (.aaload, 1) := by decide +kernel
theorem dX9_isUnbeaten_34 : decode cX9_isUnbeaten 34 = .ok (.iload_n 1, 1) := by decide +kernel
theorem dX9_isUnbeaten_35 : decode cX9_isUnbeaten 35 = .ok (.iaload, 1) := by decide +kernel
theorem dX9_isUnbeaten_36 : decode cX9_isUnbeaten 36 = .ok (.aload_n 0, 1) := by decide +kernel
theorem dX9_isUnbeaten_37 : decode cX9_isUnbeaten 37 = .ok (.getfield 20, 3) := by decide +kernel
theorem dX9_isUnbeaten_40 : decode cX9_isUnbeaten 40 = .ok (.iload_n 1, 1) := by decide +kernel
theorem dX9_isUnbeaten_41 : decode cX9_isUnbeaten 41 = .ok (.aaload, 1) := by decide +kernel
theorem dX9_isUnbeaten_42 : decode cX9_isUnbeaten 42 = .ok (.iload_n 2, 1) := by decide +kernel
theorem dX9_isUnbeaten_43 : decode cX9_isUnbeaten 43 = .ok (.iaload, 1) := by decide +kernel
theorem dX9_isUnbeaten_44 : decode cX9_isUnbeaten 44 = .ok (.if_icmp .le 5, 3) := by decide +kernel
theorem dX9_isUnbeaten_47 : decode cX9_isUnbeaten 47 = .ok (.iconst 0, 1) := by decide +kernel
theorem dX9_isUnbeaten_48 : decode cX9_isUnbeaten 48 = .ok (.ireturn, 1) := by decide +kernel
theorem dX9_firstUnbeaten_0 : decode cX9_firstUnbeaten 0 = .ok (.iconst 0, 1) := by decide +kernel
theorem dX9_firstUnbeaten_1 : decode cX9_firstUnbeaten 1 = .ok (.istore_n 1, 1) := by decide +kernel
theorem dX9_firstUnbeaten_2 : decode cX9_firstUnbeaten 2 = .ok (.iload_n 1, 1) := by decide +kernel
theorem dX9_firstUnbeaten_3 : decode cX9_firstUnbeaten 3 = .ok (.aload_n 0, 1) := by decide +kernel
theorem dX9_firstUnbeaten_4 : decode cX9_firstUnbeaten 4 = .ok (.getfield 23, 3) := by decide +kernel
theorem in_X9_firstUnbeaten_9 : ∀ w ∈ u_ws RX9 TX9 4, w ∈ wsX9_firstUnbeaten := fun _ h => List.mem_cons_of_mem _ (List.mem_append_left _ (List.mem_append_left _ (List.mem_append_right _ h)))
theorem dX9_firstUnbeaten_7 : decode cX9_firstUnbeaten 7 = .ok (.getfield 77, 3) := by decide +kernel
theorem in_X9_firstUnbeaten_6 : ∀ w ∈ u_ws RX6 TX6 8, w ∈ wsX9_firstUnbeaten := fun _ h => List.mem_cons_of_mem _ (List.mem_append_left _ (List.mem_append_right _ h))
theorem dX9_firstUnbeaten_10 : decode cX9_firstUnbeaten 10 = .ok (.getfield 81, 3) := by decide +kernel
theorem in_X9_firstUnbeaten_2 : ∀ w ∈ u_ws RX2 TX2 2, w ∈ wsX9_firstUnbeaten := fun _ h => List.mem_cons_of_mem _ (List.mem_append_right _ h)
theorem dX9_firstUnbeaten_13 : decode cX9_firstUnbeaten 13 = .ok (.if_icmp .ge 44, 3) := by decide +kernel
theorem dX9_firstUnbeaten_57 : decode cX9_firstUnbeaten 57 = .ok (.bipush (-9), 2) := by decide +kernel
theorem dX9_firstUnbeaten_59 : decode cX9_firstUnbeaten 59 = .ok (.ireturn, 1) := by decide +kernel
theorem dX9_firstUnbeaten_16 : decode cX9_firstUnbeaten 16 = .ok (.aload_n 0, 1) := by decide +kernel
theorem dX9_firstUnbeaten_17 : decode cX9_firstUnbeaten 17 = .ok (.getfield 23, 3) := by decide +kernel
theorem dX9_firstUnbeaten_20 : decode cX9_firstUnbeaten 20 = .ok (.getfield 77, 3) := by decide +kernel
theorem dX9_firstUnbeaten_23 : decode cX9_firstUnbeaten 23 = .ok (.getfield 108, 3) := by decide +kernel
theorem dX9_firstUnbeaten_26 : decode cX9_firstUnbeaten 26 = .ok (.iload_n 1, 1) := by decide +kernel
theorem dX9_firstUnbeaten_27 : decode cX9_firstUnbeaten 27 = .ok (.iaload, 1) := by decide +kernel
theorem dX9_firstUnbeaten_28 : decode cX9_firstUnbeaten 28 = .ok (.istore_n 2, 1) := by decide +kernel
theorem dX9_firstUnbeaten_29 : decode cX9_firstUnbeaten 29 = .ok (.aload_n 0, 1) := by decide +kernel
theorem dX9_firstUnbeaten_30 : decode cX9_firstUnbeaten 30 = .ok (.getfield 23, 3) := by decide +kernel
theorem dX9_firstUnbeaten_33 : decode cX9_firstUnbeaten 33 = .ok (.getfield 67, 3) := by decide +kernel
theorem dX9_firstUnbeaten_36 : decode cX9_firstUnbeaten 36 = .ok (.iload_n 2, 1) := by decide +kernel
theorem dX9_firstUnbeaten_37 : decode cX9_firstUnbeaten 37 = .ok (.baload, 1) := by decide +kernel
theorem dX9_firstUnbeaten_38 : decode cX9_firstUnbeaten 38 = .ok (.ifCond .eq 13, 3) := by decide +kernel
theorem dX9_firstUnbeaten_51 : decode cX9_firstUnbeaten 51 = .ok (.iinc 1 1, 3) := by decide +kernel
theorem dX9_firstUnbeaten_54 : decode cX9_firstUnbeaten 54 = .ok (.goto (-52), 3) := by decide +kernel
theorem dX9_firstUnbeaten_41 : decode cX9_firstUnbeaten 41 = .ok (.aload_n 0, 1) := by decide +kernel
theorem dX9_firstUnbeaten_42 : decode cX9_firstUnbeaten 42 = .ok (.iload_n 2, 1) := by decide +kernel
theorem dX9_firstUnbeaten_43 : decode cX9_firstUnbeaten 43 = .ok (.invokevirtual 111, 3) := by decide +kernel
set_option maxRecDepth 20000 in
theorem ggX9_firstUnbeaten_X9_isUnbeaten : GoodIn wsX9_firstUnbeaten wsX9_isUnbeaten := (gk_code 10 rfl (gk_fieldLink 1 rfl (gk_fieldLink 2 rfl (gk_fieldLink 3 rfl (gk_fieldLink 5 rfl (gk_fieldLink 11 rfl (gk_laysFinal 12 rfl (gk_laysFinal 13 rfl (gk_laysFinal 14 rfl (gk_laysFinal 15 rfl (gk_laysFinal 16 rfl (gk_laysFinal 17 rfl (gk_laysFinal 18 rfl (gk_lays 19 rfl (gk_lays 20 rfl (gk_laysFinal 21 rfl (gk_laysFinal 22 rfl (gk_laysFinal 23 rfl (gk_lays 24 rfl (gk_laysFinal 25 rfl (gn)))))))))))))))))))))
set_option maxRecDepth 20000 in
theorem gX9_firstUnbeaten_X9_isUnbeaten : GoodIn wsX9_firstUnbeaten (wsV RX9 111 RX9 yX9_isUnbeaten wsX9_isUnbeaten) := goodIn_app (gk_methodLink 6 rfl (gk_instanceMethod 7 rfl (gk_selects 8 rfl (gk_initialized 9 rfl (gn))))) ggX9_firstUnbeaten_X9_isUnbeaten
theorem dX9_firstUnbeaten_46 : decode cX9_firstUnbeaten 46 = .ok (.ifCond .eq 5, 3) := by decide +kernel
theorem dX9_firstUnbeaten_49 : decode cX9_firstUnbeaten 49 = .ok (.iload_n 2, 1) := by decide +kernel
theorem dX9_firstUnbeaten_50 : decode cX9_firstUnbeaten 50 = .ok (.ireturn, 1) := by decide +kernel
theorem dX9_leastWay_0 : decode cX9_leastWay 0 = .ok (.bipush (-9), 2) := by decide +kernel
theorem dX9_leastWay_2 : decode cX9_leastWay 2 = .ok (.istore_n 2, 1) := by decide +kernel
theorem dX9_leastWay_3 : decode cX9_leastWay 3 = .ok (.iconst 0, 1) := by decide +kernel
theorem dX9_leastWay_4 : decode cX9_leastWay 4 = .ok (.istore_n 3, 1) := by decide +kernel
theorem dX9_leastWay_5 : decode cX9_leastWay 5 = .ok (.iload_n 3, 1) := by decide +kernel
theorem dX9_leastWay_6 : decode cX9_leastWay 6 = .ok (.aload_n 0, 1) := by decide +kernel
theorem dX9_leastWay_7 : decode cX9_leastWay 7 = .ok (.getfield 23, 3) := by decide +kernel
theorem in_X9_leastWay_9 : ∀ w ∈ u_ws RX9 TX9 4, w ∈ wsX9_leastWay := fun _ h => List.mem_cons_of_mem _ (List.mem_append_left _ (List.mem_append_left _ (List.mem_append_right _ h)))
theorem dX9_leastWay_10 : decode cX9_leastWay 10 = .ok (.getfield 77, 3) := by decide +kernel
theorem in_X9_leastWay_6 : ∀ w ∈ u_ws RX6 TX6 8, w ∈ wsX9_leastWay := fun _ h => List.mem_cons_of_mem _ (List.mem_append_left _ (List.mem_append_right _ h))
theorem dX9_leastWay_13 : decode cX9_leastWay 13 = .ok (.getfield 81, 3) := by decide +kernel
theorem in_X9_leastWay_2 : ∀ w ∈ u_ws RX2 TX2 2, w ∈ wsX9_leastWay := fun _ h => List.mem_cons_of_mem _ (List.mem_append_right _ h)
theorem dX9_leastWay_16 : decode cX9_leastWay 16 = .ok (.if_icmp .ge 65, 3) := by decide +kernel
theorem dX9_leastWay_81 : decode cX9_leastWay 81 = .ok (.iload_n 2, 1) := by decide +kernel
theorem dX9_leastWay_82 : decode cX9_leastWay 82 = .ok (.bipush (-9), 2) := by decide +kernel
theorem dX9_leastWay_84 : decode cX9_leastWay 84 = .ok (.if_icmp .ne 7, 3) := by decide +kernel
theorem dX9_leastWay_91 : decode cX9_leastWay 91 = .ok (.iload_n 2, 1) := by decide +kernel
theorem dX9_leastWay_92 : decode cX9_leastWay 92 = .ok (.ireturn, 1) := by decide +kernel
theorem dX9_leastWay_87 : decode cX9_leastWay 87 = .ok (.iconst 0, 1) := by decide +kernel
theorem dX9_leastWay_88 : decode cX9_leastWay 88 = .ok (.goto 4, 3) := by decide +kernel
theorem dX9_leastWay_19 : decode cX9_leastWay 19 = .ok (.iload_n 3, 1) := by decide +kernel
theorem dX9_leastWay_20 : decode cX9_leastWay 20 = .ok (.iload_n 1, 1) := by decide +kernel
theorem dX9_leastWay_21 : decode cX9_leastWay 21 = .ok (.if_icmp .eq 19, 3) := by decide +kernel
theorem dX9_leastWay_40 : decode cX9_leastWay 40 = .ok (.iconst 0, 1) := by decide +kernel
theorem dX9_leastWay_41 : decode cX9_leastWay 41 = .ok (.istore 4, 2) := by decide +kernel
theorem dX9_leastWay_43 : decode cX9_leastWay 43 = .ok (.iload 4, 2) := by decide +kernel
theorem dX9_leastWay_45 : decode cX9_leastWay 45 = .ok (.ifCond .eq 30, 3) := by decide +kernel
theorem dX9_leastWay_75 : decode cX9_leastWay 75 = .ok (.iinc 3 1, 3) := by decide +kernel
theorem dX9_leastWay_78 : decode cX9_leastWay 78 = .ok (.goto (-73), 3) := by decide +kernel
theorem dX9_leastWay_24 : decode cX9_leastWay 24 = .ok (.aload_n 0, 1) := by decide +kernel
theorem dX9_leastWay_25 : decode cX9_leastWay 25 = .ok (.getfield 23, 3) := by decide +kernel
theorem dX9_leastWay_28 : decode cX9_leastWay 28 = .ok (.getfield 67, 3) := by decide +kernel
theorem dX9_leastWay_31 : decode cX9_leastWay 31 = .ok (.iload_n 3, 1) := by decide +kernel
theorem dX9_leastWay_32 : decode cX9_leastWay 32 = .ok (.baload, 1) := by decide +kernel
theorem dX9_leastWay_33 : decode cX9_leastWay 33 = .ok (.ifCond .eq 7, 3) := by decide +kernel
theorem dX9_leastWay_36 : decode cX9_leastWay 36 = .ok (.iconst 1, 1) := by decide +kernel
theorem dX9_leastWay_37 : decode cX9_leastWay 37 = .ok (.goto 4, 3) := by decide +kernel
theorem dX9_leastWay_48 : decode cX9_leastWay 48 = .ok (.iload_n 2, 1) := by decide +kernel
theorem dX9_leastWay_49 : decode cX9_leastWay 49 = .ok (.bipush (-9), 2) := by decide +kernel
theorem dX9_leastWay_51 : decode cX9_leastWay 51 = .ok (.if_icmp .eq 15, 3) := by decide +kernel
theorem dX9_leastWay_66 : decode cX9_leastWay 66 = .ok (.aload_n 0, 1) := by decide +kernel
theorem dX9_leastWay_67 : decode cX9_leastWay 67 = .ok (.getfield 20, 3) := by decide +kernel
theorem dX9_leastWay_70 : decode cX9_leastWay 70 = .ok (.iload_n 1, 1) := by decide +kernel
theorem dX9_leastWay_71 : decode cX9_leastWay 71 = .ok (.aaload, 1) := by decide +kernel
theorem dX9_leastWay_72 : decode cX9_leastWay 72 = .ok (.iload_n 3, 1) := by decide +kernel
theorem dX9_leastWay_73 : decode cX9_leastWay 73 = .ok (.iaload, 1) := by decide +kernel
theorem dX9_leastWay_74 : decode cX9_leastWay 74 = .ok (.istore_n 2, 1) := by decide +kernel
theorem dX9_leastWay_54 : decode cX9_leastWay 54 = .ok (.aload_n 0, 1) := by decide +kernel
theorem dX9_leastWay_55 : decode cX9_leastWay 55 = .ok (.getfield 20, 3) := by decide +kernel
theorem dX9_leastWay_58 : decode cX9_leastWay 58 = .ok (.iload_n 1, 1) := by decide +kernel
theorem dX9_leastWay_59 : decode cX9_leastWay 59 = .ok (.aaload, 1) := by decide +kernel
theorem dX9_leastWay_60 : decode cX9_leastWay 60 = .ok (.iload_n 3, 1) := by decide +kernel
theorem dX9_leastWay_61 : decode cX9_leastWay 61 = .ok (.iaload, 1) := by decide +kernel
theorem dX9_leastWay_62 : decode cX9_leastWay 62 = .ok (.iload_n 2, 1) := by decide +kernel
theorem dX9_leastWay_63 : decode cX9_leastWay 63 = .ok (.if_icmp .ge 12, 3) := by decide +kernel
theorem dX3_become_0 : decode cX3_become 0 = .ok (.lload_n 1, 1) := by decide +kernel
theorem dX3_become_1 : decode cX3_become 1 = .ok (.lstore 5, 2) := by decide +kernel
theorem dX3_become_3 : decode cX3_become 3 = .ok (.lload_n 3, 1) := by decide +kernel
theorem dX3_become_4 : decode cX3_become 4 = .ok (.lstore 7, 2) := by decide +kernel
theorem dX3_become_6 : decode cX3_become 6 = .ok (.iconst 0, 1) := by decide +kernel
theorem dX3_become_7 : decode cX3_become 7 = .ok (.istore 9, 2) := by decide +kernel
theorem dX3_become_9 : decode cX3_become 9 = .ok (.iload 9, 2) := by decide +kernel
theorem dX3_become_11 : decode cX3_become 11 = .ok (.sipush 1000, 3) := by decide +kernel
theorem dX3_become_14 : decode cX3_become 14 = .ok (.if_icmp .ge 31, 3) := by decide +kernel
theorem dX3_become_45 : decode cX3_become 45 = .ok (.aload_n 0, 1) := by decide +kernel
theorem dX3_become_46 : decode cX3_become 46 = .ok (.lload 5, 2) := by decide +kernel
theorem dX3_become_48 : decode cX3_become 48 = .ok (.lconst 1, 1) := by decide +kernel
theorem dX3_become_49 : decode cX3_become 49 = .ok (.lcmp, 1) := by decide +kernel
theorem dX3_become_50 : decode cX3_become 50 = .ok (.ifCond .ge 7, 3) := by decide +kernel
theorem dX3_become_57 : decode cX3_become 57 = .ok (.lload_n 1, 1) := by decide +kernel
theorem dX3_become_58 : decode cX3_become 58 = .ok (.lload 5, 2) := by decide +kernel
theorem dX3_become_60 : decode cX3_become 60 = .ok (.ldiv, 1) := by decide +kernel
theorem dX3_become_61 : decode cX3_become 61 = .ok (.putfield 9, 3) := by decide +kernel
theorem in_X3_become_3 : ∀ w ∈ u_ws RX3 TX3 2, w ∈ wsX3_become := fun _ h => List.mem_cons_of_mem _ (List.mem_append_right _ h)
theorem dX3_become_64 : decode cX3_become 64 = .ok (.aload_n 0, 1) := by decide +kernel
theorem dX3_become_65 : decode cX3_become 65 = .ok (.lload 5, 2) := by decide +kernel
theorem dX3_become_67 : decode cX3_become 67 = .ok (.lconst 1, 1) := by decide +kernel
theorem dX3_become_68 : decode cX3_become 68 = .ok (.lcmp, 1) := by decide +kernel
theorem dX3_become_69 : decode cX3_become 69 = .ok (.ifCond .ge 7, 3) := by decide +kernel
theorem dX3_become_76 : decode cX3_become 76 = .ok (.lload_n 3, 1) := by decide +kernel
theorem dX3_become_77 : decode cX3_become 77 = .ok (.lload 5, 2) := by decide +kernel
theorem dX3_become_79 : decode cX3_become 79 = .ok (.ldiv, 1) := by decide +kernel
theorem dX3_become_80 : decode cX3_become 80 = .ok (.putfield 15, 3) := by decide +kernel
theorem dX3_become_83 : decode cX3_become 83 = .ok (.return_, 1) := by decide +kernel
theorem dX3_become_72 : decode cX3_become 72 = .ok (.lconst 1, 1) := by decide +kernel
theorem dX3_become_73 : decode cX3_become 73 = .ok (.goto 7, 3) := by decide +kernel
theorem dX3_become_53 : decode cX3_become 53 = .ok (.lconst 0, 1) := by decide +kernel
theorem dX3_become_54 : decode cX3_become 54 = .ok (.goto 7, 3) := by decide +kernel
theorem dX3_become_17 : decode cX3_become 17 = .ok (.lload 7, 2) := by decide +kernel
theorem dX3_become_19 : decode cX3_become 19 = .ok (.lconst 0, 1) := by decide +kernel
theorem dX3_become_20 : decode cX3_become 20 = .ok (.lcmp, 1) := by decide +kernel
theorem dX3_become_21 : decode cX3_become 21 = .ok (.ifCond .eq 24, 3) := by decide +kernel
theorem dX3_become_24 : decode cX3_become 24 = .ok (.lload 5, 2) := by decide +kernel
theorem dX3_become_26 : decode cX3_become 26 = .ok (.lload 7, 2) := by decide +kernel
theorem dX3_become_28 : decode cX3_become 28 = .ok (.lrem, 1) := by decide +kernel
theorem dX3_become_29 : decode cX3_become 29 = .ok (.lstore 10, 2) := by decide +kernel
theorem dX3_become_31 : decode cX3_become 31 = .ok (.lload 7, 2) := by decide +kernel
theorem dX3_become_33 : decode cX3_become 33 = .ok (.lstore 5, 2) := by decide +kernel
theorem dX3_become_35 : decode cX3_become 35 = .ok (.lload 10, 2) := by decide +kernel
theorem dX3_become_37 : decode cX3_become 37 = .ok (.lstore 7, 2) := by decide +kernel
theorem dX3_become_39 : decode cX3_become 39 = .ok (.iinc 9 1, 3) := by decide +kernel
theorem dX3_become_42 : decode cX3_become 42 = .ok (.goto (-33), 3) := by decide +kernel
theorem dX3_add_0 : decode cX3_add 0 = .ok (.aload_n 0, 1) := by decide +kernel
theorem dX3_add_1 : decode cX3_add 1 = .ok (.aload_n 0, 1) := by decide +kernel
theorem dX3_add_2 : decode cX3_add 2 = .ok (.getfield 9, 3) := by decide +kernel
theorem in_X3_add_3 : ∀ w ∈ u_ws RX3 TX3 2, w ∈ wsX3_add := fun _ h => List.mem_cons_of_mem _ (List.mem_append_right _ h)
theorem dX3_add_5 : decode cX3_add 5 = .ok (.lload_n 3, 1) := by decide +kernel
theorem dX3_add_6 : decode cX3_add 6 = .ok (.lmul, 1) := by decide +kernel
theorem dX3_add_7 : decode cX3_add 7 = .ok (.lload_n 1, 1) := by decide +kernel
theorem dX3_add_8 : decode cX3_add 8 = .ok (.aload_n 0, 1) := by decide +kernel
theorem dX3_add_9 : decode cX3_add 9 = .ok (.getfield 15, 3) := by decide +kernel
theorem dX3_add_12 : decode cX3_add 12 = .ok (.lmul, 1) := by decide +kernel
theorem dX3_add_13 : decode cX3_add 13 = .ok (.ladd, 1) := by decide +kernel
theorem dX3_add_14 : decode cX3_add 14 = .ok (.aload_n 0, 1) := by decide +kernel
theorem dX3_add_15 : decode cX3_add 15 = .ok (.getfield 15, 3) := by decide +kernel
theorem dX3_add_18 : decode cX3_add 18 = .ok (.lload_n 3, 1) := by decide +kernel
theorem dX3_add_19 : decode cX3_add 19 = .ok (.lmul, 1) := by decide +kernel
theorem dX3_add_20 : decode cX3_add 20 = .ok (.invokevirtual 18, 3) := by decide +kernel
set_option maxRecDepth 20000 in
theorem ggX3_add_X3_become : GoodIn wsX3_add wsX3_become := (gk_code 7 rfl (gk_fieldLink 1 rfl (gk_fieldLink 2 rfl (gk_lays 8 rfl (gk_lays 9 rfl (gn))))))
set_option maxRecDepth 20000 in
theorem gX3_add_X3_become : GoodIn wsX3_add (wsV RX3 18 RX3 yX3_become wsX3_become) := goodIn_app (gk_methodLink 3 rfl (gk_instanceMethod 4 rfl (gk_selects 5 rfl (gk_initialized 6 rfl (gn))))) ggX3_add_X3_become
theorem dX3_add_23 : decode cX3_add 23 = .ok (.return_, 1) := by decide +kernel
theorem dX3_multiply_0 : decode cX3_multiply 0 = .ok (.aload_n 0, 1) := by decide +kernel
theorem dX3_multiply_1 : decode cX3_multiply 1 = .ok (.aload_n 0, 1) := by decide +kernel
theorem dX3_multiply_2 : decode cX3_multiply 2 = .ok (.getfield 9, 3) := by decide +kernel
theorem in_X3_multiply_3 : ∀ w ∈ u_ws RX3 TX3 2, w ∈ wsX3_multiply := fun _ h => List.mem_cons_of_mem _ (List.mem_append_right _ h)
theorem dX3_multiply_5 : decode cX3_multiply 5 = .ok (.lload_n 1, 1) := by decide +kernel
theorem dX3_multiply_6 : decode cX3_multiply 6 = .ok (.lmul, 1) := by decide +kernel
theorem dX3_multiply_7 : decode cX3_multiply 7 = .ok (.aload_n 0, 1) := by decide +kernel
theorem dX3_multiply_8 : decode cX3_multiply 8 = .ok (.getfield 15, 3) := by decide +kernel
theorem dX3_multiply_11 : decode cX3_multiply 11 = .ok (.lload_n 3, 1) := by decide +kernel
theorem dX3_multiply_12 : decode cX3_multiply 12 = .ok (.lmul, 1) := by decide +kernel
theorem dX3_multiply_13 : decode cX3_multiply 13 = .ok (.invokevirtual 18, 3) := by decide +kernel
set_option maxRecDepth 20000 in
theorem ggX3_multiply_X3_become : GoodIn wsX3_multiply wsX3_become := (gk_code 7 rfl (gk_fieldLink 1 rfl (gk_fieldLink 2 rfl (gk_lays 8 rfl (gk_lays 9 rfl (gn))))))
set_option maxRecDepth 20000 in
theorem gX3_multiply_X3_become : GoodIn wsX3_multiply (wsV RX3 18 RX3 yX3_become wsX3_become) := goodIn_app (gk_methodLink 3 rfl (gk_instanceMethod 4 rfl (gk_selects 5 rfl (gk_initialized 6 rfl (gn))))) ggX3_multiply_X3_become
theorem dX3_multiply_16 : decode cX3_multiply 16 = .ok (.return_, 1) := by decide +kernel
theorem dX3_fits_0 : decode cX3_fits 0 = .ok (.aload_n 0, 1) := by decide +kernel
theorem dX3_fits_1 : decode cX3_fits 1 = .ok (.getfield 9, 3) := by decide +kernel
theorem in_X3_fits_3 : ∀ w ∈ u_ws RX3 TX3 2, w ∈ wsX3_fits := fun _ h => List.mem_cons_of_mem _ (List.mem_append_right _ h)
theorem dX3_fits_4 : decode cX3_fits 4 = .ok (.ldc2_w 22, 3) := by decide +kernel
theorem dX3_fits_7 : decode cX3_fits 7 = .ok (.lcmp, 1) := by decide +kernel
theorem dX3_fits_8 : decode cX3_fits 8 = .ok (.ifCond .gt 18, 3) := by decide +kernel
theorem dX3_fits_26 : decode cX3_fits 26 = .ok (.iconst 0, 1) := by decide +kernel
theorem dX3_fits_27 : decode cX3_fits 27 = .ok (.ireturn, 1) := by decide +kernel
theorem dX3_fits_11 : decode cX3_fits 11 = .ok (.aload_n 0, 1) := by decide +kernel
theorem dX3_fits_12 : decode cX3_fits 12 = .ok (.getfield 15, 3) := by decide +kernel
theorem dX3_fits_15 : decode cX3_fits 15 = .ok (.ldc2_w 22, 3) := by decide +kernel
theorem dX3_fits_18 : decode cX3_fits 18 = .ok (.lcmp, 1) := by decide +kernel
theorem dX3_fits_19 : decode cX3_fits 19 = .ok (.ifCond .gt 7, 3) := by decide +kernel
theorem dX3_fits_22 : decode cX3_fits 22 = .ok (.iconst 1, 1) := by decide +kernel
theorem dX3_fits_23 : decode cX3_fits 23 = .ok (.goto 4, 3) := by decide +kernel
theorem dX8_addWeight_0 : decode cX8_addWeight 0 = .ok (.aload_n 0, 1) := by decide +kernel
theorem dX8_addWeight_1 : decode cX8_addWeight 1 = .ok (.getfield 25, 3) := by decide +kernel
theorem in_X8_addWeight_8 : ∀ w ∈ u_ws RX8 TX8 5, w ∈ wsX8_addWeight := fun _ h => List.mem_cons_of_mem _ (List.mem_append_left _ (List.mem_append_left _ (List.mem_append_right _ h)))
theorem dX8_addWeight_4 : decode cX8_addWeight 4 = .ok (.aload_n 0, 1) := by decide +kernel
theorem dX8_addWeight_5 : decode cX8_addWeight 5 = .ok (.getfield 29, 3) := by decide +kernel
theorem dX8_addWeight_8 : decode cX8_addWeight 8 = .ok (.getfield 74, 3) := by decide +kernel
theorem in_X8_addWeight_6 : ∀ w ∈ u_ws RX6 TX6 8, w ∈ wsX8_addWeight := fun _ h => List.mem_cons_of_mem _ (List.mem_append_left _ (List.mem_append_right _ h))
theorem dX8_addWeight_11 : decode cX8_addWeight 11 = .ok (.iload_n 2, 1) := by decide +kernel
theorem dX8_addWeight_12 : decode cX8_addWeight 12 = .ok (.laload, 1) := by decide +kernel
theorem dX8_addWeight_13 : decode cX8_addWeight 13 = .ok (.aload_n 0, 1) := by decide +kernel
theorem dX8_addWeight_14 : decode cX8_addWeight 14 = .ok (.getfield 29, 3) := by decide +kernel
theorem dX8_addWeight_17 : decode cX8_addWeight 17 = .ok (.getfield 77, 3) := by decide +kernel
theorem dX8_addWeight_20 : decode cX8_addWeight 20 = .ok (.iload_n 2, 1) := by decide +kernel
theorem dX8_addWeight_21 : decode cX8_addWeight 21 = .ok (.laload, 1) := by decide +kernel
theorem dX8_addWeight_22 : decode cX8_addWeight 22 = .ok (.invokevirtual 80, 3) := by decide +kernel
set_option maxRecDepth 20000 in
theorem ggX8_addWeight_X3_become : GoodIn wsX8_addWeight wsX3_become := (gk_code 13 rfl (gk_fieldLink 14 rfl (gk_fieldLink 15 rfl (gk_lays 39 rfl (gk_lays 40 rfl (gn))))))
set_option maxRecDepth 20000 in
theorem gX8_addWeight_X3_become : GoodIn wsX8_addWeight (wsV RX8 80 RX3 yX3_become wsX3_become) := goodIn_app (gk_methodLink 9 rfl (gk_instanceMethod 10 rfl (gk_selects 11 rfl (gk_initialized 12 rfl (gn))))) ggX8_addWeight_X3_become
theorem dX8_addWeight_25 : decode cX8_addWeight 25 = .ok (.aload_n 0, 1) := by decide +kernel
theorem dX8_addWeight_26 : decode cX8_addWeight 26 = .ok (.getfield 25, 3) := by decide +kernel
theorem dX8_addWeight_29 : decode cX8_addWeight 29 = .ok (.aload_n 0, 1) := by decide +kernel
theorem dX8_addWeight_30 : decode cX8_addWeight 30 = .ok (.getfield 9, 3) := by decide +kernel
theorem dX8_addWeight_33 : decode cX8_addWeight 33 = .ok (.iload_n 1, 1) := by decide +kernel
theorem dX8_addWeight_34 : decode cX8_addWeight 34 = .ok (.laload, 1) := by decide +kernel
theorem dX8_addWeight_35 : decode cX8_addWeight 35 = .ok (.aload_n 0, 1) := by decide +kernel
theorem dX8_addWeight_36 : decode cX8_addWeight 36 = .ok (.getfield 15, 3) := by decide +kernel
theorem dX8_addWeight_39 : decode cX8_addWeight 39 = .ok (.iload_n 1, 1) := by decide +kernel
theorem dX8_addWeight_40 : decode cX8_addWeight 40 = .ok (.laload, 1) := by decide +kernel
theorem dX8_addWeight_41 : decode cX8_addWeight 41 = .ok (.invokevirtual 84, 3) := by decide +kernel
set_option maxRecDepth 20000 in
theorem ggX8_addWeight_X3_add : GoodIn wsX8_addWeight wsX3_add := (gk_code 19 rfl (gk_fieldLink 14 rfl (gk_fieldLink 15 rfl (gk_methodLink 20 rfl (gk_instanceMethod 10 rfl (gk_selects 11 rfl (gk_initialized 12 rfl (gk_code 13 rfl (gk_lays 39 rfl (gk_lays 40 rfl (gn)))))))))))
set_option maxRecDepth 20000 in
theorem gX8_addWeight_X3_add : GoodIn wsX8_addWeight (wsV RX8 84 RX3 yX3_add wsX3_add) := goodIn_app (gk_methodLink 16 rfl (gk_instanceMethod 17 rfl (gk_selects 18 rfl (gk_initialized 12 rfl (gn))))) ggX8_addWeight_X3_add
theorem dX8_addWeight_44 : decode cX8_addWeight 44 = .ok (.aload_n 0, 1) := by decide +kernel
theorem dX8_addWeight_45 : decode cX8_addWeight 45 = .ok (.getfield 29, 3) := by decide +kernel
theorem dX8_addWeight_48 : decode cX8_addWeight 48 = .ok (.getfield 74, 3) := by decide +kernel
theorem dX8_addWeight_51 : decode cX8_addWeight 51 = .ok (.iload_n 2, 1) := by decide +kernel
theorem dX8_addWeight_52 : decode cX8_addWeight 52 = .ok (.aload_n 0, 1) := by decide +kernel
theorem dX8_addWeight_53 : decode cX8_addWeight 53 = .ok (.getfield 25, 3) := by decide +kernel
theorem dX8_addWeight_56 : decode cX8_addWeight 56 = .ok (.getfield 87, 3) := by decide +kernel
theorem in_X8_addWeight_3 : ∀ w ∈ u_ws RX3 TX3 2, w ∈ wsX8_addWeight := fun _ h => List.mem_cons_of_mem _ (List.mem_append_right _ h)
theorem dX8_addWeight_59 : decode cX8_addWeight 59 = .ok (.lastore, 1) := by decide +kernel
theorem dX8_addWeight_60 : decode cX8_addWeight 60 = .ok (.aload_n 0, 1) := by decide +kernel
theorem dX8_addWeight_61 : decode cX8_addWeight 61 = .ok (.getfield 29, 3) := by decide +kernel
theorem dX8_addWeight_64 : decode cX8_addWeight 64 = .ok (.getfield 77, 3) := by decide +kernel
theorem dX8_addWeight_67 : decode cX8_addWeight 67 = .ok (.iload_n 2, 1) := by decide +kernel
theorem dX8_addWeight_68 : decode cX8_addWeight 68 = .ok (.aload_n 0, 1) := by decide +kernel
theorem dX8_addWeight_69 : decode cX8_addWeight 69 = .ok (.getfield 25, 3) := by decide +kernel
theorem dX8_addWeight_72 : decode cX8_addWeight 72 = .ok (.getfield 90, 3) := by decide +kernel
theorem dX8_addWeight_75 : decode cX8_addWeight 75 = .ok (.lastore, 1) := by decide +kernel
theorem dX8_addWeight_76 : decode cX8_addWeight 76 = .ok (.aload_n 0, 1) := by decide +kernel
theorem dX8_addWeight_77 : decode cX8_addWeight 77 = .ok (.getfield 25, 3) := by decide +kernel
theorem dX8_addWeight_80 : decode cX8_addWeight 80 = .ok (.invokevirtual 92, 3) := by decide +kernel
set_option maxRecDepth 20000 in
theorem ggX8_addWeight_X3_fits : GoodIn wsX8_addWeight wsX3_fits := (gk_code 24 rfl (gk_fieldLink 14 rfl (gk_constantLong 25 rfl (gk_fieldLink 15 rfl (gk_lays 39 rfl (gk_lays 40 rfl (gn)))))))
set_option maxRecDepth 20000 in
theorem gX8_addWeight_X3_fits : GoodIn wsX8_addWeight (wsV RX8 92 RX3 yX3_fits wsX3_fits) := goodIn_app (gk_methodLink 21 rfl (gk_instanceMethod 22 rfl (gk_selects 23 rfl (gk_initialized 12 rfl (gn))))) ggX8_addWeight_X3_fits
theorem dX8_addWeight_83 : decode cX8_addWeight 83 = .ok (.ireturn, 1) := by decide +kernel
theorem dX8_tallyWeights_0 : decode cX8_tallyWeights 0 = .ok (.aload_n 0, 1) := by decide +kernel
theorem dX8_tallyWeights_1 : decode cX8_tallyWeights 1 = .ok (.getfield 29, 3) := by decide +kernel
theorem in_X8_tallyWeights_8 : ∀ w ∈ u_ws RX8 TX8 5, w ∈ wsX8_tallyWeights := fun _ h => List.mem_cons_of_mem _ (List.mem_append_left _ (List.mem_append_left _ (List.mem_append_left _ (List.mem_append_right _ h))))
theorem dX8_tallyWeights_4 : decode cX8_tallyWeights 4 = .ok (.invokevirtual 64, 3) := by decide +kernel
set_option maxRecDepth 20000 in
theorem ggX8_tallyWeights_X6_clearTallies : GoodIn wsX8_tallyWeights wsX6_clearTallies := (gk_code 8 rfl (gk_fieldLink 9 rfl (gk_fieldLink 10 rfl (gk_laysFinal 54 rfl (gk_laysFinal 55 rfl (gk_laysFinal 56 rfl (gk_lays 57 rfl (gk_lays 58 rfl (gk_laysFinal 59 rfl (gk_laysFinal 60 rfl (gk_laysFinal 61 rfl (gn))))))))))))
set_option maxRecDepth 20000 in
theorem gX8_tallyWeights_X6_clearTallies : GoodIn wsX8_tallyWeights (wsV RX8 64 RX6 yX6_clearTallies wsX6_clearTallies) := goodIn_app (gk_methodLink 4 rfl (gk_instanceMethod 5 rfl (gk_selects 6 rfl (gk_initialized 7 rfl (gn))))) ggX8_tallyWeights_X6_clearTallies
theorem dX8_tallyWeights_7 : decode cX8_tallyWeights 7 = .ok (.iconst 0, 1) := by decide +kernel
theorem dX8_tallyWeights_8 : decode cX8_tallyWeights 8 = .ok (.istore_n 1, 1) := by decide +kernel
theorem dX8_tallyWeights_9 : decode cX8_tallyWeights 9 = .ok (.iload_n 1, 1) := by decide +kernel
theorem dX8_tallyWeights_10 : decode cX8_tallyWeights 10 = .ok (.aload_n 0, 1) := by decide +kernel
theorem dX8_tallyWeights_11 : decode cX8_tallyWeights 11 = .ok (.getfield 29, 3) := by decide +kernel
theorem dX8_tallyWeights_14 : decode cX8_tallyWeights 14 = .ok (.getfield 33, 3) := by decide +kernel
theorem in_X8_tallyWeights_6 : ∀ w ∈ u_ws RX6 TX6 8, w ∈ wsX8_tallyWeights := fun _ h => List.mem_cons_of_mem _ (List.mem_append_left _ (List.mem_append_left _ (List.mem_append_right _ h)))
theorem dX8_tallyWeights_17 : decode cX8_tallyWeights 17 = .ok (.if_icmp .ge 42, 3) := by decide +kernel
theorem dX8_tallyWeights_59 : decode cX8_tallyWeights 59 = .ok (.iconst 1, 1) := by decide +kernel
theorem dX8_tallyWeights_60 : decode cX8_tallyWeights 60 = .ok (.ireturn, 1) := by decide +kernel
theorem dX8_tallyWeights_20 : decode cX8_tallyWeights 20 = .ok (.aload_n 0, 1) := by decide +kernel
theorem dX8_tallyWeights_21 : decode cX8_tallyWeights 21 = .ok (.getfield 29, 3) := by decide +kernel
theorem dX8_tallyWeights_24 : decode cX8_tallyWeights 24 = .ok (.iload_n 1, 1) := by decide +kernel
theorem dX8_tallyWeights_25 : decode cX8_tallyWeights 25 = .ok (.invokevirtual 67, 3) := by decide +kernel
set_option maxRecDepth 20000 in
theorem ggX8_tallyWeights_X6_firstIn : GoodIn wsX8_tallyWeights wsX6_firstIn := (gk_code 14 rfl (gk_fieldLink 15 rfl (gk_fieldLink 16 rfl (gk_fieldLink 17 rfl (gk_fieldLink 18 rfl (gk_fieldLink 19 rfl (gk_laysFinal 54 rfl (gk_laysFinal 55 rfl (gk_laysFinal 56 rfl (gk_lays 57 rfl (gk_lays 58 rfl (gk_laysFinal 59 rfl (gk_laysFinal 60 rfl (gk_laysFinal 61 rfl (gk_lays 62 rfl (gk_laysFinal 63 rfl (gk_laysFinal 64 rfl (gk_laysFinal 65 rfl (gk_laysFinal 66 rfl (gn))))))))))))))))))))
set_option maxRecDepth 20000 in
theorem gX8_tallyWeights_X6_firstIn : GoodIn wsX8_tallyWeights (wsV RX8 67 RX6 yX6_firstIn wsX6_firstIn) := goodIn_app (gk_methodLink 11 rfl (gk_instanceMethod 12 rfl (gk_selects 13 rfl (gk_initialized 7 rfl (gn))))) ggX8_tallyWeights_X6_firstIn
theorem dX8_tallyWeights_28 : decode cX8_tallyWeights 28 = .ok (.istore_n 2, 1) := by decide +kernel
theorem dX8_tallyWeights_29 : decode cX8_tallyWeights 29 = .ok (.aload_n 0, 1) := by decide +kernel
theorem dX8_tallyWeights_30 : decode cX8_tallyWeights 30 = .ok (.getfield 18, 3) := by decide +kernel
theorem dX8_tallyWeights_33 : decode cX8_tallyWeights 33 = .ok (.iload_n 1, 1) := by decide +kernel
theorem dX8_tallyWeights_34 : decode cX8_tallyWeights 34 = .ok (.iload_n 2, 1) := by decide +kernel
theorem dX8_tallyWeights_35 : decode cX8_tallyWeights 35 = .ok (.iastore, 1) := by decide +kernel
theorem dX8_tallyWeights_36 : decode cX8_tallyWeights 36 = .ok (.iload_n 2, 1) := by decide +kernel
theorem dX8_tallyWeights_37 : decode cX8_tallyWeights 37 = .ok (.bipush (-9), 2) := by decide +kernel
theorem dX8_tallyWeights_39 : decode cX8_tallyWeights 39 = .ok (.if_icmp .eq 14, 3) := by decide +kernel
theorem dX8_tallyWeights_53 : decode cX8_tallyWeights 53 = .ok (.iinc 1 1, 3) := by decide +kernel
theorem dX8_tallyWeights_56 : decode cX8_tallyWeights 56 = .ok (.goto (-47), 3) := by decide +kernel
theorem dX8_tallyWeights_42 : decode cX8_tallyWeights 42 = .ok (.aload_n 0, 1) := by decide +kernel
theorem dX8_tallyWeights_43 : decode cX8_tallyWeights 43 = .ok (.iload_n 1, 1) := by decide +kernel
theorem dX8_tallyWeights_44 : decode cX8_tallyWeights 44 = .ok (.iload_n 2, 1) := by decide +kernel
theorem dX8_tallyWeights_45 : decode cX8_tallyWeights 45 = .ok (.invokevirtual 70, 3) := by decide +kernel
set_option maxRecDepth 20000 in
theorem ggX8_tallyWeights_X8_addWeight : GoodIn wsX8_tallyWeights wsX8_addWeight := (gk_code 24 rfl (gk_fieldLink 25 rfl (gk_fieldLink 1 rfl (gk_fieldLink 26 rfl (gk_fieldLink 27 rfl (gk_fieldLink 28 rfl (gk_fieldLink 29 rfl (gk_fieldLink 30 rfl (gk_fieldLink 31 rfl (gk_methodLink 32 rfl (gk_instanceMethod 33 rfl (gk_selects 34 rfl (gk_initialized 35 rfl (gk_code 36 rfl (gk_fieldLink 37 rfl (gk_fieldLink 38 rfl (gk_methodLink 39 rfl (gk_instanceMethod 40 rfl (gk_selects 41 rfl (gk_code 42 rfl (gk_methodLink 43 rfl (gk_methodLink 44 rfl (gk_instanceMethod 45 rfl (gk_selects 46 rfl (gk_code 47 rfl (gk_constantLong 48 rfl (gk_laysFinal 49 rfl (gk_laysFinal 50 rfl (gk_laysFinal 51 rfl (gk_laysFinal 52 rfl (gk_laysFinal 53 rfl (gk_laysFinal 54 rfl (gk_laysFinal 55 rfl (gk_laysFinal 56 rfl (gk_lays 57 rfl (gk_lays 58 rfl (gk_laysFinal 59 rfl (gk_laysFinal 60 rfl (gk_laysFinal 61 rfl (gk_lays 67 rfl (gk_lays 68 rfl (gn))))))))))))))))))))))))))))))))))))))))))
set_option maxRecDepth 20000 in
theorem gX8_tallyWeights_X8_addWeight : GoodIn wsX8_tallyWeights (wsV RX8 70 RX8 yX8_addWeight wsX8_addWeight) := goodIn_app (gk_methodLink 20 rfl (gk_instanceMethod 21 rfl (gk_selects 22 rfl (gk_initialized 23 rfl (gn))))) ggX8_tallyWeights_X8_addWeight
theorem dX8_tallyWeights_48 : decode cX8_tallyWeights 48 = .ok (.ifCond .ne 5, 3) := by decide +kernel
theorem dX8_tallyWeights_51 : decode cX8_tallyWeights 51 = .ok (.iconst 0, 1) := by decide +kernel
theorem dX8_tallyWeights_52 : decode cX8_tallyWeights 52 = .ok (.ireturn, 1) := by decide +kernel
theorem dX8_passOn_0 : decode cX8_passOn 0 = .ok (.aload_n 0, 1) := by decide +kernel
theorem dX8_passOn_1 : decode cX8_passOn 1 = .ok (.getfield 29, 3) := by decide +kernel
theorem in_X8_passOn_8 : ∀ w ∈ u_ws RX8 TX8 5, w ∈ wsX8_passOn := fun _ h => List.mem_cons_of_mem _ (List.mem_append_left _ (List.mem_append_left _ (List.mem_append_right _ h)))
theorem dX8_passOn_4 : decode cX8_passOn 4 = .ok (.getfield 74, 3) := by decide +kernel
theorem in_X8_passOn_6 : ∀ w ∈ u_ws RX6 TX6 8, w ∈ wsX8_passOn := fun _ h => List.mem_cons_of_mem _ (List.mem_append_left _ (List.mem_append_right _ h))
theorem dX8_passOn_7 : decode cX8_passOn 7 = .ok (.iload_n 1, 1) := by decide +kernel
theorem dX8_passOn_8 : decode cX8_passOn 8 = .ok (.laload, 1) := by decide +kernel
theorem dX8_passOn_9 : decode cX8_passOn 9 = .ok (.lstore 4, 2) := by decide +kernel
theorem dX8_passOn_11 : decode cX8_passOn 11 = .ok (.aload_n 0, 1) := by decide +kernel
theorem dX8_passOn_12 : decode cX8_passOn 12 = .ok (.getfield 29, 3) := by decide +kernel
theorem dX8_passOn_15 : decode cX8_passOn 15 = .ok (.getfield 77, 3) := by decide +kernel
theorem dX8_passOn_18 : decode cX8_passOn 18 = .ok (.iload_n 1, 1) := by decide +kernel
theorem dX8_passOn_19 : decode cX8_passOn 19 = .ok (.laload, 1) := by decide +kernel
theorem dX8_passOn_20 : decode cX8_passOn 20 = .ok (.lstore 6, 2) := by decide +kernel
theorem dX8_passOn_22 : decode cX8_passOn 22 = .ok (.aload_n 0, 1) := by decide +kernel
theorem dX8_passOn_23 : decode cX8_passOn 23 = .ok (.getfield 25, 3) := by decide +kernel
theorem dX8_passOn_26 : decode cX8_passOn 26 = .ok (.lload 4, 2) := by decide +kernel
theorem dX8_passOn_28 : decode cX8_passOn 28 = .ok (.lload_n 2, 1) := by decide +kernel
theorem dX8_passOn_29 : decode cX8_passOn 29 = .ok (.lload 6, 2) := by decide +kernel
theorem dX8_passOn_31 : decode cX8_passOn 31 = .ok (.lmul, 1) := by decide +kernel
theorem dX8_passOn_32 : decode cX8_passOn 32 = .ok (.lsub, 1) := by decide +kernel
theorem dX8_passOn_33 : decode cX8_passOn 33 = .ok (.lload 6, 2) := by decide +kernel
theorem dX8_passOn_35 : decode cX8_passOn 35 = .ok (.invokevirtual 80, 3) := by decide +kernel
set_option maxRecDepth 20000 in
theorem ggX8_passOn_X3_become : GoodIn wsX8_passOn wsX3_become := (gk_code 15 rfl (gk_fieldLink 16 rfl (gk_fieldLink 17 rfl (gk_lays 41 rfl (gk_lays 42 rfl (gn))))))
set_option maxRecDepth 20000 in
theorem gX8_passOn_X3_become : GoodIn wsX8_passOn (wsV RX8 80 RX3 yX3_become wsX3_become) := goodIn_app (gk_methodLink 11 rfl (gk_instanceMethod 12 rfl (gk_selects 13 rfl (gk_initialized 14 rfl (gn))))) ggX8_passOn_X3_become
theorem dX8_passOn_38 : decode cX8_passOn 38 = .ok (.aload_n 0, 1) := by decide +kernel
theorem dX8_passOn_39 : decode cX8_passOn 39 = .ok (.getfield 25, 3) := by decide +kernel
theorem dX8_passOn_42 : decode cX8_passOn 42 = .ok (.invokevirtual 92, 3) := by decide +kernel
set_option maxRecDepth 20000 in
theorem ggX8_passOn_X3_fits : GoodIn wsX8_passOn wsX3_fits := (gk_code 21 rfl (gk_fieldLink 16 rfl (gk_constantLong 22 rfl (gk_fieldLink 17 rfl (gk_lays 41 rfl (gk_lays 42 rfl (gn)))))))
set_option maxRecDepth 20000 in
theorem gX8_passOn_X3_fits : GoodIn wsX8_passOn (wsV RX8 92 RX3 yX3_fits wsX3_fits) := goodIn_app (gk_methodLink 18 rfl (gk_instanceMethod 19 rfl (gk_selects 20 rfl (gk_initialized 14 rfl (gn))))) ggX8_passOn_X3_fits
theorem dX8_passOn_45 : decode cX8_passOn 45 = .ok (.ifCond .ne 5, 3) := by decide +kernel
theorem dX8_passOn_50 : decode cX8_passOn 50 = .ok (.aload_n 0, 1) := by decide +kernel
theorem dX8_passOn_51 : decode cX8_passOn 51 = .ok (.getfield 25, 3) := by decide +kernel
theorem dX8_passOn_54 : decode cX8_passOn 54 = .ok (.lload 6, 2) := by decide +kernel
theorem dX8_passOn_56 : decode cX8_passOn 56 = .ok (.lload 4, 2) := by decide +kernel
theorem dX8_passOn_58 : decode cX8_passOn 58 = .ok (.invokevirtual 121, 3) := by decide +kernel
set_option maxRecDepth 20000 in
theorem ggX8_passOn_X3_multiply : GoodIn wsX8_passOn wsX3_multiply := (gk_code 26 rfl (gk_fieldLink 16 rfl (gk_fieldLink 17 rfl (gk_methodLink 27 rfl (gk_instanceMethod 12 rfl (gk_selects 13 rfl (gk_initialized 14 rfl (gk_code 15 rfl (gk_lays 41 rfl (gk_lays 42 rfl (gn)))))))))))
set_option maxRecDepth 20000 in
theorem gX8_passOn_X3_multiply : GoodIn wsX8_passOn (wsV RX8 121 RX3 yX3_multiply wsX3_multiply) := goodIn_app (gk_methodLink 23 rfl (gk_instanceMethod 24 rfl (gk_selects 25 rfl (gk_initialized 14 rfl (gn))))) ggX8_passOn_X3_multiply
theorem dX8_passOn_61 : decode cX8_passOn 61 = .ok (.aload_n 0, 1) := by decide +kernel
theorem dX8_passOn_62 : decode cX8_passOn 62 = .ok (.getfield 25, 3) := by decide +kernel
theorem dX8_passOn_65 : decode cX8_passOn 65 = .ok (.invokevirtual 92, 3) := by decide +kernel
theorem dX8_passOn_68 : decode cX8_passOn 68 = .ok (.ifCond .ne 5, 3) := by decide +kernel
theorem dX8_passOn_73 : decode cX8_passOn 73 = .ok (.aload_n 0, 1) := by decide +kernel
theorem dX8_passOn_74 : decode cX8_passOn 74 = .ok (.getfield 25, 3) := by decide +kernel
theorem dX8_passOn_77 : decode cX8_passOn 77 = .ok (.getfield 87, 3) := by decide +kernel
theorem in_X8_passOn_3 : ∀ w ∈ u_ws RX3 TX3 2, w ∈ wsX8_passOn := fun _ h => List.mem_cons_of_mem _ (List.mem_append_right _ h)
theorem dX8_passOn_80 : decode cX8_passOn 80 = .ok (.lstore 8, 2) := by decide +kernel
theorem dX8_passOn_82 : decode cX8_passOn 82 = .ok (.aload_n 0, 1) := by decide +kernel
theorem dX8_passOn_83 : decode cX8_passOn 83 = .ok (.getfield 25, 3) := by decide +kernel
theorem dX8_passOn_86 : decode cX8_passOn 86 = .ok (.getfield 90, 3) := by decide +kernel
theorem dX8_passOn_89 : decode cX8_passOn 89 = .ok (.lstore 10, 2) := by decide +kernel
theorem dX8_passOn_91 : decode cX8_passOn 91 = .ok (.iconst 1, 1) := by decide +kernel
theorem dX8_passOn_92 : decode cX8_passOn 92 = .ok (.istore 12, 2) := by decide +kernel
theorem dX8_passOn_94 : decode cX8_passOn 94 = .ok (.iconst 0, 1) := by decide +kernel
theorem dX8_passOn_95 : decode cX8_passOn 95 = .ok (.istore 13, 2) := by decide +kernel
theorem dX8_passOn_97 : decode cX8_passOn 97 = .ok (.iload 13, 2) := by decide +kernel
theorem dX8_passOn_99 : decode cX8_passOn 99 = .ok (.aload_n 0, 1) := by decide +kernel
theorem dX8_passOn_100 : decode cX8_passOn 100 = .ok (.getfield 29, 3) := by decide +kernel
theorem dX8_passOn_103 : decode cX8_passOn 103 = .ok (.getfield 33, 3) := by decide +kernel
theorem dX8_passOn_106 : decode cX8_passOn 106 = .ok (.if_icmp .ge 94, 3) := by decide +kernel
theorem dX8_passOn_200 : decode cX8_passOn 200 = .ok (.iload 12, 2) := by decide +kernel
theorem dX8_passOn_202 : decode cX8_passOn 202 = .ok (.ireturn, 1) := by decide +kernel
theorem dX8_passOn_109 : decode cX8_passOn 109 = .ok (.iload 12, 2) := by decide +kernel
theorem dX8_passOn_111 : decode cX8_passOn 111 = .ok (.ifCond .eq 89, 3) := by decide +kernel
theorem dX8_passOn_114 : decode cX8_passOn 114 = .ok (.aload_n 0, 1) := by decide +kernel
theorem dX8_passOn_115 : decode cX8_passOn 115 = .ok (.getfield 18, 3) := by decide +kernel
theorem dX8_passOn_118 : decode cX8_passOn 118 = .ok (.iload 13, 2) := by decide +kernel
theorem dX8_passOn_120 : decode cX8_passOn 120 = .ok (.iaload, 1) := by decide +kernel
theorem dX8_passOn_121 : decode cX8_passOn 121 = .ok (.iload_n 1, 1) := by decide +kernel
theorem dX8_passOn_122 : decode cX8_passOn 122 = .ok (.if_icmp .ne 72, 3) := by decide +kernel
theorem dX8_passOn_194 : decode cX8_passOn 194 = .ok (.iinc 13 1, 3) := by decide +kernel
theorem dX8_passOn_197 : decode cX8_passOn 197 = .ok (.goto (-100), 3) := by decide +kernel
theorem dX8_passOn_125 : decode cX8_passOn 125 = .ok (.aload_n 0, 1) := by decide +kernel
theorem dX8_passOn_126 : decode cX8_passOn 126 = .ok (.getfield 25, 3) := by decide +kernel
theorem dX8_passOn_129 : decode cX8_passOn 129 = .ok (.aload_n 0, 1) := by decide +kernel
theorem dX8_passOn_130 : decode cX8_passOn 130 = .ok (.getfield 9, 3) := by decide +kernel
theorem dX8_passOn_133 : decode cX8_passOn 133 = .ok (.iload 13, 2) := by decide +kernel
theorem dX8_passOn_135 : decode cX8_passOn 135 = .ok (.laload, 1) := by decide +kernel
theorem dX8_passOn_136 : decode cX8_passOn 136 = .ok (.aload_n 0, 1) := by decide +kernel
theorem dX8_passOn_137 : decode cX8_passOn 137 = .ok (.getfield 15, 3) := by decide +kernel
theorem dX8_passOn_140 : decode cX8_passOn 140 = .ok (.iload 13, 2) := by decide +kernel
theorem dX8_passOn_142 : decode cX8_passOn 142 = .ok (.laload, 1) := by decide +kernel
theorem dX8_passOn_143 : decode cX8_passOn 143 = .ok (.invokevirtual 80, 3) := by decide +kernel
theorem dX8_passOn_146 : decode cX8_passOn 146 = .ok (.aload_n 0, 1) := by decide +kernel
theorem dX8_passOn_147 : decode cX8_passOn 147 = .ok (.getfield 25, 3) := by decide +kernel
theorem dX8_passOn_150 : decode cX8_passOn 150 = .ok (.lload 8, 2) := by decide +kernel
theorem dX8_passOn_152 : decode cX8_passOn 152 = .ok (.lload 10, 2) := by decide +kernel
theorem dX8_passOn_154 : decode cX8_passOn 154 = .ok (.invokevirtual 121, 3) := by decide +kernel
theorem dX8_passOn_157 : decode cX8_passOn 157 = .ok (.aload_n 0, 1) := by decide +kernel
theorem dX8_passOn_158 : decode cX8_passOn 158 = .ok (.getfield 9, 3) := by decide +kernel
theorem dX8_passOn_161 : decode cX8_passOn 161 = .ok (.iload 13, 2) := by decide +kernel
theorem dX8_passOn_163 : decode cX8_passOn 163 = .ok (.aload_n 0, 1) := by decide +kernel
theorem dX8_passOn_164 : decode cX8_passOn 164 = .ok (.getfield 25, 3) := by decide +kernel
theorem dX8_passOn_167 : decode cX8_passOn 167 = .ok (.getfield 87, 3) := by decide +kernel
theorem dX8_passOn_170 : decode cX8_passOn 170 = .ok (.lastore, 1) := by decide +kernel
theorem dX8_passOn_171 : decode cX8_passOn 171 = .ok (.aload_n 0, 1) := by decide +kernel
theorem dX8_passOn_172 : decode cX8_passOn 172 = .ok (.getfield 15, 3) := by decide +kernel
theorem dX8_passOn_175 : decode cX8_passOn 175 = .ok (.iload 13, 2) := by decide +kernel
theorem dX8_passOn_177 : decode cX8_passOn 177 = .ok (.aload_n 0, 1) := by decide +kernel
theorem dX8_passOn_178 : decode cX8_passOn 178 = .ok (.getfield 25, 3) := by decide +kernel
theorem dX8_passOn_181 : decode cX8_passOn 181 = .ok (.getfield 90, 3) := by decide +kernel
theorem dX8_passOn_184 : decode cX8_passOn 184 = .ok (.lastore, 1) := by decide +kernel
theorem dX8_passOn_185 : decode cX8_passOn 185 = .ok (.aload_n 0, 1) := by decide +kernel
theorem dX8_passOn_186 : decode cX8_passOn 186 = .ok (.getfield 25, 3) := by decide +kernel
theorem dX8_passOn_189 : decode cX8_passOn 189 = .ok (.invokevirtual 92, 3) := by decide +kernel
theorem dX8_passOn_192 : decode cX8_passOn 192 = .ok (.istore 12, 2) := by decide +kernel
theorem dX8_passOn_71 : decode cX8_passOn 71 = .ok (.iconst 0, 1) := by decide +kernel
theorem dX8_passOn_72 : decode cX8_passOn 72 = .ok (.ireturn, 1) := by decide +kernel
theorem dX8_passOn_48 : decode cX8_passOn 48 = .ok (.iconst 0, 1) := by decide +kernel
theorem dX8_passOn_49 : decode cX8_passOn 49 = .ok (.ireturn, 1) := by decide +kernel
