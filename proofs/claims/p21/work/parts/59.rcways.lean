theorem dX11_countWays_0 : decode cX11_countWays 0 = .ok (.aload_n 0, 1) := by decide +kernel
theorem dX11_countWays_1 : decode cX11_countWays 1 = .ok (.invokevirtual 258, 3) := by decide +kernel
set_option maxRecDepth 20000 in
theorem ggX11_countWays_X11_layWays : GoodIn wsX11_countWays wsX11_layWays := (gk_code 8 rfl (gk_fieldLink 9 rfl (gk_fieldLink 10 rfl (gk_fieldLink 11 rfl (gk_fieldLink 12 rfl (gk_fieldLink 13 rfl (gk_fieldLink 14 rfl (gk_methodLink 15 rfl (gk_instanceMethod 16 rfl (gk_selects 17 rfl (gk_initialized 7 rfl (gk_code 18 rfl (gk_fieldLink 19 rfl (gk_methodLink 20 rfl (gk_instanceMethod 21 rfl (gk_selects 22 rfl (gk_code 23 rfl (gk_methodLink 24 rfl (gk_instanceMethod 25 rfl (gk_selects 26 rfl (gk_code 27 rfl (gk_fieldLink 28 rfl (gk_fieldLink 29 rfl (gk_lays 59 rfl (gk_laysFinal 60 rfl (gk_lays 61 rfl (gk_laysFinal 62 rfl (gk_lays 63 rfl (gk_laysFinal 64 rfl (gk_laysFinal 65 rfl (gk_laysFinal 66 rfl (gk_laysFinal 67 rfl (gk_lays 68 rfl (gk_laysFinal 69 rfl (gk_laysFinal 70 rfl (gk_laysFinal 71 rfl (gk_laysFinal 72 rfl (gk_lays 73 rfl (gk_laysFinal 74 rfl (gk_laysFinal 75 rfl (gk_laysFinal 76 rfl (gk_laysFinal 77 rfl (gk_laysFinal 78 rfl (gk_laysFinal 79 rfl (gk_laysFinal 80 rfl (gk_laysFinal 81 rfl (gk_lays 82 rfl (gk_lays 83 rfl (gk_lays 84 rfl (gk_lays 85 rfl (gk_lays 86 rfl (gk_lays 87 rfl (gk_lays 88 rfl (gk_laysFinal 89 rfl (gk_lays 90 rfl (gk_laysFinal 91 rfl (gk_laysFinal 92 rfl (gk_laysFinal 93 rfl (gk_laysFinal 94 rfl (gk_laysFinal 95 rfl (gk_laysFinal 96 rfl (gk_laysFinal 97 rfl (gk_laysFinal 98 rfl (gk_laysFinal 99 rfl (gk_laysFinal 100 rfl (gk_lays 101 rfl (gk_laysFinal 102 rfl (gk_lays 103 rfl (gk_laysFinal 104 rfl (gk_laysFinal 105 rfl (gk_laysFinal 106 rfl (gk_laysFinal 107 rfl (gk_laysFinal 108 rfl (gk_laysFinal 109 rfl (gk_laysFinal 110 rfl (gk_laysFinal 111 rfl (gn)))))))))))))))))))))))))))))))))))))))))))))))))))))))))))))))))))))))))))))
set_option maxRecDepth 20000 in
theorem gX11_countWays_X11_layWays : GoodIn wsX11_countWays (wsV RX11 258 RX11 yX11_layWays wsX11_layWays) := goodIn_app (gk_methodLink 4 rfl (gk_instanceMethod 5 rfl (gk_selects 6 rfl (gk_initialized 7 rfl (gn))))) ggX11_countWays_X11_layWays
theorem dX11_countWays_4 : decode cX11_countWays 4 = .ok (.iconst 0, 1) := by decide +kernel
theorem dX11_countWays_5 : decode cX11_countWays 5 = .ok (.istore_n 1, 1) := by decide +kernel
theorem dX11_countWays_6 : decode cX11_countWays 6 = .ok (.iload_n 1, 1) := by decide +kernel
theorem dX11_countWays_7 : decode cX11_countWays 7 = .ok (.aload_n 0, 1) := by decide +kernel
theorem dX11_countWays_8 : decode cX11_countWays 8 = .ok (.getfield 231, 3) := by decide +kernel
theorem in_X11_countWays_11 : ∀ w ∈ u_ws RX11 TX11 53, w ∈ wsX11_countWays := fun _ h => List.mem_cons_of_mem _ (List.mem_append_right _ h)
theorem dX11_countWays_11 : decode cX11_countWays 11 = .ok (.if_icmp .ge 81, 3) := by decide +kernel
theorem dX11_countWays_92 : decode cX11_countWays 92 = .ok (.return_, 1) := by decide +kernel
theorem dX11_countWays_14 : decode cX11_countWays 14 = .ok (.aload_n 0, 1) := by decide +kernel
theorem dX11_countWays_15 : decode cX11_countWays 15 = .ok (.invokevirtual 261, 3) := by decide +kernel
set_option maxRecDepth 20000 in
theorem ggX11_countWays_X11_tallyWays : GoodIn wsX11_countWays wsX11_tallyWays := (gk_code 33 rfl (gk_fieldLink 9 rfl (gk_fieldLink 2 rfl (gk_fieldLink 14 rfl (gk_fieldLink 34 rfl (gk_methodLink 35 rfl (gk_instanceMethod 36 rfl (gk_selects 37 rfl (gk_initialized 7 rfl (gk_code 38 rfl (gk_fieldLink 39 rfl (gk_lays 59 rfl (gk_laysFinal 60 rfl (gk_lays 61 rfl (gk_laysFinal 62 rfl (gk_lays 63 rfl (gk_laysFinal 64 rfl (gk_laysFinal 65 rfl (gk_laysFinal 66 rfl (gk_laysFinal 67 rfl (gk_lays 68 rfl (gk_laysFinal 69 rfl (gk_laysFinal 70 rfl (gk_laysFinal 71 rfl (gk_laysFinal 72 rfl (gk_lays 73 rfl (gk_laysFinal 74 rfl (gk_laysFinal 75 rfl (gk_laysFinal 76 rfl (gk_laysFinal 77 rfl (gk_laysFinal 78 rfl (gk_laysFinal 79 rfl (gk_laysFinal 80 rfl (gk_laysFinal 81 rfl (gk_lays 82 rfl (gk_lays 83 rfl (gk_lays 84 rfl (gk_lays 85 rfl (gk_lays 86 rfl (gk_lays 87 rfl (gk_lays 88 rfl (gk_laysFinal 89 rfl (gk_lays 90 rfl (gk_laysFinal 91 rfl (gk_laysFinal 92 rfl (gk_laysFinal 93 rfl (gk_laysFinal 94 rfl (gk_laysFinal 95 rfl (gk_laysFinal 96 rfl (gk_laysFinal 97 rfl (gk_laysFinal 98 rfl (gk_laysFinal 99 rfl (gk_laysFinal 100 rfl (gk_lays 101 rfl (gk_laysFinal 102 rfl (gk_lays 103 rfl (gk_laysFinal 104 rfl (gk_laysFinal 105 rfl (gk_laysFinal 106 rfl (gk_laysFinal 107 rfl (gk_laysFinal 108 rfl (gk_laysFinal 109 rfl (gk_laysFinal 110 rfl (gk_laysFinal 111 rfl (gn)))))))))))))))))))))))))))))))))))))))))))))))))))))))))))))))))
set_option maxRecDepth 20000 in
theorem gX11_countWays_X11_tallyWays : GoodIn wsX11_countWays (wsV RX11 261 RX11 yX11_tallyWays wsX11_tallyWays) := goodIn_app (gk_methodLink 30 rfl (gk_instanceMethod 31 rfl (gk_selects 32 rfl (gk_initialized 7 rfl (gn))))) ggX11_countWays_X11_tallyWays
theorem dX11_countWays_18 : decode cX11_countWays 18 = .ok (.iconst 0, 1) := by decide +kernel
theorem dX11_countWays_19 : decode cX11_countWays 19 = .ok (.istore_n 2, 1) := by decide +kernel
theorem dX11_countWays_20 : decode cX11_countWays 20 = .ok (.aload_n 0, 1) := by decide +kernel
theorem dX11_countWays_21 : decode cX11_countWays 21 = .ok (.getfield 81, 3) := by decide +kernel
theorem dX11_countWays_24 : decode cX11_countWays 24 = .ok (.aload_n 0, 1) := by decide +kernel
theorem dX11_countWays_25 : decode cX11_countWays 25 = .ok (.getfield 13, 3) := by decide +kernel
theorem dX11_countWays_28 : decode cX11_countWays 28 = .ok (.iload_n 2, 1) := by decide +kernel
theorem dX11_countWays_29 : decode cX11_countWays 29 = .ok (.iaload, 1) := by decide +kernel
theorem dX11_countWays_30 : decode cX11_countWays 30 = .ok (.baload, 1) := by decide +kernel
theorem dX11_countWays_31 : decode cX11_countWays 31 = .ok (.ifCond .eq 16, 3) := by decide +kernel
theorem dX11_countWays_47 : decode cX11_countWays 47 = .ok (.iinc 2 1, 3) := by decide +kernel
theorem dX11_countWays_50 : decode cX11_countWays 50 = .ok (.goto (-30), 3) := by decide +kernel
theorem dX11_countWays_34 : decode cX11_countWays 34 = .ok (.aload_n 0, 1) := by decide +kernel
theorem dX11_countWays_35 : decode cX11_countWays 35 = .ok (.aload_n 0, 1) := by decide +kernel
theorem dX11_countWays_36 : decode cX11_countWays 36 = .ok (.getfield 13, 3) := by decide +kernel
theorem dX11_countWays_39 : decode cX11_countWays 39 = .ok (.iload_n 2, 1) := by decide +kernel
theorem dX11_countWays_40 : decode cX11_countWays 40 = .ok (.iaload, 1) := by decide +kernel
theorem dX11_countWays_41 : decode cX11_countWays 41 = .ok (.invokevirtual 264, 3) := by decide +kernel
set_option maxRecDepth 20000 in
theorem ggX11_countWays_X11_isBeaten : GoodIn wsX11_countWays wsX11_isBeaten := (gk_code 43 rfl (gk_fieldLink 9 rfl (gk_fieldLink 2 rfl (gk_fieldLink 14 rfl (gk_lays 59 rfl (gk_laysFinal 60 rfl (gk_lays 61 rfl (gk_laysFinal 62 rfl (gk_lays 63 rfl (gk_laysFinal 64 rfl (gk_laysFinal 65 rfl (gk_laysFinal 66 rfl (gk_laysFinal 67 rfl (gk_lays 68 rfl (gk_laysFinal 69 rfl (gk_laysFinal 70 rfl (gk_laysFinal 71 rfl (gk_laysFinal 72 rfl (gk_lays 73 rfl (gk_laysFinal 74 rfl (gk_laysFinal 75 rfl (gk_laysFinal 76 rfl (gk_laysFinal 77 rfl (gk_laysFinal 78 rfl (gk_laysFinal 79 rfl (gk_laysFinal 80 rfl (gk_laysFinal 81 rfl (gk_lays 82 rfl (gk_lays 83 rfl (gk_lays 84 rfl (gk_lays 85 rfl (gk_lays 86 rfl (gk_lays 87 rfl (gk_lays 88 rfl (gk_laysFinal 89 rfl (gk_lays 90 rfl (gk_laysFinal 91 rfl (gk_laysFinal 92 rfl (gk_laysFinal 93 rfl (gk_laysFinal 94 rfl (gk_laysFinal 95 rfl (gk_laysFinal 96 rfl (gk_laysFinal 97 rfl (gk_laysFinal 98 rfl (gk_laysFinal 99 rfl (gk_laysFinal 100 rfl (gk_lays 101 rfl (gk_laysFinal 102 rfl (gk_lays 103 rfl (gk_laysFinal 104 rfl (gk_laysFinal 105 rfl (gk_laysFinal 106 rfl (gk_laysFinal 107 rfl (gk_laysFinal 108 rfl (gk_laysFinal 109 rfl (gk_laysFinal 110 rfl (gk_laysFinal 111 rfl (gn))))))))))))))))))))))))))))))))))))))))))))))))))))))))))
set_option maxRecDepth 20000 in
theorem gX11_countWays_X11_isBeaten : GoodIn wsX11_countWays (wsV RX11 264 RX11 yX11_isBeaten wsX11_isBeaten) := goodIn_app (gk_methodLink 40 rfl (gk_instanceMethod 41 rfl (gk_selects 42 rfl (gk_initialized 7 rfl (gn))))) ggX11_countWays_X11_isBeaten
theorem dX11_countWays_44 : decode cX11_countWays 44 = .ok (.ifCond .eq 9, 3) := by decide +kernel
theorem dX11_countWays_53 : decode cX11_countWays 53 = .ok (.aload_n 0, 1) := by decide +kernel
theorem dX11_countWays_54 : decode cX11_countWays 54 = .ok (.iconst 1, 1) := by decide +kernel
theorem dX11_countWays_55 : decode cX11_countWays 55 = .ok (.aload_n 0, 1) := by decide +kernel
theorem dX11_countWays_56 : decode cX11_countWays 56 = .ok (.getfield 13, 3) := by decide +kernel
theorem dX11_countWays_59 : decode cX11_countWays 59 = .ok (.iload_n 2, 1) := by decide +kernel
theorem dX11_countWays_60 : decode cX11_countWays 60 = .ok (.iaload, 1) := by decide +kernel
theorem dX11_countWays_61 : decode cX11_countWays 61 = .ok (.invokevirtual 238, 3) := by decide +kernel
set_option maxRecDepth 20000 in
theorem ggX11_countWays_X11_happens : GoodIn wsX11_countWays wsX11_happens := (gk_code 47 rfl (gk_fieldLink 48 rfl (gk_fieldLink 49 rfl (gk_fieldLink 50 rfl (gk_fieldLink 51 rfl (gk_fieldLink 34 rfl (gk_fieldLink 52 rfl (gk_fieldLink 39 rfl (gk_lays 59 rfl (gk_laysFinal 60 rfl (gk_lays 61 rfl (gk_laysFinal 62 rfl (gk_lays 63 rfl (gk_laysFinal 64 rfl (gk_laysFinal 65 rfl (gk_laysFinal 66 rfl (gk_laysFinal 67 rfl (gk_lays 68 rfl (gk_laysFinal 69 rfl (gk_laysFinal 70 rfl (gk_laysFinal 71 rfl (gk_laysFinal 72 rfl (gk_lays 73 rfl (gk_laysFinal 74 rfl (gk_laysFinal 75 rfl (gk_laysFinal 76 rfl (gk_laysFinal 77 rfl (gk_laysFinal 78 rfl (gk_laysFinal 79 rfl (gk_laysFinal 80 rfl (gk_laysFinal 81 rfl (gk_lays 82 rfl (gk_lays 83 rfl (gk_lays 84 rfl (gk_lays 85 rfl (gk_lays 86 rfl (gk_lays 87 rfl (gk_lays 88 rfl (gk_laysFinal 89 rfl (gk_lays 90 rfl (gk_laysFinal 91 rfl (gk_laysFinal 92 rfl (gk_laysFinal 93 rfl (gk_laysFinal 94 rfl (gk_laysFinal 95 rfl (gk_laysFinal 96 rfl (gk_laysFinal 97 rfl (gk_laysFinal 98 rfl (gk_laysFinal 99 rfl (gk_laysFinal 100 rfl (gk_lays 101 rfl (gk_laysFinal 102 rfl (gk_lays 103 rfl (gk_laysFinal 104 rfl (gk_laysFinal 105 rfl (gk_laysFinal 106 rfl (gk_laysFinal 107 rfl (gk_laysFinal 108 rfl (gk_laysFinal 109 rfl (gk_laysFinal 110 rfl (gk_laysFinal 111 rfl (gn))))))))))))))))))))))))))))))))))))))))))))))))))))))))))))))
set_option maxRecDepth 20000 in
theorem gX11_countWays_X11_happens : GoodIn wsX11_countWays (wsV RX11 238 RX11 yX11_happens wsX11_happens) := goodIn_app (gk_methodLink 44 rfl (gk_instanceMethod 45 rfl (gk_selects 46 rfl (gk_initialized 7 rfl (gn))))) ggX11_countWays_X11_happens
theorem dX11_countWays_64 : decode cX11_countWays 64 = .ok (.aload_n 0, 1) := by decide +kernel
theorem dX11_countWays_65 : decode cX11_countWays 65 = .ok (.aload_n 0, 1) := by decide +kernel
theorem dX11_countWays_66 : decode cX11_countWays 66 = .ok (.getfield 13, 3) := by decide +kernel
theorem dX11_countWays_69 : decode cX11_countWays 69 = .ok (.iload_n 2, 1) := by decide +kernel
theorem dX11_countWays_70 : decode cX11_countWays 70 = .ok (.iaload, 1) := by decide +kernel
theorem dX11_countWays_71 : decode cX11_countWays 71 = .ok (.invokevirtual 242, 3) := by decide +kernel
set_option maxRecDepth 20000 in
theorem ggX11_countWays_X11_gives : GoodIn wsX11_countWays wsX11_gives := (gk_code 56 rfl (gk_fieldLink 57 rfl (gk_fieldLink 58 rfl (gk_lays 59 rfl (gk_laysFinal 60 rfl (gk_lays 61 rfl (gk_laysFinal 62 rfl (gk_lays 63 rfl (gk_laysFinal 64 rfl (gk_laysFinal 65 rfl (gk_laysFinal 66 rfl (gk_laysFinal 67 rfl (gk_lays 68 rfl (gk_laysFinal 69 rfl (gk_laysFinal 70 rfl (gk_laysFinal 71 rfl (gk_laysFinal 72 rfl (gk_lays 73 rfl (gk_laysFinal 74 rfl (gk_laysFinal 75 rfl (gk_laysFinal 76 rfl (gk_laysFinal 77 rfl (gk_laysFinal 78 rfl (gk_laysFinal 79 rfl (gk_laysFinal 80 rfl (gk_laysFinal 81 rfl (gk_lays 82 rfl (gk_lays 83 rfl (gk_lays 84 rfl (gk_lays 85 rfl (gk_lays 86 rfl (gk_lays 87 rfl (gk_lays 88 rfl (gk_laysFinal 89 rfl (gk_lays 90 rfl (gk_laysFinal 91 rfl (gk_laysFinal 92 rfl (gk_laysFinal 93 rfl (gk_laysFinal 94 rfl (gk_laysFinal 95 rfl (gk_laysFinal 96 rfl (gk_laysFinal 97 rfl (gk_laysFinal 98 rfl (gk_laysFinal 99 rfl (gk_laysFinal 100 rfl (gk_lays 101 rfl (gk_laysFinal 102 rfl (gk_lays 103 rfl (gk_laysFinal 104 rfl (gk_laysFinal 105 rfl (gk_laysFinal 106 rfl (gk_laysFinal 107 rfl (gk_laysFinal 108 rfl (gk_laysFinal 109 rfl (gk_laysFinal 110 rfl (gk_laysFinal 111 rfl (gn)))))))))))))))))))))))))))))))))))))))))))))))))))))))))
set_option maxRecDepth 20000 in
theorem gX11_countWays_X11_gives : GoodIn wsX11_countWays (wsV RX11 242 RX11 yX11_gives wsX11_gives) := goodIn_app (gk_methodLink 53 rfl (gk_instanceMethod 54 rfl (gk_selects 55 rfl (gk_initialized 7 rfl (gn))))) ggX11_countWays_X11_gives
theorem dX11_countWays_74 : decode cX11_countWays 74 = .ok (.aload_n 0, 1) := by decide +kernel
theorem dX11_countWays_75 : decode cX11_countWays 75 = .ok (.getfield 81, 3) := by decide +kernel
theorem dX11_countWays_78 : decode cX11_countWays 78 = .ok (.aload_n 0, 1) := by decide +kernel
theorem dX11_countWays_79 : decode cX11_countWays 79 = .ok (.getfield 13, 3) := by decide +kernel
theorem dX11_countWays_82 : decode cX11_countWays 82 = .ok (.iload_n 2, 1) := by decide +kernel
theorem dX11_countWays_83 : decode cX11_countWays 83 = .ok (.iaload, 1) := by decide +kernel
theorem dX11_countWays_84 : decode cX11_countWays 84 = .ok (.iconst 0, 1) := by decide +kernel
theorem dX11_countWays_85 : decode cX11_countWays 85 = .ok (.bastore, 1) := by decide +kernel
theorem dX11_countWays_86 : decode cX11_countWays 86 = .ok (.iinc 1 1, 3) := by decide +kernel
theorem dX11_countWays_89 : decode cX11_countWays 89 = .ok (.goto (-83), 3) := by decide +kernel
