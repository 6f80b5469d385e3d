theorem dX11_tallyFirsts_0 : decode cX11_tallyFirsts 0 = .ok (.aload_n 0, 1) := dw42 (n := 0) (i := 0) kc_cX11_tallyFirsts_0 (by decide +kernel)
theorem dX11_tallyFirsts_1 : decode cX11_tallyFirsts 1 = .ok (.invokevirtual 214, 3) := dw182 (n := 0) (i := 1) (a := 0) (b := 214) kc_cX11_tallyFirsts_0 (by decide +kernel) (by decide)
set_option maxRecDepth 20000 in
theorem ggX11_tallyFirsts_X11_noTallies : GoodIn wsX11_tallyFirsts wsX11_noTallies := (gk_code 9 rfl (gk_fieldLink 10 rfl (gk_fieldLink 11 rfl (gk_lays 39 rfl (gk_laysFinal 40 rfl (gk_lays 41 rfl (gk_laysFinal 42 rfl (gk_lays 43 rfl (gk_laysFinal 44 rfl (gk_laysFinal 45 rfl (gk_laysFinal 46 rfl (gk_laysFinal 47 rfl (gk_lays 48 rfl (gk_laysFinal 49 rfl (gk_laysFinal 50 rfl (gk_laysFinal 51 rfl (gk_laysFinal 52 rfl (gk_lays 53 rfl (gk_laysFinal 54 rfl (gk_laysFinal 55 rfl (gk_laysFinal 56 rfl (gk_laysFinal 57 rfl (gk_laysFinal 58 rfl (gk_laysFinal 59 rfl (gk_laysFinal 60 rfl (gk_laysFinal 61 rfl (gk_lays 62 rfl (gk_lays 63 rfl (gk_lays 64 rfl (gk_lays 65 rfl (gk_lays 66 rfl (gk_lays 67 rfl (gk_lays 68 rfl (gk_laysFinal 69 rfl (gk_lays 70 rfl (gk_laysFinal 71 rfl (gk_laysFinal 72 rfl (gk_laysFinal 73 rfl (gk_laysFinal 74 rfl (gk_laysFinal 75 rfl (gk_laysFinal 76 rfl (gk_laysFinal 77 rfl (gk_laysFinal 78 rfl (gk_laysFinal 79 rfl (gk_laysFinal 80 rfl (gk_lays 81 rfl (gk_laysFinal 82 rfl (gk_lays 83 rfl (gk_laysFinal 84 rfl (gk_laysFinal 85 rfl (gk_laysFinal 86 rfl (gk_laysFinal 87 rfl (gk_laysFinal 88 rfl (gk_laysFinal 89 rfl (gk_laysFinal 90 rfl (gk_laysFinal 91 rfl (gn)))))))))))))))))))))))))))))))))))))))))))))))))))))))))
set_option maxRecDepth 20000 in
theorem gX11_tallyFirsts_X11_noTallies : GoodIn wsX11_tallyFirsts (wsV RX11 214 RX11 yX11_noTallies wsX11_noTallies) := goodIn_app (gk_methodLink 5 rfl (gk_instanceMethod 6 rfl (gk_selects 7 rfl (gk_initialized 8 rfl (gn))))) ggX11_tallyFirsts_X11_noTallies
theorem dX11_tallyFirsts_4 : decode cX11_tallyFirsts 4 = .ok (.iconst 0, 1) := dw3 (n := 0) (i := 4) kc_cX11_tallyFirsts_0 (by decide +kernel)
theorem dX11_tallyFirsts_5 : decode cX11_tallyFirsts 5 = .ok (.istore_n 1, 1) := dw60 (n := 0) (i := 5) kc_cX11_tallyFirsts_0 (by decide +kernel)
theorem dX11_tallyFirsts_6 : decode cX11_tallyFirsts 6 = .ok (.iload_n 1, 1) := dw27 (n := 0) (i := 6) kc_cX11_tallyFirsts_0 (by decide +kernel)
theorem dX11_tallyFirsts_7 : decode cX11_tallyFirsts 7 = .ok (.aload_n 0, 1) := dw42 (n := 0) (i := 7) kc_cX11_tallyFirsts_0 (by decide +kernel)
theorem dX11_tallyFirsts_8 : decode cX11_tallyFirsts 8 = .ok (.getfield 31, 3) := dw180 (n := 0) (i := 8) (a := 0) (b := 31) kc_cX11_tallyFirsts_0 (by decide +kernel) (by decide)
theorem in_X11_tallyFirsts_11 : ∀ w ∈ u_ws RX11 TX11 53, w ∈ wsX11_tallyFirsts := fun _ h => List.mem_cons_of_mem _ (List.mem_append_right _ h)
theorem dX11_tallyFirsts_11 : decode cX11_tallyFirsts 11 = .ok (.aload_n 0, 1) := dw42 (n := 0) (i := 11) kc_cX11_tallyFirsts_0 (by decide +kernel)
theorem dX11_tallyFirsts_12 : decode cX11_tallyFirsts 12 = .ok (.getfield 201, 3) := dw180 (n := 0) (i := 12) (a := 0) (b := 201) kc_cX11_tallyFirsts_0 (by decide +kernel) (by decide)
theorem dX11_tallyFirsts_15 : decode cX11_tallyFirsts 15 = .ok (.iaload, 1) := dw46 (n := 0) (i := 15) kc_cX11_tallyFirsts_0 (by decide +kernel)
theorem dX11_tallyFirsts_16 : decode cX11_tallyFirsts 16 = .ok (.if_icmp .ge 55, 3) := dw162 (n := 0) (i := 16) (a := 0) (b := 55) kc_cX11_tallyFirsts_0 (by decide +kernel) (by decide)
theorem dX11_tallyFirsts_71 : decode cX11_tallyFirsts 71 = .ok (.return_, 1) := dw177 (n := 64) (i := 7) kc_cX11_tallyFirsts_2 (by decide +kernel)
theorem dX11_tallyFirsts_19 : decode cX11_tallyFirsts 19 = .ok (.aload_n 0, 1) := dw42 (n := 0) (i := 19) kc_cX11_tallyFirsts_0 (by decide +kernel)
theorem dX11_tallyFirsts_20 : decode cX11_tallyFirsts 20 = .ok (.iload_n 1, 1) := dw27 (n := 0) (i := 20) kc_cX11_tallyFirsts_0 (by decide +kernel)
theorem dX11_tallyFirsts_21 : decode cX11_tallyFirsts 21 = .ok (.invokevirtual 217, 3) := dw182 (n := 0) (i := 21) (a := 0) (b := 217) kc_cX11_tallyFirsts_0 (by decide +kernel) (by decide)
set_option maxRecDepth 20000 in
theorem ggX11_tallyFirsts_X11_ballotAt : GoodIn wsX11_tallyFirsts wsX11_ballotAt := (gk_code 15 rfl (gk_fieldLink 16 rfl (gk_fieldLink 2 rfl (gk_lays 39 rfl (gk_laysFinal 40 rfl (gk_lays 41 rfl (gk_laysFinal 42 rfl (gk_lays 43 rfl (gk_laysFinal 44 rfl (gk_laysFinal 45 rfl (gk_laysFinal 46 rfl (gk_laysFinal 47 rfl (gk_lays 48 rfl (gk_laysFinal 49 rfl (gk_laysFinal 50 rfl (gk_laysFinal 51 rfl (gk_laysFinal 52 rfl (gk_lays 53 rfl (gk_laysFinal 54 rfl (gk_laysFinal 55 rfl (gk_laysFinal 56 rfl (gk_laysFinal 57 rfl (gk_laysFinal 58 rfl (gk_laysFinal 59 rfl (gk_laysFinal 60 rfl (gk_laysFinal 61 rfl (gk_lays 62 rfl (gk_lays 63 rfl (gk_lays 64 rfl (gk_lays 65 rfl (gk_lays 66 rfl (gk_lays 67 rfl (gk_lays 68 rfl (gk_laysFinal 69 rfl (gk_lays 70 rfl (gk_laysFinal 71 rfl (gk_laysFinal 72 rfl (gk_laysFinal 73 rfl (gk_laysFinal 74 rfl (gk_laysFinal 75 rfl (gk_laysFinal 76 rfl (gk_laysFinal 77 rfl (gk_laysFinal 78 rfl (gk_laysFinal 79 rfl (gk_laysFinal 80 rfl (gk_lays 81 rfl (gk_laysFinal 82 rfl (gk_lays 83 rfl (gk_laysFinal 84 rfl (gk_laysFinal 85 rfl (gk_laysFinal 86 rfl (gk_laysFinal 87 rfl (gk_laysFinal 88 rfl (gk_laysFinal 89 rfl (gk_laysFinal 90 rfl (gk_laysFinal 91 rfl (gn)))))))))))))))))))))))))))))))))))))))))))))))))))))))))
set_option maxRecDepth 20000 in
theorem gX11_tallyFirsts_X11_ballotAt : GoodIn wsX11_tallyFirsts (wsV RX11 217 RX11 yX11_ballotAt wsX11_ballotAt) := goodIn_app (gk_methodLink 12 rfl (gk_instanceMethod 13 rfl (gk_selects 14 rfl (gk_initialized 8 rfl (gn))))) ggX11_tallyFirsts_X11_ballotAt
theorem dX11_tallyFirsts_24 : decode cX11_tallyFirsts 24 = .ok (.istore_n 2, 1) := dw61 (n := 0) (i := 24) kc_cX11_tallyFirsts_0 (by decide +kernel)
theorem dX11_tallyFirsts_25 : decode cX11_tallyFirsts 25 = .ok (.iload_n 2, 1) := dw28 (n := 0) (i := 25) kc_cX11_tallyFirsts_0 (by decide +kernel)
theorem dX11_tallyFirsts_26 : decode cX11_tallyFirsts 26 = .ok (.bipush (-9), 2) := dw16 (n := 0) (i := 26) (a := 247) kc_cX11_tallyFirsts_0 (by decide +kernel) (by decide)
theorem dX11_tallyFirsts_28 : decode cX11_tallyFirsts 28 = .ok (.if_icmp .ne 8, 3) := dw160 (n := 0) (i := 28) (a := 0) (b := 8) kc_cX11_tallyFirsts_0 (by decide +kernel) (by decide)
theorem dX11_tallyFirsts_36 : decode cX11_tallyFirsts 36 = .ok (.aload_n 0, 1) := dw42 (n := 32) (i := 4) kc_cX11_tallyFirsts_1 (by decide +kernel)
theorem dX11_tallyFirsts_37 : decode cX11_tallyFirsts 37 = .ok (.iload_n 2, 1) := dw28 (n := 32) (i := 5) kc_cX11_tallyFirsts_1 (by decide +kernel)
theorem dX11_tallyFirsts_38 : decode cX11_tallyFirsts 38 = .ok (.invokevirtual 220, 3) := dw182 (n := 32) (i := 6) (a := 0) (b := 220) kc_cX11_tallyFirsts_1 (by decide +kernel) (by decide)
set_option maxRecDepth 20000 in
theorem ggX11_tallyFirsts_X11_firstOn : GoodIn wsX11_tallyFirsts wsX11_firstOn := (gk_code 20 rfl (gk_fieldLink 21 rfl (gk_fieldLink 22 rfl (gk_fieldLink 23 rfl (gk_lays 39 rfl (gk_laysFinal 40 rfl (gk_lays 41 rfl (gk_laysFinal 42 rfl (gk_lays 43 rfl (gk_laysFinal 44 rfl (gk_laysFinal 45 rfl (gk_laysFinal 46 rfl (gk_laysFinal 47 rfl (gk_lays 48 rfl (gk_laysFinal 49 rfl (gk_laysFinal 50 rfl (gk_laysFinal 51 rfl (gk_laysFinal 52 rfl (gk_lays 53 rfl (gk_laysFinal 54 rfl (gk_laysFinal 55 rfl (gk_laysFinal 56 rfl (gk_laysFinal 57 rfl (gk_laysFinal 58 rfl (gk_laysFinal 59 rfl (gk_laysFinal 60 rfl (gk_laysFinal 61 rfl (gk_lays 62 rfl (gk_lays 63 rfl (gk_lays 64 rfl (gk_lays 65 rfl (gk_lays 66 rfl (gk_lays 67 rfl (gk_lays 68 rfl (gk_laysFinal 69 rfl (gk_lays 70 rfl (gk_laysFinal 71 rfl (gk_laysFinal 72 rfl (gk_laysFinal 73 rfl (gk_laysFinal 74 rfl (gk_laysFinal 75 rfl (gk_laysFinal 76 rfl (gk_laysFinal 77 rfl (gk_laysFinal 78 rfl (gk_laysFinal 79 rfl (gk_laysFinal 80 rfl (gk_lays 81 rfl (gk_laysFinal 82 rfl (gk_lays 83 rfl (gk_laysFinal 84 rfl (gk_laysFinal 85 rfl (gk_laysFinal 86 rfl (gk_laysFinal 87 rfl (gk_laysFinal 88 rfl (gk_laysFinal 89 rfl (gk_laysFinal 90 rfl (gk_laysFinal 91 rfl (gn))))))))))))))))))))))))))))))))))))))))))))))))))))))))))
set_option maxRecDepth 20000 in
theorem gX11_tallyFirsts_X11_firstOn : GoodIn wsX11_tallyFirsts (wsV RX11 220 RX11 yX11_firstOn wsX11_firstOn) := goodIn_app (gk_methodLink 17 rfl (gk_instanceMethod 18 rfl (gk_selects 19 rfl (gk_initialized 8 rfl (gn))))) ggX11_tallyFirsts_X11_firstOn
theorem dX11_tallyFirsts_41 : decode cX11_tallyFirsts 41 = .ok (.istore_n 3, 1) := dw62 (n := 32) (i := 9) kc_cX11_tallyFirsts_1 (by decide +kernel)
theorem dX11_tallyFirsts_42 : decode cX11_tallyFirsts 42 = .ok (.iload_n 3, 1) := dw29 (n := 32) (i := 10) kc_cX11_tallyFirsts_1 (by decide +kernel)
theorem dX11_tallyFirsts_43 : decode cX11_tallyFirsts 43 = .ok (.bipush (-9), 2) := dw16 (n := 32) (i := 11) (a := 247) kc_cX11_tallyFirsts_1 (by decide +kernel) (by decide)
theorem dX11_tallyFirsts_45 : decode cX11_tallyFirsts 45 = .ok (.if_icmp .eq 20, 3) := dw159 (n := 32) (i := 13) (a := 0) (b := 20) kc_cX11_tallyFirsts_1 (by decide +kernel) (by decide)
theorem dX11_tallyFirsts_65 : decode cX11_tallyFirsts 65 = .ok (.iinc 1 1, 3) := by decide +kernel
theorem dX11_tallyFirsts_68 : decode cX11_tallyFirsts 68 = .ok (.goto (-62), 3) := dw167 (n := 64) (i := 4) (a := 255) (b := 194) kc_cX11_tallyFirsts_2 (by decide +kernel) (by decide)
theorem dX11_tallyFirsts_48 : decode cX11_tallyFirsts 48 = .ok (.aload_n 0, 1) := dw42 (n := 32) (i := 16) kc_cX11_tallyFirsts_1 (by decide +kernel)
theorem dX11_tallyFirsts_49 : decode cX11_tallyFirsts 49 = .ok (.iload_n 3, 1) := dw29 (n := 32) (i := 17) kc_cX11_tallyFirsts_1 (by decide +kernel)
theorem dX11_tallyFirsts_50 : decode cX11_tallyFirsts 50 = .ok (.aload_n 0, 1) := dw42 (n := 32) (i := 18) kc_cX11_tallyFirsts_1 (by decide +kernel)
theorem dX11_tallyFirsts_51 : decode cX11_tallyFirsts 51 = .ok (.getfield 93, 3) := dw180 (n := 32) (i := 19) (a := 0) (b := 93) kc_cX11_tallyFirsts_1 (by decide +kernel) (by decide)
theorem dX11_tallyFirsts_54 : decode cX11_tallyFirsts 54 = .ok (.iload_n 1, 1) := dw27 (n := 32) (i := 22) kc_cX11_tallyFirsts_1 (by decide +kernel)
theorem dX11_tallyFirsts_55 : decode cX11_tallyFirsts 55 = .ok (.laload, 1) := dw47 (n := 32) (i := 23) kc_cX11_tallyFirsts_1 (by decide +kernel)
theorem dX11_tallyFirsts_56 : decode cX11_tallyFirsts 56 = .ok (.aload_n 0, 1) := dw42 (n := 32) (i := 24) kc_cX11_tallyFirsts_1 (by decide +kernel)
theorem dX11_tallyFirsts_57 : decode cX11_tallyFirsts 57 = .ok (.getfield 96, 3) := dw180 (n := 32) (i := 25) (a := 0) (b := 96) kc_cX11_tallyFirsts_1 (by decide +kernel) (by decide)
theorem dX11_tallyFirsts_60 : decode cX11_tallyFirsts 60 = .ok (.iload_n 1, 1) := dw27 (n := 32) (i := 28) kc_cX11_tallyFirsts_1 (by decide +kernel)
theorem dX11_tallyFirsts_61 : decode cX11_tallyFirsts 61 = .ok (.laload, 1) := dw47 (n := 32) (i := 29) kc_cX11_tallyFirsts_1 (by decide +kernel)
theorem dX11_tallyFirsts_62 : decode cX11_tallyFirsts 62 = .ok (.invokevirtual 223, 3) := dw182 (n := 32) (i := 30) (a := 0) (b := 223) kc_cX11_tallyFirsts_1 (by decide +kernel) (by decide)
set_option maxRecDepth 20000 in
theorem ggX11_tallyFirsts_X11_addTo : GoodIn wsX11_tallyFirsts wsX11_addTo := (gk_code 27 rfl (gk_fieldLink 10 rfl (gk_fieldLink 11 rfl (gk_fieldLink 28 rfl (gk_fieldLink 29 rfl (gk_methodLink 30 rfl (gk_instanceMethod 31 rfl (gk_selects 32 rfl (gk_initialized 8 rfl (gk_code 33 rfl (gk_fieldLink 34 rfl (gk_constantLong 35 rfl (gk_methodLink 36 rfl (gk_static 37 rfl (gk_code 38 rfl (gk_lays 39 rfl (gk_laysFinal 40 rfl (gk_lays 41 rfl (gk_laysFinal 42 rfl (gk_lays 43 rfl (gk_laysFinal 44 rfl (gk_laysFinal 45 rfl (gk_laysFinal 46 rfl (gk_laysFinal 47 rfl (gk_lays 48 rfl (gk_laysFinal 49 rfl (gk_laysFinal 50 rfl (gk_laysFinal 51 rfl (gk_laysFinal 52 rfl (gk_lays 53 rfl (gk_laysFinal 54 rfl (gk_laysFinal 55 rfl (gk_laysFinal 56 rfl (gk_laysFinal 57 rfl (gk_laysFinal 58 rfl (gk_laysFinal 59 rfl (gk_laysFinal 60 rfl (gk_laysFinal 61 rfl (gk_lays 62 rfl (gk_lays 63 rfl (gk_lays 64 rfl (gk_lays 65 rfl (gk_lays 66 rfl (gk_lays 67 rfl (gk_lays 68 rfl (gk_laysFinal 69 rfl (gk_lays 70 rfl (gk_laysFinal 71 rfl (gk_laysFinal 72 rfl (gk_laysFinal 73 rfl (gk_laysFinal 74 rfl (gk_laysFinal 75 rfl (gk_laysFinal 76 rfl (gk_laysFinal 77 rfl (gk_laysFinal 78 rfl (gk_laysFinal 79 rfl (gk_laysFinal 80 rfl (gk_lays 81 rfl (gk_laysFinal 82 rfl (gk_lays 83 rfl (gk_laysFinal 84 rfl (gk_laysFinal 85 rfl (gk_laysFinal 86 rfl (gk_laysFinal 87 rfl (gk_laysFinal 88 rfl (gk_laysFinal 89 rfl (gk_laysFinal 90 rfl (gk_laysFinal 91 rfl (gn)))))))))))))))))))))))))))))))))))))))))))))))))))))))))))))))))))))
set_option maxRecDepth 20000 in
theorem gX11_tallyFirsts_X11_addTo : GoodIn wsX11_tallyFirsts (wsV RX11 223 RX11 yX11_addTo wsX11_addTo) := goodIn_app (gk_methodLink 24 rfl (gk_instanceMethod 25 rfl (gk_selects 26 rfl (gk_initialized 8 rfl (gn))))) ggX11_tallyFirsts_X11_addTo
theorem dX11_tallyFirsts_31 : decode cX11_tallyFirsts 31 = .ok (.bipush (-9), 2) := dw16 (n := 0) (i := 31) (a := 247) kc_cX11_tallyFirsts_0 (by decide +kernel) (by decide)
theorem dX11_tallyFirsts_33 : decode cX11_tallyFirsts 33 = .ok (.goto 8, 3) := dw167 (n := 32) (i := 1) (a := 0) (b := 8) kc_cX11_tallyFirsts_1 (by decide +kernel) (by decide)
theorem dX11_tallyPoints_0 : decode cX11_tallyPoints 0 = .ok (.aload_n 0, 1) := dw42 (n := 0) (i := 0) kc_cX11_tallyPoints_0 (by decide +kernel)
theorem dX11_tallyPoints_1 : decode cX11_tallyPoints 1 = .ok (.invokevirtual 214, 3) := dw182 (n := 0) (i := 1) (a := 0) (b := 214) kc_cX11_tallyPoints_0 (by decide +kernel) (by decide)
set_option maxRecDepth 20000 in
theorem ggX11_tallyPoints_X11_noTallies : GoodIn wsX11_tallyPoints wsX11_noTallies := (gk_code 10 rfl (gk_fieldLink 11 rfl (gk_fieldLink 12 rfl (gk_lays 38 rfl (gk_laysFinal 39 rfl (gk_lays 40 rfl (gk_laysFinal 41 rfl (gk_lays 42 rfl (gk_laysFinal 43 rfl (gk_laysFinal 44 rfl (gk_laysFinal 45 rfl (gk_laysFinal 46 rfl (gk_lays 47 rfl (gk_laysFinal 48 rfl (gk_laysFinal 49 rfl (gk_laysFinal 50 rfl (gk_laysFinal 51 rfl (gk_lays 52 rfl (gk_laysFinal 53 rfl (gk_laysFinal 54 rfl (gk_laysFinal 55 rfl (gk_laysFinal 56 rfl (gk_laysFinal 57 rfl (gk_laysFinal 58 rfl (gk_laysFinal 59 rfl (gk_laysFinal 60 rfl (gk_lays 61 rfl (gk_lays 62 rfl (gk_lays 63 rfl (gk_lays 64 rfl (gk_lays 65 rfl (gk_lays 66 rfl (gk_lays 67 rfl (gk_laysFinal 68 rfl (gk_lays 69 rfl (gk_laysFinal 70 rfl (gk_laysFinal 71 rfl (gk_laysFinal 72 rfl (gk_laysFinal 73 rfl (gk_laysFinal 74 rfl (gk_laysFinal 75 rfl (gk_laysFinal 76 rfl (gk_laysFinal 77 rfl (gk_laysFinal 78 rfl (gk_laysFinal 79 rfl (gk_lays 80 rfl (gk_laysFinal 81 rfl (gk_lays 82 rfl (gk_laysFinal 83 rfl (gk_laysFinal 84 rfl (gk_laysFinal 85 rfl (gk_laysFinal 86 rfl (gk_laysFinal 87 rfl (gk_laysFinal 88 rfl (gk_laysFinal 89 rfl (gk_laysFinal 90 rfl (gn)))))))))))))))))))))))))))))))))))))))))))))))))))))))))
set_option maxRecDepth 20000 in
theorem gX11_tallyPoints_X11_noTallies : GoodIn wsX11_tallyPoints (wsV RX11 214 RX11 yX11_noTallies wsX11_noTallies) := goodIn_app (gk_methodLink 6 rfl (gk_instanceMethod 7 rfl (gk_selects 8 rfl (gk_initialized 9 rfl (gn))))) ggX11_tallyPoints_X11_noTallies
theorem dX11_tallyPoints_4 : decode cX11_tallyPoints 4 = .ok (.iconst 0, 1) := dw3 (n := 0) (i := 4) kc_cX11_tallyPoints_0 (by decide +kernel)
theorem dX11_tallyPoints_5 : decode cX11_tallyPoints 5 = .ok (.istore_n 2, 1) := dw61 (n := 0) (i := 5) kc_cX11_tallyPoints_0 (by decide +kernel)
theorem dX11_tallyPoints_6 : decode cX11_tallyPoints 6 = .ok (.iload_n 2, 1) := dw28 (n := 0) (i := 6) kc_cX11_tallyPoints_0 (by decide +kernel)
theorem dX11_tallyPoints_7 : decode cX11_tallyPoints 7 = .ok (.aload_n 0, 1) := dw42 (n := 0) (i := 7) kc_cX11_tallyPoints_0 (by decide +kernel)
theorem dX11_tallyPoints_8 : decode cX11_tallyPoints 8 = .ok (.getfield 31, 3) := dw180 (n := 0) (i := 8) (a := 0) (b := 31) kc_cX11_tallyPoints_0 (by decide +kernel) (by decide)
theorem in_X11_tallyPoints_11 : ∀ w ∈ u_ws RX11 TX11 53, w ∈ wsX11_tallyPoints := fun _ h => List.mem_cons_of_mem _ (List.mem_append_right _ h)
theorem dX11_tallyPoints_11 : decode cX11_tallyPoints 11 = .ok (.aload_n 0, 1) := dw42 (n := 0) (i := 11) kc_cX11_tallyPoints_0 (by decide +kernel)
theorem dX11_tallyPoints_12 : decode cX11_tallyPoints 12 = .ok (.getfield 201, 3) := dw180 (n := 0) (i := 12) (a := 0) (b := 201) kc_cX11_tallyPoints_0 (by decide +kernel) (by decide)
theorem dX11_tallyPoints_15 : decode cX11_tallyPoints 15 = .ok (.iaload, 1) := dw46 (n := 0) (i := 15) kc_cX11_tallyPoints_0 (by decide +kernel)
theorem dX11_tallyPoints_16 : decode cX11_tallyPoints 16 = .ok (.if_icmp .ge 116, 3) := dw162 (n := 0) (i := 16) (a := 0) (b := 116) kc_cX11_tallyPoints_0 (by decide +kernel) (by decide)
theorem dX11_tallyPoints_132 : decode cX11_tallyPoints 132 = .ok (.return_, 1) := dw177 (n := 128) (i := 4) kc_cX11_tallyPoints_4 (by decide +kernel)
theorem dX11_tallyPoints_19 : decode cX11_tallyPoints 19 = .ok (.aload_n 0, 1) := dw42 (n := 0) (i := 19) kc_cX11_tallyPoints_0 (by decide +kernel)
theorem dX11_tallyPoints_20 : decode cX11_tallyPoints 20 = .ok (.iload_n 2, 1) := dw28 (n := 0) (i := 20) kc_cX11_tallyPoints_0 (by decide +kernel)
theorem dX11_tallyPoints_21 : decode cX11_tallyPoints 21 = .ok (.invokevirtual 217, 3) := dw182 (n := 0) (i := 21) (a := 0) (b := 217) kc_cX11_tallyPoints_0 (by decide +kernel) (by decide)
set_option maxRecDepth 20000 in
theorem ggX11_tallyPoints_X11_ballotAt : GoodIn wsX11_tallyPoints wsX11_ballotAt := (gk_code 16 rfl (gk_fieldLink 17 rfl (gk_fieldLink 2 rfl (gk_lays 38 rfl (gk_laysFinal 39 rfl (gk_lays 40 rfl (gk_laysFinal 41 rfl (gk_lays 42 rfl (gk_laysFinal 43 rfl (gk_laysFinal 44 rfl (gk_laysFinal 45 rfl (gk_laysFinal 46 rfl (gk_lays 47 rfl (gk_laysFinal 48 rfl (gk_laysFinal 49 rfl (gk_laysFinal 50 rfl (gk_laysFinal 51 rfl (gk_lays 52 rfl (gk_laysFinal 53 rfl (gk_laysFinal 54 rfl (gk_laysFinal 55 rfl (gk_laysFinal 56 rfl (gk_laysFinal 57 rfl (gk_laysFinal 58 rfl (gk_laysFinal 59 rfl (gk_laysFinal 60 rfl (gk_lays 61 rfl (gk_lays 62 rfl (gk_lays 63 rfl (gk_lays 64 rfl (gk_lays 65 rfl (gk_lays 66 rfl (gk_lays 67 rfl (gk_laysFinal 68 rfl (gk_lays 69 rfl (gk_laysFinal 70 rfl (gk_laysFinal 71 rfl (gk_laysFinal 72 rfl (gk_laysFinal 73 rfl (gk_laysFinal 74 rfl (gk_laysFinal 75 rfl (gk_laysFinal 76 rfl (gk_laysFinal 77 rfl (gk_laysFinal 78 rfl (gk_laysFinal 79 rfl (gk_lays 80 rfl (gk_laysFinal 81 rfl (gk_lays 82 rfl (gk_laysFinal 83 rfl (gk_laysFinal 84 rfl (gk_laysFinal 85 rfl (gk_laysFinal 86 rfl (gk_laysFinal 87 rfl (gk_laysFinal 88 rfl (gk_laysFinal 89 rfl (gk_laysFinal 90 rfl (gn)))))))))))))))))))))))))))))))))))))))))))))))))))))))))
set_option maxRecDepth 20000 in
theorem gX11_tallyPoints_X11_ballotAt : GoodIn wsX11_tallyPoints (wsV RX11 217 RX11 yX11_ballotAt wsX11_ballotAt) := goodIn_app (gk_methodLink 13 rfl (gk_instanceMethod 14 rfl (gk_selects 15 rfl (gk_initialized 9 rfl (gn))))) ggX11_tallyPoints_X11_ballotAt
theorem dX11_tallyPoints_24 : decode cX11_tallyPoints 24 = .ok (.istore_n 3, 1) := dw62 (n := 0) (i := 24) kc_cX11_tallyPoints_0 (by decide +kernel)
theorem dX11_tallyPoints_25 : decode cX11_tallyPoints 25 = .ok (.iconst 0, 1) := dw3 (n := 0) (i := 25) kc_cX11_tallyPoints_0 (by decide +kernel)
theorem dX11_tallyPoints_26 : decode cX11_tallyPoints 26 = .ok (.istore 4, 2) := dw54 (n := 0) (i := 26) (a := 4) kc_cX11_tallyPoints_0 (by decide +kernel) (by decide)
theorem dX11_tallyPoints_28 : decode cX11_tallyPoints 28 = .ok (.iload 4, 2) := dw21 (n := 0) (i := 28) (a := 4) kc_cX11_tallyPoints_0 (by decide +kernel) (by decide)
theorem dX11_tallyPoints_30 : decode cX11_tallyPoints 30 = .ok (.aload_n 0, 1) := dw42 (n := 0) (i := 30) kc_cX11_tallyPoints_0 (by decide +kernel)
theorem dX11_tallyPoints_31 : decode cX11_tallyPoints 31 = .ok (.getfield 137, 3) := dw180 (n := 0) (i := 31) (a := 0) (b := 137) kc_cX11_tallyPoints_0 (by decide +kernel) (by decide)
theorem dX11_tallyPoints_34 : decode cX11_tallyPoints 34 = .ok (.if_icmp .ge 92, 3) := dw162 (n := 32) (i := 2) (a := 0) (b := 92) kc_cX11_tallyPoints_1 (by decide +kernel) (by decide)
theorem dX11_tallyPoints_126 : decode cX11_tallyPoints 126 = .ok (.iinc 2 1, 3) := by decide +kernel
theorem dX11_tallyPoints_129 : decode cX11_tallyPoints 129 = .ok (.goto (-123), 3) := dw167 (n := 128) (i := 1) (a := 255) (b := 133) kc_cX11_tallyPoints_4 (by decide +kernel) (by decide)
theorem dX11_tallyPoints_37 : decode cX11_tallyPoints 37 = .ok (.iload_n 3, 1) := dw29 (n := 32) (i := 5) kc_cX11_tallyPoints_1 (by decide +kernel)
theorem dX11_tallyPoints_38 : decode cX11_tallyPoints 38 = .ok (.bipush (-9), 2) := dw16 (n := 32) (i := 6) (a := 247) kc_cX11_tallyPoints_1 (by decide +kernel) (by decide)
theorem dX11_tallyPoints_40 : decode cX11_tallyPoints 40 = .ok (.if_icmp .eq 86, 3) := dw159 (n := 32) (i := 8) (a := 0) (b := 86) kc_cX11_tallyPoints_1 (by decide +kernel) (by decide)
theorem dX11_tallyPoints_43 : decode cX11_tallyPoints 43 = .ok (.iload_n 1, 1) := dw27 (n := 32) (i := 11) kc_cX11_tallyPoints_1 (by decide +kernel)
theorem dX11_tallyPoints_44 : decode cX11_tallyPoints 44 = .ok (.ifCond .eq 13, 3) := dw153 (n := 32) (i := 12) (a := 0) (b := 13) kc_cX11_tallyPoints_1 (by decide +kernel) (by decide)
theorem dX11_tallyPoints_57 : decode cX11_tallyPoints 57 = .ok (.aload_n 0, 1) := dw42 (n := 32) (i := 25) kc_cX11_tallyPoints_1 (by decide +kernel)
theorem dX11_tallyPoints_58 : decode cX11_tallyPoints 58 = .ok (.getfield 25, 3) := dw180 (n := 32) (i := 26) (a := 0) (b := 25) kc_cX11_tallyPoints_1 (by decide +kernel) (by decide)
theorem dX11_tallyPoints_61 : decode cX11_tallyPoints 61 = .ok (.bipush 10, 2) := dw16 (n := 32) (i := 29) (a := 10) kc_cX11_tallyPoints_1 (by decide +kernel) (by decide)
theorem dX11_tallyPoints_63 : decode cX11_tallyPoints 63 = .ok (.iload_n 3, 1) := dw29 (n := 32) (i := 31) kc_cX11_tallyPoints_1 (by decide +kernel)
theorem dX11_tallyPoints_64 : decode cX11_tallyPoints 64 = .ok (.imul, 1) := dw104 (n := 64) (i := 0) kc_cX11_tallyPoints_2 (by decide +kernel)
theorem dX11_tallyPoints_65 : decode cX11_tallyPoints 65 = .ok (.iload 4, 2) := dw21 (n := 64) (i := 1) (a := 4) kc_cX11_tallyPoints_2 (by decide +kernel) (by decide)
theorem dX11_tallyPoints_67 : decode cX11_tallyPoints 67 = .ok (.iadd, 1) := dw96 (n := 64) (i := 3) kc_cX11_tallyPoints_2 (by decide +kernel)
theorem dX11_tallyPoints_68 : decode cX11_tallyPoints 68 = .ok (.iaload, 1) := dw46 (n := 64) (i := 4) kc_cX11_tallyPoints_2 (by decide +kernel)
theorem dX11_tallyPoints_69 : decode cX11_tallyPoints 69 = .ok (.istore 5, 2) := dw54 (n := 64) (i := 5) (a := 5) kc_cX11_tallyPoints_2 (by decide +kernel) (by decide)
theorem dX11_tallyPoints_71 : decode cX11_tallyPoints 71 = .ok (.iload_n 1, 1) := dw27 (n := 64) (i := 7) kc_cX11_tallyPoints_2 (by decide +kernel)
theorem dX11_tallyPoints_72 : decode cX11_tallyPoints 72 = .ok (.ifCond .ne 8, 3) := dw154 (n := 64) (i := 8) (a := 0) (b := 8) kc_cX11_tallyPoints_2 (by decide +kernel) (by decide)
theorem dX11_tallyPoints_80 : decode cX11_tallyPoints 80 = .ok (.iload 5, 2) := dw21 (n := 64) (i := 16) (a := 5) kc_cX11_tallyPoints_2 (by decide +kernel) (by decide)
theorem dX11_tallyPoints_82 : decode cX11_tallyPoints 82 = .ok (.bipush (-9), 2) := dw16 (n := 64) (i := 18) (a := 247) kc_cX11_tallyPoints_2 (by decide +kernel) (by decide)
theorem dX11_tallyPoints_84 : decode cX11_tallyPoints 84 = .ok (.if_icmp .ne 7, 3) := dw160 (n := 64) (i := 20) (a := 0) (b := 7) kc_cX11_tallyPoints_2 (by decide +kernel) (by decide)
theorem dX11_tallyPoints_91 : decode cX11_tallyPoints 91 = .ok (.aload_n 0, 1) := dw42 (n := 64) (i := 27) kc_cX11_tallyPoints_2 (by decide +kernel)
theorem dX11_tallyPoints_92 : decode cX11_tallyPoints 92 = .ok (.getfield 137, 3) := dw180 (n := 64) (i := 28) (a := 0) (b := 137) kc_cX11_tallyPoints_2 (by decide +kernel) (by decide)
theorem dX11_tallyPoints_95 : decode cX11_tallyPoints 95 = .ok (.iconst 1, 1) := dw4 (n := 64) (i := 31) kc_cX11_tallyPoints_2 (by decide +kernel)
theorem dX11_tallyPoints_96 : decode cX11_tallyPoints 96 = .ok (.isub, 1) := dw100 (n := 96) (i := 0) kc_cX11_tallyPoints_3 (by decide +kernel)
theorem dX11_tallyPoints_97 : decode cX11_tallyPoints 97 = .ok (.iload 5, 2) := dw21 (n := 96) (i := 1) (a := 5) kc_cX11_tallyPoints_3 (by decide +kernel) (by decide)
theorem dX11_tallyPoints_99 : decode cX11_tallyPoints 99 = .ok (.isub, 1) := dw100 (n := 96) (i := 3) kc_cX11_tallyPoints_3 (by decide +kernel)
theorem dX11_tallyPoints_100 : decode cX11_tallyPoints 100 = .ok (.istore 6, 2) := dw54 (n := 96) (i := 4) (a := 6) kc_cX11_tallyPoints_3 (by decide +kernel) (by decide)
theorem dX11_tallyPoints_102 : decode cX11_tallyPoints 102 = .ok (.aload_n 0, 1) := dw42 (n := 96) (i := 6) kc_cX11_tallyPoints_3 (by decide +kernel)
theorem dX11_tallyPoints_103 : decode cX11_tallyPoints 103 = .ok (.iload 4, 2) := dw21 (n := 96) (i := 7) (a := 4) kc_cX11_tallyPoints_3 (by decide +kernel) (by decide)
theorem dX11_tallyPoints_105 : decode cX11_tallyPoints 105 = .ok (.aload_n 0, 1) := dw42 (n := 96) (i := 9) kc_cX11_tallyPoints_3 (by decide +kernel)
theorem dX11_tallyPoints_106 : decode cX11_tallyPoints 106 = .ok (.getfield 19, 3) := dw180 (n := 96) (i := 10) (a := 0) (b := 19) kc_cX11_tallyPoints_3 (by decide +kernel) (by decide)
theorem dX11_tallyPoints_109 : decode cX11_tallyPoints 109 = .ok (.iload_n 3, 1) := dw29 (n := 96) (i := 13) kc_cX11_tallyPoints_3 (by decide +kernel)
theorem dX11_tallyPoints_110 : decode cX11_tallyPoints 110 = .ok (.iaload, 1) := dw46 (n := 96) (i := 14) kc_cX11_tallyPoints_3 (by decide +kernel)
theorem dX11_tallyPoints_111 : decode cX11_tallyPoints 111 = .ok (.i2l, 1) := dw133 (n := 96) (i := 15) kc_cX11_tallyPoints_3 (by decide +kernel)
theorem dX11_tallyPoints_112 : decode cX11_tallyPoints 112 = .ok (.iload 6, 2) := dw21 (n := 96) (i := 16) (a := 6) kc_cX11_tallyPoints_3 (by decide +kernel) (by decide)
theorem dX11_tallyPoints_114 : decode cX11_tallyPoints 114 = .ok (.i2l, 1) := dw133 (n := 96) (i := 18) kc_cX11_tallyPoints_3 (by decide +kernel)
theorem dX11_tallyPoints_115 : decode cX11_tallyPoints 115 = .ok (.lmul, 1) := dw105 (n := 96) (i := 19) kc_cX11_tallyPoints_3 (by decide +kernel)
theorem dX11_tallyPoints_116 : decode cX11_tallyPoints 116 = .ok (.lconst 1, 1) := dw10 (n := 96) (i := 20) kc_cX11_tallyPoints_3 (by decide +kernel)
theorem dX11_tallyPoints_117 : decode cX11_tallyPoints 117 = .ok (.invokevirtual 223, 3) := dw182 (n := 96) (i := 21) (a := 0) (b := 223) kc_cX11_tallyPoints_3 (by decide +kernel) (by decide)
set_option maxRecDepth 20000 in
theorem ggX11_tallyPoints_X11_addTo : GoodIn wsX11_tallyPoints wsX11_addTo := (gk_code 26 rfl (gk_fieldLink 11 rfl (gk_fieldLink 12 rfl (gk_fieldLink 27 rfl (gk_fieldLink 28 rfl (gk_methodLink 29 rfl (gk_instanceMethod 30 rfl (gk_selects 31 rfl (gk_initialized 9 rfl (gk_code 32 rfl (gk_fieldLink 33 rfl (gk_constantLong 34 rfl (gk_methodLink 35 rfl (gk_static 36 rfl (gk_code 37 rfl (gk_lays 38 rfl (gk_laysFinal 39 rfl (gk_lays 40 rfl (gk_laysFinal 41 rfl (gk_lays 42 rfl (gk_laysFinal 43 rfl (gk_laysFinal 44 rfl (gk_laysFinal 45 rfl (gk_laysFinal 46 rfl (gk_lays 47 rfl (gk_laysFinal 48 rfl (gk_laysFinal 49 rfl (gk_laysFinal 50 rfl (gk_laysFinal 51 rfl (gk_lays 52 rfl (gk_laysFinal 53 rfl (gk_laysFinal 54 rfl (gk_laysFinal 55 rfl (gk_laysFinal 56 rfl (gk_laysFinal 57 rfl (gk_laysFinal 58 rfl (gk_laysFinal 59 rfl (gk_laysFinal 60 rfl (gk_lays 61 rfl (gk_lays 62 rfl (gk_lays 63 rfl (gk_lays 64 rfl (gk_lays 65 rfl (gk_lays 66 rfl (gk_lays 67 rfl (gk_laysFinal 68 rfl (gk_lays 69 rfl (gk_laysFinal 70 rfl (gk_laysFinal 71 rfl (gk_laysFinal 72 rfl (gk_laysFinal 73 rfl (gk_laysFinal 74 rfl (gk_laysFinal 75 rfl (gk_laysFinal 76 rfl (gk_laysFinal 77 rfl (gk_laysFinal 78 rfl (gk_laysFinal 79 rfl (gk_lays 80 rfl (gk_laysFinal 81 rfl (gk_lays 82 rfl (gk_laysFinal 83 rfl (gk_laysFinal 84 rfl (gk_laysFinal 85 rfl (gk_laysFinal 86 rfl (gk_laysFinal 87 rfl (gk_laysFinal 88 rfl (gk_laysFinal 89 rfl (gk_laysFinal 90 rfl (gn)))))))))))))))))))))))))))))))))))))))))))))))))))))))))))))))))))))
set_option maxRecDepth 20000 in
theorem gX11_tallyPoints_X11_addTo : GoodIn wsX11_tallyPoints (wsV RX11 223 RX11 yX11_addTo wsX11_addTo) := goodIn_app (gk_methodLink 23 rfl (gk_instanceMethod 24 rfl (gk_selects 25 rfl (gk_initialized 9 rfl (gn))))) ggX11_tallyPoints_X11_addTo
theorem dX11_tallyPoints_120 : decode cX11_tallyPoints 120 = .ok (.iinc 4 1, 3) := by decide +kernel
theorem dX11_tallyPoints_123 : decode cX11_tallyPoints 123 = .ok (.goto (-95), 3) := dw167 (n := 96) (i := 27) (a := 255) (b := 161) kc_cX11_tallyPoints_3 (by decide +kernel) (by decide)
theorem dX11_tallyPoints_87 : decode cX11_tallyPoints 87 = .ok (.iconst 0, 1) := dw3 (n := 64) (i := 23) kc_cX11_tallyPoints_2 (by decide +kernel)
theorem dX11_tallyPoints_88 : decode cX11_tallyPoints 88 = .ok (.goto 12, 3) := dw167 (n := 64) (i := 24) (a := 0) (b := 12) kc_cX11_tallyPoints_2 (by decide +kernel) (by decide)
theorem dX11_tallyPoints_75 : decode cX11_tallyPoints 75 = .ok (.iload 5, 2) := dw21 (n := 64) (i := 11) (a := 5) kc_cX11_tallyPoints_2 (by decide +kernel) (by decide)
theorem dX11_tallyPoints_77 : decode cX11_tallyPoints 77 = .ok (.goto 23, 3) := dw167 (n := 64) (i := 13) (a := 0) (b := 23) kc_cX11_tallyPoints_2 (by decide +kernel) (by decide)
theorem dX11_tallyPoints_47 : decode cX11_tallyPoints 47 = .ok (.aload_n 0, 1) := dw42 (n := 32) (i := 15) kc_cX11_tallyPoints_1 (by decide +kernel)
theorem dX11_tallyPoints_48 : decode cX11_tallyPoints 48 = .ok (.iload_n 3, 1) := dw29 (n := 32) (i := 16) kc_cX11_tallyPoints_1 (by decide +kernel)
theorem dX11_tallyPoints_49 : decode cX11_tallyPoints 49 = .ok (.iload 4, 2) := dw21 (n := 32) (i := 17) (a := 4) kc_cX11_tallyPoints_1 (by decide +kernel) (by decide)
theorem dX11_tallyPoints_51 : decode cX11_tallyPoints 51 = .ok (.invokevirtual 159, 3) := dw182 (n := 32) (i := 19) (a := 0) (b := 159) kc_cX11_tallyPoints_1 (by decide +kernel) (by decide)
set_option maxRecDepth 20000 in
theorem ggX11_tallyPoints_X11_placeOn : GoodIn wsX11_tallyPoints wsX11_placeOn := (gk_code 21 rfl (gk_fieldLink 22 rfl (gk_fieldLink 4 rfl (gk_lays 38 rfl (gk_laysFinal 39 rfl (gk_lays 40 rfl (gk_laysFinal 41 rfl (gk_lays 42 rfl (gk_laysFinal 43 rfl (gk_laysFinal 44 rfl (gk_laysFinal 45 rfl (gk_laysFinal 46 rfl (gk_lays 47 rfl (gk_laysFinal 48 rfl (gk_laysFinal 49 rfl (gk_laysFinal 50 rfl (gk_laysFinal 51 rfl (gk_lays 52 rfl (gk_laysFinal 53 rfl (gk_laysFinal 54 rfl (gk_laysFinal 55 rfl (gk_laysFinal 56 rfl (gk_laysFinal 57 rfl (gk_laysFinal 58 rfl (gk_laysFinal 59 rfl (gk_laysFinal 60 rfl (gk_lays 61 rfl (gk_lays 62 rfl (gk_lays 63 rfl (gk_lays 64 rfl (gk_lays 65 rfl (gk_lays 66 rfl (gk_lays 67 rfl (gk_laysFinal 68 rfl (gk_lays 69 rfl (gk_laysFinal 70 rfl (gk_laysFinal 71 rfl (gk_laysFinal 72 rfl (gk_laysFinal 73 rfl (gk_laysFinal 74 rfl (gk_laysFinal 75 rfl (gk_laysFinal 76 rfl (gk_laysFinal 77 rfl (gk_laysFinal 78 rfl (gk_laysFinal 79 rfl (gk_lays 80 rfl (gk_laysFinal 81 rfl (gk_lays 82 rfl (gk_laysFinal 83 rfl (gk_laysFinal 84 rfl (gk_laysFinal 85 rfl (gk_laysFinal 86 rfl (gk_laysFinal 87 rfl (gk_laysFinal 88 rfl (gk_laysFinal 89 rfl (gk_laysFinal 90 rfl (gn)))))))))))))))))))))))))))))))))))))))))))))))))))))))))
set_option maxRecDepth 20000 in
theorem gX11_tallyPoints_X11_placeOn : GoodIn wsX11_tallyPoints (wsV RX11 159 RX11 yX11_placeOn wsX11_placeOn) := goodIn_app (gk_methodLink 18 rfl (gk_instanceMethod 19 rfl (gk_selects 20 rfl (gk_initialized 9 rfl (gn))))) ggX11_tallyPoints_X11_placeOn
theorem dX11_tallyPoints_54 : decode cX11_tallyPoints 54 = .ok (.goto 15, 3) := dw167 (n := 32) (i := 22) (a := 0) (b := 15) kc_cX11_tallyPoints_1 (by decide +kernel) (by decide)
theorem dX11_greatest_0 : decode cX11_greatest 0 = .ok (.bipush (-9), 2) := dw16 (n := 0) (i := 0) (a := 247) kc_cX11_greatest_0 (by decide +kernel) (by decide)
theorem dX11_greatest_2 : decode cX11_greatest 2 = .ok (.istore_n 1, 1) := dw60 (n := 0) (i := 2) kc_cX11_greatest_0 (by decide +kernel)
theorem dX11_greatest_3 : decode cX11_greatest 3 = .ok (.iconst 0, 1) := dw3 (n := 0) (i := 3) kc_cX11_greatest_0 (by decide +kernel)
theorem dX11_greatest_4 : decode cX11_greatest 4 = .ok (.istore_n 2, 1) := dw61 (n := 0) (i := 4) kc_cX11_greatest_0 (by decide +kernel)
theorem dX11_greatest_5 : decode cX11_greatest 5 = .ok (.iload_n 2, 1) := dw28 (n := 0) (i := 5) kc_cX11_greatest_0 (by decide +kernel)
theorem dX11_greatest_6 : decode cX11_greatest 6 = .ok (.aload_n 0, 1) := dw42 (n := 0) (i := 6) kc_cX11_greatest_0 (by decide +kernel)
theorem dX11_greatest_7 : decode cX11_greatest 7 = .ok (.getfield 137, 3) := dw180 (n := 0) (i := 7) (a := 0) (b := 137) kc_cX11_greatest_0 (by decide +kernel) (by decide)
theorem in_X11_greatest_11 : ∀ w ∈ u_ws RX11 TX11 53, w ∈ wsX11_greatest := fun _ h => List.mem_cons_of_mem _ (List.mem_append_right _ h)
theorem dX11_greatest_10 : decode cX11_greatest 10 = .ok (.if_icmp .ge 67, 3) := dw162 (n := 0) (i := 10) (a := 0) (b := 67) kc_cX11_greatest_0 (by decide +kernel) (by decide)
theorem dX11_greatest_77 : decode cX11_greatest 77 = .ok (.iload_n 1, 1) := dw27 (n := 64) (i := 13) kc_cX11_greatest_2 (by decide +kernel)
theorem dX11_greatest_78 : decode cX11_greatest 78 = .ok (.ireturn, 1) := dw172 (n := 64) (i := 14) kc_cX11_greatest_2 (by decide +kernel)
theorem dX11_greatest_13 : decode cX11_greatest 13 = .ok (.aload_n 0, 1) := dw42 (n := 0) (i := 13) kc_cX11_greatest_0 (by decide +kernel)
theorem dX11_greatest_14 : decode cX11_greatest 14 = .ok (.getfield 13, 3) := dw180 (n := 0) (i := 14) (a := 0) (b := 13) kc_cX11_greatest_0 (by decide +kernel) (by decide)
theorem dX11_greatest_17 : decode cX11_greatest 17 = .ok (.iload_n 2, 1) := dw28 (n := 0) (i := 17) kc_cX11_greatest_0 (by decide +kernel)
theorem dX11_greatest_18 : decode cX11_greatest 18 = .ok (.iaload, 1) := dw46 (n := 0) (i := 18) kc_cX11_greatest_0 (by decide +kernel)
theorem dX11_greatest_19 : decode cX11_greatest 19 = .ok (.istore_n 3, 1) := dw62 (n := 0) (i := 19) kc_cX11_greatest_0 (by decide +kernel)
theorem dX11_greatest_20 : decode cX11_greatest 20 = .ok (.aload_n 0, 1) := dw42 (n := 0) (i := 20) kc_cX11_greatest_0 (by decide +kernel)
theorem dX11_greatest_21 : decode cX11_greatest 21 = .ok (.getfield 81, 3) := dw180 (n := 0) (i := 21) (a := 0) (b := 81) kc_cX11_greatest_0 (by decide +kernel) (by decide)
theorem dX11_greatest_24 : decode cX11_greatest 24 = .ok (.iload_n 3, 1) := dw29 (n := 0) (i := 24) kc_cX11_greatest_0 (by decide +kernel)
theorem dX11_greatest_25 : decode cX11_greatest 25 = .ok (.baload, 1) := dw51 (n := 0) (i := 25) kc_cX11_greatest_0 (by decide +kernel)
theorem dX11_greatest_26 : decode cX11_greatest 26 = .ok (.ifCond .eq 43, 3) := dw153 (n := 0) (i := 26) (a := 0) (b := 43) kc_cX11_greatest_0 (by decide +kernel) (by decide)
theorem dX11_greatest_69 : decode cX11_greatest 69 = .ok (.iload_n 1, 1) := dw27 (n := 64) (i := 5) kc_cX11_greatest_2 (by decide +kernel)
theorem dX11_greatest_70 : decode cX11_greatest 70 = .ok (.istore_n 1, 1) := dw60 (n := 64) (i := 6) kc_cX11_greatest_2 (by decide +kernel)
theorem dX11_greatest_71 : decode cX11_greatest 71 = .ok (.iinc 2 1, 3) := by decide +kernel
theorem dX11_greatest_74 : decode cX11_greatest 74 = .ok (.goto (-69), 3) := dw167 (n := 64) (i := 10) (a := 255) (b := 187) kc_cX11_greatest_2 (by decide +kernel) (by decide)
theorem dX11_greatest_29 : decode cX11_greatest 29 = .ok (.iload_n 1, 1) := dw27 (n := 0) (i := 29) kc_cX11_greatest_0 (by decide +kernel)
theorem dX11_greatest_30 : decode cX11_greatest 30 = .ok (.bipush (-9), 2) := dw16 (n := 0) (i := 30) (a := 247) kc_cX11_greatest_0 (by decide +kernel) (by decide)
theorem dX11_greatest_32 : decode cX11_greatest 32 = .ok (.if_icmp .eq 33, 3) := dw159 (n := 32) (i := 0) (a := 0) (b := 33) kc_cX11_greatest_1 (by decide +kernel) (by decide)
theorem dX11_greatest_65 : decode cX11_greatest 65 = .ok (.iload_n 3, 1) := dw29 (n := 64) (i := 1) kc_cX11_greatest_2 (by decide +kernel)
theorem dX11_greatest_66 : decode cX11_greatest 66 = .ok (.goto 4, 3) := dw167 (n := 64) (i := 2) (a := 0) (b := 4) kc_cX11_greatest_2 (by decide +kernel) (by decide)
theorem dX11_greatest_35 : decode cX11_greatest 35 = .ok (.aload_n 0, 1) := dw42 (n := 32) (i := 3) kc_cX11_greatest_1 (by decide +kernel)
theorem dX11_greatest_36 : decode cX11_greatest 36 = .ok (.getfield 87, 3) := dw180 (n := 32) (i := 4) (a := 0) (b := 87) kc_cX11_greatest_1 (by decide +kernel) (by decide)
theorem dX11_greatest_39 : decode cX11_greatest 39 = .ok (.iload_n 3, 1) := dw29 (n := 32) (i := 7) kc_cX11_greatest_1 (by decide +kernel)
theorem dX11_greatest_40 : decode cX11_greatest 40 = .ok (.laload, 1) := dw47 (n := 32) (i := 8) kc_cX11_greatest_1 (by decide +kernel)
theorem dX11_greatest_41 : decode cX11_greatest 41 = .ok (.aload_n 0, 1) := dw42 (n := 32) (i := 9) kc_cX11_greatest_1 (by decide +kernel)
theorem dX11_greatest_42 : decode cX11_greatest 42 = .ok (.getfield 90, 3) := dw180 (n := 32) (i := 10) (a := 0) (b := 90) kc_cX11_greatest_1 (by decide +kernel) (by decide)
theorem dX11_greatest_45 : decode cX11_greatest 45 = .ok (.iload_n 3, 1) := dw29 (n := 32) (i := 13) kc_cX11_greatest_1 (by decide +kernel)
theorem dX11_greatest_46 : decode cX11_greatest 46 = .ok (.laload, 1) := dw47 (n := 32) (i := 14) kc_cX11_greatest_1 (by decide +kernel)
theorem dX11_greatest_47 : decode cX11_greatest 47 = .ok (.aload_n 0, 1) := dw42 (n := 32) (i := 15) kc_cX11_greatest_1 (by decide +kernel)
theorem dX11_greatest_48 : decode cX11_greatest 48 = .ok (.getfield 87, 3) := dw180 (n := 32) (i := 16) (a := 0) (b := 87) kc_cX11_greatest_1 (by decide +kernel) (by decide)
theorem dX11_greatest_51 : decode cX11_greatest 51 = .ok (.iload_n 1, 1) := dw27 (n := 32) (i := 19) kc_cX11_greatest_1 (by decide +kernel)
theorem dX11_greatest_52 : decode cX11_greatest 52 = .ok (.laload, 1) := dw47 (n := 32) (i := 20) kc_cX11_greatest_1 (by decide +kernel)
theorem dX11_greatest_53 : decode cX11_greatest 53 = .ok (.aload_n 0, 1) := dw42 (n := 32) (i := 21) kc_cX11_greatest_1 (by decide +kernel)
theorem dX11_greatest_54 : decode cX11_greatest 54 = .ok (.getfield 90, 3) := dw180 (n := 32) (i := 22) (a := 0) (b := 90) kc_cX11_greatest_1 (by decide +kernel) (by decide)
theorem dX11_greatest_57 : decode cX11_greatest 57 = .ok (.iload_n 1, 1) := dw27 (n := 32) (i := 25) kc_cX11_greatest_1 (by decide +kernel)
theorem dX11_greatest_58 : decode cX11_greatest 58 = .ok (.laload, 1) := dw47 (n := 32) (i := 26) kc_cX11_greatest_1 (by decide +kernel)
theorem dX11_greatest_59 : decode cX11_greatest 59 = .ok (.invokestatic 227, 3) := dw184 (n := 32) (i := 27) (a := 0) (b := 227) kc_cX11_greatest_1 (by decide +kernel) (by decide)
set_option maxRecDepth 20000 in
theorem ggX11_greatest_X11_isMore : GoodIn wsX11_greatest wsX11_isMore := (gk_code 9 rfl (gn))
set_option maxRecDepth 20000 in
theorem gX11_greatest_X11_isMore : GoodIn wsX11_greatest (va_wsS RX11 227 yX11_isMore wsX11_isMore) := goodIn_app (gk_methodLink 6 rfl (gk_static 7 rfl (gk_initialized 8 rfl (gn)))) ggX11_greatest_X11_isMore
theorem dX11_greatest_62 : decode cX11_greatest 62 = .ok (.ifCond .eq 7, 3) := dw153 (n := 32) (i := 30) (a := 0) (b := 7) kc_cX11_greatest_1 (by decide +kernel) (by decide)
theorem dX11_least_0 : decode cX11_least 0 = .ok (.bipush (-9), 2) := dw16 (n := 0) (i := 0) (a := 247) kc_cX11_least_0 (by decide +kernel) (by decide)
theorem dX11_least_2 : decode cX11_least 2 = .ok (.istore_n 1, 1) := dw60 (n := 0) (i := 2) kc_cX11_least_0 (by decide +kernel)
theorem dX11_least_3 : decode cX11_least 3 = .ok (.iconst 0, 1) := dw3 (n := 0) (i := 3) kc_cX11_least_0 (by decide +kernel)
theorem dX11_least_4 : decode cX11_least 4 = .ok (.istore_n 2, 1) := dw61 (n := 0) (i := 4) kc_cX11_least_0 (by decide +kernel)
theorem dX11_least_5 : decode cX11_least 5 = .ok (.iload_n 2, 1) := dw28 (n := 0) (i := 5) kc_cX11_least_0 (by decide +kernel)
theorem dX11_least_6 : decode cX11_least 6 = .ok (.aload_n 0, 1) := dw42 (n := 0) (i := 6) kc_cX11_least_0 (by decide +kernel)
theorem dX11_least_7 : decode cX11_least 7 = .ok (.getfield 137, 3) := dw180 (n := 0) (i := 7) (a := 0) (b := 137) kc_cX11_least_0 (by decide +kernel) (by decide)
theorem in_X11_least_11 : ∀ w ∈ u_ws RX11 TX11 53, w ∈ wsX11_least := fun _ h => List.mem_cons_of_mem _ (List.mem_append_right _ h)
theorem dX11_least_10 : decode cX11_least 10 = .ok (.if_icmp .ge 67, 3) := dw162 (n := 0) (i := 10) (a := 0) (b := 67) kc_cX11_least_0 (by decide +kernel) (by decide)
theorem dX11_least_77 : decode cX11_least 77 = .ok (.iload_n 1, 1) := dw27 (n := 64) (i := 13) kc_cX11_least_2 (by decide +kernel)
theorem dX11_least_78 : decode cX11_least 78 = .ok (.ireturn, 1) := dw172 (n := 64) (i := 14) kc_cX11_least_2 (by decide +kernel)
theorem dX11_least_13 : decode cX11_least 13 = .ok (.aload_n 0, 1) := dw42 (n := 0) (i := 13) kc_cX11_least_0 (by decide +kernel)
theorem dX11_least_14 : decode cX11_least 14 = .ok (.getfield 13, 3) := dw180 (n := 0) (i := 14) (a := 0) (b := 13) kc_cX11_least_0 (by decide +kernel) (by decide)
theorem dX11_least_17 : decode cX11_least 17 = .ok (.iload_n 2, 1) := dw28 (n := 0) (i := 17) kc_cX11_least_0 (by decide +kernel)
theorem dX11_least_18 : decode cX11_least 18 = .ok (.iaload, 1) := dw46 (n := 0) (i := 18) kc_cX11_least_0 (by decide +kernel)
theorem dX11_least_19 : decode cX11_least 19 = .ok (.istore_n 3, 1) := dw62 (n := 0) (i := 19) kc_cX11_least_0 (by decide +kernel)
theorem dX11_least_20 : decode cX11_least 20 = .ok (.aload_n 0, 1) := dw42 (n := 0) (i := 20) kc_cX11_least_0 (by decide +kernel)
theorem dX11_least_21 : decode cX11_least 21 = .ok (.getfield 81, 3) := dw180 (n := 0) (i := 21) (a := 0) (b := 81) kc_cX11_least_0 (by decide +kernel) (by decide)
theorem dX11_least_24 : decode cX11_least 24 = .ok (.iload_n 3, 1) := dw29 (n := 0) (i := 24) kc_cX11_least_0 (by decide +kernel)
theorem dX11_least_25 : decode cX11_least 25 = .ok (.baload, 1) := dw51 (n := 0) (i := 25) kc_cX11_least_0 (by decide +kernel)
theorem dX11_least_26 : decode cX11_least 26 = .ok (.ifCond .eq 43, 3) := dw153 (n := 0) (i := 26) (a := 0) (b := 43) kc_cX11_least_0 (by decide +kernel) (by decide)
theorem dX11_least_69 : decode cX11_least 69 = .ok (.iload_n 1, 1) := dw27 (n := 64) (i := 5) kc_cX11_least_2 (by decide +kernel)
theorem dX11_least_70 : decode cX11_least 70 = .ok (.istore_n 1, 1) := dw60 (n := 64) (i := 6) kc_cX11_least_2 (by decide +kernel)
theorem dX11_least_71 : decode cX11_least 71 = .ok (.iinc 2 1, 3) := by decide +kernel
theorem dX11_least_74 : decode cX11_least 74 = .ok (.goto (-69), 3) := dw167 (n := 64) (i := 10) (a := 255) (b := 187) kc_cX11_least_2 (by decide +kernel) (by decide)
theorem dX11_least_29 : decode cX11_least 29 = .ok (.iload_n 1, 1) := dw27 (n := 0) (i := 29) kc_cX11_least_0 (by decide +kernel)
theorem dX11_least_30 : decode cX11_least 30 = .ok (.bipush (-9), 2) := dw16 (n := 0) (i := 30) (a := 247) kc_cX11_least_0 (by decide +kernel) (by decide)
theorem dX11_least_32 : decode cX11_least 32 = .ok (.if_icmp .eq 33, 3) := dw159 (n := 32) (i := 0) (a := 0) (b := 33) kc_cX11_least_1 (by decide +kernel) (by decide)
theorem dX11_least_65 : decode cX11_least 65 = .ok (.iload_n 3, 1) := dw29 (n := 64) (i := 1) kc_cX11_least_2 (by decide +kernel)
theorem dX11_least_66 : decode cX11_least 66 = .ok (.goto 4, 3) := dw167 (n := 64) (i := 2) (a := 0) (b := 4) kc_cX11_least_2 (by decide +kernel) (by decide)
theorem dX11_least_35 : decode cX11_least 35 = .ok (.aload_n 0, 1) := dw42 (n := 32) (i := 3) kc_cX11_least_1 (by decide +kernel)
theorem dX11_least_36 : decode cX11_least 36 = .ok (.getfield 87, 3) := dw180 (n := 32) (i := 4) (a := 0) (b := 87) kc_cX11_least_1 (by decide +kernel) (by decide)
theorem dX11_least_39 : decode cX11_least 39 = .ok (.iload_n 3, 1) := dw29 (n := 32) (i := 7) kc_cX11_least_1 (by decide +kernel)
theorem dX11_least_40 : decode cX11_least 40 = .ok (.laload, 1) := dw47 (n := 32) (i := 8) kc_cX11_least_1 (by decide +kernel)
theorem dX11_least_41 : decode cX11_least 41 = .ok (.aload_n 0, 1) := dw42 (n := 32) (i := 9) kc_cX11_least_1 (by decide +kernel)
theorem dX11_least_42 : decode cX11_least 42 = .ok (.getfield 90, 3) := dw180 (n := 32) (i := 10) (a := 0) (b := 90) kc_cX11_least_1 (by decide +kernel) (by decide)
theorem dX11_least_45 : decode cX11_least 45 = .ok (.iload_n 3, 1) := dw29 (n := 32) (i := 13) kc_cX11_least_1 (by decide +kernel)
theorem dX11_least_46 : decode cX11_least 46 = .ok (.laload, 1) := dw47 (n := 32) (i := 14) kc_cX11_least_1 (by decide +kernel)
theorem dX11_least_47 : decode cX11_least 47 = .ok (.aload_n 0, 1) := dw42 (n := 32) (i := 15) kc_cX11_least_1 (by decide +kernel)
theorem dX11_least_48 : decode cX11_least 48 = .ok (.getfield 87, 3) := dw180 (n := 32) (i := 16) (a := 0) (b := 87) kc_cX11_least_1 (by decide +kernel) (by decide)
theorem dX11_least_51 : decode cX11_least 51 = .ok (.iload_n 1, 1) := dw27 (n := 32) (i := 19) kc_cX11_least_1 (by decide +kernel)
theorem dX11_least_52 : decode cX11_least 52 = .ok (.laload, 1) := dw47 (n := 32) (i := 20) kc_cX11_least_1 (by decide +kernel)
theorem dX11_least_53 : decode cX11_least 53 = .ok (.aload_n 0, 1) := dw42 (n := 32) (i := 21) kc_cX11_least_1 (by decide +kernel)
theorem dX11_least_54 : decode cX11_least 54 = .ok (.getfield 90, 3) := dw180 (n := 32) (i := 22) (a := 0) (b := 90) kc_cX11_least_1 (by decide +kernel) (by decide)
theorem dX11_least_57 : decode cX11_least 57 = .ok (.iload_n 1, 1) := dw27 (n := 32) (i := 25) kc_cX11_least_1 (by decide +kernel)
theorem dX11_least_58 : decode cX11_least 58 = .ok (.laload, 1) := dw47 (n := 32) (i := 26) kc_cX11_least_1 (by decide +kernel)
theorem dX11_least_59 : decode cX11_least 59 = .ok (.invokestatic 227, 3) := dw184 (n := 32) (i := 27) (a := 0) (b := 227) kc_cX11_least_1 (by decide +kernel) (by decide)
set_option maxRecDepth 20000 in
theorem ggX11_least_X11_isMore : GoodIn wsX11_least wsX11_isMore := (gk_code 9 rfl (gn))
set_option maxRecDepth 20000 in
theorem gX11_least_X11_isMore : GoodIn wsX11_least (va_wsS RX11 227 yX11_isMore wsX11_isMore) := goodIn_app (gk_methodLink 6 rfl (gk_static 7 rfl (gk_initialized 8 rfl (gn)))) ggX11_least_X11_isMore
theorem dX11_least_62 : decode cX11_least 62 = .ok (.ifCond .ne 7, 3) := dw154 (n := 32) (i := 30) (a := 0) (b := 7) kc_cX11_least_1 (by decide +kernel) (by decide)
theorem dX11_inMany_0 : decode cX11_inMany 0 = .ok (.iconst 0, 1) := dw3 (n := 0) (i := 0) kc_cX11_inMany_0 (by decide +kernel)
theorem dX11_inMany_1 : decode cX11_inMany 1 = .ok (.istore_n 1, 1) := dw60 (n := 0) (i := 1) kc_cX11_inMany_0 (by decide +kernel)
theorem dX11_inMany_2 : decode cX11_inMany 2 = .ok (.iconst 0, 1) := dw3 (n := 0) (i := 2) kc_cX11_inMany_0 (by decide +kernel)
theorem dX11_inMany_3 : decode cX11_inMany 3 = .ok (.istore_n 2, 1) := dw61 (n := 0) (i := 3) kc_cX11_inMany_0 (by decide +kernel)
theorem dX11_inMany_4 : decode cX11_inMany 4 = .ok (.iload_n 2, 1) := dw28 (n := 0) (i := 4) kc_cX11_inMany_0 (by decide +kernel)
theorem dX11_inMany_5 : decode cX11_inMany 5 = .ok (.aload_n 0, 1) := dw42 (n := 0) (i := 5) kc_cX11_inMany_0 (by decide +kernel)
theorem dX11_inMany_6 : decode cX11_inMany 6 = .ok (.getfield 137, 3) := dw180 (n := 0) (i := 6) (a := 0) (b := 137) kc_cX11_inMany_0 (by decide +kernel) (by decide)
theorem in_X11_inMany_11 : ∀ w ∈ u_ws RX11 TX11 53, w ∈ wsX11_inMany := fun _ h => List.mem_cons_of_mem _ (List.mem_append_right _ h)
theorem dX11_inMany_9 : decode cX11_inMany 9 = .ok (.if_icmp .ge 26, 3) := dw162 (n := 0) (i := 9) (a := 0) (b := 26) kc_cX11_inMany_0 (by decide +kernel) (by decide)
theorem dX11_inMany_35 : decode cX11_inMany 35 = .ok (.iload_n 1, 1) := dw27 (n := 32) (i := 3) kc_cX11_inMany_1 (by decide +kernel)
theorem dX11_inMany_36 : decode cX11_inMany 36 = .ok (.ireturn, 1) := dw172 (n := 32) (i := 4) kc_cX11_inMany_1 (by decide +kernel)
theorem dX11_inMany_12 : decode cX11_inMany 12 = .ok (.iload_n 1, 1) := dw27 (n := 0) (i := 12) kc_cX11_inMany_0 (by decide +kernel)
theorem dX11_inMany_13 : decode cX11_inMany 13 = .ok (.aload_n 0, 1) := dw42 (n := 0) (i := 13) kc_cX11_inMany_0 (by decide +kernel)
theorem dX11_inMany_14 : decode cX11_inMany 14 = .ok (.getfield 81, 3) := dw180 (n := 0) (i := 14) (a := 0) (b := 81) kc_cX11_inMany_0 (by decide +kernel) (by decide)
theorem dX11_inMany_17 : decode cX11_inMany 17 = .ok (.iload_n 2, 1) := dw28 (n := 0) (i := 17) kc_cX11_inMany_0 (by decide +kernel)
theorem dX11_inMany_18 : decode cX11_inMany 18 = .ok (.baload, 1) := dw51 (n := 0) (i := 18) kc_cX11_inMany_0 (by decide +kernel)
theorem dX11_inMany_19 : decode cX11_inMany 19 = .ok (.ifCond .eq 7, 3) := dw153 (n := 0) (i := 19) (a := 0) (b := 7) kc_cX11_inMany_0 (by decide +kernel) (by decide)
theorem dX11_inMany_26 : decode cX11_inMany 26 = .ok (.iconst 0, 1) := dw3 (n := 0) (i := 26) kc_cX11_inMany_0 (by decide +kernel)
theorem dX11_inMany_27 : decode cX11_inMany 27 = .ok (.iadd, 1) := dw96 (n := 0) (i := 27) kc_cX11_inMany_0 (by decide +kernel)
theorem dX11_inMany_28 : decode cX11_inMany 28 = .ok (.istore_n 1, 1) := dw60 (n := 0) (i := 28) kc_cX11_inMany_0 (by decide +kernel)
theorem dX11_inMany_29 : decode cX11_inMany 29 = .ok (.iinc 2 1, 3) := by decide +kernel
theorem dX11_inMany_32 : decode cX11_inMany 32 = .ok (.goto (-28), 3) := dw167 (n := 32) (i := 0) (a := 255) (b := 228) kc_cX11_inMany_1 (by decide +kernel) (by decide)
theorem dX11_inMany_22 : decode cX11_inMany 22 = .ok (.iconst 1, 1) := dw4 (n := 0) (i := 22) kc_cX11_inMany_0 (by decide +kernel)
theorem dX11_inMany_23 : decode cX11_inMany 23 = .ok (.goto 4, 3) := dw167 (n := 0) (i := 23) (a := 0) (b := 4) kc_cX11_inMany_0 (by decide +kernel) (by decide)
set_option maxHeartbeats 4000000 in
set_option maxRecDepth 100000 in
theorem s_X11_inMany (l : Launch) (D : va_G) (ad : Nat → Nat) (cs : Nat → ClassId) (M : MI) (L : ML)  (hI : IR M) : Ci l yX11_inMany wsX11_inMany ({ frames := 0, cells := 0, slots := 0, locals := 0 }) D ad cs [.ref (ad 258)] M L (fun r M1 L1 => M1 = M ∧ L1 = L ∧ (r.toInt = (cI (M 282) (M 258 2).toNatClampNeg : Int))) := by
  refine enter_i RX11 rfl [(0, .ref (ad 258))] rfl (Nat.le_of_ble_eq_true rfl) (by decide +kernel) rfl ?_
  intro p e s m below meth c C hr
  have hF : ∀ k i, True → M k i = M k i := fun _ _ _ => rfl
  have hG : ∀ k i, True → L k i = L k i := fun _ _ _ => rfl
  obtain ⟨ca, cb⟩ := (show rg 0 10 (M 258 2) from hI 258 2)
  have n02 := ixn ca
  refine g_iconst C 0 dX11_inMany_0 (by decide) ?_
  refine g_istore_n C [(1, .int 0), (0, .ref (ad 258))] dX11_inMany_1 (by decide) rfl ?_
  refine g_iconst C 0 dX11_inMany_2 (by decide) ?_
  refine g_istore_n C [(2, .int 0), (1, .int 0), (0, .ref (ad 258))] dX11_inMany_3 (by decide) rfl ?_
  have zy1 : (0 : Int32).toInt = 0 := by decide
  have zy2 : (0 : Int32).toInt = 0 := by decide
  refine g_loop (α := Int32 × Int32 × MI × ML) (fun a => (11 - a.1.toInt).toNat) (fun a => (0 ≤ a.1.toInt) ∧ (a.1.toInt ≤ (M 258 2).toInt) ∧ (a.2.1.toInt = (cI (M 282) a.1.toNatClampNeg : Int)) ∧ IR a.2.2.1 ∧ (∀ k i, True → a.2.2.1 k i = M k i) ∧ (∀ k i, True → a.2.2.2 k i = L k i)) (fun a => a.2.2.1) (fun a => a.2.2.2) (fun a => [(2, .int a.1), (1, .int a.2.1), (0, .ref (ad 258))]) ((0 : Int32), (0 : Int32), M, L) ⟨by show 0 ≤ (0 : Int32).toInt; omega, by show (0 : Int32).toInt ≤ (M 258 2).toInt; omega, by show (0 : Int32).toInt = (cI (M 282) (0 : Int32).toNatClampNeg : Int); rfl, hI, hF, hG⟩ rfl rfl rfl ?_
  rintro ⟨x2_4, x1_4, M_4, L_4⟩ ⟨j4_0, j4_1, j4_2, hI, hF, hG⟩ ih_4
  dsimp only at j4_0 j4_1 j4_2 hI hF hG ih_4 ⊢
  have hle := cI_le (M 282) x2_4.toNatClampNeg
  have n2 := ixn (x := x2_4) (by omega)
  refine g_iload_n C 0 dX11_inMany_4 rfl ?_
  refine g_aload_n C 2 dX11_inMany_5 rfl ?_
  refine g_get C (.int (M_4 258 2)) 2 in_X11_inMany_11 (List.mem_of_getElem? (i := 1) rfl) (by decide) (ce_model ad cs _ _) rfl (by decide) rfl rfl dX11_inMany_6 ?_
  refine g_ni (fun v3 ev3 => ?_)
  have gv3 : v3 = M 258 2 := ev3.trans (hF 258 2 trivial)
  have tv3 := congrArg Int32.toInt gv3
  obtain ⟨bv3, dv3⟩ := (show rg 0 10 v3 from (by rw [ev3]; exact hI 258 2))
  refine g_icmp_ge C 35 dX11_inMany_9 (by decide) (fun c4 => ?_) (fun c4 => ?_)
  ·
    have f5 := fle rfl rfl c4
    refine g_iload_n C 1 dX11_inMany_35 rfl ?_
    exact g_iret C hr ⟨funext (fun k => funext (fun i => hF k i trivial)), funext (fun k => funext (fun i => hG k i trivial)), (by rw [j4_2, show x2_4.toNatClampNeg = (M 258 2).toNatClampNeg by omega])⟩ dX11_inMany_36
  ·
    have f6 := fnle rfl rfl c4
    refine g_iload_n C 1 dX11_inMany_12 rfl ?_
    refine g_aload_n C 2 dX11_inMany_13 rfl ?_
    refine g_get C (.ref (ad 282)) 36 in_X11_inMany_11 (List.mem_of_getElem? (i := 2) rfl) (by decide) (ce_model ad cs _ _) rfl (by decide) rfl rfl dX11_inMany_14 ?_
    refine g_iload_n C 0 dX11_inMany_17 rfl ?_
    refine g_zald C (by decide) (ce_m_isIn ad cs _ _) (fin' (n := 10) rfl (by omega) (by omega)) dX11_inMany_18 ?_
    refine g_ni (fun v7 ev7 => ?_)
    have gv7 : v7 = M 282 x2_4.toNatClampNeg := ev7.trans (hF 282 x2_4.toNatClampNeg trivial)
    have tv7 := congrArg Int32.toInt gv7
    refine g_if_eq C 26 dX11_inMany_19 (by decide) (fun c8 => ?_) (fun c8 => ?_)
    ·
      have f9 := feq rfl (by decide : (0 : Int32).toInt = 0) c8
      refine g_iconst C 0 dX11_inMany_26 (by decide) ?_
      refine g_iadd C dX11_inMany_27 ?_
      refine g_ni (fun v10 ev10 => ?_)
      try have fv10 := fadd rfl (by decide : (0 : Int32).toInt = 0) ev10 (by omega) (by omega)
      refine g_istore_n C [(1, .int v10), (2, .int x2_4), (0, .ref (ad 258))] dX11_inMany_28 (by decide) rfl ?_
      obtain ⟨v11, ev11⟩ : ∃ y : Int32, y = x2_4 + 1 := ⟨_, rfl⟩
      try have fv11 := fadd rfl (by decide : (1 : Int32).toInt = 1) ev11 (by omega) (by omega)
      refine g_iinc C 1 v11 [(2, .int v11), (1, .int v10), (0, .ref (ad 258))] dX11_inMany_29 rfl (by rw [ev11]; rfl) (by decide) rfl ?_
      refine g_goto C 4 dX11_inMany_32 (by decide) ?_
      have n2 := ixn (x := x2_4) (by omega)
      have nv := ixn (x := v11) (by omega)
      have iv : v11.toNatClampNeg = x2_4.toNatClampNeg + 1 := by omega
      exact ih_4 (v11, v10, M_4, L_4) ⟨by show 0 ≤ v11.toInt; omega, by show v11.toInt ≤ (M 258 2).toInt; omega, by show v10.toInt = (cI (M 282) v11.toNatClampNeg : Int); rw [iv]; show _ = ((cI (M 282) x2_4.toNatClampNeg + (if (M 282 x2_4.toNatClampNeg).toInt = 0 then 0 else 1) : Nat) : Int); first | (rw [if_pos (by omega)]; omega) | (rw [if_neg (by omega)]; omega), hI, hF, hG⟩ (by show (11 - v11.toInt).toNat < (11 - x2_4.toInt).toNat; omega)
    ·
      have f12 := fne rfl (by decide : (0 : Int32).toInt = 0) c8
      refine g_iconst C 1 dX11_inMany_22 (by decide) ?_
      refine g_goto C 27 dX11_inMany_23 (by decide) ?_
      refine g_iadd C dX11_inMany_27 ?_
      refine g_ni (fun v13 ev13 => ?_)
      try have fv13 := fadd rfl (by decide : (1 : Int32).toInt = 1) ev13 (by omega) (by omega)
      refine g_istore_n C [(1, .int v13), (2, .int x2_4), (0, .ref (ad 258))] dX11_inMany_28 (by decide) rfl ?_
      obtain ⟨v14, ev14⟩ : ∃ y : Int32, y = x2_4 + 1 := ⟨_, rfl⟩
      try have fv14 := fadd rfl (by decide : (1 : Int32).toInt = 1) ev14 (by omega) (by omega)
      refine g_iinc C 1 v14 [(2, .int v14), (1, .int v13), (0, .ref (ad 258))] dX11_inMany_29 rfl (by rw [ev14]; rfl) (by decide) rfl ?_
      refine g_goto C 4 dX11_inMany_32 (by decide) ?_
      have n2 := ixn (x := x2_4) (by omega)
      have nv := ixn (x := v14) (by omega)
      have iv : v14.toNatClampNeg = x2_4.toNatClampNeg + 1 := by omega
      exact ih_4 (v14, v13, M_4, L_4) ⟨by show 0 ≤ v14.toInt; omega, by show v14.toInt ≤ (M 258 2).toInt; omega, by show v13.toInt = (cI (M 282) v14.toNatClampNeg : Int); rw [iv]; show _ = ((cI (M 282) x2_4.toNatClampNeg + (if (M 282 x2_4.toNatClampNeg).toInt = 0 then 0 else 1) : Nat) : Int); first | (rw [if_pos (by omega)]; omega) | (rw [if_neg (by omega)]; omega), hI, hF, hG⟩ (by show (11 - v14.toInt).toNat < (11 - x2_4.toInt).toNat; omega)
