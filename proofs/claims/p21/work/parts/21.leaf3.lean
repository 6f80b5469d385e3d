theorem dX4_come_0 : decode cX4_come 0 = .ok (.aload_n 0, 1) := by decide +kernel
theorem dX4_come_1 : decode cX4_come 1 = .ok (.getfield 9, 3) := by decide +kernel
theorem in_X4_come_4 : ∀ w ∈ u_ws RX4 TX4 7, w ∈ wsX4_come := fun _ h => List.mem_cons_of_mem _ (List.mem_append_right _ h)
theorem dX4_come_4 : decode cX4_come 4 = .ok (.bipush 20, 2) := by decide +kernel
theorem dX4_come_6 : decode cX4_come 6 = .ok (.if_icmp .ne 6, 3) := by decide +kernel
theorem dX4_come_12 : decode cX4_come 12 = .ok (.aload_n 0, 1) := by decide +kernel
theorem dX4_come_13 : decode cX4_come 13 = .ok (.getfield 15, 3) := by decide +kernel
theorem dX4_come_16 : decode cX4_come 16 = .ok (.aload_n 0, 1) := by decide +kernel
theorem dX4_come_17 : decode cX4_come 17 = .ok (.getfield 9, 3) := by decide +kernel
theorem dX4_come_20 : decode cX4_come 20 = .ok (.iload_n 1, 1) := by decide +kernel
theorem dX4_come_21 : decode cX4_come 21 = .ok (.iastore, 1) := by decide +kernel
theorem dX4_come_22 : decode cX4_come 22 = .ok (.aload_n 0, 1) := by decide +kernel
theorem dX4_come_23 : decode cX4_come 23 = .ok (.getfield 25, 3) := by decide +kernel
theorem dX4_come_26 : decode cX4_come 26 = .ok (.aload_n 0, 1) := by decide +kernel
theorem dX4_come_27 : decode cX4_come 27 = .ok (.getfield 9, 3) := by decide +kernel
theorem dX4_come_30 : decode cX4_come 30 = .ok (.iload_n 2, 1) := by decide +kernel
theorem dX4_come_31 : decode cX4_come 31 = .ok (.iastore, 1) := by decide +kernel
theorem dX4_come_32 : decode cX4_come 32 = .ok (.aload_n 0, 1) := by decide +kernel
theorem dX4_come_33 : decode cX4_come 33 = .ok (.getfield 28, 3) := by decide +kernel
theorem dX4_come_36 : decode cX4_come 36 = .ok (.aload_n 0, 1) := by decide +kernel
theorem dX4_come_37 : decode cX4_come 37 = .ok (.getfield 9, 3) := by decide +kernel
theorem dX4_come_40 : decode cX4_come 40 = .ok (.iload_n 3, 1) := by decide +kernel
theorem dX4_come_41 : decode cX4_come 41 = .ok (.iastore, 1) := by decide +kernel
theorem dX4_come_42 : decode cX4_come 42 = .ok (.aload_n 0, 1) := by decide +kernel
theorem dX4_come_43 : decode cX4_come 43 = .ok (.getfield 22, 3) := by decide +kernel
theorem dX4_come_46 : decode cX4_come 46 = .ok (.aload_n 0, 1) := by decide +kernel
theorem dX4_come_47 : decode cX4_come 47 = .ok (.getfield 9, 3) := by decide +kernel
theorem dX4_come_50 : decode cX4_come 50 = .ok (.iload 4, 2) := by decide +kernel
theorem dX4_come_52 : decode cX4_come 52 = .ok (.iastore, 1) := by decide +kernel
theorem dX4_come_53 : decode cX4_come 53 = .ok (.aload_n 0, 1) := by decide +kernel
theorem dX4_come_54 : decode cX4_come 54 = .ok (.dup, 1) := by decide +kernel
theorem dX4_come_55 : decode cX4_come 55 = .ok (.getfield 9, 3) := by decide +kernel
theorem dX4_come_58 : decode cX4_come 58 = .ok (.iconst 1, 1) := by decide +kernel
theorem dX4_come_59 : decode cX4_come 59 = .ok (.iadd, 1) := by decide +kernel
theorem dX4_come_60 : decode cX4_come 60 = .ok (.putfield 9, 3) := by decide +kernel
theorem dX4_come_63 : decode cX4_come 63 = .ok (.aload_n 0, 1) := by decide +kernel
theorem dX4_come_64 : decode cX4_come 64 = .ok (.getfield 9, 3) := by decide +kernel
theorem dX4_come_67 : decode cX4_come 67 = .ok (.iconst 1, 1) := by decide +kernel
theorem dX4_come_68 : decode cX4_come 68 = .ok (.isub, 1) := by decide +kernel
theorem dX4_come_69 : decode cX4_come 69 = .ok (.ireturn, 1) := by decide +kernel
theorem dX4_come_9 : decode cX4_come 9 = .ok (.bipush (-2), 2) := by decide +kernel
theorem dX4_come_11 : decode cX4_come 11 = .ok (.ireturn, 1) := by decide +kernel
theorem dX4_begin_0 : decode cX4_begin 0 = .ok (.iconst 0, 1) := by decide +kernel
theorem dX4_begin_1 : decode cX4_begin 1 = .ok (.istore_n 2, 1) := by decide +kernel
theorem dX4_begin_2 : decode cX4_begin 2 = .ok (.iload_n 1, 1) := by decide +kernel
theorem dX4_begin_3 : decode cX4_begin 3 = .ok (.istore_n 3, 1) := by decide +kernel
theorem dX4_begin_4 : decode cX4_begin 4 = .ok (.iload_n 2, 1) := by decide +kernel
theorem dX4_begin_5 : decode cX4_begin 5 = .ok (.bipush 20, 2) := by decide +kernel
theorem dX4_begin_7 : decode cX4_begin 7 = .ok (.if_icmp .ge 40, 3) := by decide +kernel
theorem dX4_begin_47 : decode cX4_begin 47 = .ok (.aload_n 0, 1) := by decide +kernel
theorem dX4_begin_48 : decode cX4_begin 48 = .ok (.iload_n 3, 1) := by decide +kernel
theorem dX4_begin_49 : decode cX4_begin 49 = .ok (.invokevirtual 34, 3) := by decide +kernel
set_option maxRecDepth 20000 in
theorem ggX4_begin_X4_has : GoodIn wsX4_begin wsX4_has := (gk_code 9 rfl (gk_fieldLink 10 rfl (gk_lays 11 rfl (gk_laysFinal 12 rfl (gk_laysFinal 13 rfl (gk_laysFinal 14 rfl (gk_laysFinal 15 rfl (gk_laysFinal 16 rfl (gk_laysFinal 17 rfl (gn))))))))))
set_option maxRecDepth 20000 in
theorem gX4_begin_X4_has : GoodIn wsX4_begin (wsV RX4 34 RX4 yX4_has wsX4_has) := goodIn_app (gk_methodLink 5 rfl (gk_instanceMethod 6 rfl (gk_selects 7 rfl (gk_initialized 8 rfl (gn))))) ggX4_begin_X4_has
theorem dX4_begin_52 : decode cX4_begin 52 = .ok (.ifCond .eq 17, 3) := by decide +kernel
theorem dX4_begin_69 : decode cX4_begin 69 = .ok (.iconst 0, 1) := by decide +kernel
theorem dX4_begin_70 : decode cX4_begin 70 = .ok (.istore 4, 2) := by decide +kernel
theorem dX4_begin_72 : decode cX4_begin 72 = .ok (.iload_n 2, 1) := by decide +kernel
theorem dX4_begin_73 : decode cX4_begin 73 = .ok (.iconst 1, 1) := by decide +kernel
theorem dX4_begin_74 : decode cX4_begin 74 = .ok (.isub, 1) := by decide +kernel
theorem dX4_begin_75 : decode cX4_begin 75 = .ok (.istore 5, 2) := by decide +kernel
theorem dX4_begin_77 : decode cX4_begin 77 = .ok (.iload 5, 2) := by decide +kernel
theorem dX4_begin_79 : decode cX4_begin 79 = .ok (.ifCond .lt 60, 3) := by decide +kernel
theorem dX4_begin_139 : decode cX4_begin 139 = .ok (.aload_n 0, 1) := by decide +kernel
theorem dX4_begin_140 : decode cX4_begin 140 = .ok (.getfield 19, 3) := by decide +kernel
theorem in_X4_begin_4 : ∀ w ∈ u_ws RX4 TX4 7, w ∈ wsX4_begin := fun _ h => List.mem_cons_of_mem _ (List.mem_append_right _ h)
theorem dX4_begin_143 : decode cX4_begin 143 = .ok (.iload_n 1, 1) := by decide +kernel
theorem dX4_begin_144 : decode cX4_begin 144 = .ok (.iaload, 1) := by decide +kernel
theorem dX4_begin_145 : decode cX4_begin 145 = .ok (.ireturn, 1) := by decide +kernel
theorem dX4_begin_82 : decode cX4_begin 82 = .ok (.iload 4, 2) := by decide +kernel
theorem dX4_begin_84 : decode cX4_begin 84 = .ok (.ifCond .ne 20, 3) := by decide +kernel
theorem dX4_begin_104 : decode cX4_begin 104 = .ok (.iconst 1, 1) := by decide +kernel
theorem dX4_begin_105 : decode cX4_begin 105 = .ok (.goto 4, 3) := by decide +kernel
theorem dX4_begin_109 : decode cX4_begin 109 = .ok (.istore 4, 2) := by decide +kernel
theorem dX4_begin_111 : decode cX4_begin 111 = .ok (.aload_n 0, 1) := by decide +kernel
theorem dX4_begin_112 : decode cX4_begin 112 = .ok (.getfield 19, 3) := by decide +kernel
theorem dX4_begin_115 : decode cX4_begin 115 = .ok (.aload_n 0, 1) := by decide +kernel
theorem dX4_begin_116 : decode cX4_begin 116 = .ok (.getfield 31, 3) := by decide +kernel
theorem dX4_begin_119 : decode cX4_begin 119 = .ok (.iload 5, 2) := by decide +kernel
theorem dX4_begin_121 : decode cX4_begin 121 = .ok (.iaload, 1) := by decide +kernel
theorem dX4_begin_122 : decode cX4_begin 122 = .ok (.iload 4, 2) := by decide +kernel
theorem dX4_begin_124 : decode cX4_begin 124 = .ok (.ifCond .eq 7, 3) := by decide +kernel
theorem dX4_begin_127 : decode cX4_begin 127 = .ok (.iconst 2, 1) := by decide +kernel
theorem dX4_begin_128 : decode cX4_begin 128 = .ok (.goto 4, 3) := by decide +kernel
theorem dX4_begin_132 : decode cX4_begin 132 = .ok (.iastore, 1) := by decide +kernel
theorem dX4_begin_133 : decode cX4_begin 133 = .ok (.iinc 5 (-1), 3) := by decide +kernel
theorem dX4_begin_136 : decode cX4_begin 136 = .ok (.goto (-59), 3) := by decide +kernel
theorem dX4_begin_87 : decode cX4_begin 87 = .ok (.aload_n 0, 1) := by decide +kernel
theorem dX4_begin_88 : decode cX4_begin 88 = .ok (.getfield 15, 3) := by decide +kernel
theorem dX4_begin_91 : decode cX4_begin 91 = .ok (.aload_n 0, 1) := by decide +kernel
theorem dX4_begin_92 : decode cX4_begin 92 = .ok (.getfield 31, 3) := by decide +kernel
theorem dX4_begin_95 : decode cX4_begin 95 = .ok (.iload 5, 2) := by decide +kernel
theorem dX4_begin_97 : decode cX4_begin 97 = .ok (.iaload, 1) := by decide +kernel
theorem dX4_begin_98 : decode cX4_begin 98 = .ok (.iaload, 1) := by decide +kernel
theorem dX4_begin_99 : decode cX4_begin 99 = .ok (.bipush 8, 2) := by decide +kernel
theorem dX4_begin_101 : decode cX4_begin 101 = .ok (.if_icmp .ne 7, 3) := by decide +kernel
theorem dX4_begin_108 : decode cX4_begin 108 = .ok (.iconst 0, 1) := by decide +kernel
theorem dX4_begin_131 : decode cX4_begin 131 = .ok (.iconst 1, 1) := by decide +kernel
theorem dX4_begin_55 : decode cX4_begin 55 = .ok (.aload_n 0, 1) := by decide +kernel
theorem dX4_begin_56 : decode cX4_begin 56 = .ok (.getfield 19, 3) := by decide +kernel
theorem dX4_begin_59 : decode cX4_begin 59 = .ok (.iload_n 3, 1) := by decide +kernel
theorem dX4_begin_60 : decode cX4_begin 60 = .ok (.iaload, 1) := by decide +kernel
theorem dX4_begin_61 : decode cX4_begin 61 = .ok (.iconst 2, 1) := by decide +kernel
theorem dX4_begin_62 : decode cX4_begin 62 = .ok (.if_icmp .ne 7, 3) := by decide +kernel
theorem dX4_begin_65 : decode cX4_begin 65 = .ok (.iconst 1, 1) := by decide +kernel
theorem dX4_begin_66 : decode cX4_begin 66 = .ok (.goto 4, 3) := by decide +kernel
theorem dX4_begin_10 : decode cX4_begin 10 = .ok (.aload_n 0, 1) := by decide +kernel
theorem dX4_begin_11 : decode cX4_begin 11 = .ok (.iload_n 3, 1) := by decide +kernel
theorem dX4_begin_12 : decode cX4_begin 12 = .ok (.invokevirtual 34, 3) := by decide +kernel
theorem dX4_begin_15 : decode cX4_begin 15 = .ok (.ifCond .eq 32, 3) := by decide +kernel
theorem dX4_begin_18 : decode cX4_begin 18 = .ok (.aload_n 0, 1) := by decide +kernel
theorem dX4_begin_19 : decode cX4_begin 19 = .ok (.getfield 19, 3) := by decide +kernel
theorem dX4_begin_22 : decode cX4_begin 22 = .ok (.iload_n 3, 1) := by decide +kernel
theorem dX4_begin_23 : decode cX4_begin 23 = .ok (.iaload, 1) := by decide +kernel
theorem dX4_begin_24 : decode cX4_begin 24 = .ok (.ifCond .ne 23, 3) := by decide +kernel
theorem dX4_begin_27 : decode cX4_begin 27 = .ok (.aload_n 0, 1) := by decide +kernel
theorem dX4_begin_28 : decode cX4_begin 28 = .ok (.getfield 31, 3) := by decide +kernel
theorem dX4_begin_31 : decode cX4_begin 31 = .ok (.iload_n 2, 1) := by decide +kernel
theorem dX4_begin_32 : decode cX4_begin 32 = .ok (.iload_n 3, 1) := by decide +kernel
theorem dX4_begin_33 : decode cX4_begin 33 = .ok (.iastore, 1) := by decide +kernel
theorem dX4_begin_34 : decode cX4_begin 34 = .ok (.iinc 2 1, 3) := by decide +kernel
theorem dX4_begin_37 : decode cX4_begin 37 = .ok (.aload_n 0, 1) := by decide +kernel
theorem dX4_begin_38 : decode cX4_begin 38 = .ok (.getfield 22, 3) := by decide +kernel
theorem dX4_begin_41 : decode cX4_begin 41 = .ok (.iload_n 3, 1) := by decide +kernel
theorem dX4_begin_42 : decode cX4_begin 42 = .ok (.iaload, 1) := by decide +kernel
theorem dX4_begin_43 : decode cX4_begin 43 = .ok (.istore_n 3, 1) := by decide +kernel
theorem dX4_begin_44 : decode cX4_begin 44 = .ok (.goto (-40), 3) := by decide +kernel
theorem dX4_firstNotFailed_0 : decode cX4_firstNotFailed 0 = .ok (.bipush (-9), 2) := by decide +kernel
theorem dX4_firstNotFailed_2 : decode cX4_firstNotFailed 2 = .ok (.istore_n 2, 1) := by decide +kernel
theorem dX4_firstNotFailed_3 : decode cX4_firstNotFailed 3 = .ok (.iconst 0, 1) := by decide +kernel
theorem dX4_firstNotFailed_4 : decode cX4_firstNotFailed 4 = .ok (.istore_n 3, 1) := by decide +kernel
theorem dX4_firstNotFailed_5 : decode cX4_firstNotFailed 5 = .ok (.iload_n 3, 1) := by decide +kernel
theorem dX4_firstNotFailed_6 : decode cX4_firstNotFailed 6 = .ok (.aload_n 0, 1) := by decide +kernel
theorem dX4_firstNotFailed_7 : decode cX4_firstNotFailed 7 = .ok (.getfield 9, 3) := by decide +kernel
theorem in_X4_firstNotFailed_4 : ∀ w ∈ u_ws RX4 TX4 7, w ∈ wsX4_firstNotFailed := fun _ h => List.mem_cons_of_mem _ (List.mem_append_right _ h)
theorem dX4_firstNotFailed_10 : decode cX4_firstNotFailed 10 = .ok (.if_icmp .ge 68, 3) := by decide +kernel
theorem dX4_firstNotFailed_78 : decode cX4_firstNotFailed 78 = .ok (.iload_n 2, 1) := by decide +kernel
theorem dX4_firstNotFailed_79 : decode cX4_firstNotFailed 79 = .ok (.ireturn, 1) := by decide +kernel
theorem dX4_firstNotFailed_13 : decode cX4_firstNotFailed 13 = .ok (.aload_n 0, 1) := by decide +kernel
theorem dX4_firstNotFailed_14 : decode cX4_firstNotFailed 14 = .ok (.getfield 28, 3) := by decide +kernel
theorem dX4_firstNotFailed_17 : decode cX4_firstNotFailed 17 = .ok (.iload_n 3, 1) := by decide +kernel
theorem dX4_firstNotFailed_18 : decode cX4_firstNotFailed 18 = .ok (.iaload, 1) := by decide +kernel
theorem dX4_firstNotFailed_19 : decode cX4_firstNotFailed 19 = .ok (.iload_n 1, 1) := by decide +kernel
theorem dX4_firstNotFailed_20 : decode cX4_firstNotFailed 20 = .ok (.ishr, 1) := by decide +kernel
theorem dX4_firstNotFailed_21 : decode cX4_firstNotFailed 21 = .ok (.iconst 1, 1) := by decide +kernel
theorem dX4_firstNotFailed_22 : decode cX4_firstNotFailed 22 = .ok (.iand, 1) := by decide +kernel
theorem dX4_firstNotFailed_23 : decode cX4_firstNotFailed 23 = .ok (.iconst 1, 1) := by decide +kernel
theorem dX4_firstNotFailed_24 : decode cX4_firstNotFailed 24 = .ok (.if_icmp .ne 17, 3) := by decide +kernel
theorem dX4_firstNotFailed_41 : decode cX4_firstNotFailed 41 = .ok (.iconst 0, 1) := by decide +kernel
theorem dX4_firstNotFailed_42 : decode cX4_firstNotFailed 42 = .ok (.istore 4, 2) := by decide +kernel
theorem dX4_firstNotFailed_44 : decode cX4_firstNotFailed 44 = .ok (.iload 4, 2) := by decide +kernel
theorem dX4_firstNotFailed_46 : decode cX4_firstNotFailed 46 = .ok (.ifCond .eq 26, 3) := by decide +kernel
theorem dX4_firstNotFailed_72 : decode cX4_firstNotFailed 72 = .ok (.iinc 3 1, 3) := by decide +kernel
theorem dX4_firstNotFailed_75 : decode cX4_firstNotFailed 75 = .ok (.goto (-70), 3) := by decide +kernel
theorem dX4_firstNotFailed_27 : decode cX4_firstNotFailed 27 = .ok (.aload_n 0, 1) := by decide +kernel
theorem dX4_firstNotFailed_28 : decode cX4_firstNotFailed 28 = .ok (.getfield 19, 3) := by decide +kernel
theorem dX4_firstNotFailed_31 : decode cX4_firstNotFailed 31 = .ok (.iload_n 3, 1) := by decide +kernel
theorem dX4_firstNotFailed_32 : decode cX4_firstNotFailed 32 = .ok (.iaload, 1) := by decide +kernel
theorem dX4_firstNotFailed_33 : decode cX4_firstNotFailed 33 = .ok (.iconst 2, 1) := by decide +kernel
theorem dX4_firstNotFailed_34 : decode cX4_firstNotFailed 34 = .ok (.if_icmp .eq 7, 3) := by decide +kernel
theorem dX4_firstNotFailed_37 : decode cX4_firstNotFailed 37 = .ok (.iconst 1, 1) := by decide +kernel
theorem dX4_firstNotFailed_38 : decode cX4_firstNotFailed 38 = .ok (.goto 4, 3) := by decide +kernel
theorem dX4_firstNotFailed_49 : decode cX4_firstNotFailed 49 = .ok (.iload_n 2, 1) := by decide +kernel
theorem dX4_firstNotFailed_50 : decode cX4_firstNotFailed 50 = .ok (.bipush (-9), 2) := by decide +kernel
theorem dX4_firstNotFailed_52 : decode cX4_firstNotFailed 52 = .ok (.if_icmp .eq 18, 3) := by decide +kernel
theorem dX4_firstNotFailed_70 : decode cX4_firstNotFailed 70 = .ok (.iload_n 3, 1) := by decide +kernel
theorem dX4_firstNotFailed_71 : decode cX4_firstNotFailed 71 = .ok (.istore_n 2, 1) := by decide +kernel
theorem dX4_firstNotFailed_55 : decode cX4_firstNotFailed 55 = .ok (.aload_n 0, 1) := by decide +kernel
theorem dX4_firstNotFailed_56 : decode cX4_firstNotFailed 56 = .ok (.getfield 25, 3) := by decide +kernel
theorem dX4_firstNotFailed_59 : decode cX4_firstNotFailed 59 = .ok (.iload_n 3, 1) := by decide +kernel
theorem dX4_firstNotFailed_60 : decode cX4_firstNotFailed 60 = .ok (.iaload, 1) := by decide +kernel
theorem dX4_firstNotFailed_61 : decode cX4_firstNotFailed 61 = .ok (.aload_n 0, 1) := by decide +kernel
theorem dX4_firstNotFailed_62 : decode cX4_firstNotFailed 62 = .ok (.getfield 25, 3) := by decide +kernel
theorem dX4_firstNotFailed_65 : decode cX4_firstNotFailed 65 = .ok (.iload_n 2, 1) := by decide +kernel
theorem dX4_firstNotFailed_66 : decode cX4_firstNotFailed 66 = .ok (.iaload, 1) := by decide +kernel
theorem dX4_firstNotFailed_67 : decode cX4_firstNotFailed 67 = .ok (.if_icmp .le 5, 3) := by decide +kernel
theorem dX4_firstToStart_0 : decode cX4_firstToStart 0 = .ok (.iconst 0, 1) := by decide +kernel
theorem dX4_firstToStart_1 : decode cX4_firstToStart 1 = .ok (.istore_n 2, 1) := by decide +kernel
theorem dX4_firstToStart_2 : decode cX4_firstToStart 2 = .ok (.iload_n 2, 1) := by decide +kernel
theorem dX4_firstToStart_3 : decode cX4_firstToStart 3 = .ok (.aload_n 0, 1) := by decide +kernel
theorem dX4_firstToStart_4 : decode cX4_firstToStart 4 = .ok (.getfield 9, 3) := by decide +kernel
theorem in_X4_firstToStart_4 : ∀ w ∈ u_ws RX4 TX4 7, w ∈ wsX4_firstToStart := fun _ h => List.mem_cons_of_mem _ (List.mem_append_right _ h)
theorem dX4_firstToStart_7 : decode cX4_firstToStart 7 = .ok (.if_icmp .ge 32, 3) := by decide +kernel
theorem dX4_firstToStart_39 : decode cX4_firstToStart 39 = .ok (.bipush (-9), 2) := by decide +kernel
theorem dX4_firstToStart_41 : decode cX4_firstToStart 41 = .ok (.ireturn, 1) := by decide +kernel
theorem dX4_firstToStart_10 : decode cX4_firstToStart 10 = .ok (.aload_n 0, 1) := by decide +kernel
theorem dX4_firstToStart_11 : decode cX4_firstToStart 11 = .ok (.iload_n 1, 1) := by decide +kernel
theorem dX4_firstToStart_12 : decode cX4_firstToStart 12 = .ok (.invokevirtual 38, 3) := by decide +kernel
set_option maxRecDepth 20000 in
theorem ggX4_firstToStart_X4_firstNotFailed : GoodIn wsX4_firstToStart wsX4_firstNotFailed := (gk_code 6 rfl (gk_fieldLink 1 rfl (gk_fieldLink 7 rfl (gk_fieldLink 8 rfl (gk_fieldLink 9 rfl (gk_lays 21 rfl (gk_laysFinal 22 rfl (gk_laysFinal 23 rfl (gk_laysFinal 24 rfl (gk_laysFinal 25 rfl (gk_laysFinal 26 rfl (gk_laysFinal 27 rfl (gn)))))))))))))
set_option maxRecDepth 20000 in
theorem gX4_firstToStart_X4_firstNotFailed : GoodIn wsX4_firstToStart (wsV RX4 38 RX4 yX4_firstNotFailed wsX4_firstNotFailed) := goodIn_app (gk_methodLink 2 rfl (gk_instanceMethod 3 rfl (gk_selects 4 rfl (gk_initialized 5 rfl (gn))))) ggX4_firstToStart_X4_firstNotFailed
theorem dX4_firstToStart_15 : decode cX4_firstToStart 15 = .ok (.istore_n 3, 1) := by decide +kernel
theorem dX4_firstToStart_16 : decode cX4_firstToStart 16 = .ok (.iload_n 3, 1) := by decide +kernel
theorem dX4_firstToStart_17 : decode cX4_firstToStart 17 = .ok (.bipush (-9), 2) := by decide +kernel
theorem dX4_firstToStart_19 : decode cX4_firstToStart 19 = .ok (.if_icmp .eq 12, 3) := by decide +kernel
theorem dX4_firstToStart_31 : decode cX4_firstToStart 31 = .ok (.iload_n 3, 1) := by decide +kernel
theorem dX4_firstToStart_32 : decode cX4_firstToStart 32 = .ok (.ireturn, 1) := by decide +kernel
theorem dX4_firstToStart_22 : decode cX4_firstToStart 22 = .ok (.aload_n 0, 1) := by decide +kernel
theorem dX4_firstToStart_23 : decode cX4_firstToStart 23 = .ok (.iload_n 3, 1) := by decide +kernel
theorem dX4_firstToStart_24 : decode cX4_firstToStart 24 = .ok (.invokevirtual 42, 3) := by decide +kernel
set_option maxRecDepth 20000 in
theorem ggX4_firstToStart_X4_begin : GoodIn wsX4_firstToStart wsX4_begin := (gk_code 13 rfl (gk_fieldLink 8 rfl (gk_fieldLink 14 rfl (gk_fieldLink 15 rfl (gk_fieldLink 16 rfl (gk_methodLink 17 rfl (gk_instanceMethod 18 rfl (gk_selects 19 rfl (gk_initialized 5 rfl (gk_code 20 rfl (gk_fieldLink 1 rfl (gk_lays 21 rfl (gk_laysFinal 22 rfl (gk_laysFinal 23 rfl (gk_laysFinal 24 rfl (gk_laysFinal 25 rfl (gk_laysFinal 26 rfl (gk_laysFinal 27 rfl (gn)))))))))))))))))))
set_option maxRecDepth 20000 in
theorem gX4_firstToStart_X4_begin : GoodIn wsX4_firstToStart (wsV RX4 42 RX4 yX4_begin wsX4_begin) := goodIn_app (gk_methodLink 10 rfl (gk_instanceMethod 11 rfl (gk_selects 12 rfl (gk_initialized 5 rfl (gn))))) ggX4_firstToStart_X4_begin
theorem dX4_firstToStart_27 : decode cX4_firstToStart 27 = .ok (.iconst 1, 1) := by decide +kernel
theorem dX4_firstToStart_28 : decode cX4_firstToStart 28 = .ok (.if_icmp .ne 5, 3) := by decide +kernel
theorem dX4_firstToStart_33 : decode cX4_firstToStart 33 = .ok (.iinc 2 1, 3) := by decide +kernel
theorem dX4_firstToStart_36 : decode cX4_firstToStart 36 = .ok (.goto (-34), 3) := by decide +kernel
theorem dX1_come_0 : decode cX1_come 0 = .ok (.aload_n 0, 1) := by decide +kernel
theorem dX1_come_1 : decode cX1_come 1 = .ok (.getfield 9, 3) := by decide +kernel
theorem in_X1_come_1 : ∀ w ∈ u_ws RX1 TX1 5, w ∈ wsX1_come := fun _ h => List.mem_cons_of_mem _ (List.mem_append_right _ h)
theorem dX1_come_4 : decode cX1_come 4 = .ok (.bipush 8, 2) := by decide +kernel
theorem dX1_come_6 : decode cX1_come 6 = .ok (.if_icmp .ne 6, 3) := by decide +kernel
theorem dX1_come_12 : decode cX1_come 12 = .ok (.aload_n 0, 1) := by decide +kernel
theorem dX1_come_13 : decode cX1_come 13 = .ok (.getfield 15, 3) := by decide +kernel
theorem dX1_come_16 : decode cX1_come 16 = .ok (.aload_n 0, 1) := by decide +kernel
theorem dX1_come_17 : decode cX1_come 17 = .ok (.getfield 9, 3) := by decide +kernel
theorem dX1_come_20 : decode cX1_come 20 = .ok (.iload_n 1, 1) := by decide +kernel
theorem dX1_come_21 : decode cX1_come 21 = .ok (.iastore, 1) := by decide +kernel
theorem dX1_come_22 : decode cX1_come 22 = .ok (.aload_n 0, 1) := by decide +kernel
theorem dX1_come_23 : decode cX1_come 23 = .ok (.getfield 19, 3) := by decide +kernel
theorem dX1_come_26 : decode cX1_come 26 = .ok (.aload_n 0, 1) := by decide +kernel
theorem dX1_come_27 : decode cX1_come 27 = .ok (.getfield 9, 3) := by decide +kernel
theorem dX1_come_30 : decode cX1_come 30 = .ok (.iload_n 2, 1) := by decide +kernel
theorem dX1_come_31 : decode cX1_come 31 = .ok (.iastore, 1) := by decide +kernel
theorem dX1_come_32 : decode cX1_come 32 = .ok (.iconst 0, 1) := by decide +kernel
theorem dX1_come_33 : decode cX1_come 33 = .ok (.istore_n 3, 1) := by decide +kernel
theorem dX1_come_34 : decode cX1_come 34 = .ok (.iload_n 3, 1) := by decide +kernel
theorem dX1_come_35 : decode cX1_come 35 = .ok (.iload_n 2, 1) := by decide +kernel
theorem dX1_come_36 : decode cX1_come 36 = .ok (.if_icmp .ge 22, 3) := by decide +kernel
theorem dX1_come_58 : decode cX1_come 58 = .ok (.aload_n 0, 1) := by decide +kernel
theorem dX1_come_59 : decode cX1_come 59 = .ok (.dup, 1) := by decide +kernel
theorem dX1_come_60 : decode cX1_come 60 = .ok (.getfield 9, 3) := by decide +kernel
theorem dX1_come_63 : decode cX1_come 63 = .ok (.iconst 1, 1) := by decide +kernel
theorem dX1_come_64 : decode cX1_come 64 = .ok (.iadd, 1) := by decide +kernel
theorem dX1_come_65 : decode cX1_come 65 = .ok (.putfield 9, 3) := by decide +kernel
theorem dX1_come_68 : decode cX1_come 68 = .ok (.aload_n 0, 1) := by decide +kernel
theorem dX1_come_69 : decode cX1_come 69 = .ok (.getfield 9, 3) := by decide +kernel
theorem dX1_come_72 : decode cX1_come 72 = .ok (.iconst 1, 1) := by decide +kernel
theorem dX1_come_73 : decode cX1_come 73 = .ok (.isub, 1) := by decide +kernel
theorem dX1_come_74 : decode cX1_come 74 = .ok (.ireturn, 1) := by decide +kernel
theorem dX1_come_39 : decode cX1_come 39 = .ok (.aload_n 0, 1) := by decide +kernel
theorem dX1_come_40 : decode cX1_come 40 = .ok (.getfield 24, 3) := by decide +kernel
theorem dX1_come_43 : decode cX1_come 43 = .ok (.aload_n 0, 1) := by decide +kernel
theorem dX1_come_44 : decode cX1_come 44 = .ok (.getfield 9, 3) := by decide +kernel
theorem dX1_come_47 : decode cX1_come 47 = .ok (.aaload, 1) := by decide +kernel
theorem dX1_come_48 : decode cX1_come 48 = .ok (.iload_n 3, 1) := by decide +kernel
theorem dX1_come_49 : decode cX1_come 49 = .ok (.bipush (-9), 2) := by decide +kernel
theorem dX1_come_51 : decode cX1_come 51 = .ok (.iastore, 1) := by decide +kernel
theorem dX1_come_52 : decode cX1_come 52 = .ok (.iinc 3 1, 3) := by decide +kernel
theorem dX1_come_55 : decode cX1_come 55 = .ok (.goto (-21), 3) := by decide +kernel
theorem dX1_come_9 : decode cX1_come 9 = .ok (.bipush (-2), 2) := by decide +kernel
theorem dX1_come_11 : decode cX1_come 11 = .ok (.ireturn, 1) := by decide +kernel
theorem dX1_copy_0 : decode cX1_copy 0 = .ok (.iconst 0, 1) := by decide +kernel
theorem dX1_copy_1 : decode cX1_copy 1 = .ok (.istore 6, 2) := by decide +kernel
theorem dX1_copy_3 : decode cX1_copy 3 = .ok (.iload 6, 2) := by decide +kernel
theorem dX1_copy_5 : decode cX1_copy 5 = .ok (.iload 5, 2) := by decide +kernel
theorem dX1_copy_7 : decode cX1_copy 7 = .ok (.if_icmp .ge 27, 3) := by decide +kernel
theorem dX1_copy_34 : decode cX1_copy 34 = .ok (.iconst 0, 1) := by decide +kernel
theorem dX1_copy_35 : decode cX1_copy 35 = .ok (.istore 6, 2) := by decide +kernel
theorem dX1_copy_37 : decode cX1_copy 37 = .ok (.iload 6, 2) := by decide +kernel
theorem dX1_copy_39 : decode cX1_copy 39 = .ok (.iload 5, 2) := by decide +kernel
theorem dX1_copy_41 : decode cX1_copy 41 = .ok (.if_icmp .ge 28, 3) := by decide +kernel
theorem dX1_copy_69 : decode cX1_copy 69 = .ok (.return_, 1) := by decide +kernel
theorem dX1_copy_44 : decode cX1_copy 44 = .ok (.aload_n 0, 1) := by decide +kernel
theorem dX1_copy_45 : decode cX1_copy 45 = .ok (.getfield 24, 3) := by decide +kernel
theorem in_X1_copy_1 : ∀ w ∈ u_ws RX1 TX1 5, w ∈ wsX1_copy := fun _ h => List.mem_cons_of_mem _ (List.mem_append_right _ h)
theorem dX1_copy_48 : decode cX1_copy 48 = .ok (.iload_n 3, 1) := by decide +kernel
theorem dX1_copy_49 : decode cX1_copy 49 = .ok (.aaload, 1) := by decide +kernel
theorem dX1_copy_50 : decode cX1_copy 50 = .ok (.iload 4, 2) := by decide +kernel
theorem dX1_copy_52 : decode cX1_copy 52 = .ok (.iload 6, 2) := by decide +kernel
theorem dX1_copy_54 : decode cX1_copy 54 = .ok (.iadd, 1) := by decide +kernel
theorem dX1_copy_55 : decode cX1_copy 55 = .ok (.aload_n 0, 1) := by decide +kernel
theorem dX1_copy_56 : decode cX1_copy 56 = .ok (.getfield 27, 3) := by decide +kernel
theorem dX1_copy_59 : decode cX1_copy 59 = .ok (.iload 6, 2) := by decide +kernel
theorem dX1_copy_61 : decode cX1_copy 61 = .ok (.iaload, 1) := by decide +kernel
theorem dX1_copy_62 : decode cX1_copy 62 = .ok (.iastore, 1) := by decide +kernel
theorem dX1_copy_63 : decode cX1_copy 63 = .ok (.iinc 6 1, 3) := by decide +kernel
theorem dX1_copy_66 : decode cX1_copy 66 = .ok (.goto (-29), 3) := by decide +kernel
theorem dX1_copy_10 : decode cX1_copy 10 = .ok (.aload_n 0, 1) := by decide +kernel
theorem dX1_copy_11 : decode cX1_copy 11 = .ok (.getfield 27, 3) := by decide +kernel
theorem dX1_copy_14 : decode cX1_copy 14 = .ok (.iload 6, 2) := by decide +kernel
theorem dX1_copy_16 : decode cX1_copy 16 = .ok (.aload_n 0, 1) := by decide +kernel
theorem dX1_copy_17 : decode cX1_copy 17 = .ok (.getfield 24, 3) := by decide +kernel
theorem dX1_copy_20 : decode cX1_copy 20 = .ok (.iload_n 1, 1) := by decide +kernel
theorem dX1_copy_21 : decode cX1_copy 21 = .ok (.aaload, 1) := by decide +kernel
theorem dX1_copy_22 : decode cX1_copy 22 = .ok (.iload_n 2, 1) := by decide +kernel
theorem dX1_copy_23 : decode cX1_copy 23 = .ok (.iload 6, 2) := by decide +kernel
theorem dX1_copy_25 : decode cX1_copy 25 = .ok (.iadd, 1) := by decide +kernel
theorem dX1_copy_26 : decode cX1_copy 26 = .ok (.iaload, 1) := by decide +kernel
theorem dX1_copy_27 : decode cX1_copy 27 = .ok (.iastore, 1) := by decide +kernel
theorem dX1_copy_28 : decode cX1_copy 28 = .ok (.iinc 6 1, 3) := by decide +kernel
theorem dX1_copy_31 : decode cX1_copy 31 = .ok (.goto (-28), 3) := by decide +kernel
