theorem dX10_seat_0 : decode cX10_seat 0 = .ok (.iload_n 1, 1) := dw27 (n := 0) (i := 0) kc_cX10_seat_0 (by decide +kernel)
theorem dX10_seat_1 : decode cX10_seat 1 = .ok (.ifCond .lt 26, 3) := dw155 (n := 0) (i := 1) (a := 0) (b := 26) kc_cX10_seat_0 (by decide +kernel) (by decide)
theorem dX10_seat_27 : decode cX10_seat 27 = .ok (.bipush (-9), 2) := dw16 (n := 0) (i := 27) (a := 247) kc_cX10_seat_0 (by decide +kernel) (by decide)
theorem dX10_seat_29 : decode cX10_seat 29 = .ok (.ireturn, 1) := dw172 (n := 0) (i := 29) kc_cX10_seat_0 (by decide +kernel)
theorem dX10_seat_4 : decode cX10_seat 4 = .ok (.iload_n 1, 1) := dw27 (n := 0) (i := 4) kc_cX10_seat_0 (by decide +kernel)
theorem dX10_seat_5 : decode cX10_seat 5 = .ok (.aload_n 0, 1) := dw42 (n := 0) (i := 5) kc_cX10_seat_0 (by decide +kernel)
theorem dX10_seat_6 : decode cX10_seat 6 = .ok (.getfield 72, 3) := dw180 (n := 0) (i := 6) (a := 0) (b := 72) kc_cX10_seat_0 (by decide +kernel) (by decide)
theorem in_X10_seat_10 : ∀ w ∈ u_ws RX10 TX10 13, w ∈ wsX10_seat := fun _ h => List.mem_cons_of_mem _ (List.mem_append_left _ (List.mem_append_right _ h))
theorem dX10_seat_9 : decode cX10_seat 9 = .ok (.getfield 223, 3) := dw180 (n := 0) (i := 9) (a := 0) (b := 223) kc_cX10_seat_0 (by decide +kernel) (by decide)
theorem in_X10_seat_7 : ∀ w ∈ u_ws RX7 TX7 7, w ∈ wsX10_seat := fun _ h => List.mem_cons_of_mem _ (List.mem_append_right _ h)
theorem dX10_seat_12 : decode cX10_seat 12 = .ok (.if_icmp .ge 15, 3) := dw162 (n := 0) (i := 12) (a := 0) (b := 15) kc_cX10_seat_0 (by decide +kernel) (by decide)
theorem dX10_seat_15 : decode cX10_seat 15 = .ok (.aload_n 0, 1) := dw42 (n := 0) (i := 15) kc_cX10_seat_0 (by decide +kernel)
theorem dX10_seat_16 : decode cX10_seat 16 = .ok (.getfield 72, 3) := dw180 (n := 0) (i := 16) (a := 0) (b := 72) kc_cX10_seat_0 (by decide +kernel) (by decide)
theorem dX10_seat_19 : decode cX10_seat 19 = .ok (.getfield 226, 3) := dw180 (n := 0) (i := 19) (a := 0) (b := 226) kc_cX10_seat_0 (by decide +kernel) (by decide)
theorem dX10_seat_22 : decode cX10_seat 22 = .ok (.iload_n 1, 1) := dw27 (n := 0) (i := 22) kc_cX10_seat_0 (by decide +kernel)
theorem dX10_seat_23 : decode cX10_seat 23 = .ok (.iaload, 1) := dw46 (n := 0) (i := 23) kc_cX10_seat_0 (by decide +kernel)
theorem dX10_seat_24 : decode cX10_seat 24 = .ok (.goto 5, 3) := dw167 (n := 0) (i := 24) (a := 0) (b := 5) kc_cX10_seat_0 (by decide +kernel) (by decide)
theorem dX10_rounds_0 : decode cX10_rounds 0 = .ok (.aload_n 0, 1) := dw42 (n := 0) (i := 0) kc_cX10_rounds_0 (by decide +kernel)
theorem dX10_rounds_1 : decode cX10_rounds 1 = .ok (.getfield 72, 3) := dw180 (n := 0) (i := 1) (a := 0) (b := 72) kc_cX10_rounds_0 (by decide +kernel) (by decide)
theorem in_X10_rounds_10 : ∀ w ∈ u_ws RX10 TX10 13, w ∈ wsX10_rounds := fun _ h => List.mem_cons_of_mem _ (List.mem_append_left _ (List.mem_append_right _ h))
theorem dX10_rounds_4 : decode cX10_rounds 4 = .ok (.getfield 229, 3) := dw180 (n := 0) (i := 4) (a := 0) (b := 229) kc_cX10_rounds_0 (by decide +kernel) (by decide)
theorem in_X10_rounds_7 : ∀ w ∈ u_ws RX7 TX7 7, w ∈ wsX10_rounds := fun _ h => List.mem_cons_of_mem _ (List.mem_append_right _ h)
theorem dX10_rounds_7 : decode cX10_rounds 7 = .ok (.ireturn, 1) := dw172 (n := 0) (i := 7) kc_cX10_rounds_0 (by decide +kernel)
theorem dX10_round_0 : decode cX10_round 0 = .ok (.iload_n 2, 1) := dw28 (n := 0) (i := 0) kc_cX10_round_0 (by decide +kernel)
theorem dX10_round_1 : decode cX10_round 1 = .ok (.ifCond .eq 10, 3) := dw153 (n := 0) (i := 1) (a := 0) (b := 10) kc_cX10_round_0 (by decide +kernel) (by decide)
theorem dX10_round_11 : decode cX10_round 11 = .ok (.aload_n 0, 1) := dw42 (n := 0) (i := 11) kc_cX10_round_0 (by decide +kernel)
theorem dX10_round_12 : decode cX10_round 12 = .ok (.getfield 72, 3) := dw180 (n := 0) (i := 12) (a := 0) (b := 72) kc_cX10_round_0 (by decide +kernel) (by decide)
theorem in_X10_round_10 : ∀ w ∈ u_ws RX10 TX10 13, w ∈ wsX10_round := fun _ h => List.mem_cons_of_mem _ (List.mem_append_left _ (List.mem_append_right _ h))
theorem dX10_round_15 : decode cX10_round 15 = .ok (.iload_n 1, 1) := dw27 (n := 0) (i := 15) kc_cX10_round_0 (by decide +kernel)
theorem dX10_round_16 : decode cX10_round 16 = .ok (.invokevirtual 232, 3) := dw182 (n := 0) (i := 16) (a := 0) (b := 232) kc_cX10_round_0 (by decide +kernel) (by decide)
set_option maxRecDepth 20000 in
theorem ggX10_round_X7_hasRound : GoodIn wsX10_round wsX7_hasRound := (gk_code 8 rfl (gk_fieldLink 9 rfl (gk_lays 23 rfl (gk_laysFinal 24 rfl (gk_lays 25 rfl (gk_laysFinal 26 rfl (gk_laysFinal 27 rfl (gk_laysFinal 28 rfl (gk_laysFinal 29 rfl (gn))))))))))
set_option maxRecDepth 20000 in
theorem gX10_round_X7_hasRound : GoodIn wsX10_round (wsV RX10 232 RX7 yX7_hasRound wsX7_hasRound) := goodIn_app (gk_methodLink 4 rfl (gk_instanceMethod 5 rfl (gk_selects 6 rfl (gk_initialized 7 rfl (gn))))) ggX10_round_X7_hasRound
theorem dX10_round_19 : decode cX10_round 19 = .ok (.ifCond .ne 6, 3) := dw154 (n := 0) (i := 19) (a := 0) (b := 6) kc_cX10_round_0 (by decide +kernel) (by decide)
theorem dX10_round_25 : decode cX10_round 25 = .ok (.iload_n 2, 1) := dw28 (n := 0) (i := 25) kc_cX10_round_0 (by decide +kernel)
theorem dX10_round_26 : decode cX10_round 26 = .ok (.ifCond .ne 15, 3) := dw154 (n := 0) (i := 26) (a := 0) (b := 15) kc_cX10_round_0 (by decide +kernel) (by decide)
theorem dX10_round_41 : decode cX10_round 41 = .ok (.aload_n 0, 1) := dw42 (n := 32) (i := 9) kc_cX10_round_1 (by decide +kernel)
theorem dX10_round_42 : decode cX10_round 42 = .ok (.getfield 72, 3) := dw180 (n := 32) (i := 10) (a := 0) (b := 72) kc_cX10_round_1 (by decide +kernel) (by decide)
theorem dX10_round_45 : decode cX10_round 45 = .ok (.getfield 238, 3) := dw180 (n := 32) (i := 13) (a := 0) (b := 238) kc_cX10_round_1 (by decide +kernel) (by decide)
theorem in_X10_round_7 : ∀ w ∈ u_ws RX7 TX7 7, w ∈ wsX10_round := fun _ h => List.mem_cons_of_mem _ (List.mem_append_right _ h)
theorem dX10_round_48 : decode cX10_round 48 = .ok (.iload_n 1, 1) := dw27 (n := 32) (i := 16) kc_cX10_round_1 (by decide +kernel)
theorem dX10_round_49 : decode cX10_round 49 = .ok (.iaload, 1) := dw46 (n := 32) (i := 17) kc_cX10_round_1 (by decide +kernel)
theorem dX10_round_50 : decode cX10_round 50 = .ok (.ireturn, 1) := dw172 (n := 32) (i := 18) kc_cX10_round_1 (by decide +kernel)
theorem dX10_round_29 : decode cX10_round 29 = .ok (.aload_n 0, 1) := dw42 (n := 0) (i := 29) kc_cX10_round_0 (by decide +kernel)
theorem dX10_round_30 : decode cX10_round 30 = .ok (.getfield 72, 3) := dw180 (n := 0) (i := 30) (a := 0) (b := 72) kc_cX10_round_0 (by decide +kernel) (by decide)
theorem dX10_round_33 : decode cX10_round 33 = .ok (.getfield 235, 3) := dw180 (n := 32) (i := 1) (a := 0) (b := 235) kc_cX10_round_1 (by decide +kernel) (by decide)
theorem dX10_round_36 : decode cX10_round 36 = .ok (.iload_n 1, 1) := dw27 (n := 32) (i := 4) kc_cX10_round_1 (by decide +kernel)
theorem dX10_round_37 : decode cX10_round 37 = .ok (.iaload, 1) := dw46 (n := 32) (i := 5) kc_cX10_round_1 (by decide +kernel)
theorem dX10_round_38 : decode cX10_round 38 = .ok (.goto 12, 3) := dw167 (n := 32) (i := 6) (a := 0) (b := 12) kc_cX10_round_1 (by decide +kernel) (by decide)
theorem dX10_round_22 : decode cX10_round 22 = .ok (.bipush (-9), 2) := dw16 (n := 0) (i := 22) (a := 247) kc_cX10_round_0 (by decide +kernel) (by decide)
theorem dX10_round_24 : decode cX10_round 24 = .ok (.ireturn, 1) := dw172 (n := 0) (i := 24) kc_cX10_round_0 (by decide +kernel)
theorem dX10_round_4 : decode cX10_round 4 = .ok (.iload_n 2, 1) := dw28 (n := 0) (i := 4) kc_cX10_round_0 (by decide +kernel)
theorem dX10_round_5 : decode cX10_round 5 = .ok (.iconst 1, 1) := dw4 (n := 0) (i := 5) kc_cX10_round_0 (by decide +kernel)
theorem dX10_round_6 : decode cX10_round 6 = .ok (.if_icmp .eq 5, 3) := dw159 (n := 0) (i := 6) (a := 0) (b := 5) kc_cX10_round_0 (by decide +kernel) (by decide)
theorem dX10_round_9 : decode cX10_round 9 = .ok (.iconst (-1), 1) := dw2 (n := 0) (i := 9) kc_cX10_round_0 (by decide +kernel)
theorem dX10_round_10 : decode cX10_round 10 = .ok (.ireturn, 1) := dw172 (n := 0) (i := 10) kc_cX10_round_0 (by decide +kernel)
theorem dX10_many_0 : decode cX10_many 0 = .ok (.iload_n 1, 1) := dw27 (n := 0) (i := 0) kc_cX10_many_0 (by decide +kernel)
theorem dX10_many_1 : decode cX10_many 1 = .ok (.tableswitch 75 0 4 #[35, 43, 51, 59, 67], 35) := by decide +kernel
theorem dX10_many_76 : decode cX10_many 76 = .ok (.iconst (-1), 1) := dw2 (n := 64) (i := 12) kc_cX10_many_2 (by decide +kernel)
theorem dX10_many_77 : decode cX10_many 77 = .ok (.ireturn, 1) := dw172 (n := 64) (i := 13) kc_cX10_many_2 (by decide +kernel)
theorem dX10_many_36 : decode cX10_many 36 = .ok (.aload_n 0, 1) := dw42 (n := 32) (i := 4) kc_cX10_many_1 (by decide +kernel)
theorem dX10_many_37 : decode cX10_many 37 = .ok (.getfield 10, 3) := dw180 (n := 32) (i := 5) (a := 0) (b := 10) kc_cX10_many_1 (by decide +kernel) (by decide)
theorem in_X10_many_10 : ∀ w ∈ u_ws RX10 TX10 13, w ∈ wsX10_many := fun _ h => List.mem_cons_of_mem _ (List.mem_append_left _ (List.mem_append_left _ (List.mem_append_left _ (List.mem_append_left _ (List.mem_append_left _ (List.mem_append_right _ h))))))
theorem dX10_many_40 : decode cX10_many 40 = .ok (.getfield 252, 3) := dw180 (n := 32) (i := 8) (a := 0) (b := 252) kc_cX10_many_1 (by decide +kernel) (by decide)
theorem in_X10_many_2 : ∀ w ∈ u_ws RX2 TX2 2, w ∈ wsX10_many := fun _ h => List.mem_cons_of_mem _ (List.mem_append_left _ (List.mem_append_left _ (List.mem_append_left _ (List.mem_append_left _ (List.mem_append_right _ h)))))
theorem dX10_many_43 : decode cX10_many 43 = .ok (.ireturn, 1) := dw172 (n := 32) (i := 11) kc_cX10_many_1 (by decide +kernel)
theorem dX10_many_44 : decode cX10_many 44 = .ok (.aload_n 0, 1) := dw42 (n := 32) (i := 12) kc_cX10_many_1 (by decide +kernel)
theorem dX10_many_45 : decode cX10_many 45 = .ok (.getfield 19, 3) := dw180 (n := 32) (i := 13) (a := 0) (b := 19) kc_cX10_many_1 (by decide +kernel) (by decide)
theorem dX10_many_48 : decode cX10_many 48 = .ok (.getfield 253, 3) := dw180 (n := 32) (i := 16) (a := 0) (b := 253) kc_cX10_many_1 (by decide +kernel) (by decide)
theorem in_X10_many_0 : ∀ w ∈ u_ws RX0 TX0 5, w ∈ wsX10_many := fun _ h => List.mem_cons_of_mem _ (List.mem_append_left _ (List.mem_append_left _ (List.mem_append_left _ (List.mem_append_right _ h))))
theorem dX10_many_51 : decode cX10_many 51 = .ok (.ireturn, 1) := dw172 (n := 32) (i := 19) kc_cX10_many_1 (by decide +kernel)
theorem dX10_many_52 : decode cX10_many 52 = .ok (.aload_n 0, 1) := dw42 (n := 32) (i := 20) kc_cX10_many_1 (by decide +kernel)
theorem dX10_many_53 : decode cX10_many 53 = .ok (.getfield 26, 3) := dw180 (n := 32) (i := 21) (a := 0) (b := 26) kc_cX10_many_1 (by decide +kernel) (by decide)
theorem dX10_many_56 : decode cX10_many 56 = .ok (.getfield 142, 3) := dw180 (n := 32) (i := 24) (a := 0) (b := 142) kc_cX10_many_1 (by decide +kernel) (by decide)
theorem in_X10_many_1 : ∀ w ∈ u_ws RX1 TX1 5, w ∈ wsX10_many := fun _ h => List.mem_cons_of_mem _ (List.mem_append_left _ (List.mem_append_left _ (List.mem_append_right _ h)))
theorem dX10_many_59 : decode cX10_many 59 = .ok (.ireturn, 1) := dw172 (n := 32) (i := 27) kc_cX10_many_1 (by decide +kernel)
theorem dX10_many_60 : decode cX10_many 60 = .ok (.aload_n 0, 1) := dw42 (n := 32) (i := 28) kc_cX10_many_1 (by decide +kernel)
theorem dX10_many_61 : decode cX10_many 61 = .ok (.getfield 33, 3) := dw180 (n := 32) (i := 29) (a := 0) (b := 33) kc_cX10_many_1 (by decide +kernel) (by decide)
theorem dX10_many_64 : decode cX10_many 64 = .ok (.getfield 254, 3) := dw180 (n := 64) (i := 0) (a := 0) (b := 254) kc_cX10_many_2 (by decide +kernel) (by decide)
theorem in_X10_many_4 : ∀ w ∈ u_ws RX4 TX4 7, w ∈ wsX10_many := fun _ h => List.mem_cons_of_mem _ (List.mem_append_left _ (List.mem_append_right _ h))
theorem dX10_many_67 : decode cX10_many 67 = .ok (.ireturn, 1) := dw172 (n := 64) (i := 3) kc_cX10_many_2 (by decide +kernel)
theorem dX10_many_68 : decode cX10_many 68 = .ok (.aload_n 0, 1) := dw42 (n := 64) (i := 4) kc_cX10_many_2 (by decide +kernel)
theorem dX10_many_69 : decode cX10_many 69 = .ok (.getfield 72, 3) := dw180 (n := 64) (i := 5) (a := 0) (b := 72) kc_cX10_many_2 (by decide +kernel) (by decide)
theorem dX10_many_72 : decode cX10_many 72 = .ok (.getfield 223, 3) := dw180 (n := 64) (i := 8) (a := 0) (b := 223) kc_cX10_many_2 (by decide +kernel) (by decide)
theorem in_X10_many_7 : ∀ w ∈ u_ws RX7 TX7 7, w ∈ wsX10_many := fun _ h => List.mem_cons_of_mem _ (List.mem_append_right _ h)
theorem dX10_many_75 : decode cX10_many 75 = .ok (.ireturn, 1) := dw172 (n := 64) (i := 11) kc_cX10_many_2 (by decide +kernel)
theorem dX10_tally_0 : decode cX10_tally 0 = .ok (.aload_n 0, 1) := dw42 (n := 0) (i := 0) kc_cX10_tally_0 (by decide +kernel)
theorem dX10_tally_1 : decode cX10_tally 1 = .ok (.getfield 10, 3) := dw180 (n := 0) (i := 1) (a := 0) (b := 10) kc_cX10_tally_0 (by decide +kernel) (by decide)
theorem in_X10_tally_10 : ∀ w ∈ u_ws RX10 TX10 13, w ∈ wsX10_tally := fun _ h => List.mem_cons_of_mem _ (List.mem_append_left _ (List.mem_append_left _ (List.mem_append_right _ h)))
theorem dX10_tally_4 : decode cX10_tally 4 = .ok (.iload_n 2, 1) := dw28 (n := 0) (i := 4) kc_cX10_tally_0 (by decide +kernel)
theorem dX10_tally_5 : decode cX10_tally 5 = .ok (.invokevirtual 94, 3) := dw182 (n := 0) (i := 5) (a := 0) (b := 94) kc_cX10_tally_0 (by decide +kernel) (by decide)
set_option maxRecDepth 20000 in
theorem ggX10_tally_X2_has : GoodIn wsX10_tally wsX2_has := (gk_code 11 rfl (gk_fieldLink 12 rfl (gk_lays 39 rfl (gk_laysFinal 40 rfl (gn)))))
set_option maxRecDepth 20000 in
theorem gX10_tally_X2_has : GoodIn wsX10_tally (wsV RX10 94 RX2 yX2_has wsX2_has) := goodIn_app (gk_methodLink 7 rfl (gk_instanceMethod 8 rfl (gk_selects 9 rfl (gk_initialized 10 rfl (gn))))) ggX10_tally_X2_has
theorem dX10_tally_8 : decode cX10_tally 8 = .ok (.ifCond .ne 7, 3) := dw154 (n := 0) (i := 8) (a := 0) (b := 7) kc_cX10_tally_0 (by decide +kernel) (by decide)
theorem dX10_tally_15 : decode cX10_tally 15 = .ok (.aload_n 0, 1) := dw42 (n := 0) (i := 15) kc_cX10_tally_0 (by decide +kernel)
theorem dX10_tally_16 : decode cX10_tally 16 = .ok (.getfield 72, 3) := dw180 (n := 0) (i := 16) (a := 0) (b := 72) kc_cX10_tally_0 (by decide +kernel) (by decide)
theorem dX10_tally_19 : decode cX10_tally 19 = .ok (.iload_n 1, 1) := dw27 (n := 0) (i := 19) kc_cX10_tally_0 (by decide +kernel)
theorem dX10_tally_20 : decode cX10_tally 20 = .ok (.invokevirtual 232, 3) := dw182 (n := 0) (i := 20) (a := 0) (b := 232) kc_cX10_tally_0 (by decide +kernel) (by decide)
set_option maxRecDepth 20000 in
theorem ggX10_tally_X7_hasRound : GoodIn wsX10_tally wsX7_hasRound := (gk_code 17 rfl (gk_fieldLink 18 rfl (gk_lays 32 rfl (gk_laysFinal 33 rfl (gk_lays 34 rfl (gk_laysFinal 35 rfl (gk_laysFinal 36 rfl (gk_laysFinal 37 rfl (gk_laysFinal 38 rfl (gn))))))))))
set_option maxRecDepth 20000 in
theorem gX10_tally_X7_hasRound : GoodIn wsX10_tally (wsV RX10 232 RX7 yX7_hasRound wsX7_hasRound) := goodIn_app (gk_methodLink 13 rfl (gk_instanceMethod 14 rfl (gk_selects 15 rfl (gk_initialized 16 rfl (gn))))) ggX10_tally_X7_hasRound
theorem dX10_tally_23 : decode cX10_tally 23 = .ok (.ifCond .ne 7, 3) := dw154 (n := 0) (i := 23) (a := 0) (b := 7) kc_cX10_tally_0 (by decide +kernel) (by decide)
theorem dX10_tally_30 : decode cX10_tally 30 = .ok (.iload_n 3, 1) := dw29 (n := 0) (i := 30) kc_cX10_tally_0 (by decide +kernel)
theorem dX10_tally_31 : decode cX10_tally 31 = .ok (.ifCond .eq 17, 3) := dw153 (n := 0) (i := 31) (a := 0) (b := 17) kc_cX10_tally_0 (by decide +kernel) (by decide)
theorem dX10_tally_48 : decode cX10_tally 48 = .ok (.aload_n 0, 1) := dw42 (n := 32) (i := 16) kc_cX10_tally_1 (by decide +kernel)
theorem dX10_tally_49 : decode cX10_tally 49 = .ok (.getfield 72, 3) := dw180 (n := 32) (i := 17) (a := 0) (b := 72) kc_cX10_tally_1 (by decide +kernel) (by decide)
theorem dX10_tally_52 : decode cX10_tally 52 = .ok (.getfield 249, 3) := dw180 (n := 32) (i := 20) (a := 0) (b := 249) kc_cX10_tally_1 (by decide +kernel) (by decide)
theorem in_X10_tally_7 : ∀ w ∈ u_ws RX7 TX7 7, w ∈ wsX10_tally := fun _ h => List.mem_cons_of_mem _ (List.mem_append_left _ (List.mem_append_right _ h))
theorem dX10_tally_55 : decode cX10_tally 55 = .ok (.iload_n 1, 1) := dw27 (n := 32) (i := 23) kc_cX10_tally_1 (by decide +kernel)
theorem dX10_tally_56 : decode cX10_tally 56 = .ok (.aaload, 1) := dw50 (n := 32) (i := 24) kc_cX10_tally_1 (by decide +kernel)
theorem dX10_tally_57 : decode cX10_tally 57 = .ok (.iload_n 2, 1) := dw28 (n := 32) (i := 25) kc_cX10_tally_1 (by decide +kernel)
theorem dX10_tally_58 : decode cX10_tally 58 = .ok (.laload, 1) := dw47 (n := 32) (i := 26) kc_cX10_tally_1 (by decide +kernel)
theorem dX10_tally_59 : decode cX10_tally 59 = .ok (.lreturn, 1) := dw173 (n := 32) (i := 27) kc_cX10_tally_1 (by decide +kernel)
theorem dX10_tally_34 : decode cX10_tally 34 = .ok (.aload_n 0, 1) := dw42 (n := 32) (i := 2) kc_cX10_tally_1 (by decide +kernel)
theorem dX10_tally_35 : decode cX10_tally 35 = .ok (.getfield 72, 3) := dw180 (n := 32) (i := 3) (a := 0) (b := 72) kc_cX10_tally_1 (by decide +kernel) (by decide)
theorem dX10_tally_38 : decode cX10_tally 38 = .ok (.getfield 245, 3) := dw180 (n := 32) (i := 6) (a := 0) (b := 245) kc_cX10_tally_1 (by decide +kernel) (by decide)
theorem dX10_tally_41 : decode cX10_tally 41 = .ok (.iload_n 1, 1) := dw27 (n := 32) (i := 9) kc_cX10_tally_1 (by decide +kernel)
theorem dX10_tally_42 : decode cX10_tally 42 = .ok (.aaload, 1) := dw50 (n := 32) (i := 10) kc_cX10_tally_1 (by decide +kernel)
theorem dX10_tally_43 : decode cX10_tally 43 = .ok (.iload_n 2, 1) := dw28 (n := 32) (i := 11) kc_cX10_tally_1 (by decide +kernel)
theorem dX10_tally_44 : decode cX10_tally 44 = .ok (.laload, 1) := dw47 (n := 32) (i := 12) kc_cX10_tally_1 (by decide +kernel)
theorem dX10_tally_45 : decode cX10_tally 45 = .ok (.goto 14, 3) := dw167 (n := 32) (i := 13) (a := 0) (b := 14) kc_cX10_tally_1 (by decide +kernel) (by decide)
theorem dX10_tally_26 : decode cX10_tally 26 = .ok (.ldc2_w 243, 3) := dw20 (n := 0) (i := 26) (a := 0) (b := 243) kc_cX10_tally_0 (by decide +kernel) (by decide)
theorem dX10_tally_29 : decode cX10_tally 29 = .ok (.lreturn, 1) := dw173 (n := 0) (i := 29) kc_cX10_tally_0 (by decide +kernel)
theorem dX10_tally_11 : decode cX10_tally 11 = .ok (.ldc2_w 241, 3) := dw20 (n := 0) (i := 11) (a := 0) (b := 241) kc_cX10_tally_0 (by decide +kernel) (by decide)
theorem dX10_tally_14 : decode cX10_tally 14 = .ok (.lreturn, 1) := dw173 (n := 0) (i := 14) kc_cX10_tally_0 (by decide +kernel)
set_option maxHeartbeats 4000000 in
set_option maxRecDepth 100000 in
theorem s_X10_tally (l : Launch) (D : va_G) (ad : Nat → Nat) (cs : Nat → ClassId) (M : MI) (L : ML) (x : Int32) (y : Int32) (z : Int32) (hI : IC M) : Cl l yX10_tally wsX10_tally ({ frames := 1, cells := 0, slots := 0, locals := 21 }) D ad cs [.ref (ad 0), .int x, .int y, .int z] M L (fun r M1 L1 => M1 = M ∧ L1 = L ∧ True) := by
  refine enter_l RX10 rfl [(0, .ref (ad 0)), (1, .int x), (2, .int y), (3, .int z)] rfl (Nat.le_of_ble_eq_true rfl) (by decide +kernel) rfl ?_
  intro p e s m below meth c C hr
  have hF : ∀ k, True → M k = M k := fun _ _ => rfl
  have hG : ∀ k, True → L k = L k := fun _ _ => rfl
  rcases (hI 0 8 (Or.inl rfl)) with hg8 | hg8
  ·
    refine g_aload_n C 0 dX10_tally_0 rfl ?_
    refine g_get C (.ref (ad 1)) 0 in_X10_tally_10 (List.mem_of_getElem? (i := 1) rfl) (by decide) (ce_house ad cs _ _) rfl (by decide) rfl rfl dX10_tally_1 ?_
    refine g_iload_n C 2 dX10_tally_4 rfl ?_
    refine g_callVi C (n := 1) (As := [.int y]) (st := []) (c_X2_has l D ad cs _ _ y) gX10_tally_X2_has rfl rfl rfl (by decide +kernel) ⟨Nat.le_of_ble_eq_true rfl, Nat.le_of_ble_eq_true rfl⟩ rfl (Nat.le_of_ble_eq_true rfl) ⟨Nat.zero_le _, Nat.zero_le _⟩ (by decide) (ce_cand ad cs _ _) rfl rfl dX10_tally_5 (fun r1 M2 L3 hr1 => ?_)
    obtain ⟨hq1, hq2, hr1⟩ := hr1
    obtain rfl := hq1.symm
    obtain rfl := hq2.symm
    refine g_if_ne C 15 dX10_tally_8 (by decide) (fun c4 => ?_) (fun c4 => ?_)
    ·
      have f5 := fne rfl (by decide : (0 : Int32).toInt = 0) c4
      obtain ⟨far1, fbr1⟩ := has_t hr1 c4
      obtain ⟨fcr1, fdr1⟩ := (show rg 0 10 (M 1 0) from hI 1 0 rfl)
      refine g_aload_n C 0 dX10_tally_15 rfl ?_
      refine g_get C (.ref (ad ((M 0 8).toNatClampNeg))) 8 in_X10_tally_10 (List.mem_of_getElem? (i := 3) rfl) (by decide) (ce_house ad cs _ _) rfl (by decide) rfl rfl dX10_tally_16 ?_
      refine g_tr 125 (by rw [hg8]; rfl) ?_
      refine g_iload_n C 1 dX10_tally_19 rfl ?_
      refine g_callVi C (n := 1) (As := [.int x]) (st := []) (s_X7_hasRound_a l D ad cs _ _ x hI) gX10_tally_X7_hasRound rfl rfl rfl (by decide +kernel) ⟨Nat.le_of_ble_eq_true rfl, Nat.le_of_ble_eq_true rfl⟩ rfl (Nat.le_of_ble_eq_true rfl) ⟨Nat.zero_le _, Nat.zero_le _⟩ (by decide) (ce_ra ad cs _ _) rfl rfl dX10_tally_20 (fun r6 M7 L8 hr6 => ?_)
      obtain ⟨hq1, hq2, hr6⟩ := hr6
      obtain rfl := hq1.symm
      obtain rfl := hq2.symm
      obtain ⟨hz, hpr6⟩ := hr6
      refine g_if_ne C 30 dX10_tally_23 (by decide) (fun c9 => ?_) (fun c9 => ?_)
      ·
        have f10 := fne rfl (by decide : (0 : Int32).toInt = 0) c9
        obtain ⟨p0r6, p1r6⟩ := hpr6 c9
        refine g_iload_n C 3 dX10_tally_30 rfl ?_
        refine g_if_eq C 48 dX10_tally_31 (by decide) (fun c11 => ?_) (fun c11 => ?_)
        ·
          have f12 := feq rfl (by decide : (0 : Int32).toInt = 0) c11
          refine g_aload_n C 0 dX10_tally_48 rfl ?_
          refine g_get C (.ref (ad ((M 0 8).toNatClampNeg))) 8 in_X10_tally_10 (List.mem_of_getElem? (i := 3) rfl) (by decide) (ce_house ad cs _ _) rfl (by decide) rfl rfl dX10_tally_49 ?_
          refine g_tr 125 (by rw [hg8]; rfl) ?_
          refine g_get C (.ref (ad 129)) 5 in_X10_tally_7 (List.mem_of_getElem? (i := 6) rfl) (by decide) (ce_ra ad cs _ _) rfl (by decide) rfl rfl dX10_tally_52 ?_
          refine g_iload_n C 1 dX10_tally_55 rfl ?_
          have hi13 : vp_in x 30 := (fin' (n := 30) rfl (by omega) (by omega))
          have nhi13 := tn hi13
          refine g_aald C (by decide) (ce_raupm ad cs _ _) rfl hi13 dX10_tally_56 ?_
          refine g_iload_n C 2 dX10_tally_57 rfl ?_
          refine g_lald C (by omega) (ce_raup ad cs _ _ nhi13) (fin' (n := 10) rfl (by omega) (by omega)) dX10_tally_58 ?_
          refine g_nl (fun v14 ev14 => ?_)
          exact g_lret C hr ⟨rfl, rfl, trivial⟩ dX10_tally_59
        ·
          have f15 := fne rfl (by decide : (0 : Int32).toInt = 0) c11
          refine g_aload_n C 0 dX10_tally_34 rfl ?_
          refine g_get C (.ref (ad ((M 0 8).toNatClampNeg))) 8 in_X10_tally_10 (List.mem_of_getElem? (i := 3) rfl) (by decide) (ce_house ad cs _ _) rfl (by decide) rfl rfl dX10_tally_35 ?_
          refine g_tr 125 (by rw [hg8]; rfl) ?_
          refine g_get C (.ref (ad 130)) 6 in_X10_tally_7 (List.mem_of_getElem? (i := 5) rfl) (by decide) (ce_ra ad cs _ _) rfl (by decide) rfl rfl dX10_tally_38 ?_
          refine g_iload_n C 1 dX10_tally_41 rfl ?_
          have hi16 : vp_in x 30 := (fin' (n := 30) rfl (by omega) (by omega))
          have nhi16 := tn hi16
          refine g_aald C (by decide) (ce_ralowm ad cs _ _) rfl hi16 dX10_tally_42 ?_
          refine g_iload_n C 2 dX10_tally_43 rfl ?_
          refine g_lald C (by omega) (ce_ralow ad cs _ _ nhi16) (fin' (n := 10) rfl (by omega) (by omega)) dX10_tally_44 ?_
          refine g_nl (fun v17 ev17 => ?_)
          refine g_goto C 59 dX10_tally_45 (by decide) ?_
          exact g_lret C hr ⟨rfl, rfl, trivial⟩ dX10_tally_59
      ·
        have f18 := feq rfl (by decide : (0 : Int32).toInt = 0) c9
        refine g_ldc2 C (-9) (List.mem_of_getElem? (i := 4) rfl) dX10_tally_26 ?_
        exact g_lret C hr ⟨rfl, rfl, trivial⟩ dX10_tally_29
    ·
      have f19 := feq rfl (by decide : (0 : Int32).toInt = 0) c4
      refine g_ldc2 C (-1) (List.mem_of_getElem? (i := 2) rfl) dX10_tally_11 ?_
      exact g_lret C hr ⟨rfl, rfl, trivial⟩ dX10_tally_14
  ·
    refine g_aload_n C 0 dX10_tally_0 rfl ?_
    refine g_get C (.ref (ad 1)) 0 in_X10_tally_10 (List.mem_of_getElem? (i := 1) rfl) (by decide) (ce_house ad cs _ _) rfl (by decide) rfl rfl dX10_tally_1 ?_
    refine g_iload_n C 2 dX10_tally_4 rfl ?_
    refine g_callVi C (n := 1) (As := [.int y]) (st := []) (c_X2_has l D ad cs _ _ y) gX10_tally_X2_has rfl rfl rfl (by decide +kernel) ⟨Nat.le_of_ble_eq_true rfl, Nat.le_of_ble_eq_true rfl⟩ rfl (Nat.le_of_ble_eq_true rfl) ⟨Nat.zero_le _, Nat.zero_le _⟩ (by decide) (ce_cand ad cs _ _) rfl rfl dX10_tally_5 (fun r20 M21 L22 hr20 => ?_)
    obtain ⟨hq1, hq2, hr20⟩ := hr20
    obtain rfl := hq1.symm
    obtain rfl := hq2.symm
    refine g_if_ne C 15 dX10_tally_8 (by decide) (fun c23 => ?_) (fun c23 => ?_)
    ·
      have f24 := fne rfl (by decide : (0 : Int32).toInt = 0) c23
      obtain ⟨far20, fbr20⟩ := has_t hr20 c23
      obtain ⟨fcr20, fdr20⟩ := (show rg 0 10 (M 1 0) from hI 1 0 rfl)
      refine g_aload_n C 0 dX10_tally_15 rfl ?_
      refine g_get C (.ref (ad ((M 0 8).toNatClampNeg))) 8 in_X10_tally_10 (List.mem_of_getElem? (i := 3) rfl) (by decide) (ce_house ad cs _ _) rfl (by decide) rfl rfl dX10_tally_16 ?_
      refine g_tr 191 (by rw [hg8]; rfl) ?_
      refine g_iload_n C 1 dX10_tally_19 rfl ?_
      refine g_callVi C (n := 1) (As := [.int x]) (st := []) (s_X7_hasRound_b l D ad cs _ _ x hI) gX10_tally_X7_hasRound rfl rfl rfl (by decide +kernel) ⟨Nat.le_of_ble_eq_true rfl, Nat.le_of_ble_eq_true rfl⟩ rfl (Nat.le_of_ble_eq_true rfl) ⟨Nat.zero_le _, Nat.zero_le _⟩ (by decide) (ce_rb ad cs _ _) rfl rfl dX10_tally_20 (fun r25 M26 L27 hr25 => ?_)
      obtain ⟨hq1, hq2, hr25⟩ := hr25
      obtain rfl := hq1.symm
      obtain rfl := hq2.symm
      obtain ⟨hz, hpr25⟩ := hr25
      refine g_if_ne C 30 dX10_tally_23 (by decide) (fun c28 => ?_) (fun c28 => ?_)
      ·
        have f29 := fne rfl (by decide : (0 : Int32).toInt = 0) c28
        obtain ⟨p0r25, p1r25⟩ := hpr25 c28
        refine g_iload_n C 3 dX10_tally_30 rfl ?_
        refine g_if_eq C 48 dX10_tally_31 (by decide) (fun c30 => ?_) (fun c30 => ?_)
        ·
          have f31 := feq rfl (by decide : (0 : Int32).toInt = 0) c30
          refine g_aload_n C 0 dX10_tally_48 rfl ?_
          refine g_get C (.ref (ad ((M 0 8).toNatClampNeg))) 8 in_X10_tally_10 (List.mem_of_getElem? (i := 3) rfl) (by decide) (ce_house ad cs _ _) rfl (by decide) rfl rfl dX10_tally_49 ?_
          refine g_tr 191 (by rw [hg8]; rfl) ?_
          refine g_get C (.ref (ad 195)) 5 in_X10_tally_7 (List.mem_of_getElem? (i := 6) rfl) (by decide) (ce_rb ad cs _ _) rfl (by decide) rfl rfl dX10_tally_52 ?_
          refine g_iload_n C 1 dX10_tally_55 rfl ?_
          have hi32 : vp_in x 30 := (fin' (n := 30) rfl (by omega) (by omega))
          have nhi32 := tn hi32
          refine g_aald C (by decide) (ce_rbupm ad cs _ _) rfl hi32 dX10_tally_56 ?_
          refine g_iload_n C 2 dX10_tally_57 rfl ?_
          refine g_lald C (by omega) (ce_rbup ad cs _ _ nhi32) (fin' (n := 10) rfl (by omega) (by omega)) dX10_tally_58 ?_
          refine g_nl (fun v33 ev33 => ?_)
          exact g_lret C hr ⟨rfl, rfl, trivial⟩ dX10_tally_59
        ·
          have f34 := fne rfl (by decide : (0 : Int32).toInt = 0) c30
          refine g_aload_n C 0 dX10_tally_34 rfl ?_
          refine g_get C (.ref (ad ((M 0 8).toNatClampNeg))) 8 in_X10_tally_10 (List.mem_of_getElem? (i := 3) rfl) (by decide) (ce_house ad cs _ _) rfl (by decide) rfl rfl dX10_tally_35 ?_
          refine g_tr 191 (by rw [hg8]; rfl) ?_
          refine g_get C (.ref (ad 196)) 6 in_X10_tally_7 (List.mem_of_getElem? (i := 5) rfl) (by decide) (ce_rb ad cs _ _) rfl (by decide) rfl rfl dX10_tally_38 ?_
          refine g_iload_n C 1 dX10_tally_41 rfl ?_
          have hi35 : vp_in x 30 := (fin' (n := 30) rfl (by omega) (by omega))
          have nhi35 := tn hi35
          refine g_aald C (by decide) (ce_rblowm ad cs _ _) rfl hi35 dX10_tally_42 ?_
          refine g_iload_n C 2 dX10_tally_43 rfl ?_
          refine g_lald C (by omega) (ce_rblow ad cs _ _ nhi35) (fin' (n := 10) rfl (by omega) (by omega)) dX10_tally_44 ?_
          refine g_nl (fun v36 ev36 => ?_)
          refine g_goto C 59 dX10_tally_45 (by decide) ?_
          exact g_lret C hr ⟨rfl, rfl, trivial⟩ dX10_tally_59
      ·
        have f37 := feq rfl (by decide : (0 : Int32).toInt = 0) c28
        refine g_ldc2 C (-9) (List.mem_of_getElem? (i := 4) rfl) dX10_tally_26 ?_
        exact g_lret C hr ⟨rfl, rfl, trivial⟩ dX10_tally_29
    ·
      have f38 := feq rfl (by decide : (0 : Int32).toInt = 0) c23
      refine g_ldc2 C (-1) (List.mem_of_getElem? (i := 2) rfl) dX10_tally_11 ?_
      exact g_lret C hr ⟨rfl, rfl, trivial⟩ dX10_tally_14
theorem dX10_countBy_0 : decode cX10_countBy 0 = .ok (.iload_n 1, 1) := dw27 (n := 0) (i := 0) kc_cX10_countBy_0 (by decide +kernel)
theorem dX10_countBy_1 : decode cX10_countBy 1 = .ok (.tableswitch 86 3 7 #[35, 45, 55, 64, 75], 35) := by decide +kernel
theorem dX10_countBy_87 : decode cX10_countBy 87 = .ok (.aload_n 0, 1) := dw42 (n := 64) (i := 23) kc_cX10_countBy_2 (by decide +kernel)
theorem dX10_countBy_88 : decode cX10_countBy 88 = .ok (.getfield 51, 3) := dw180 (n := 64) (i := 24) (a := 0) (b := 51) kc_cX10_countBy_2 (by decide +kernel) (by decide)
theorem in_X10_countBy_10 : ∀ w ∈ u_ws RX10 TX10 13, w ∈ wsX10_countBy := fun _ h => List.mem_cons_of_mem _ (List.mem_append_left _ (List.mem_append_left _ (List.mem_append_left _ (List.mem_append_left _ (List.mem_append_left _ (List.mem_append_left _ (List.mem_append_left _ (List.mem_append_left _ (List.mem_append_right _ h)))))))))
theorem dX10_countBy_91 : decode cX10_countBy 91 = .ok (.iload_n 1, 1) := dw27 (n := 64) (i := 27) kc_cX10_countBy_2 (by decide +kernel)
theorem dX10_countBy_92 : decode cX10_countBy 92 = .ok (.aload_n 2, 1) := dw44 (n := 64) (i := 28) kc_cX10_countBy_2 (by decide +kernel)
theorem dX10_countBy_93 : decode cX10_countBy 93 = .ok (.invokevirtual 287, 3) := dw182 (n := 64) (i := 29) (a := 1) (b := 31) kc_cX10_countBy_2 (by decide +kernel) (by decide)
set_option maxRecDepth 20000 in
theorem ggX10_countBy_X5_seatByTallies : GoodIn wsX10_countBy wsX5_seatByTallies := (gk_code 234 rfl (gk_fieldLink 9 rfl (gk_fieldLink 14 rfl (gk_fieldLink 12 rfl (gk_methodLink 235 rfl (gk_instanceMethod 236 rfl (gk_selects 237 rfl (gk_initialized 7 rfl (gk_code 238 rfl (gk_methodLink 239 rfl (gk_instanceMethod 240 rfl (gk_selects 241 rfl (gk_code 242 rfl (gk_fieldLink 243 rfl (gk_fieldLink 10 rfl (gk_fieldLink 11 rfl (gk_fieldLink 230 rfl (gk_fieldLink 244 rfl (gk_fieldLink 245 rfl (gk_fieldLink 246 rfl (gk_methodLink 247 rfl (gk_instanceMethod 37 rfl (gk_selects 38 rfl (gk_initialized 18 rfl (gk_code 39 rfl (gk_fieldLink 32 rfl (gk_fieldLink 40 rfl (gk_fieldLink 31 rfl (gk_methodLink 248 rfl (gk_instanceMethod 249 rfl (gk_selects 250 rfl (gk_code 251 rfl (gk_fieldLink 252 rfl (gk_methodLink 15 rfl (gk_instanceMethod 16 rfl (gk_selects 17 rfl (gk_code 19 rfl (gk_fieldLink 20 rfl (gk_fieldLink 21 rfl (gk_methodLink 22 rfl (gk_instanceMethod 23 rfl (gk_selects 24 rfl (gk_code 25 rfl (gk_fieldLink 26 rfl (gk_methodLink 27 rfl (gk_instanceMethod 28 rfl (gk_selects 29 rfl (gk_code 30 rfl (gk_fieldLink 33 rfl (gk_fieldLink 34 rfl (gk_fieldLink 35 rfl (gk_methodLink 36 rfl (gk_methodLink 68 rfl (gk_instanceMethod 69 rfl (gk_selects 70 rfl (gk_code 71 rfl (gk_fieldLink 45 rfl (gk_fieldLink 46 rfl (gk_fieldLink 47 rfl (gk_methodLink 48 rfl (gk_instanceMethod 49 rfl (gk_selects 50 rfl (gk_code 51 rfl (gk_methodLink 52 rfl (gk_static 53 rfl (gk_initialized 54 rfl (gk_code 55 rfl (gk_methodLink 56 rfl (gk_instanceMethod 57 rfl (gk_selects 58 rfl (gk_initialized 59 rfl (gk_code 60 rfl (gk_fieldLink 61 rfl (gk_fieldLink 62 rfl (gk_fieldLink 63 rfl (gk_fieldLink 64 rfl (gk_fieldLink 65 rfl (gk_fieldLink 66 rfl (gk_fieldLink 67 rfl (gk_methodLink 72 rfl (gk_instanceMethod 73 rfl (gk_selects 74 rfl (gk_code 75 rfl (gk_fieldLink 76 rfl (gk_fieldLink 77 rfl (gk_laysFinal 266 rfl (gk_laysFinal 267 rfl (gk_laysFinal 268 rfl (gk_laysFinal 269 rfl (gk_laysFinal 270 rfl (gk_laysFinal 271 rfl (gk_lays 272 rfl (gk_lays 273 rfl (gk_laysFinal 274 rfl (gk_laysFinal 275 rfl (gk_laysFinal 276 rfl (gk_lays 277 rfl (gk_laysFinal 278 rfl (gk_lays 279 rfl (gk_laysFinal 280 rfl (gk_laysFinal 281 rfl (gk_laysFinal 282 rfl (gk_laysFinal 283 rfl (gk_lays 284 rfl (gk_laysFinal 285 rfl (gk_lays 286 rfl (gk_laysFinal 287 rfl (gk_laysFinal 288 rfl (gk_laysFinal 289 rfl (gk_laysFinal 290 rfl (gn)))))))))))))))))))))))))))))))))))))))))))))))))))))))))))))))))))))))))))))))))))))))))))))))))))))))))))))))
set_option maxRecDepth 20000 in
theorem gX10_countBy_X5_seatByTallies : GoodIn wsX10_countBy (wsV RX10 287 RX5 yX5_seatByTallies wsX5_seatByTallies) := goodIn_app (gk_methodLink 231 rfl (gk_instanceMethod 232 rfl (gk_selects 233 rfl (gk_initialized 7 rfl (gn))))) ggX10_countBy_X5_seatByTallies
theorem dX10_countBy_96 : decode cX10_countBy 96 = .ok (.iconst 1, 1) := dw4 (n := 96) (i := 0) kc_cX10_countBy_3 (by decide +kernel)
theorem dX10_countBy_97 : decode cX10_countBy 97 = .ok (.ireturn, 1) := dw172 (n := 96) (i := 1) kc_cX10_countBy_3 (by decide +kernel)
theorem dX10_countBy_36 : decode cX10_countBy 36 = .ok (.aload_n 0, 1) := dw42 (n := 32) (i := 4) kc_cX10_countBy_1 (by decide +kernel)
theorem dX10_countBy_37 : decode cX10_countBy 37 = .ok (.getfield 51, 3) := dw180 (n := 32) (i := 5) (a := 0) (b := 51) kc_cX10_countBy_1 (by decide +kernel) (by decide)
theorem dX10_countBy_40 : decode cX10_countBy 40 = .ok (.aload_n 2, 1) := dw44 (n := 32) (i := 8) kc_cX10_countBy_1 (by decide +kernel)
theorem dX10_countBy_41 : decode cX10_countBy 41 = .ok (.invokevirtual 272, 3) := dw182 (n := 32) (i := 9) (a := 1) (b := 16) kc_cX10_countBy_1 (by decide +kernel) (by decide)
set_option maxRecDepth 20000 in
theorem ggX10_countBy_X5_runOff : GoodIn wsX10_countBy wsX5_runOff := (gk_code 8 rfl (gk_fieldLink 9 rfl (gk_fieldLink 10 rfl (gk_fieldLink 11 rfl (gk_fieldLink 12 rfl (gk_fieldLink 13 rfl (gk_fieldLink 14 rfl (gk_methodLink 15 rfl (gk_instanceMethod 16 rfl (gk_selects 17 rfl (gk_initialized 18 rfl (gk_code 19 rfl (gk_fieldLink 20 rfl (gk_fieldLink 21 rfl (gk_methodLink 22 rfl (gk_instanceMethod 23 rfl (gk_selects 24 rfl (gk_code 25 rfl (gk_fieldLink 26 rfl (gk_methodLink 27 rfl (gk_instanceMethod 28 rfl (gk_selects 29 rfl (gk_code 30 rfl (gk_fieldLink 31 rfl (gk_fieldLink 32 rfl (gk_fieldLink 33 rfl (gk_fieldLink 34 rfl (gk_fieldLink 35 rfl (gk_methodLink 36 rfl (gk_instanceMethod 37 rfl (gk_selects 38 rfl (gk_code 39 rfl (gk_fieldLink 40 rfl (gk_methodLink 41 rfl (gk_instanceMethod 42 rfl (gk_selects 43 rfl (gk_code 44 rfl (gk_fieldLink 45 rfl (gk_fieldLink 46 rfl (gk_fieldLink 47 rfl (gk_methodLink 48 rfl (gk_instanceMethod 49 rfl (gk_selects 50 rfl (gk_code 51 rfl (gk_methodLink 52 rfl (gk_static 53 rfl (gk_initialized 54 rfl (gk_code 55 rfl (gk_methodLink 56 rfl (gk_instanceMethod 57 rfl (gk_selects 58 rfl (gk_initialized 59 rfl (gk_code 60 rfl (gk_fieldLink 61 rfl (gk_fieldLink 62 rfl (gk_fieldLink 63 rfl (gk_fieldLink 64 rfl (gk_fieldLink 65 rfl (gk_fieldLink 66 rfl (gk_fieldLink 67 rfl (gk_methodLink 68 rfl (gk_instanceMethod 69 rfl (gk_selects 70 rfl (gk_code 71 rfl (gk_methodLink 72 rfl (gk_instanceMethod 73 rfl (gk_selects 74 rfl (gk_code 75 rfl (gk_fieldLink 76 rfl (gk_fieldLink 77 rfl (gk_laysFinal 266 rfl (gk_laysFinal 267 rfl (gk_laysFinal 268 rfl (gk_laysFinal 269 rfl (gk_laysFinal 270 rfl (gk_laysFinal 271 rfl (gk_lays 272 rfl (gk_lays 273 rfl (gk_laysFinal 274 rfl (gk_laysFinal 275 rfl (gk_laysFinal 276 rfl (gk_lays 277 rfl (gk_laysFinal 278 rfl (gk_lays 279 rfl (gk_laysFinal 280 rfl (gk_laysFinal 281 rfl (gk_laysFinal 282 rfl (gk_laysFinal 283 rfl (gk_lays 284 rfl (gk_laysFinal 285 rfl (gk_lays 286 rfl (gk_laysFinal 287 rfl (gk_laysFinal 288 rfl (gk_laysFinal 289 rfl (gk_laysFinal 290 rfl (gn))))))))))))))))))))))))))))))))))))))))))))))))))))))))))))))))))))))))))))))))))))))))))))))))
set_option maxRecDepth 20000 in
theorem gX10_countBy_X5_runOff : GoodIn wsX10_countBy (wsV RX10 272 RX5 yX5_runOff wsX5_runOff) := goodIn_app (gk_methodLink 4 rfl (gk_instanceMethod 5 rfl (gk_selects 6 rfl (gk_initialized 7 rfl (gn))))) ggX10_countBy_X5_runOff
theorem dX10_countBy_44 : decode cX10_countBy 44 = .ok (.iconst 1, 1) := dw4 (n := 32) (i := 12) kc_cX10_countBy_1 (by decide +kernel)
theorem dX10_countBy_45 : decode cX10_countBy 45 = .ok (.ireturn, 1) := dw172 (n := 32) (i := 13) kc_cX10_countBy_1 (by decide +kernel)
theorem dX10_countBy_46 : decode cX10_countBy 46 = .ok (.aload_n 0, 1) := dw42 (n := 32) (i := 14) kc_cX10_countBy_1 (by decide +kernel)
theorem dX10_countBy_47 : decode cX10_countBy 47 = .ok (.getfield 58, 3) := dw180 (n := 32) (i := 15) (a := 0) (b := 58) kc_cX10_countBy_1 (by decide +kernel) (by decide)
theorem dX10_countBy_50 : decode cX10_countBy 50 = .ok (.aload_n 2, 1) := dw44 (n := 32) (i := 18) kc_cX10_countBy_1 (by decide +kernel)
theorem dX10_countBy_51 : decode cX10_countBy 51 = .ok (.invokevirtual 276, 3) := dw182 (n := 32) (i := 19) (a := 1) (b := 20) kc_cX10_countBy_1 (by decide +kernel) (by decide)
set_option maxRecDepth 20000 in
theorem ggX10_countBy_X9_seatByWays : GoodIn wsX10_countBy wsX9_seatByWays := (gk_code 82 rfl (gk_fieldLink 83 rfl (gk_fieldLink 84 rfl (gk_fieldLink 85 rfl (gk_fieldLink 86 rfl (gk_methodLink 87 rfl (gk_instanceMethod 88 rfl (gk_selects 89 rfl (gk_initialized 81 rfl (gk_code 90 rfl (gk_fieldLink 91 rfl (gk_fieldLink 92 rfl (gk_methodLink 93 rfl (gk_instanceMethod 94 rfl (gk_selects 95 rfl (gk_code 96 rfl (gk_fieldLink 97 rfl (gk_fieldLink 98 rfl (gk_fieldLink 99 rfl (gk_fieldLink 100 rfl (gk_fieldLink 101 rfl (gk_methodLink 102 rfl (gk_instanceMethod 37 rfl (gk_selects 38 rfl (gk_initialized 18 rfl (gk_code 39 rfl (gk_fieldLink 32 rfl (gk_fieldLink 40 rfl (gk_fieldLink 31 rfl (gk_methodLink 103 rfl (gk_instanceMethod 104 rfl (gk_selects 105 rfl (gk_initialized 106 rfl (gk_code 107 rfl (gk_fieldLink 108 rfl (gk_fieldLink 109 rfl (gk_methodLink 110 rfl (gk_instanceMethod 111 rfl (gk_selects 112 rfl (gk_code 113 rfl (gk_fieldLink 114 rfl (gk_methodLink 115 rfl (gk_instanceMethod 116 rfl (gk_selects 117 rfl (gk_code 118 rfl (gk_methodLink 119 rfl (gk_static 120 rfl (gk_initialized 121 rfl (gk_code 122 rfl (gk_methodLink 123 rfl (gk_static 124 rfl (gk_code 125 rfl (gk_methodLink 126 rfl (gk_instanceMethod 127 rfl (gk_selects 128 rfl (gk_code 129 rfl (gk_fieldLink 130 rfl (gk_methodLink 131 rfl (gk_instanceMethod 132 rfl (gk_selects 133 rfl (gk_code 134 rfl (gk_methodLink 135 rfl (gk_instanceMethod 23 rfl (gk_selects 24 rfl (gk_code 25 rfl (gk_fieldLink 21 rfl (gk_fieldLink 26 rfl (gk_methodLink 136 rfl (gk_instanceMethod 137 rfl (gk_selects 138 rfl (gk_code 139 rfl (gk_methodLink 140 rfl (gk_instanceMethod 57 rfl (gk_selects 58 rfl (gk_initialized 59 rfl (gk_code 60 rfl (gk_fieldLink 61 rfl (gk_fieldLink 62 rfl (gk_fieldLink 63 rfl (gk_fieldLink 64 rfl (gk_fieldLink 65 rfl (gk_fieldLink 66 rfl (gk_fieldLink 67 rfl (gk_methodLink 141 rfl (gk_instanceMethod 73 rfl (gk_selects 74 rfl (gk_code 75 rfl (gk_fieldLink 76 rfl (gk_fieldLink 77 rfl (gk_laysFinal 291 rfl (gk_laysFinal 292 rfl (gk_laysFinal 293 rfl (gk_laysFinal 294 rfl (gk_laysFinal 269 rfl (gk_laysFinal 270 rfl (gk_laysFinal 271 rfl (gk_lays 272 rfl (gk_lays 273 rfl (gk_laysFinal 274 rfl (gk_laysFinal 275 rfl (gk_laysFinal 276 rfl (gk_lays 277 rfl (gk_laysFinal 278 rfl (gk_lays 279 rfl (gk_laysFinal 280 rfl (gk_laysFinal 281 rfl (gk_laysFinal 282 rfl (gk_laysFinal 283 rfl (gk_lays 284 rfl (gk_laysFinal 285 rfl (gk_lays 286 rfl (gk_laysFinal 287 rfl (gk_laysFinal 288 rfl (gk_laysFinal 289 rfl (gk_laysFinal 290 rfl (gn))))))))))))))))))))))))))))))))))))))))))))))))))))))))))))))))))))))))))))))))))))))))))))))))))))))))))))))))))))
set_option maxRecDepth 20000 in
theorem gX10_countBy_X9_seatByWays : GoodIn wsX10_countBy (wsV RX10 276 RX9 yX9_seatByWays wsX9_seatByWays) := goodIn_app (gk_methodLink 78 rfl (gk_instanceMethod 79 rfl (gk_selects 80 rfl (gk_initialized 81 rfl (gn))))) ggX10_countBy_X9_seatByWays
theorem dX10_countBy_54 : decode cX10_countBy 54 = .ok (.iconst 1, 1) := dw4 (n := 32) (i := 22) kc_cX10_countBy_1 (by decide +kernel)
theorem dX10_countBy_55 : decode cX10_countBy 55 = .ok (.ireturn, 1) := dw172 (n := 32) (i := 23) kc_cX10_countBy_1 (by decide +kernel)
theorem dX10_countBy_56 : decode cX10_countBy 56 = .ok (.aload_n 0, 1) := dw42 (n := 32) (i := 24) kc_cX10_countBy_1 (by decide +kernel)
theorem dX10_countBy_57 : decode cX10_countBy 57 = .ok (.getfield 65, 3) := dw180 (n := 32) (i := 25) (a := 0) (b := 65) kc_cX10_countBy_1 (by decide +kernel) (by decide)
theorem dX10_countBy_60 : decode cX10_countBy 60 = .ok (.aload_n 2, 1) := dw44 (n := 32) (i := 28) kc_cX10_countBy_1 (by decide +kernel)
theorem dX10_countBy_61 : decode cX10_countBy 61 = .ok (.invokevirtual 279, 3) := dw182 (n := 32) (i := 29) (a := 1) (b := 23) kc_cX10_countBy_1 (by decide +kernel) (by decide)
set_option maxRecDepth 20000 in
theorem ggX10_countBy_X8_seatByQuota : GoodIn wsX10_countBy wsX8_seatByQuota := (gk_code 146 rfl (gk_fieldLink 147 rfl (gk_fieldLink 148 rfl (gk_fieldLink 149 rfl (gk_fieldLink 150 rfl (gk_fieldLink 151 rfl (gk_fieldLink 152 rfl (gk_methodLink 153 rfl (gk_instanceMethod 37 rfl (gk_selects 38 rfl (gk_initialized 18 rfl (gk_code 39 rfl (gk_fieldLink 32 rfl (gk_fieldLink 40 rfl (gk_fieldLink 31 rfl (gk_methodLink 154 rfl (gk_instanceMethod 155 rfl (gk_selects 156 rfl (gk_code 157 rfl (gk_fieldLink 20 rfl (gk_methodLink 36 rfl (gk_methodLink 158 rfl (gk_instanceMethod 159 rfl (gk_selects 160 rfl (gk_initialized 145 rfl (gk_code 161 rfl (gk_fieldLink 162 rfl (gk_methodLink 163 rfl (gk_instanceMethod 23 rfl (gk_selects 24 rfl (gk_code 25 rfl (gk_fieldLink 21 rfl (gk_fieldLink 26 rfl (gk_methodLink 164 rfl (gk_instanceMethod 28 rfl (gk_selects 29 rfl (gk_code 30 rfl (gk_fieldLink 33 rfl (gk_fieldLink 34 rfl (gk_fieldLink 35 rfl (gk_methodLink 165 rfl (gk_instanceMethod 166 rfl (gk_selects 167 rfl (gk_code 168 rfl (gk_fieldLink 169 rfl (gk_fieldLink 170 rfl (gk_fieldLink 171 rfl (gk_fieldLink 172 rfl (gk_fieldLink 173 rfl (gk_methodLink 174 rfl (gk_instanceMethod 175 rfl (gk_selects 176 rfl (gk_initialized 177 rfl (gk_code 178 rfl (gk_fieldLink 179 rfl (gk_fieldLink 180 rfl (gk_methodLink 181 rfl (gk_instanceMethod 182 rfl (gk_selects 183 rfl (gk_code 184 rfl (gk_methodLink 185 rfl (gk_methodLink 186 rfl (gk_instanceMethod 187 rfl (gk_selects 188 rfl (gk_code 189 rfl (gk_constantLong 190 rfl (gk_methodLink 191 rfl (gk_instanceMethod 69 rfl (gk_selects 70 rfl (gk_code 71 rfl (gk_fieldLink 45 rfl (gk_fieldLink 46 rfl (gk_fieldLink 47 rfl (gk_methodLink 48 rfl (gk_instanceMethod 49 rfl (gk_selects 50 rfl (gk_code 51 rfl (gk_methodLink 52 rfl (gk_static 53 rfl (gk_initialized 54 rfl (gk_code 55 rfl (gk_methodLink 192 rfl (gk_instanceMethod 193 rfl (gk_selects 194 rfl (gk_code 195 rfl (gk_fieldLink 196 rfl (gk_methodLink 197 rfl (gk_instanceMethod 198 rfl (gk_selects 199 rfl (gk_code 200 rfl (gk_methodLink 201 rfl (gk_instanceMethod 42 rfl (gk_selects 43 rfl (gk_code 44 rfl (gk_methodLink 202 rfl (gk_instanceMethod 203 rfl (gk_selects 204 rfl (gk_code 205 rfl (gk_methodLink 206 rfl (gk_instanceMethod 57 rfl (gk_selects 58 rfl (gk_initialized 59 rfl (gk_code 60 rfl (gk_fieldLink 61 rfl (gk_fieldLink 62 rfl (gk_fieldLink 63 rfl (gk_fieldLink 64 rfl (gk_fieldLink 65 rfl (gk_fieldLink 66 rfl (gk_fieldLink 67 rfl (gk_methodLink 207 rfl (gk_instanceMethod 73 rfl (gk_selects 74 rfl (gk_code 75 rfl (gk_fieldLink 76 rfl (gk_fieldLink 77 rfl (gk_methodLink 208 rfl (gk_instanceMethod 209 rfl (gk_selects 210 rfl (gk_code 211 rfl (gk_methodLink 212 rfl (gk_instanceMethod 213 rfl (gk_selects 214 rfl (gk_code 215 rfl (gk_laysFinal 295 rfl (gk_laysFinal 296 rfl (gk_laysFinal 297 rfl (gk_laysFinal 298 rfl (gk_laysFinal 299 rfl (gk_laysFinal 269 rfl (gk_laysFinal 270 rfl (gk_laysFinal 271 rfl (gk_lays 272 rfl (gk_lays 273 rfl (gk_laysFinal 274 rfl (gk_laysFinal 275 rfl (gk_laysFinal 276 rfl (gk_lays 284 rfl (gk_laysFinal 285 rfl (gk_lays 286 rfl (gk_laysFinal 287 rfl (gk_laysFinal 288 rfl (gk_laysFinal 289 rfl (gk_laysFinal 290 rfl (gk_lays 279 rfl (gk_laysFinal 280 rfl (gk_laysFinal 281 rfl (gk_laysFinal 282 rfl (gk_laysFinal 283 rfl (gk_lays 300 rfl (gk_lays 301 rfl (gk_lays 277 rfl (gk_laysFinal 278 rfl (gn))))))))))))))))))))))))))))))))))))))))))))))))))))))))))))))))))))))))))))))))))))))))))))))))))))))))))))))))))))))))))))))))))))))))))))))))))))))))))
set_option maxRecDepth 20000 in
theorem gX10_countBy_X8_seatByQuota : GoodIn wsX10_countBy (wsV RX10 279 RX8 yX8_seatByQuota wsX8_seatByQuota) := goodIn_app (gk_methodLink 142 rfl (gk_instanceMethod 143 rfl (gk_selects 144 rfl (gk_initialized 145 rfl (gn))))) ggX10_countBy_X8_seatByQuota
theorem dX10_countBy_64 : decode cX10_countBy 64 = .ok (.ireturn, 1) := dw172 (n := 64) (i := 0) kc_cX10_countBy_2 (by decide +kernel)
theorem dX10_countBy_65 : decode cX10_countBy 65 = .ok (.aload_n 0, 1) := dw42 (n := 64) (i := 1) kc_cX10_countBy_2 (by decide +kernel)
theorem dX10_countBy_66 : decode cX10_countBy 66 = .ok (.getfield 51, 3) := dw180 (n := 64) (i := 2) (a := 0) (b := 51) kc_cX10_countBy_2 (by decide +kernel) (by decide)
theorem dX10_countBy_69 : decode cX10_countBy 69 = .ok (.iconst 1, 1) := dw4 (n := 64) (i := 5) kc_cX10_countBy_2 (by decide +kernel)
theorem dX10_countBy_70 : decode cX10_countBy 70 = .ok (.aload_n 2, 1) := dw44 (n := 64) (i := 6) kc_cX10_countBy_2 (by decide +kernel)
theorem dX10_countBy_71 : decode cX10_countBy 71 = .ok (.invokevirtual 283, 3) := dw182 (n := 64) (i := 7) (a := 1) (b := 27) kc_cX10_countBy_2 (by decide +kernel) (by decide)
set_option maxRecDepth 20000 in
theorem ggX10_countBy_X5_seatByDivisors : GoodIn wsX10_countBy wsX5_seatByDivisors := (gk_code 219 rfl (gk_fieldLink 9 rfl (gk_fieldLink 220 rfl (gk_fieldLink 14 rfl (gk_methodLink 15 rfl (gk_instanceMethod 16 rfl (gk_selects 17 rfl (gk_initialized 18 rfl (gk_code 19 rfl (gk_fieldLink 20 rfl (gk_fieldLink 21 rfl (gk_methodLink 22 rfl (gk_instanceMethod 23 rfl (gk_selects 24 rfl (gk_code 25 rfl (gk_fieldLink 26 rfl (gk_methodLink 27 rfl (gk_instanceMethod 28 rfl (gk_selects 29 rfl (gk_code 30 rfl (gk_fieldLink 31 rfl (gk_fieldLink 32 rfl (gk_fieldLink 33 rfl (gk_fieldLink 34 rfl (gk_fieldLink 35 rfl (gk_methodLink 36 rfl (gk_instanceMethod 37 rfl (gk_selects 38 rfl (gk_code 39 rfl (gk_fieldLink 40 rfl (gk_methodLink 221 rfl (gk_instanceMethod 222 rfl (gk_selects 223 rfl (gk_initialized 7 rfl (gk_code 224 rfl (gk_fieldLink 10 rfl (gk_fieldLink 11 rfl (gk_fieldLink 225 rfl (gk_methodLink 226 rfl (gk_instanceMethod 227 rfl (gk_selects 228 rfl (gk_code 229 rfl (gk_fieldLink 230 rfl (gk_methodLink 56 rfl (gk_instanceMethod 57 rfl (gk_selects 58 rfl (gk_initialized 59 rfl (gk_code 60 rfl (gk_fieldLink 61 rfl (gk_fieldLink 62 rfl (gk_fieldLink 63 rfl (gk_fieldLink 64 rfl (gk_fieldLink 65 rfl (gk_fieldLink 66 rfl (gk_fieldLink 67 rfl (gk_methodLink 72 rfl (gk_instanceMethod 73 rfl (gk_selects 74 rfl (gk_code 75 rfl (gk_fieldLink 76 rfl (gk_fieldLink 77 rfl (gk_laysFinal 266 rfl (gk_laysFinal 267 rfl (gk_laysFinal 268 rfl (gk_laysFinal 269 rfl (gk_laysFinal 270 rfl (gk_laysFinal 271 rfl (gk_lays 272 rfl (gk_lays 273 rfl (gk_laysFinal 274 rfl (gk_laysFinal 275 rfl (gk_laysFinal 276 rfl (gk_lays 279 rfl (gk_laysFinal 280 rfl (gk_laysFinal 281 rfl (gk_laysFinal 282 rfl (gk_laysFinal 283 rfl (gk_lays 277 rfl (gk_laysFinal 278 rfl (gk_lays 284 rfl (gk_laysFinal 285 rfl (gk_lays 286 rfl (gk_laysFinal 287 rfl (gk_laysFinal 288 rfl (gk_laysFinal 289 rfl (gk_laysFinal 290 rfl (gn)))))))))))))))))))))))))))))))))))))))))))))))))))))))))))))))))))))))))))))))))))))))
set_option maxRecDepth 20000 in
theorem gX10_countBy_X5_seatByDivisors : GoodIn wsX10_countBy (wsV RX10 283 RX5 yX5_seatByDivisors wsX5_seatByDivisors) := goodIn_app (gk_methodLink 216 rfl (gk_instanceMethod 217 rfl (gk_selects 218 rfl (gk_initialized 7 rfl (gn))))) ggX10_countBy_X5_seatByDivisors
theorem dX10_countBy_74 : decode cX10_countBy 74 = .ok (.iconst 1, 1) := dw4 (n := 64) (i := 10) kc_cX10_countBy_2 (by decide +kernel)
theorem dX10_countBy_75 : decode cX10_countBy 75 = .ok (.ireturn, 1) := dw172 (n := 64) (i := 11) kc_cX10_countBy_2 (by decide +kernel)
theorem dX10_countBy_76 : decode cX10_countBy 76 = .ok (.aload_n 0, 1) := dw42 (n := 64) (i := 12) kc_cX10_countBy_2 (by decide +kernel)
theorem dX10_countBy_77 : decode cX10_countBy 77 = .ok (.getfield 51, 3) := dw180 (n := 64) (i := 13) (a := 0) (b := 51) kc_cX10_countBy_2 (by decide +kernel) (by decide)
theorem dX10_countBy_80 : decode cX10_countBy 80 = .ok (.iconst 2, 1) := dw5 (n := 64) (i := 16) kc_cX10_countBy_2 (by decide +kernel)
theorem dX10_countBy_81 : decode cX10_countBy 81 = .ok (.aload_n 2, 1) := dw44 (n := 64) (i := 17) kc_cX10_countBy_2 (by decide +kernel)
theorem dX10_countBy_82 : decode cX10_countBy 82 = .ok (.invokevirtual 283, 3) := dw182 (n := 64) (i := 18) (a := 1) (b := 27) kc_cX10_countBy_2 (by decide +kernel) (by decide)
theorem dX10_countBy_85 : decode cX10_countBy 85 = .ok (.iconst 1, 1) := dw4 (n := 64) (i := 21) kc_cX10_countBy_2 (by decide +kernel)
theorem dX10_countBy_86 : decode cX10_countBy 86 = .ok (.ireturn, 1) := dw172 (n := 64) (i := 22) kc_cX10_countBy_2 (by decide +kernel)
theorem dX10_count_0 : decode cX10_count 0 = .ok (.aload_n 0, 1) := dw42 (n := 0) (i := 0) kc_cX10_count_0 (by decide +kernel)
theorem dX10_count_1 : decode cX10_count 1 = .ok (.bipush (-9), 2) := dw16 (n := 0) (i := 1) (a := 247) kc_cX10_count_0 (by decide +kernel) (by decide)
theorem dX10_count_3 : decode cX10_count 3 = .ok (.putfield 79, 3) := dw181 (n := 0) (i := 3) (a := 0) (b := 79) kc_cX10_count_0 (by decide +kernel) (by decide)
theorem in_X10_count_10 : ∀ w ∈ u_ws RX10 TX10 13, w ∈ wsX10_count := fun _ h => List.mem_cons_of_mem _ (List.mem_append_left _ (List.mem_append_left _ (List.mem_append_left _ (List.mem_append_left _ (List.mem_append_left _ (List.mem_append_left _ (List.mem_append_left _ (List.mem_append_left _ (List.mem_append_left _ (List.mem_append_left _ (List.mem_append_right _ h)))))))))))
theorem dX10_count_6 : decode cX10_count 6 = .ok (.aload_n 0, 1) := dw42 (n := 0) (i := 6) kc_cX10_count_0 (by decide +kernel)
theorem dX10_count_7 : decode cX10_count 7 = .ok (.getfield 33, 3) := dw180 (n := 0) (i := 7) (a := 0) (b := 33) kc_cX10_count_0 (by decide +kernel) (by decide)
theorem dX10_count_10 : decode cX10_count 10 = .ok (.iload_n 1, 1) := dw27 (n := 0) (i := 10) kc_cX10_count_0 (by decide +kernel)
theorem dX10_count_11 : decode cX10_count 11 = .ok (.invokevirtual 180, 3) := dw182 (n := 0) (i := 11) (a := 0) (b := 180) kc_cX10_count_0 (by decide +kernel) (by decide)
set_option maxRecDepth 20000 in
theorem ggX10_count_X4_has : GoodIn wsX10_count wsX4_has := (gk_code 13 rfl (gk_fieldLink 14 rfl (gk_lays 351 rfl (gk_laysFinal 352 rfl (gk_laysFinal 353 rfl (gk_laysFinal 354 rfl (gk_laysFinal 355 rfl (gk_laysFinal 356 rfl (gk_laysFinal 357 rfl (gn))))))))))
set_option maxRecDepth 20000 in
theorem gX10_count_X4_has : GoodIn wsX10_count (wsV RX10 180 RX4 yX4_has wsX4_has) := goodIn_app (gk_methodLink 9 rfl (gk_instanceMethod 10 rfl (gk_selects 11 rfl (gk_initialized 12 rfl (gn))))) ggX10_count_X4_has
theorem dX10_count_14 : decode cX10_count 14 = .ok (.ifCond .eq 31, 3) := dw153 (n := 0) (i := 14) (a := 0) (b := 31) kc_cX10_count_0 (by decide +kernel) (by decide)
theorem dX10_count_45 : decode cX10_count 45 = .ok (.iconst (-1), 1) := dw2 (n := 32) (i := 13) kc_cX10_count_1 (by decide +kernel)
theorem dX10_count_46 : decode cX10_count 46 = .ok (.ireturn, 1) := dw172 (n := 32) (i := 14) kc_cX10_count_1 (by decide +kernel)
theorem dX10_count_17 : decode cX10_count 17 = .ok (.aload_n 0, 1) := dw42 (n := 0) (i := 17) kc_cX10_count_0 (by decide +kernel)
theorem dX10_count_18 : decode cX10_count 18 = .ok (.getfield 26, 3) := dw180 (n := 0) (i := 18) (a := 0) (b := 26) kc_cX10_count_0 (by decide +kernel) (by decide)
theorem dX10_count_21 : decode cX10_count 21 = .ok (.iload_n 2, 1) := dw28 (n := 0) (i := 21) kc_cX10_count_0 (by decide +kernel)
theorem dX10_count_22 : decode cX10_count 22 = .ok (.invokevirtual 146, 3) := dw182 (n := 0) (i := 22) (a := 0) (b := 146) kc_cX10_count_0 (by decide +kernel) (by decide)
set_option maxRecDepth 20000 in
theorem ggX10_count_X1_has : GoodIn wsX10_count wsX1_has := (gk_code 19 rfl (gk_fieldLink 20 rfl (gk_lays 365 rfl (gk_laysFinal 366 rfl (gk_laysFinal 367 rfl (gk_laysFinal 368 rfl (gk_laysFinal 369 rfl (gn))))))))
set_option maxRecDepth 20000 in
theorem gX10_count_X1_has : GoodIn wsX10_count (wsV RX10 146 RX1 yX1_has wsX1_has) := goodIn_app (gk_methodLink 15 rfl (gk_instanceMethod 16 rfl (gk_selects 17 rfl (gk_initialized 18 rfl (gn))))) ggX10_count_X1_has
theorem dX10_count_25 : decode cX10_count 25 = .ok (.ifCond .eq 20, 3) := dw153 (n := 0) (i := 25) (a := 0) (b := 20) kc_cX10_count_0 (by decide +kernel) (by decide)
theorem dX10_count_28 : decode cX10_count 28 = .ok (.aload_n 0, 1) := dw42 (n := 0) (i := 28) kc_cX10_count_0 (by decide +kernel)
theorem dX10_count_29 : decode cX10_count 29 = .ok (.aload_n 0, 1) := dw42 (n := 0) (i := 29) kc_cX10_count_0 (by decide +kernel)
theorem dX10_count_30 : decode cX10_count 30 = .ok (.getfield 33, 3) := dw180 (n := 0) (i := 30) (a := 0) (b := 33) kc_cX10_count_0 (by decide +kernel) (by decide)
theorem dX10_count_33 : decode cX10_count 33 = .ok (.getfield 184, 3) := dw180 (n := 32) (i := 1) (a := 0) (b := 184) kc_cX10_count_1 (by decide +kernel) (by decide)
theorem in_X10_count_4 : ∀ w ∈ u_ws RX4 TX4 7, w ∈ wsX10_count := fun _ h => List.mem_cons_of_mem _ (List.mem_append_left _ (List.mem_append_left _ (List.mem_append_left _ (List.mem_append_left _ (List.mem_append_left _ (List.mem_append_left _ (List.mem_append_left _ (List.mem_append_left _ (List.mem_append_left _ (List.mem_append_right _ h))))))))))
theorem dX10_count_36 : decode cX10_count 36 = .ok (.iload_n 1, 1) := dw27 (n := 32) (i := 4) kc_cX10_count_1 (by decide +kernel)
theorem dX10_count_37 : decode cX10_count 37 = .ok (.iaload, 1) := dw46 (n := 32) (i := 5) kc_cX10_count_1 (by decide +kernel)
theorem dX10_count_38 : decode cX10_count 38 = .ok (.iload_n 3, 1) := dw29 (n := 32) (i := 6) kc_cX10_count_1 (by decide +kernel)
theorem dX10_count_39 : decode cX10_count 39 = .ok (.invokevirtual 206, 3) := dw182 (n := 32) (i := 7) (a := 0) (b := 206) kc_cX10_count_1 (by decide +kernel) (by decide)
set_option maxRecDepth 20000 in
theorem ggX10_count_X10_maySeat : GoodIn wsX10_count wsX10_maySeat := (gk_code 25 rfl (gk_fieldLink 26 rfl (gk_fieldLink 27 rfl (gk_fieldLink 28 rfl (gk_methodLink 29 rfl (gk_static 30 rfl (gk_initialized 24 rfl (gk_code 31 rfl (gk_laysFinal 338 rfl (gk_laysFinal 339 rfl (gk_laysFinal 340 rfl (gk_laysFinal 341 rfl (gk_laysFinal 342 rfl (gk_laysFinal 343 rfl (gk_laysFinal 344 rfl (gk_laysFinal 345 rfl (gk_lays 346 rfl (gk_lays 347 rfl (gk_lays 348 rfl (gk_lays 349 rfl (gk_laysFinal 350 rfl (gk_lays 370 rfl (gk_laysFinal 371 rfl (gn))))))))))))))))))))))))
set_option maxRecDepth 20000 in
theorem gX10_count_X10_maySeat : GoodIn wsX10_count (wsV RX10 206 RX10 yX10_maySeat wsX10_maySeat) := goodIn_app (gk_methodLink 21 rfl (gk_instanceMethod 22 rfl (gk_selects 23 rfl (gk_initialized 24 rfl (gn))))) ggX10_count_X10_maySeat
theorem dX10_count_42 : decode cX10_count 42 = .ok (.ifCond .ne 5, 3) := dw154 (n := 32) (i := 10) (a := 0) (b := 5) kc_cX10_count_1 (by decide +kernel) (by decide)
theorem dX10_count_47 : decode cX10_count 47 = .ok (.aload_n 0, 1) := dw42 (n := 32) (i := 15) kc_cX10_count_1 (by decide +kernel)
theorem dX10_count_48 : decode cX10_count 48 = .ok (.getfield 33, 3) := dw180 (n := 32) (i := 16) (a := 0) (b := 33) kc_cX10_count_1 (by decide +kernel) (by decide)
theorem dX10_count_51 : decode cX10_count 51 = .ok (.iload_n 1, 1) := dw27 (n := 32) (i := 19) kc_cX10_count_1 (by decide +kernel)
theorem dX10_count_52 : decode cX10_count 52 = .ok (.invokevirtual 200, 3) := dw182 (n := 32) (i := 20) (a := 0) (b := 200) kc_cX10_count_1 (by decide +kernel) (by decide)
set_option maxRecDepth 20000 in
theorem ggX10_count_X4_begin : GoodIn wsX10_count wsX4_begin := (gk_code 35 rfl (gk_fieldLink 36 rfl (gk_fieldLink 37 rfl (gk_fieldLink 38 rfl (gk_fieldLink 39 rfl (gk_methodLink 40 rfl (gk_instanceMethod 10 rfl (gk_selects 11 rfl (gk_initialized 12 rfl (gk_code 13 rfl (gk_fieldLink 14 rfl (gk_lays 351 rfl (gk_laysFinal 352 rfl (gk_laysFinal 353 rfl (gk_laysFinal 354 rfl (gk_laysFinal 355 rfl (gk_laysFinal 356 rfl (gk_laysFinal 357 rfl (gn)))))))))))))))))))
set_option maxRecDepth 20000 in
theorem gX10_count_X4_begin : GoodIn wsX10_count (wsV RX10 200 RX4 yX4_begin wsX4_begin) := goodIn_app (gk_methodLink 32 rfl (gk_instanceMethod 33 rfl (gk_selects 34 rfl (gk_initialized 12 rfl (gn))))) ggX10_count_X4_begin
theorem dX10_count_55 : decode cX10_count 55 = .ok (.iconst 1, 1) := dw4 (n := 32) (i := 23) kc_cX10_count_1 (by decide +kernel)
theorem dX10_count_56 : decode cX10_count 56 = .ok (.if_icmp .eq 6, 3) := dw159 (n := 32) (i := 24) (a := 0) (b := 6) kc_cX10_count_1 (by decide +kernel) (by decide)
theorem dX10_count_62 : decode cX10_count 62 = .ok (.aload_n 0, 1) := dw42 (n := 32) (i := 30) kc_cX10_count_1 (by decide +kernel)
theorem dX10_count_63 : decode cX10_count 63 = .ok (.getfield 33, 3) := dw180 (n := 32) (i := 31) (a := 0) (b := 33) kc_cX10_count_1 (by decide +kernel) (by decide)
theorem dX10_count_66 : decode cX10_count 66 = .ok (.getfield 184, 3) := dw180 (n := 64) (i := 2) (a := 0) (b := 184) kc_cX10_count_2 (by decide +kernel) (by decide)
theorem dX10_count_69 : decode cX10_count 69 = .ok (.iload_n 1, 1) := dw27 (n := 64) (i := 5) kc_cX10_count_2 (by decide +kernel)
theorem dX10_count_70 : decode cX10_count 70 = .ok (.iaload, 1) := dw46 (n := 64) (i := 6) kc_cX10_count_2 (by decide +kernel)
theorem dX10_count_71 : decode cX10_count 71 = .ok (.istore 4, 2) := dw54 (n := 64) (i := 7) (a := 4) kc_cX10_count_2 (by decide +kernel) (by decide)
theorem dX10_count_73 : decode cX10_count 73 = .ok (.aload_n 0, 1) := dw42 (n := 64) (i := 9) kc_cX10_count_2 (by decide +kernel)
theorem dX10_count_74 : decode cX10_count 74 = .ok (.aload_n 0, 1) := dw42 (n := 64) (i := 10) kc_cX10_count_2 (by decide +kernel)
theorem dX10_count_75 : decode cX10_count 75 = .ok (.iload_n 2, 1) := dw28 (n := 64) (i := 11) kc_cX10_count_2 (by decide +kernel)
theorem dX10_count_76 : decode cX10_count 76 = .ok (.iload 4, 2) := dw21 (n := 64) (i := 12) (a := 4) kc_cX10_count_2 (by decide +kernel) (by decide)
theorem dX10_count_78 : decode cX10_count 78 = .ok (.iconst 1, 1) := dw4 (n := 64) (i := 14) kc_cX10_count_2 (by decide +kernel)
theorem dX10_count_79 : decode cX10_count 79 = .ok (.if_icmp .ne 7, 3) := dw160 (n := 64) (i := 15) (a := 0) (b := 7) kc_cX10_count_2 (by decide +kernel) (by decide)
theorem dX10_count_86 : decode cX10_count 86 = .ok (.iconst 1, 1) := dw4 (n := 64) (i := 22) kc_cX10_count_2 (by decide +kernel)
theorem dX10_count_87 : decode cX10_count 87 = .ok (.invokevirtual 209, 3) := dw182 (n := 64) (i := 23) (a := 0) (b := 209) kc_cX10_count_2 (by decide +kernel) (by decide)
set_option maxRecDepth 20000 in
theorem ggX10_count_X10_firstUnlike : GoodIn wsX10_count wsX10_firstUnlike := (gk_code 44 rfl (gk_fieldLink 3 rfl (gk_fieldLink 45 rfl (gk_fieldLink 46 rfl (gk_fieldLink 47 rfl (gk_methodLink 48 rfl (gk_instanceMethod 49 rfl (gk_selects 50 rfl (gk_initialized 51 rfl (gk_code 52 rfl (gk_fieldLink 53 rfl (gk_methodLink 54 rfl (gk_instanceMethod 55 rfl (gk_selects 56 rfl (gk_code 57 rfl (gk_fieldLink 58 rfl (gk_static 30 rfl (gk_initialized 24 rfl (gk_code 31 rfl (gk_laysFinal 338 rfl (gk_laysFinal 339 rfl (gk_laysFinal 340 rfl (gk_laysFinal 341 rfl (gk_laysFinal 342 rfl (gk_laysFinal 343 rfl (gk_laysFinal 344 rfl (gk_laysFinal 345 rfl (gk_lays 346 rfl (gk_lays 347 rfl (gk_lays 348 rfl (gk_lays 349 rfl (gk_laysFinal 350 rfl (gk_lays 365 rfl (gk_laysFinal 366 rfl (gk_laysFinal 367 rfl (gk_laysFinal 368 rfl (gk_laysFinal 369 rfl (gk_lays 372 rfl (gk_laysFinal 373 rfl (gk_laysFinal 374 rfl (gk_laysFinal 375 rfl (gk_laysFinal 376 rfl (gn)))))))))))))))))))))))))))))))))))))))))))
set_option maxRecDepth 20000 in
theorem gX10_count_X10_firstUnlike : GoodIn wsX10_count (wsV RX10 209 RX10 yX10_firstUnlike wsX10_firstUnlike) := goodIn_app (gk_methodLink 41 rfl (gk_instanceMethod 42 rfl (gk_selects 43 rfl (gk_initialized 24 rfl (gn))))) ggX10_count_X10_firstUnlike
theorem dX10_count_90 : decode cX10_count 90 = .ok (.putfield 79, 3) := dw181 (n := 64) (i := 26) (a := 0) (b := 79) kc_cX10_count_2 (by decide +kernel) (by decide)
theorem dX10_count_93 : decode cX10_count 93 = .ok (.aload_n 0, 1) := dw42 (n := 64) (i := 29) kc_cX10_count_2 (by decide +kernel)
theorem dX10_count_94 : decode cX10_count 94 = .ok (.getfield 79, 3) := dw180 (n := 64) (i := 30) (a := 0) (b := 79) kc_cX10_count_2 (by decide +kernel) (by decide)
theorem dX10_count_97 : decode cX10_count 97 = .ok (.bipush (-9), 2) := dw16 (n := 96) (i := 1) (a := 247) kc_cX10_count_3 (by decide +kernel) (by decide)
theorem dX10_count_99 : decode cX10_count 99 = .ok (.if_icmp .eq 9, 3) := dw159 (n := 96) (i := 3) (a := 0) (b := 9) kc_cX10_count_3 (by decide +kernel) (by decide)
theorem dX10_count_108 : decode cX10_count 108 = .ok (.aload_n 0, 1) := dw42 (n := 96) (i := 12) kc_cX10_count_3 (by decide +kernel)
theorem dX10_count_109 : decode cX10_count 109 = .ok (.getfield 42, 3) := dw180 (n := 96) (i := 13) (a := 0) (b := 42) kc_cX10_count_3 (by decide +kernel) (by decide)
theorem dX10_count_112 : decode cX10_count 112 = .ok (.aload_n 0, 1) := dw42 (n := 96) (i := 16) kc_cX10_count_3 (by decide +kernel)
theorem dX10_count_113 : decode cX10_count 113 = .ok (.getfield 26, 3) := dw180 (n := 96) (i := 17) (a := 0) (b := 26) kc_cX10_count_3 (by decide +kernel) (by decide)
theorem dX10_count_116 : decode cX10_count 116 = .ok (.iload_n 2, 1) := dw28 (n := 96) (i := 20) kc_cX10_count_3 (by decide +kernel)
theorem dX10_count_117 : decode cX10_count 117 = .ok (.iload_n 3, 1) := dw29 (n := 96) (i := 21) kc_cX10_count_3 (by decide +kernel)
theorem dX10_count_118 : decode cX10_count 118 = .ok (.invokevirtual 212, 3) := dw182 (n := 96) (i := 22) (a := 0) (b := 212) kc_cX10_count_3 (by decide +kernel) (by decide)
set_option maxRecDepth 20000 in
theorem ggX10_count_X6_take : GoodIn wsX10_count wsX6_take := (gk_code 69 rfl (gk_fieldLink 70 rfl (gk_fieldLink 71 rfl (gk_fieldLink 72 rfl (gk_fieldLink 73 rfl (gk_fieldLink 74 rfl (gk_fieldLink 75 rfl (gk_fieldLink 76 rfl (gk_fieldLink 77 rfl (gk_methodLink 78 rfl (gk_instanceMethod 49 rfl (gk_selects 50 rfl (gk_initialized 51 rfl (gk_code 52 rfl (gk_fieldLink 53 rfl (gk_methodLink 79 rfl (gk_instanceMethod 80 rfl (gk_selects 81 rfl (gk_initialized 82 rfl (gk_code 83 rfl (gk_fieldLink 84 rfl (gk_methodLink 85 rfl (gk_instanceMethod 86 rfl (gk_selects 87 rfl (gk_initialized 68 rfl (gk_code 88 rfl (gk_fieldLink 89 rfl (gk_fieldLink 90 rfl (gk_laysFinal 377 rfl (gk_laysFinal 378 rfl (gk_laysFinal 379 rfl (gk_lays 380 rfl (gk_lays 381 rfl (gk_laysFinal 382 rfl (gk_laysFinal 383 rfl (gk_laysFinal 384 rfl (gk_lays 365 rfl (gk_laysFinal 366 rfl (gk_laysFinal 367 rfl (gk_laysFinal 368 rfl (gk_laysFinal 369 rfl (gk_lays 372 rfl (gk_laysFinal 373 rfl (gk_laysFinal 374 rfl (gk_laysFinal 375 rfl (gk_laysFinal 376 rfl (gk_lays 370 rfl (gk_laysFinal 371 rfl (gn)))))))))))))))))))))))))))))))))))))))))))))))))
set_option maxRecDepth 20000 in
theorem gX10_count_X6_take : GoodIn wsX10_count (wsV RX10 212 RX6 yX6_take wsX6_take) := goodIn_app (gk_methodLink 65 rfl (gk_instanceMethod 66 rfl (gk_selects 67 rfl (gk_initialized 68 rfl (gn))))) ggX10_count_X6_take
theorem dX10_count_121 : decode cX10_count 121 = .ok (.aload_n 0, 1) := dw42 (n := 96) (i := 25) kc_cX10_count_3 (by decide +kernel)
theorem dX10_count_122 : decode cX10_count 122 = .ok (.getfield 76, 3) := dw180 (n := 96) (i := 26) (a := 0) (b := 76) kc_cX10_count_3 (by decide +kernel) (by decide)
theorem dX10_count_125 : decode cX10_count 125 = .ok (.invokevirtual 216, 3) := dw182 (n := 96) (i := 29) (a := 0) (b := 216) kc_cX10_count_3 (by decide +kernel) (by decide)
set_option maxRecDepth 20000 in
theorem ggX10_count_X7_clear : GoodIn wsX10_count wsX7_clear := (gk_code 95 rfl (gk_fieldLink 96 rfl (gk_fieldLink 97 rfl (gk_lays 358 rfl (gk_laysFinal 359 rfl (gk_lays 360 rfl (gk_laysFinal 361 rfl (gk_laysFinal 362 rfl (gk_laysFinal 363 rfl (gk_laysFinal 364 rfl (gn)))))))))))
set_option maxRecDepth 20000 in
theorem gX10_count_X7_clear : GoodIn wsX10_count (wsV RX10 216 RX7 yX7_clear wsX7_clear) := goodIn_app (gk_methodLink 91 rfl (gk_instanceMethod 92 rfl (gk_selects 93 rfl (gk_initialized 94 rfl (gn))))) ggX10_count_X7_clear
theorem dX10_count_128 : decode cX10_count 128 = .ok (.aload_n 0, 1) := dw42 (n := 128) (i := 0) kc_cX10_count_4 (by decide +kernel)
theorem dX10_count_129 : decode cX10_count 129 = .ok (.iload 4, 2) := dw21 (n := 128) (i := 1) (a := 4) kc_cX10_count_4 (by decide +kernel) (by decide)
theorem dX10_count_131 : decode cX10_count 131 = .ok (.aload_n 0, 1) := dw42 (n := 128) (i := 3) kc_cX10_count_4 (by decide +kernel)
theorem dX10_count_132 : decode cX10_count 132 = .ok (.getfield 76, 3) := dw180 (n := 128) (i := 4) (a := 0) (b := 76) kc_cX10_count_4 (by decide +kernel) (by decide)
theorem dX10_count_135 : decode cX10_count 135 = .ok (.invokevirtual 219, 3) := dw182 (n := 128) (i := 7) (a := 0) (b := 219) kc_cX10_count_4 (by decide +kernel) (by decide)
set_option maxRecDepth 20000 in
theorem ggX10_count_X10_countBy : GoodIn wsX10_count wsX10_countBy := (gk_code 101 rfl (gk_fieldLink 102 rfl (gk_fieldLink 103 rfl (gk_fieldLink 104 rfl (gk_methodLink 105 rfl (gk_instanceMethod 106 rfl (gk_selects 107 rfl (gk_initialized 108 rfl (gk_code 109 rfl (gk_fieldLink 110 rfl (gk_fieldLink 111 rfl (gk_fieldLink 112 rfl (gk_fieldLink 113 rfl (gk_fieldLink 114 rfl (gk_fieldLink 115 rfl (gk_methodLink 116 rfl (gk_instanceMethod 117 rfl (gk_selects 118 rfl (gk_initialized 68 rfl (gk_code 119 rfl (gk_fieldLink 71 rfl (gk_fieldLink 89 rfl (gk_methodLink 85 rfl (gk_instanceMethod 86 rfl (gk_selects 87 rfl (gk_code 88 rfl (gk_fieldLink 90 rfl (gk_methodLink 120 rfl (gk_instanceMethod 121 rfl (gk_selects 122 rfl (gk_code 123 rfl (gk_fieldLink 75 rfl (gk_fieldLink 73 rfl (gk_fieldLink 124 rfl (gk_fieldLink 125 rfl (gk_fieldLink 76 rfl (gk_methodLink 126 rfl (gk_instanceMethod 127 rfl (gk_selects 128 rfl (gk_code 129 rfl (gk_fieldLink 130 rfl (gk_methodLink 131 rfl (gk_instanceMethod 132 rfl (gk_selects 133 rfl (gk_code 134 rfl (gk_fieldLink 77 rfl (gk_fieldLink 135 rfl (gk_fieldLink 136 rfl (gk_methodLink 137 rfl (gk_instanceMethod 138 rfl (gk_selects 139 rfl (gk_code 140 rfl (gk_methodLink 141 rfl (gk_static 142 rfl (gk_initialized 143 rfl (gk_code 144 rfl (gk_methodLink 145 rfl (gk_instanceMethod 146 rfl (gk_selects 147 rfl (gk_initialized 94 rfl (gk_code 148 rfl (gk_fieldLink 97 rfl (gk_fieldLink 149 rfl (gk_fieldLink 150 rfl (gk_fieldLink 151 rfl (gk_fieldLink 152 rfl (gk_fieldLink 153 rfl (gk_fieldLink 154 rfl (gk_methodLink 155 rfl (gk_instanceMethod 156 rfl (gk_selects 157 rfl (gk_code 158 rfl (gk_methodLink 159 rfl (gk_instanceMethod 160 rfl (gk_selects 161 rfl (gk_code 162 rfl (gk_fieldLink 96 rfl (gk_fieldLink 163 rfl (gk_methodLink 164 rfl (gk_instanceMethod 165 rfl (gk_selects 166 rfl (gk_initialized 167 rfl (gk_code 168 rfl (gk_fieldLink 169 rfl (gk_fieldLink 170 rfl (gk_fieldLink 171 rfl (gk_fieldLink 172 rfl (gk_methodLink 173 rfl (gk_instanceMethod 174 rfl (gk_selects 175 rfl (gk_code 176 rfl (gk_fieldLink 177 rfl (gk_fieldLink 178 rfl (gk_methodLink 179 rfl (gk_instanceMethod 180 rfl (gk_selects 181 rfl (gk_code 182 rfl (gk_fieldLink 183 rfl (gk_fieldLink 184 rfl (gk_fieldLink 185 rfl (gk_fieldLink 186 rfl (gk_fieldLink 187 rfl (gk_methodLink 188 rfl (gk_methodLink 189 rfl (gk_instanceMethod 190 rfl (gk_selects 191 rfl (gk_initialized 51 rfl (gk_code 192 rfl (gk_fieldLink 193 rfl (gk_fieldLink 194 rfl (gk_methodLink 195 rfl (gk_instanceMethod 196 rfl (gk_selects 197 rfl (gk_code 198 rfl (gk_fieldLink 199 rfl (gk_methodLink 200 rfl (gk_instanceMethod 201 rfl (gk_selects 202 rfl (gk_code 203 rfl (gk_methodLink 204 rfl (gk_static 205 rfl (gk_initialized 206 rfl (gk_code 207 rfl (gk_methodLink 208 rfl (gk_static 209 rfl (gk_code 210 rfl (gk_methodLink 211 rfl (gk_instanceMethod 212 rfl (gk_selects 213 rfl (gk_code 214 rfl (gk_fieldLink 215 rfl (gk_methodLink 216 rfl (gk_instanceMethod 217 rfl (gk_selects 218 rfl (gk_code 219 rfl (gk_methodLink 220 rfl (gk_methodLink 221 rfl (gk_instanceMethod 222 rfl (gk_selects 223 rfl (gk_code 224 rfl (gk_methodLink 225 rfl (gk_methodLink 226 rfl (gk_methodLink 227 rfl (gk_instanceMethod 228 rfl (gk_selects 229 rfl (gk_initialized 230 rfl (gk_code 231 rfl (gk_fieldLink 232 rfl (gk_fieldLink 233 rfl (gk_fieldLink 234 rfl (gk_fieldLink 235 rfl (gk_fieldLink 236 rfl (gk_fieldLink 237 rfl (gk_methodLink 238 rfl (gk_methodLink 239 rfl (gk_instanceMethod 240 rfl (gk_selects 241 rfl (gk_code 242 rfl (gk_methodLink 243 rfl (gk_instanceMethod 244 rfl (gk_selects 245 rfl (gk_code 246 rfl (gk_fieldLink 247 rfl (gk_methodLink 248 rfl (gk_methodLink 249 rfl (gk_methodLink 250 rfl (gk_instanceMethod 251 rfl (gk_selects 252 rfl (gk_code 253 rfl (gk_fieldLink 254 rfl (gk_fieldLink 255 rfl (gk_fieldLink 256 rfl (gk_fieldLink 257 rfl (gk_fieldLink 258 rfl (gk_methodLink 259 rfl (gk_instanceMethod 260 rfl (gk_selects 261 rfl (gk_initialized 262 rfl (gk_code 263 rfl (gk_fieldLink 264 rfl (gk_fieldLink 265 rfl (gk_methodLink 266 rfl (gk_instanceMethod 267 rfl (gk_selects 268 rfl (gk_code 269 rfl (gk_methodLink 270 rfl (gk_methodLink 271 rfl (gk_instanceMethod 272 rfl (gk_selects 273 rfl (gk_code 274 rfl (gk_constantLong 275 rfl (gk_methodLink 276 rfl (gk_methodLink 277 rfl (gk_instanceMethod 278 rfl (gk_selects 279 rfl (gk_code 280 rfl (gk_fieldLink 281 rfl (gk_methodLink 282 rfl (gk_instanceMethod 283 rfl (gk_selects 284 rfl (gk_code 285 rfl (gk_methodLink 286 rfl (gk_methodLink 287 rfl (gk_instanceMethod 288 rfl (gk_selects 289 rfl (gk_code 290 rfl (gk_methodLink 291 rfl (gk_methodLink 292 rfl (gk_methodLink 293 rfl (gk_instanceMethod 294 rfl (gk_selects 295 rfl (gk_code 296 rfl (gk_methodLink 297 rfl (gk_instanceMethod 298 rfl (gk_selects 299 rfl (gk_code 300 rfl (gk_methodLink 301 rfl (gk_instanceMethod 302 rfl (gk_selects 303 rfl (gk_code 304 rfl (gk_fieldLink 305 rfl (gk_methodLink 306 rfl (gk_instanceMethod 307 rfl (gk_selects 308 rfl (gk_code 309 rfl (gk_fieldLink 310 rfl (gk_methodLink 311 rfl (gk_instanceMethod 312 rfl (gk_selects 313 rfl (gk_code 314 rfl (gk_fieldLink 315 rfl (gk_methodLink 316 rfl (gk_instanceMethod 317 rfl (gk_selects 318 rfl (gk_code 319 rfl (gk_methodLink 320 rfl (gk_instanceMethod 321 rfl (gk_selects 322 rfl (gk_code 323 rfl (gk_methodLink 324 rfl (gk_instanceMethod 325 rfl (gk_selects 326 rfl (gk_code 327 rfl (gk_fieldLink 328 rfl (gk_fieldLink 329 rfl (gk_fieldLink 330 rfl (gk_fieldLink 331 rfl (gk_methodLink 332 rfl (gk_methodLink 333 rfl (gk_instanceMethod 334 rfl (gk_selects 335 rfl (gk_code 336 rfl (gk_fieldLink 337 rfl (gk_laysFinal 338 rfl (gk_laysFinal 339 rfl (gk_laysFinal 340 rfl (gk_laysFinal 341 rfl (gk_laysFinal 342 rfl (gk_laysFinal 343 rfl (gk_laysFinal 344 rfl (gk_laysFinal 345 rfl (gk_lays 346 rfl (gk_lays 347 rfl (gk_lays 348 rfl (gk_lays 349 rfl (gk_laysFinal 350 rfl (gk_laysFinal 385 rfl (gk_laysFinal 386 rfl (gk_laysFinal 387 rfl (gk_laysFinal 377 rfl (gk_laysFinal 378 rfl (gk_laysFinal 379 rfl (gk_lays 380 rfl (gk_lays 381 rfl (gk_laysFinal 382 rfl (gk_laysFinal 383 rfl (gk_laysFinal 384 rfl (gk_lays 370 rfl (gk_laysFinal 371 rfl (gk_lays 372 rfl (gk_laysFinal 373 rfl (gk_laysFinal 374 rfl (gk_laysFinal 375 rfl (gk_laysFinal 376 rfl (gk_lays 358 rfl (gk_laysFinal 359 rfl (gk_lays 360 rfl (gk_laysFinal 361 rfl (gk_laysFinal 362 rfl (gk_laysFinal 363 rfl (gk_laysFinal 364 rfl (gk_laysFinal 388 rfl (gk_laysFinal 389 rfl (gk_laysFinal 390 rfl (gk_laysFinal 391 rfl (gk_laysFinal 392 rfl (gk_laysFinal 393 rfl (gk_laysFinal 394 rfl (gk_laysFinal 395 rfl (gk_laysFinal 396 rfl (gk_lays 397 rfl (gk_lays 398 rfl (gn)))))))))))))))))))))))))))))))))))))))))))))))))))))))))))))))))))))))))))))))))))))))))))))))))))))))))))))))))))))))))))))))))))))))))))))))))))))))))))))))))))))))))))))))))))))))))))))))))))))))))))))))))))))))))))))))))))))))))))))))))))))))))))))))))))))))))))))))))))))))))))))))))))))))))))))))
set_option maxRecDepth 20000 in
theorem gX10_count_X10_countBy : GoodIn wsX10_count (wsV RX10 219 RX10 yX10_countBy wsX10_countBy) := goodIn_app (gk_methodLink 98 rfl (gk_instanceMethod 99 rfl (gk_selects 100 rfl (gk_initialized 24 rfl (gn))))) ggX10_count_X10_countBy
theorem dX10_count_138 : decode cX10_count 138 = .ok (.ifCond .ne 6, 3) := dw154 (n := 128) (i := 10) (a := 0) (b := 6) kc_cX10_count_4 (by decide +kernel) (by decide)
theorem dX10_count_144 : decode cX10_count 144 = .ok (.aload_n 0, 1) := dw42 (n := 128) (i := 16) kc_cX10_count_4 (by decide +kernel)
theorem dX10_count_145 : decode cX10_count 145 = .ok (.getfield 76, 3) := dw180 (n := 128) (i := 17) (a := 0) (b := 76) kc_cX10_count_4 (by decide +kernel) (by decide)
theorem dX10_count_148 : decode cX10_count 148 = .ok (.astore 5, 2) := dw58 (n := 128) (i := 20) (a := 5) kc_cX10_count_4 (by decide +kernel) (by decide)
theorem dX10_count_150 : decode cX10_count 150 = .ok (.aload_n 0, 1) := dw42 (n := 128) (i := 22) kc_cX10_count_4 (by decide +kernel)
theorem dX10_count_151 : decode cX10_count 151 = .ok (.aload_n 0, 1) := dw42 (n := 128) (i := 23) kc_cX10_count_4 (by decide +kernel)
theorem dX10_count_152 : decode cX10_count 152 = .ok (.getfield 72, 3) := dw180 (n := 128) (i := 24) (a := 0) (b := 72) kc_cX10_count_4 (by decide +kernel) (by decide)
theorem dX10_count_155 : decode cX10_count 155 = .ok (.putfield 76, 3) := dw181 (n := 128) (i := 27) (a := 0) (b := 76) kc_cX10_count_4 (by decide +kernel) (by decide)
theorem dX10_count_158 : decode cX10_count 158 = .ok (.aload_n 0, 1) := dw42 (n := 128) (i := 30) kc_cX10_count_4 (by decide +kernel)
theorem dX10_count_159 : decode cX10_count 159 = .ok (.aload 5, 2) := dw25 (n := 128) (i := 31) (a := 5) kc_cX10_count_4 (by decide +kernel) (by decide)
theorem dX10_count_161 : decode cX10_count 161 = .ok (.putfield 72, 3) := dw181 (n := 160) (i := 1) (a := 0) (b := 72) kc_cX10_count_5 (by decide +kernel) (by decide)
theorem dX10_count_164 : decode cX10_count 164 = .ok (.aload_n 0, 1) := dw42 (n := 160) (i := 4) kc_cX10_count_5 (by decide +kernel)
theorem dX10_count_165 : decode cX10_count 165 = .ok (.getfield 72, 3) := dw180 (n := 160) (i := 5) (a := 0) (b := 72) kc_cX10_count_5 (by decide +kernel) (by decide)
theorem dX10_count_168 : decode cX10_count 168 = .ok (.getfield 223, 3) := dw180 (n := 160) (i := 8) (a := 0) (b := 223) kc_cX10_count_5 (by decide +kernel) (by decide)
theorem in_X10_count_7 : ∀ w ∈ u_ws RX7 TX7 7, w ∈ wsX10_count := fun _ h => List.mem_cons_of_mem _ (List.mem_append_left _ (List.mem_append_left _ (List.mem_append_left _ (List.mem_append_left _ (List.mem_append_left _ (List.mem_append_left _ (List.mem_append_left _ (List.mem_append_left _ (List.mem_append_right _ h)))))))))
theorem dX10_count_171 : decode cX10_count 171 = .ok (.ireturn, 1) := dw172 (n := 160) (i := 11) kc_cX10_count_5 (by decide +kernel)
theorem dX10_count_141 : decode cX10_count 141 = .ok (.bipush (-6), 2) := dw16 (n := 128) (i := 13) (a := 250) kc_cX10_count_4 (by decide +kernel) (by decide)
theorem dX10_count_143 : decode cX10_count 143 = .ok (.ireturn, 1) := dw172 (n := 128) (i := 15) kc_cX10_count_4 (by decide +kernel)
theorem dX10_count_102 : decode cX10_count 102 = .ok (.aload_n 0, 1) := dw42 (n := 96) (i := 6) kc_cX10_count_3 (by decide +kernel)
theorem dX10_count_103 : decode cX10_count 103 = .ok (.iconst 3, 1) := dw6 (n := 96) (i := 7) kc_cX10_count_3 (by decide +kernel)
theorem dX10_count_104 : decode cX10_count 104 = .ok (.invokevirtual 117, 3) := dw182 (n := 96) (i := 8) (a := 0) (b := 117) kc_cX10_count_3 (by decide +kernel) (by decide)
set_option maxRecDepth 20000 in
theorem ggX10_count_X10_found : GoodIn wsX10_count wsX10_found := (gk_code 62 rfl (gk_fieldLink 63 rfl (gk_fieldLink 64 rfl (gk_laysFinal 338 rfl (gk_laysFinal 339 rfl (gk_laysFinal 340 rfl (gk_laysFinal 341 rfl (gk_laysFinal 342 rfl (gk_laysFinal 343 rfl (gk_laysFinal 344 rfl (gk_laysFinal 345 rfl (gk_lays 346 rfl (gk_lays 347 rfl (gk_lays 348 rfl (gk_lays 349 rfl (gk_laysFinal 350 rfl (gn)))))))))))))))))
set_option maxRecDepth 20000 in
theorem gX10_count_X10_found : GoodIn wsX10_count (wsV RX10 117 RX10 yX10_found wsX10_found) := goodIn_app (gk_methodLink 59 rfl (gk_instanceMethod 60 rfl (gk_selects 61 rfl (gk_initialized 24 rfl (gn))))) ggX10_count_X10_found
theorem dX10_count_107 : decode cX10_count 107 = .ok (.ireturn, 1) := dw172 (n := 96) (i := 11) kc_cX10_count_3 (by decide +kernel)
theorem dX10_count_82 : decode cX10_count 82 = .ok (.iconst 3, 1) := dw6 (n := 64) (i := 18) kc_cX10_count_2 (by decide +kernel)
theorem dX10_count_83 : decode cX10_count 83 = .ok (.goto 4, 3) := dw167 (n := 64) (i := 19) (a := 0) (b := 4) kc_cX10_count_2 (by decide +kernel) (by decide)
theorem dX10_count_59 : decode cX10_count 59 = .ok (.bipush (-4), 2) := dw16 (n := 32) (i := 27) (a := 252) kc_cX10_count_1 (by decide +kernel) (by decide)
theorem dX10_count_61 : decode cX10_count 61 = .ok (.ireturn, 1) := dw172 (n := 32) (i := 29) kc_cX10_count_1 (by decide +kernel)
