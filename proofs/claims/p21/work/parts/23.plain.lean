section OWN3
variable {p : Program} {l : Launch} {e : Env} {R : Room} {s : State} {m : MethodId} {args : Array Value} {below : List Frame} {meth : Method} {c : Code} {cells slots : Nat} {Q : State → Prop} {D : va_G} {ad : Nat → Nat} {cs : Nat → ClassId} {nL : Nat} {M : MI} {L : ML} {pc : Nat} {lv : List (Nat × Value)} {st : List Value} {cc : ByteArray} {Ts : List Cond} {own : String}
theorem g_lrem (C : Cx p s m args meth c cc nL Ts own D ad cs) {x y : Int64} (hd : decode cc pc = .ok (.lrem, 1)) (hne : ¬ y = 0) (kk : G p l e R s m args below meth c cells slots Q D ad cs nL M L (pc + 1) lv (.long (x - x / y * y) :: st)) : G p l e R s m args below meth c cells slots Q D ad cs nL M L pc lv (.long y :: .long x :: st) := fun H locs ls hH hS hl => lv_lrem C.1 C.2.1 hd hne (kk H locs ls hH hS hl)
theorem g_mmax (C : Cx p s m args meth c cc nL Ts own D ad cs) {index : Nat} {x y : Int32} (h1 : Cond.methodLink own index Lib.Math.max.name ∈ Ts) (h2 : Cond.static Lib.Math.max.name ∈ Ts) (h3 : Cond.initialized "java/lang/Math" ∈ Ts) (h4 : Cond.code Lib.Math.max.name Lib.Math.max.code 2 (some .int) ∈ Ts) (hf : 1 ≤ R.frames) (hlo : (st.map fun v => v.category).sum + 13 ≤ R.locals) (hcs : cells ≤ R.cells ∧ slots ≤ R.slots) (hd : decode cc pc = .ok (.invokestatic index, 3)) (kk : G p l e R s m args below meth c cells slots Q D ad cs nL M L (pc + 3) lv (.int (if x < y then y else x) :: st)) : G p l e R s m args below meth c cells slots Q D ad cs nL M L pc lv (.int y :: .int x :: st) := fun H locs ls hH hS hl => va_mmax C.1 C.2.1 (C.2.2.1.trans hl.1.symm) C.2.2.2.1 (C.2.2.2.2.1 _ h1) (C.2.2.2.2.1 _ h2) (C.2.2.2.2.1 _ h3) (C.2.2.2.2.1 _ h4) hf hlo hcs.1 hcs.2 hd (kk H locs ls hH hS hl)
theorem g_mmin (C : Cx p s m args meth c cc nL Ts own D ad cs) {index : Nat} {x y : Int32} (h1 : Cond.methodLink own index Lib.Math.min.name ∈ Ts) (h2 : Cond.static Lib.Math.min.name ∈ Ts) (h3 : Cond.initialized "java/lang/Math" ∈ Ts) (h4 : Cond.code Lib.Math.min.name Lib.Math.min.code 2 (some .int) ∈ Ts) (hf : 1 ≤ R.frames) (hlo : (st.map fun v => v.category).sum + 13 ≤ R.locals) (hcs : cells ≤ R.cells ∧ slots ≤ R.slots) (hd : decode cc pc = .ok (.invokestatic index, 3)) (kk : G p l e R s m args below meth c cells slots Q D ad cs nL M L (pc + 3) lv (.int (if y < x then y else x) :: st)) : G p l e R s m args below meth c cells slots Q D ad cs nL M L pc lv (.int y :: .int x :: st) := fun H locs ls hH hS hl => va_mmin C.1 C.2.1 (C.2.2.1.trans hl.1.symm) C.2.2.2.1 (C.2.2.2.2.1 _ h1) (C.2.2.2.2.1 _ h2) (C.2.2.2.2.1 _ h3) (C.2.2.2.2.1 _ h4) hf hlo hcs.1 hcs.2 hd (kk H locs ls hH hS hl)
end OWN3
theorem dJ13_compare_74951_0 : decode cJ13_compare_74951 0 = .ok (.lload_n 0, 1) := by decide +kernel
theorem dJ13_compare_74951_1 : decode cJ13_compare_74951 1 = .ok (.lload_n 2, 1) := by decide +kernel
theorem dJ13_compare_74951_2 : decode cJ13_compare_74951 2 = .ok (.lcmp, 1) := by decide +kernel
theorem dJ13_compare_74951_3 : decode cJ13_compare_74951 3 = .ok (.ifCond .ge 7, 3) := by decide +kernel
theorem dJ13_compare_74951_10 : decode cJ13_compare_74951 10 = .ok (.lload_n 0, 1) := by decide +kernel
theorem dJ13_compare_74951_11 : decode cJ13_compare_74951 11 = .ok (.lload_n 2, 1) := by decide +kernel
theorem dJ13_compare_74951_12 : decode cJ13_compare_74951 12 = .ok (.lcmp, 1) := by decide +kernel
theorem dJ13_compare_74951_13 : decode cJ13_compare_74951 13 = .ok (.ifCond .ne 7, 3) := by decide +kernel
theorem dJ13_compare_74951_20 : decode cJ13_compare_74951 20 = .ok (.iconst 1, 1) := by decide +kernel
theorem dJ13_compare_74951_21 : decode cJ13_compare_74951 21 = .ok (.ireturn, 1) := by decide +kernel
theorem dJ13_compare_74951_16 : decode cJ13_compare_74951 16 = .ok (.iconst 0, 1) := by decide +kernel
theorem dJ13_compare_74951_17 : decode cJ13_compare_74951 17 = .ok (.goto 4, 3) := by decide +kernel
theorem dJ13_compare_74951_6 : decode cJ13_compare_74951 6 = .ok (.iconst (-1), 1) := by decide +kernel
theorem dJ13_compare_74951_7 : decode cJ13_compare_74951 7 = .ok (.goto 14, 3) := by decide +kernel
theorem dX6_compareTallies_0 : decode cX6_compareTallies 0 = .ok (.aload_n 0, 1) := by decide +kernel
theorem dX6_compareTallies_1 : decode cX6_compareTallies 1 = .ok (.getfield 26, 3) := by decide +kernel
theorem in_X6_compareTallies_6 : ∀ w ∈ u_ws RX6 TX6 8, w ∈ wsX6_compareTallies := fun _ h => List.mem_cons_of_mem _ (List.mem_append_right _ h)
theorem dX6_compareTallies_4 : decode cX6_compareTallies 4 = .ok (.iload_n 1, 1) := by decide +kernel
theorem dX6_compareTallies_5 : decode cX6_compareTallies 5 = .ok (.laload, 1) := by decide +kernel
theorem dX6_compareTallies_6 : decode cX6_compareTallies 6 = .ok (.aload_n 0, 1) := by decide +kernel
theorem dX6_compareTallies_7 : decode cX6_compareTallies 7 = .ok (.getfield 30, 3) := by decide +kernel
theorem dX6_compareTallies_10 : decode cX6_compareTallies 10 = .ok (.iload_n 2, 1) := by decide +kernel
theorem dX6_compareTallies_11 : decode cX6_compareTallies 11 = .ok (.laload, 1) := by decide +kernel
theorem dX6_compareTallies_12 : decode cX6_compareTallies 12 = .ok (.lmul, 1) := by decide +kernel
theorem dX6_compareTallies_13 : decode cX6_compareTallies 13 = .ok (.aload_n 0, 1) := by decide +kernel
theorem dX6_compareTallies_14 : decode cX6_compareTallies 14 = .ok (.getfield 26, 3) := by decide +kernel
theorem dX6_compareTallies_17 : decode cX6_compareTallies 17 = .ok (.iload_n 2, 1) := by decide +kernel
theorem dX6_compareTallies_18 : decode cX6_compareTallies 18 = .ok (.laload, 1) := by decide +kernel
theorem dX6_compareTallies_19 : decode cX6_compareTallies 19 = .ok (.aload_n 0, 1) := by decide +kernel
theorem dX6_compareTallies_20 : decode cX6_compareTallies 20 = .ok (.getfield 30, 3) := by decide +kernel
theorem dX6_compareTallies_23 : decode cX6_compareTallies 23 = .ok (.iload_n 1, 1) := by decide +kernel
theorem dX6_compareTallies_24 : decode cX6_compareTallies 24 = .ok (.laload, 1) := by decide +kernel
theorem dX6_compareTallies_25 : decode cX6_compareTallies 25 = .ok (.lmul, 1) := by decide +kernel
theorem dX6_compareTallies_26 : decode cX6_compareTallies 26 = .ok (.invokestatic 85, 3) := by decide +kernel
set_option maxRecDepth 20000 in
theorem ggX6_compareTallies_J13_compare_74951 : GoodIn wsX6_compareTallies wsJ13_compare_74951 := (gk_code 6 rfl (gn))
set_option maxRecDepth 20000 in
theorem gX6_compareTallies_J13_compare_74951 : GoodIn wsX6_compareTallies (va_wsS RX6 85 yJ13_compare_74951 wsJ13_compare_74951) := goodIn_app (gk_methodLink 3 rfl (gk_static 4 rfl (gk_initialized 5 rfl (gn)))) ggX6_compareTallies_J13_compare_74951
theorem dX6_compareTallies_29 : decode cX6_compareTallies 29 = .ok (.ireturn, 1) := by decide +kernel
theorem dX6_greatestIn_0 : decode cX6_greatestIn 0 = .ok (.bipush (-9), 2) := by decide +kernel
theorem dX6_greatestIn_2 : decode cX6_greatestIn 2 = .ok (.istore_n 1, 1) := by decide +kernel
theorem dX6_greatestIn_3 : decode cX6_greatestIn 3 = .ok (.iconst 0, 1) := by decide +kernel
theorem dX6_greatestIn_4 : decode cX6_greatestIn 4 = .ok (.istore_n 2, 1) := by decide +kernel
theorem dX6_greatestIn_5 : decode cX6_greatestIn 5 = .ok (.iload_n 2, 1) := by decide +kernel
theorem dX6_greatestIn_6 : decode cX6_greatestIn 6 = .ok (.aload_n 0, 1) := by decide +kernel
theorem dX6_greatestIn_7 : decode cX6_greatestIn 7 = .ok (.getfield 33, 3) := by decide +kernel
theorem in_X6_greatestIn_6 : ∀ w ∈ u_ws RX6 TX6 8, w ∈ wsX6_greatestIn := fun _ h => List.mem_cons_of_mem _ (List.mem_append_left _ (List.mem_append_right _ h))
theorem dX6_greatestIn_10 : decode cX6_greatestIn 10 = .ok (.getfield 78, 3) := by decide +kernel
theorem in_X6_greatestIn_2 : ∀ w ∈ u_ws RX2 TX2 2, w ∈ wsX6_greatestIn := fun _ h => List.mem_cons_of_mem _ (List.mem_append_right _ h)
theorem dX6_greatestIn_13 : decode cX6_greatestIn 13 = .ok (.if_icmp .ge 45, 3) := by decide +kernel
theorem dX6_greatestIn_58 : decode cX6_greatestIn 58 = .ok (.iload_n 1, 1) := by decide +kernel
theorem dX6_greatestIn_59 : decode cX6_greatestIn 59 = .ok (.ireturn, 1) := by decide +kernel
theorem dX6_greatestIn_16 : decode cX6_greatestIn 16 = .ok (.aload_n 0, 1) := by decide +kernel
theorem dX6_greatestIn_17 : decode cX6_greatestIn 17 = .ok (.getfield 33, 3) := by decide +kernel
theorem dX6_greatestIn_20 : decode cX6_greatestIn 20 = .ok (.getfield 79, 3) := by decide +kernel
theorem dX6_greatestIn_23 : decode cX6_greatestIn 23 = .ok (.iload_n 2, 1) := by decide +kernel
theorem dX6_greatestIn_24 : decode cX6_greatestIn 24 = .ok (.iaload, 1) := by decide +kernel
theorem dX6_greatestIn_25 : decode cX6_greatestIn 25 = .ok (.istore_n 3, 1) := by decide +kernel
theorem dX6_greatestIn_26 : decode cX6_greatestIn 26 = .ok (.aload_n 0, 1) := by decide +kernel
theorem dX6_greatestIn_27 : decode cX6_greatestIn 27 = .ok (.getfield 22, 3) := by decide +kernel
theorem dX6_greatestIn_30 : decode cX6_greatestIn 30 = .ok (.iload_n 3, 1) := by decide +kernel
theorem dX6_greatestIn_31 : decode cX6_greatestIn 31 = .ok (.baload, 1) := by decide +kernel
theorem dX6_greatestIn_32 : decode cX6_greatestIn 32 = .ok (.ifCond .eq 20, 3) := by decide +kernel
theorem dX6_greatestIn_52 : decode cX6_greatestIn 52 = .ok (.iinc 2 1, 3) := by decide +kernel
theorem dX6_greatestIn_55 : decode cX6_greatestIn 55 = .ok (.goto (-50), 3) := by decide +kernel
theorem dX6_greatestIn_35 : decode cX6_greatestIn 35 = .ok (.iload_n 1, 1) := by decide +kernel
theorem dX6_greatestIn_36 : decode cX6_greatestIn 36 = .ok (.bipush (-9), 2) := by decide +kernel
theorem dX6_greatestIn_38 : decode cX6_greatestIn 38 = .ok (.if_icmp .eq 12, 3) := by decide +kernel
theorem dX6_greatestIn_50 : decode cX6_greatestIn 50 = .ok (.iload_n 3, 1) := by decide +kernel
theorem dX6_greatestIn_51 : decode cX6_greatestIn 51 = .ok (.istore_n 1, 1) := by decide +kernel
theorem dX6_greatestIn_41 : decode cX6_greatestIn 41 = .ok (.aload_n 0, 1) := by decide +kernel
theorem dX6_greatestIn_42 : decode cX6_greatestIn 42 = .ok (.iload_n 3, 1) := by decide +kernel
theorem dX6_greatestIn_43 : decode cX6_greatestIn 43 = .ok (.iload_n 1, 1) := by decide +kernel
theorem dX6_greatestIn_44 : decode cX6_greatestIn 44 = .ok (.invokevirtual 81, 3) := by decide +kernel
set_option maxRecDepth 20000 in
theorem ggX6_greatestIn_X6_compareTallies : GoodIn wsX6_greatestIn wsX6_compareTallies := (gk_code 9 rfl (gk_fieldLink 10 rfl (gk_fieldLink 11 rfl (gk_methodLink 12 rfl (gk_static 13 rfl (gk_initialized 14 rfl (gk_code 15 rfl (gk_laysFinal 16 rfl (gk_laysFinal 17 rfl (gk_laysFinal 18 rfl (gk_lays 19 rfl (gk_lays 20 rfl (gk_laysFinal 21 rfl (gk_laysFinal 22 rfl (gk_laysFinal 23 rfl (gn))))))))))))))))
set_option maxRecDepth 20000 in
theorem gX6_greatestIn_X6_compareTallies : GoodIn wsX6_greatestIn (wsV RX6 81 RX6 yX6_compareTallies wsX6_compareTallies) := goodIn_app (gk_methodLink 5 rfl (gk_instanceMethod 6 rfl (gk_selects 7 rfl (gk_initialized 8 rfl (gn))))) ggX6_greatestIn_X6_compareTallies
theorem dX6_greatestIn_47 : decode cX6_greatestIn 47 = .ok (.ifCond .le 5, 3) := by decide +kernel
theorem dX6_leastIn_0 : decode cX6_leastIn 0 = .ok (.bipush (-9), 2) := by decide +kernel
theorem dX6_leastIn_2 : decode cX6_leastIn 2 = .ok (.istore_n 1, 1) := by decide +kernel
theorem dX6_leastIn_3 : decode cX6_leastIn 3 = .ok (.iconst 0, 1) := by decide +kernel
theorem dX6_leastIn_4 : decode cX6_leastIn 4 = .ok (.istore_n 2, 1) := by decide +kernel
theorem dX6_leastIn_5 : decode cX6_leastIn 5 = .ok (.iload_n 2, 1) := by decide +kernel
theorem dX6_leastIn_6 : decode cX6_leastIn 6 = .ok (.aload_n 0, 1) := by decide +kernel
theorem dX6_leastIn_7 : decode cX6_leastIn 7 = .ok (.getfield 33, 3) := by decide +kernel
theorem in_X6_leastIn_6 : ∀ w ∈ u_ws RX6 TX6 8, w ∈ wsX6_leastIn := fun _ h => List.mem_cons_of_mem _ (List.mem_append_left _ (List.mem_append_right _ h))
theorem dX6_leastIn_10 : decode cX6_leastIn 10 = .ok (.getfield 78, 3) := by decide +kernel
theorem in_X6_leastIn_2 : ∀ w ∈ u_ws RX2 TX2 2, w ∈ wsX6_leastIn := fun _ h => List.mem_cons_of_mem _ (List.mem_append_right _ h)
theorem dX6_leastIn_13 : decode cX6_leastIn 13 = .ok (.if_icmp .ge 45, 3) := by decide +kernel
theorem dX6_leastIn_58 : decode cX6_leastIn 58 = .ok (.iload_n 1, 1) := by decide +kernel
theorem dX6_leastIn_59 : decode cX6_leastIn 59 = .ok (.ireturn, 1) := by decide +kernel
theorem dX6_leastIn_16 : decode cX6_leastIn 16 = .ok (.aload_n 0, 1) := by decide +kernel
theorem dX6_leastIn_17 : decode cX6_leastIn 17 = .ok (.getfield 33, 3) := by decide +kernel
theorem dX6_leastIn_20 : decode cX6_leastIn 20 = .ok (.getfield 79, 3) := by decide +kernel
theorem dX6_leastIn_23 : decode cX6_leastIn 23 = .ok (.iload_n 2, 1) := by decide +kernel
theorem dX6_leastIn_24 : decode cX6_leastIn 24 = .ok (.iaload, 1) := by decide +kernel
theorem dX6_leastIn_25 : decode cX6_leastIn 25 = .ok (.istore_n 3, 1) := by decide +kernel
theorem dX6_leastIn_26 : decode cX6_leastIn 26 = .ok (.aload_n 0, 1) := by decide +kernel
theorem dX6_leastIn_27 : decode cX6_leastIn 27 = .ok (.getfield 22, 3) := by decide +kernel
theorem dX6_leastIn_30 : decode cX6_leastIn 30 = .ok (.iload_n 3, 1) := by decide +kernel
theorem dX6_leastIn_31 : decode cX6_leastIn 31 = .ok (.baload, 1) := by decide +kernel
theorem dX6_leastIn_32 : decode cX6_leastIn 32 = .ok (.ifCond .eq 20, 3) := by decide +kernel
theorem dX6_leastIn_52 : decode cX6_leastIn 52 = .ok (.iinc 2 1, 3) := by decide +kernel
theorem dX6_leastIn_55 : decode cX6_leastIn 55 = .ok (.goto (-50), 3) := by decide +kernel
theorem dX6_leastIn_35 : decode cX6_leastIn 35 = .ok (.iload_n 1, 1) := by decide +kernel
theorem dX6_leastIn_36 : decode cX6_leastIn 36 = .ok (.bipush (-9), 2) := by decide +kernel
theorem dX6_leastIn_38 : decode cX6_leastIn 38 = .ok (.if_icmp .eq 12, 3) := by decide +kernel
theorem dX6_leastIn_50 : decode cX6_leastIn 50 = .ok (.iload_n 3, 1) := by decide +kernel
theorem dX6_leastIn_51 : decode cX6_leastIn 51 = .ok (.istore_n 1, 1) := by decide +kernel
theorem dX6_leastIn_41 : decode cX6_leastIn 41 = .ok (.aload_n 0, 1) := by decide +kernel
theorem dX6_leastIn_42 : decode cX6_leastIn 42 = .ok (.iload_n 3, 1) := by decide +kernel
theorem dX6_leastIn_43 : decode cX6_leastIn 43 = .ok (.iload_n 1, 1) := by decide +kernel
theorem dX6_leastIn_44 : decode cX6_leastIn 44 = .ok (.invokevirtual 81, 3) := by decide +kernel
set_option maxRecDepth 20000 in
theorem ggX6_leastIn_X6_compareTallies : GoodIn wsX6_leastIn wsX6_compareTallies := (gk_code 9 rfl (gk_fieldLink 10 rfl (gk_fieldLink 11 rfl (gk_methodLink 12 rfl (gk_static 13 rfl (gk_initialized 14 rfl (gk_code 15 rfl (gk_laysFinal 16 rfl (gk_laysFinal 17 rfl (gk_laysFinal 18 rfl (gk_lays 19 rfl (gk_lays 20 rfl (gk_laysFinal 21 rfl (gk_laysFinal 22 rfl (gk_laysFinal 23 rfl (gn))))))))))))))))
set_option maxRecDepth 20000 in
theorem gX6_leastIn_X6_compareTallies : GoodIn wsX6_leastIn (wsV RX6 81 RX6 yX6_compareTallies wsX6_compareTallies) := goodIn_app (gk_methodLink 5 rfl (gk_instanceMethod 6 rfl (gk_selects 7 rfl (gk_initialized 8 rfl (gn))))) ggX6_leastIn_X6_compareTallies
theorem dX6_leastIn_47 : decode cX6_leastIn 47 = .ok (.ifCond .gt 5, 3) := by decide +kernel
theorem dX6_tallyFirstIn_0 : decode cX6_tallyFirstIn 0 = .ok (.aload_n 0, 1) := by decide +kernel
theorem dX6_tallyFirstIn_1 : decode cX6_tallyFirstIn 1 = .ok (.invokevirtual 59, 3) := by decide +kernel
set_option maxRecDepth 20000 in
theorem ggX6_tallyFirstIn_X6_clearTallies : GoodIn wsX6_tallyFirstIn wsX6_clearTallies := (gk_code 7 rfl (gk_fieldLink 2 rfl (gk_fieldLink 8 rfl (gk_laysFinal 23 rfl (gk_laysFinal 24 rfl (gk_laysFinal 25 rfl (gk_lays 26 rfl (gk_lays 27 rfl (gk_laysFinal 28 rfl (gk_laysFinal 29 rfl (gk_laysFinal 30 rfl (gn))))))))))))
set_option maxRecDepth 20000 in
theorem gX6_tallyFirstIn_X6_clearTallies : GoodIn wsX6_tallyFirstIn (wsV RX6 59 RX6 yX6_clearTallies wsX6_clearTallies) := goodIn_app (gk_methodLink 3 rfl (gk_instanceMethod 4 rfl (gk_selects 5 rfl (gk_initialized 6 rfl (gn))))) ggX6_tallyFirstIn_X6_clearTallies
theorem dX6_tallyFirstIn_4 : decode cX6_tallyFirstIn 4 = .ok (.iconst 0, 1) := by decide +kernel
theorem dX6_tallyFirstIn_5 : decode cX6_tallyFirstIn 5 = .ok (.istore_n 1, 1) := by decide +kernel
theorem dX6_tallyFirstIn_6 : decode cX6_tallyFirstIn 6 = .ok (.iload_n 1, 1) := by decide +kernel
theorem dX6_tallyFirstIn_7 : decode cX6_tallyFirstIn 7 = .ok (.aload_n 0, 1) := by decide +kernel
theorem dX6_tallyFirstIn_8 : decode cX6_tallyFirstIn 8 = .ok (.getfield 15, 3) := by decide +kernel
theorem in_X6_tallyFirstIn_6 : ∀ w ∈ u_ws RX6 TX6 8, w ∈ wsX6_tallyFirstIn := fun _ h => List.mem_cons_of_mem _ (List.mem_append_left _ (List.mem_append_right _ h))
theorem dX6_tallyFirstIn_11 : decode cX6_tallyFirstIn 11 = .ok (.if_icmp .ge 36, 3) := by decide +kernel
theorem dX6_tallyFirstIn_47 : decode cX6_tallyFirstIn 47 = .ok (.return_, 1) := by decide +kernel
theorem dX6_tallyFirstIn_14 : decode cX6_tallyFirstIn 14 = .ok (.aload_n 0, 1) := by decide +kernel
theorem dX6_tallyFirstIn_15 : decode cX6_tallyFirstIn 15 = .ok (.iload_n 1, 1) := by decide +kernel
theorem dX6_tallyFirstIn_16 : decode cX6_tallyFirstIn 16 = .ok (.invokevirtual 75, 3) := by decide +kernel
set_option maxRecDepth 20000 in
theorem ggX6_tallyFirstIn_X6_firstIn : GoodIn wsX6_tallyFirstIn wsX6_firstIn := (gk_code 12 rfl (gk_fieldLink 13 rfl (gk_fieldLink 14 rfl (gk_fieldLink 15 rfl (gk_fieldLink 16 rfl (gk_fieldLink 17 rfl (gk_laysFinal 23 rfl (gk_laysFinal 24 rfl (gk_laysFinal 25 rfl (gk_lays 26 rfl (gk_lays 27 rfl (gk_laysFinal 28 rfl (gk_laysFinal 29 rfl (gk_laysFinal 30 rfl (gk_lays 31 rfl (gk_laysFinal 32 rfl (gk_laysFinal 33 rfl (gk_laysFinal 34 rfl (gk_laysFinal 35 rfl (gn))))))))))))))))))))
set_option maxRecDepth 20000 in
theorem gX6_tallyFirstIn_X6_firstIn : GoodIn wsX6_tallyFirstIn (wsV RX6 75 RX6 yX6_firstIn wsX6_firstIn) := goodIn_app (gk_methodLink 9 rfl (gk_instanceMethod 10 rfl (gk_selects 11 rfl (gk_initialized 6 rfl (gn))))) ggX6_tallyFirstIn_X6_firstIn
theorem dX6_tallyFirstIn_19 : decode cX6_tallyFirstIn 19 = .ok (.istore_n 2, 1) := by decide +kernel
theorem dX6_tallyFirstIn_20 : decode cX6_tallyFirstIn 20 = .ok (.iload_n 2, 1) := by decide +kernel
theorem dX6_tallyFirstIn_21 : decode cX6_tallyFirstIn 21 = .ok (.bipush (-9), 2) := by decide +kernel
theorem dX6_tallyFirstIn_23 : decode cX6_tallyFirstIn 23 = .ok (.if_icmp .eq 18, 3) := by decide +kernel
theorem dX6_tallyFirstIn_41 : decode cX6_tallyFirstIn 41 = .ok (.iinc 1 1, 3) := by decide +kernel
theorem dX6_tallyFirstIn_44 : decode cX6_tallyFirstIn 44 = .ok (.goto (-38), 3) := by decide +kernel
theorem dX6_tallyFirstIn_26 : decode cX6_tallyFirstIn 26 = .ok (.aload_n 0, 1) := by decide +kernel
theorem dX6_tallyFirstIn_27 : decode cX6_tallyFirstIn 27 = .ok (.getfield 26, 3) := by decide +kernel
theorem dX6_tallyFirstIn_30 : decode cX6_tallyFirstIn 30 = .ok (.iload_n 2, 1) := by decide +kernel
theorem dX6_tallyFirstIn_31 : decode cX6_tallyFirstIn 31 = .ok (.dup2, 1) := by decide +kernel
theorem dX6_tallyFirstIn_32 : decode cX6_tallyFirstIn 32 = .ok (.laload, 1) := by decide +kernel
theorem dX6_tallyFirstIn_33 : decode cX6_tallyFirstIn 33 = .ok (.aload_n 0, 1) := by decide +kernel
theorem dX6_tallyFirstIn_34 : decode cX6_tallyFirstIn 34 = .ok (.iload_n 1, 1) := by decide +kernel
theorem dX6_tallyFirstIn_35 : decode cX6_tallyFirstIn 35 = .ok (.invokevirtual 65, 3) := by decide +kernel
set_option maxRecDepth 20000 in
theorem ggX6_tallyFirstIn_X6_papersOf : GoodIn wsX6_tallyFirstIn wsX6_papersOf := (gk_code 21 rfl (gk_fieldLink 14 rfl (gk_fieldLink 22 rfl (gk_fieldLink 13 rfl (gk_laysFinal 23 rfl (gk_laysFinal 24 rfl (gk_laysFinal 25 rfl (gk_lays 26 rfl (gk_lays 27 rfl (gk_laysFinal 28 rfl (gk_laysFinal 29 rfl (gk_laysFinal 30 rfl (gk_lays 31 rfl (gk_laysFinal 32 rfl (gk_laysFinal 33 rfl (gk_laysFinal 34 rfl (gk_laysFinal 35 rfl (gn))))))))))))))))))
set_option maxRecDepth 20000 in
theorem gX6_tallyFirstIn_X6_papersOf : GoodIn wsX6_tallyFirstIn (wsV RX6 65 RX6 yX6_papersOf wsX6_papersOf) := goodIn_app (gk_methodLink 18 rfl (gk_instanceMethod 19 rfl (gk_selects 20 rfl (gk_initialized 6 rfl (gn))))) ggX6_tallyFirstIn_X6_papersOf
theorem dX6_tallyFirstIn_38 : decode cX6_tallyFirstIn 38 = .ok (.i2l, 1) := by decide +kernel
theorem dX6_tallyFirstIn_39 : decode cX6_tallyFirstIn 39 = .ok (.ladd, 1) := by decide +kernel
theorem dX6_tallyFirstIn_40 : decode cX6_tallyFirstIn 40 = .ok (.lastore, 1) := by decide +kernel
theorem dX5_tallyPoints_0 : decode cX5_tallyPoints 0 = .ok (.iconst 0, 1) := by decide +kernel
theorem dX5_tallyPoints_1 : decode cX5_tallyPoints 1 = .ok (.istore_n 1, 1) := by decide +kernel
theorem dX5_tallyPoints_2 : decode cX5_tallyPoints 2 = .ok (.iload_n 1, 1) := by decide +kernel
theorem dX5_tallyPoints_3 : decode cX5_tallyPoints 3 = .ok (.aload_n 0, 1) := by decide +kernel
theorem dX5_tallyPoints_4 : decode cX5_tallyPoints 4 = .ok (.getfield 18, 3) := by decide +kernel
theorem in_X5_tallyPoints_5 : ∀ w ∈ u_ws RX5 TX5 3, w ∈ wsX5_tallyPoints := fun _ h => List.mem_cons_of_mem _ (List.mem_append_left _ (List.mem_append_left _ (List.mem_append_left _ (List.mem_append_right _ h))))
theorem dX5_tallyPoints_7 : decode cX5_tallyPoints 7 = .ok (.getfield 58, 3) := by decide +kernel
theorem in_X5_tallyPoints_6 : ∀ w ∈ u_ws RX6 TX6 8, w ∈ wsX5_tallyPoints := fun _ h => List.mem_cons_of_mem _ (List.mem_append_left _ (List.mem_append_left _ (List.mem_append_right _ h)))
theorem dX5_tallyPoints_10 : decode cX5_tallyPoints 10 = .ok (.if_icmp .ge 75, 3) := by decide +kernel
theorem dX5_tallyPoints_85 : decode cX5_tallyPoints 85 = .ok (.return_, 1) := by decide +kernel
theorem dX5_tallyPoints_13 : decode cX5_tallyPoints 13 = .ok (.iconst 0, 1) := by decide +kernel
theorem dX5_tallyPoints_14 : decode cX5_tallyPoints 14 = .ok (.istore_n 2, 1) := by decide +kernel
theorem dX5_tallyPoints_15 : decode cX5_tallyPoints 15 = .ok (.iload_n 2, 1) := by decide +kernel
theorem dX5_tallyPoints_16 : decode cX5_tallyPoints 16 = .ok (.aload_n 0, 1) := by decide +kernel
theorem dX5_tallyPoints_17 : decode cX5_tallyPoints 17 = .ok (.getfield 18, 3) := by decide +kernel
theorem dX5_tallyPoints_20 : decode cX5_tallyPoints 20 = .ok (.getfield 61, 3) := by decide +kernel
theorem dX5_tallyPoints_23 : decode cX5_tallyPoints 23 = .ok (.getfield 65, 3) := by decide +kernel
theorem in_X5_tallyPoints_2 : ∀ w ∈ u_ws RX2 TX2 2, w ∈ wsX5_tallyPoints := fun _ h => List.mem_cons_of_mem _ (List.mem_append_left _ (List.mem_append_right _ h))
theorem dX5_tallyPoints_26 : decode cX5_tallyPoints 26 = .ok (.if_icmp .ge 53, 3) := by decide +kernel
theorem dX5_tallyPoints_79 : decode cX5_tallyPoints 79 = .ok (.iinc 1 1, 3) := by decide +kernel
theorem dX5_tallyPoints_82 : decode cX5_tallyPoints 82 = .ok (.goto (-80), 3) := by decide +kernel
theorem dX5_tallyPoints_29 : decode cX5_tallyPoints 29 = .ok (.aload_n 0, 1) := by decide +kernel
theorem dX5_tallyPoints_30 : decode cX5_tallyPoints 30 = .ok (.getfield 18, 3) := by decide +kernel
theorem dX5_tallyPoints_33 : decode cX5_tallyPoints 33 = .ok (.getfield 68, 3) := by decide +kernel
theorem dX5_tallyPoints_36 : decode cX5_tallyPoints 36 = .ok (.iload_n 2, 1) := by decide +kernel
theorem dX5_tallyPoints_37 : decode cX5_tallyPoints 37 = .ok (.dup2, 1) := by decide +kernel
theorem dX5_tallyPoints_38 : decode cX5_tallyPoints 38 = .ok (.laload, 1) := by decide +kernel
theorem dX5_tallyPoints_39 : decode cX5_tallyPoints 39 = .ok (.aload_n 0, 1) := by decide +kernel
theorem dX5_tallyPoints_40 : decode cX5_tallyPoints 40 = .ok (.getfield 18, 3) := by decide +kernel
theorem dX5_tallyPoints_43 : decode cX5_tallyPoints 43 = .ok (.iload_n 1, 1) := by decide +kernel
theorem dX5_tallyPoints_44 : decode cX5_tallyPoints 44 = .ok (.invokevirtual 72, 3) := by decide +kernel
set_option maxRecDepth 20000 in
theorem ggX5_tallyPoints_X6_papersOf : GoodIn wsX5_tallyPoints wsX6_papersOf := (gk_code 13 rfl (gk_fieldLink 14 rfl (gk_fieldLink 15 rfl (gk_fieldLink 16 rfl (gk_laysFinal 20 rfl (gk_laysFinal 21 rfl (gk_laysFinal 22 rfl (gk_lays 23 rfl (gk_lays 24 rfl (gk_laysFinal 25 rfl (gk_laysFinal 26 rfl (gk_laysFinal 27 rfl (gk_lays 30 rfl (gk_laysFinal 31 rfl (gk_laysFinal 32 rfl (gk_laysFinal 33 rfl (gk_laysFinal 34 rfl (gn))))))))))))))))))
set_option maxRecDepth 20000 in
theorem gX5_tallyPoints_X6_papersOf : GoodIn wsX5_tallyPoints (wsV RX5 72 RX6 yX6_papersOf wsX6_papersOf) := goodIn_app (gk_methodLink 9 rfl (gk_instanceMethod 10 rfl (gk_selects 11 rfl (gk_initialized 12 rfl (gn))))) ggX5_tallyPoints_X6_papersOf
theorem dX5_tallyPoints_47 : decode cX5_tallyPoints 47 = .ok (.aload_n 0, 1) := by decide +kernel
theorem dX5_tallyPoints_48 : decode cX5_tallyPoints 48 = .ok (.getfield 18, 3) := by decide +kernel
theorem dX5_tallyPoints_51 : decode cX5_tallyPoints 51 = .ok (.getfield 76, 3) := by decide +kernel
theorem dX5_tallyPoints_54 : decode cX5_tallyPoints 54 = .ok (.getfield 80, 3) := by decide +kernel
theorem in_X5_tallyPoints_0 : ∀ w ∈ u_ws RX0 TX0 5, w ∈ wsX5_tallyPoints := fun _ h => List.mem_cons_of_mem _ (List.mem_append_right _ h)
theorem dX5_tallyPoints_57 : decode cX5_tallyPoints 57 = .ok (.aload_n 0, 1) := by decide +kernel
theorem dX5_tallyPoints_58 : decode cX5_tallyPoints 58 = .ok (.getfield 18, 3) := by decide +kernel
theorem dX5_tallyPoints_61 : decode cX5_tallyPoints 61 = .ok (.getfield 86, 3) := by decide +kernel
theorem dX5_tallyPoints_64 : decode cX5_tallyPoints 64 = .ok (.iload_n 1, 1) := by decide +kernel
theorem dX5_tallyPoints_65 : decode cX5_tallyPoints 65 = .ok (.iaload, 1) := by decide +kernel
theorem dX5_tallyPoints_66 : decode cX5_tallyPoints 66 = .ok (.aaload, 1) := by decide +kernel
theorem dX5_tallyPoints_67 : decode cX5_tallyPoints 67 = .ok (.iload_n 2, 1) := by decide +kernel
theorem dX5_tallyPoints_68 : decode cX5_tallyPoints 68 = .ok (.iaload, 1) := by decide +kernel
theorem dX5_tallyPoints_69 : decode cX5_tallyPoints 69 = .ok (.imul, 1) := by decide +kernel
theorem dX5_tallyPoints_70 : decode cX5_tallyPoints 70 = .ok (.i2l, 1) := by decide +kernel
theorem dX5_tallyPoints_71 : decode cX5_tallyPoints 71 = .ok (.ladd, 1) := by decide +kernel
theorem dX5_tallyPoints_72 : decode cX5_tallyPoints 72 = .ok (.lastore, 1) := by decide +kernel
theorem dX5_tallyPoints_73 : decode cX5_tallyPoints 73 = .ok (.iinc 2 1, 3) := by decide +kernel
theorem dX5_tallyPoints_76 : decode cX5_tallyPoints 76 = .ok (.goto (-61), 3) := by decide +kernel
theorem dX5_tallyPlaces_0 : decode cX5_tallyPlaces 0 = .ok (.aload_n 0, 1) := by decide +kernel
theorem dX5_tallyPlaces_1 : decode cX5_tallyPlaces 1 = .ok (.getfield 18, 3) := by decide +kernel
theorem in_X5_tallyPlaces_5 : ∀ w ∈ u_ws RX5 TX5 3, w ∈ wsX5_tallyPlaces := fun _ h => List.mem_cons_of_mem _ (List.mem_append_left _ (List.mem_append_left _ (List.mem_append_left _ (List.mem_append_right _ h))))
theorem dX5_tallyPlaces_4 : decode cX5_tallyPlaces 4 = .ok (.getfield 61, 3) := by decide +kernel
theorem in_X5_tallyPlaces_6 : ∀ w ∈ u_ws RX6 TX6 8, w ∈ wsX5_tallyPlaces := fun _ h => List.mem_cons_of_mem _ (List.mem_append_left _ (List.mem_append_left _ (List.mem_append_right _ h)))
theorem dX5_tallyPlaces_7 : decode cX5_tallyPlaces 7 = .ok (.getfield 65, 3) := by decide +kernel
theorem in_X5_tallyPlaces_2 : ∀ w ∈ u_ws RX2 TX2 2, w ∈ wsX5_tallyPlaces := fun _ h => List.mem_cons_of_mem _ (List.mem_append_left _ (List.mem_append_right _ h))
theorem dX5_tallyPlaces_10 : decode cX5_tallyPlaces 10 = .ok (.iconst 1, 1) := by decide +kernel
theorem dX5_tallyPlaces_11 : decode cX5_tallyPlaces 11 = .ok (.isub, 1) := by decide +kernel
theorem dX5_tallyPlaces_12 : decode cX5_tallyPlaces 12 = .ok (.istore_n 1, 1) := by decide +kernel
theorem dX5_tallyPlaces_13 : decode cX5_tallyPlaces 13 = .ok (.iconst 0, 1) := by decide +kernel
theorem dX5_tallyPlaces_14 : decode cX5_tallyPlaces 14 = .ok (.istore_n 2, 1) := by decide +kernel
theorem dX5_tallyPlaces_15 : decode cX5_tallyPlaces 15 = .ok (.iload_n 2, 1) := by decide +kernel
theorem dX5_tallyPlaces_16 : decode cX5_tallyPlaces 16 = .ok (.aload_n 0, 1) := by decide +kernel
theorem dX5_tallyPlaces_17 : decode cX5_tallyPlaces 17 = .ok (.getfield 18, 3) := by decide +kernel
theorem dX5_tallyPlaces_20 : decode cX5_tallyPlaces 20 = .ok (.getfield 58, 3) := by decide +kernel
theorem dX5_tallyPlaces_23 : decode cX5_tallyPlaces 23 = .ok (.if_icmp .ge 85, 3) := by decide +kernel
theorem dX5_tallyPlaces_108 : decode cX5_tallyPlaces 108 = .ok (.return_, 1) := by decide +kernel
theorem dX5_tallyPlaces_26 : decode cX5_tallyPlaces 26 = .ok (.aload_n 0, 1) := by decide +kernel
theorem dX5_tallyPlaces_27 : decode cX5_tallyPlaces 27 = .ok (.getfield 18, 3) := by decide +kernel
theorem dX5_tallyPlaces_30 : decode cX5_tallyPlaces 30 = .ok (.getfield 86, 3) := by decide +kernel
theorem dX5_tallyPlaces_33 : decode cX5_tallyPlaces 33 = .ok (.iload_n 2, 1) := by decide +kernel
theorem dX5_tallyPlaces_34 : decode cX5_tallyPlaces 34 = .ok (.iaload, 1) := by decide +kernel
theorem dX5_tallyPlaces_35 : decode cX5_tallyPlaces 35 = .ok (.istore_n 3, 1) := by decide +kernel
theorem dX5_tallyPlaces_36 : decode cX5_tallyPlaces 36 = .ok (.iconst 0, 1) := by decide +kernel
theorem dX5_tallyPlaces_37 : decode cX5_tallyPlaces 37 = .ok (.istore 4, 2) := by decide +kernel
theorem dX5_tallyPlaces_39 : decode cX5_tallyPlaces 39 = .ok (.iload 4, 2) := by decide +kernel
theorem dX5_tallyPlaces_41 : decode cX5_tallyPlaces 41 = .ok (.aload_n 0, 1) := by decide +kernel
theorem dX5_tallyPlaces_42 : decode cX5_tallyPlaces 42 = .ok (.getfield 18, 3) := by decide +kernel
theorem dX5_tallyPlaces_45 : decode cX5_tallyPlaces 45 = .ok (.getfield 76, 3) := by decide +kernel
theorem dX5_tallyPlaces_48 : decode cX5_tallyPlaces 48 = .ok (.getfield 89, 3) := by decide +kernel
theorem in_X5_tallyPlaces_0 : ∀ w ∈ u_ws RX0 TX0 5, w ∈ wsX5_tallyPlaces := fun _ h => List.mem_cons_of_mem _ (List.mem_append_right _ h)
theorem dX5_tallyPlaces_51 : decode cX5_tallyPlaces 51 = .ok (.iload_n 3, 1) := by decide +kernel
theorem dX5_tallyPlaces_52 : decode cX5_tallyPlaces 52 = .ok (.iaload, 1) := by decide +kernel
theorem dX5_tallyPlaces_53 : decode cX5_tallyPlaces 53 = .ok (.if_icmp .ge 49, 3) := by decide +kernel
theorem dX5_tallyPlaces_102 : decode cX5_tallyPlaces 102 = .ok (.iinc 2 1, 3) := by decide +kernel
theorem dX5_tallyPlaces_105 : decode cX5_tallyPlaces 105 = .ok (.goto (-90), 3) := by decide +kernel
theorem dX5_tallyPlaces_56 : decode cX5_tallyPlaces 56 = .ok (.aload_n 0, 1) := by decide +kernel
theorem dX5_tallyPlaces_57 : decode cX5_tallyPlaces 57 = .ok (.getfield 18, 3) := by decide +kernel
theorem dX5_tallyPlaces_60 : decode cX5_tallyPlaces 60 = .ok (.getfield 68, 3) := by decide +kernel
theorem dX5_tallyPlaces_63 : decode cX5_tallyPlaces 63 = .ok (.aload_n 0, 1) := by decide +kernel
theorem dX5_tallyPlaces_64 : decode cX5_tallyPlaces 64 = .ok (.getfield 18, 3) := by decide +kernel
theorem dX5_tallyPlaces_67 : decode cX5_tallyPlaces 67 = .ok (.getfield 76, 3) := by decide +kernel
theorem dX5_tallyPlaces_70 : decode cX5_tallyPlaces 70 = .ok (.getfield 80, 3) := by decide +kernel
theorem dX5_tallyPlaces_73 : decode cX5_tallyPlaces 73 = .ok (.iload_n 3, 1) := by decide +kernel
theorem dX5_tallyPlaces_74 : decode cX5_tallyPlaces 74 = .ok (.aaload, 1) := by decide +kernel
theorem dX5_tallyPlaces_75 : decode cX5_tallyPlaces 75 = .ok (.iload 4, 2) := by decide +kernel
theorem dX5_tallyPlaces_77 : decode cX5_tallyPlaces 77 = .ok (.iaload, 1) := by decide +kernel
theorem dX5_tallyPlaces_78 : decode cX5_tallyPlaces 78 = .ok (.dup2, 1) := by decide +kernel
theorem dX5_tallyPlaces_79 : decode cX5_tallyPlaces 79 = .ok (.laload, 1) := by decide +kernel
theorem dX5_tallyPlaces_80 : decode cX5_tallyPlaces 80 = .ok (.aload_n 0, 1) := by decide +kernel
theorem dX5_tallyPlaces_81 : decode cX5_tallyPlaces 81 = .ok (.getfield 18, 3) := by decide +kernel
theorem dX5_tallyPlaces_84 : decode cX5_tallyPlaces 84 = .ok (.iload_n 2, 1) := by decide +kernel
theorem dX5_tallyPlaces_85 : decode cX5_tallyPlaces 85 = .ok (.invokevirtual 72, 3) := by decide +kernel
set_option maxRecDepth 20000 in
theorem ggX5_tallyPlaces_X6_papersOf : GoodIn wsX5_tallyPlaces wsX6_papersOf := (gk_code 14 rfl (gk_fieldLink 15 rfl (gk_fieldLink 16 rfl (gk_fieldLink 17 rfl (gk_laysFinal 21 rfl (gk_laysFinal 22 rfl (gk_laysFinal 23 rfl (gk_lays 24 rfl (gk_lays 25 rfl (gk_laysFinal 26 rfl (gk_laysFinal 27 rfl (gk_laysFinal 28 rfl (gk_lays 31 rfl (gk_laysFinal 32 rfl (gk_laysFinal 33 rfl (gk_laysFinal 34 rfl (gk_laysFinal 35 rfl (gn))))))))))))))))))
set_option maxRecDepth 20000 in
theorem gX5_tallyPlaces_X6_papersOf : GoodIn wsX5_tallyPlaces (wsV RX5 72 RX6 yX6_papersOf wsX6_papersOf) := goodIn_app (gk_methodLink 10 rfl (gk_instanceMethod 11 rfl (gk_selects 12 rfl (gk_initialized 13 rfl (gn))))) ggX5_tallyPlaces_X6_papersOf
theorem dX5_tallyPlaces_88 : decode cX5_tallyPlaces 88 = .ok (.iload_n 1, 1) := by decide +kernel
theorem dX5_tallyPlaces_89 : decode cX5_tallyPlaces 89 = .ok (.iload 4, 2) := by decide +kernel
theorem dX5_tallyPlaces_91 : decode cX5_tallyPlaces 91 = .ok (.isub, 1) := by decide +kernel
theorem dX5_tallyPlaces_92 : decode cX5_tallyPlaces 92 = .ok (.imul, 1) := by decide +kernel
theorem dX5_tallyPlaces_93 : decode cX5_tallyPlaces 93 = .ok (.i2l, 1) := by decide +kernel
theorem dX5_tallyPlaces_94 : decode cX5_tallyPlaces 94 = .ok (.ladd, 1) := by decide +kernel
theorem dX5_tallyPlaces_95 : decode cX5_tallyPlaces 95 = .ok (.lastore, 1) := by decide +kernel
theorem dX5_tallyPlaces_96 : decode cX5_tallyPlaces 96 = .ok (.iinc 4 1, 3) := by decide +kernel
theorem dX5_tallyPlaces_99 : decode cX5_tallyPlaces 99 = .ok (.goto (-60), 3) := by decide +kernel
theorem dX5_tallyBy_0 : decode cX5_tallyBy 0 = .ok (.iload_n 1, 1) := by decide +kernel
theorem dX5_tallyBy_1 : decode cX5_tallyBy 1 = .ok (.iconst 1, 1) := by decide +kernel
theorem dX5_tallyBy_2 : decode cX5_tallyBy 2 = .ok (.if_icmp .ne 10, 3) := by decide +kernel
theorem dX5_tallyBy_12 : decode cX5_tallyBy 12 = .ok (.iload_n 1, 1) := by decide +kernel
theorem dX5_tallyBy_13 : decode cX5_tallyBy 13 = .ok (.iconst 2, 1) := by decide +kernel
theorem dX5_tallyBy_14 : decode cX5_tallyBy 14 = .ok (.if_icmp .ne 10, 3) := by decide +kernel
theorem dX5_tallyBy_24 : decode cX5_tallyBy 24 = .ok (.aload_n 0, 1) := by decide +kernel
theorem dX5_tallyBy_25 : decode cX5_tallyBy 25 = .ok (.getfield 18, 3) := by decide +kernel
theorem in_X5_tallyBy_5 : ∀ w ∈ u_ws RX5 TX5 3, w ∈ wsX5_tallyBy := fun _ h => List.mem_cons_of_mem _ (List.mem_append_left _ (List.mem_append_left _ (List.mem_append_left _ (List.mem_append_right _ h))))
theorem dX5_tallyBy_28 : decode cX5_tallyBy 28 = .ok (.invokevirtual 55, 3) := by decide +kernel
set_option maxRecDepth 20000 in
theorem ggX5_tallyBy_X6_tallyFirstIn : GoodIn wsX5_tallyBy wsX6_tallyFirstIn := (gk_code 30 rfl (gk_fieldLink 31 rfl (gk_fieldLink 32 rfl (gk_methodLink 33 rfl (gk_instanceMethod 34 rfl (gk_selects 35 rfl (gk_initialized 17 rfl (gk_code 36 rfl (gk_fieldLink 37 rfl (gk_methodLink 38 rfl (gk_instanceMethod 39 rfl (gk_selects 40 rfl (gk_code 41 rfl (gk_fieldLink 21 rfl (gk_fieldLink 19 rfl (gk_fieldLink 42 rfl (gk_fieldLink 43 rfl (gk_fieldLink 44 rfl (gk_methodLink 45 rfl (gk_instanceMethod 15 rfl (gk_selects 16 rfl (gk_code 18 rfl (gk_fieldLink 20 rfl (gk_laysFinal 49 rfl (gk_laysFinal 50 rfl (gk_laysFinal 51 rfl (gk_lays 52 rfl (gk_lays 53 rfl (gk_laysFinal 54 rfl (gk_laysFinal 55 rfl (gk_laysFinal 56 rfl (gk_lays 59 rfl (gk_laysFinal 60 rfl (gk_laysFinal 61 rfl (gk_laysFinal 62 rfl (gk_laysFinal 63 rfl (gn)))))))))))))))))))))))))))))))))))))
set_option maxRecDepth 20000 in
theorem gX5_tallyBy_X6_tallyFirstIn : GoodIn wsX5_tallyBy (wsV RX5 55 RX6 yX6_tallyFirstIn wsX6_tallyFirstIn) := goodIn_app (gk_methodLink 27 rfl (gk_instanceMethod 28 rfl (gk_selects 29 rfl (gk_initialized 17 rfl (gn))))) ggX5_tallyBy_X6_tallyFirstIn
theorem dX5_tallyBy_31 : decode cX5_tallyBy 31 = .ok (.return_, 1) := by decide +kernel
theorem dX5_tallyBy_17 : decode cX5_tallyBy 17 = .ok (.aload_n 0, 1) := by decide +kernel
theorem dX5_tallyBy_18 : decode cX5_tallyBy 18 = .ok (.invokevirtual 52, 3) := by decide +kernel
set_option maxRecDepth 20000 in
theorem ggX5_tallyBy_X5_tallyPlaces : GoodIn wsX5_tallyBy wsX5_tallyPlaces := (gk_code 25 rfl (gk_fieldLink 1 rfl (gk_fieldLink 8 rfl (gk_fieldLink 9 rfl (gk_fieldLink 7 rfl (gk_fieldLink 13 rfl (gk_fieldLink 11 rfl (gk_fieldLink 26 rfl (gk_fieldLink 10 rfl (gk_fieldLink 12 rfl (gk_methodLink 14 rfl (gk_instanceMethod 15 rfl (gk_selects 16 rfl (gk_initialized 17 rfl (gk_code 18 rfl (gk_fieldLink 19 rfl (gk_fieldLink 20 rfl (gk_fieldLink 21 rfl (gk_laysFinal 46 rfl (gk_laysFinal 47 rfl (gk_laysFinal 48 rfl (gk_laysFinal 49 rfl (gk_laysFinal 50 rfl (gk_laysFinal 51 rfl (gk_lays 52 rfl (gk_lays 53 rfl (gk_laysFinal 54 rfl (gk_laysFinal 55 rfl (gk_laysFinal 56 rfl (gk_lays 57 rfl (gk_laysFinal 58 rfl (gk_lays 59 rfl (gk_laysFinal 60 rfl (gk_laysFinal 61 rfl (gk_laysFinal 62 rfl (gk_laysFinal 63 rfl (gn)))))))))))))))))))))))))))))))))))))
set_option maxRecDepth 20000 in
theorem gX5_tallyBy_X5_tallyPlaces : GoodIn wsX5_tallyBy (wsV RX5 52 RX5 yX5_tallyPlaces wsX5_tallyPlaces) := goodIn_app (gk_methodLink 22 rfl (gk_instanceMethod 23 rfl (gk_selects 24 rfl (gk_initialized 5 rfl (gn))))) ggX5_tallyBy_X5_tallyPlaces
theorem dX5_tallyBy_21 : decode cX5_tallyBy 21 = .ok (.goto 10, 3) := by decide +kernel
theorem dX5_tallyBy_5 : decode cX5_tallyBy 5 = .ok (.aload_n 0, 1) := by decide +kernel
theorem dX5_tallyBy_6 : decode cX5_tallyBy 6 = .ok (.invokevirtual 49, 3) := by decide +kernel
set_option maxRecDepth 20000 in
theorem ggX5_tallyBy_X5_tallyPoints : GoodIn wsX5_tallyBy wsX5_tallyPoints := (gk_code 6 rfl (gk_fieldLink 1 rfl (gk_fieldLink 7 rfl (gk_fieldLink 8 rfl (gk_fieldLink 9 rfl (gk_fieldLink 10 rfl (gk_fieldLink 11 rfl (gk_fieldLink 12 rfl (gk_fieldLink 13 rfl (gk_methodLink 14 rfl (gk_instanceMethod 15 rfl (gk_selects 16 rfl (gk_initialized 17 rfl (gk_code 18 rfl (gk_fieldLink 19 rfl (gk_fieldLink 20 rfl (gk_fieldLink 21 rfl (gk_laysFinal 46 rfl (gk_laysFinal 47 rfl (gk_laysFinal 48 rfl (gk_laysFinal 49 rfl (gk_laysFinal 50 rfl (gk_laysFinal 51 rfl (gk_lays 52 rfl (gk_lays 53 rfl (gk_laysFinal 54 rfl (gk_laysFinal 55 rfl (gk_laysFinal 56 rfl (gk_lays 57 rfl (gk_laysFinal 58 rfl (gk_lays 59 rfl (gk_laysFinal 60 rfl (gk_laysFinal 61 rfl (gk_laysFinal 62 rfl (gk_laysFinal 63 rfl (gn))))))))))))))))))))))))))))))))))))
set_option maxRecDepth 20000 in
theorem gX5_tallyBy_X5_tallyPoints : GoodIn wsX5_tallyBy (wsV RX5 49 RX5 yX5_tallyPoints wsX5_tallyPoints) := goodIn_app (gk_methodLink 2 rfl (gk_instanceMethod 3 rfl (gk_selects 4 rfl (gk_initialized 5 rfl (gn))))) ggX5_tallyBy_X5_tallyPoints
theorem dX5_tallyBy_9 : decode cX5_tallyBy 9 = .ok (.goto 22, 3) := by decide +kernel
theorem dX5_isMoreByDivisor_0 : decode cX5_isMoreByDivisor 0 = .ok (.iconst 1, 1) := by decide +kernel
theorem dX5_isMoreByDivisor_1 : decode cX5_isMoreByDivisor 1 = .ok (.iload_n 3, 1) := by decide +kernel
theorem dX5_isMoreByDivisor_2 : decode cX5_isMoreByDivisor 2 = .ok (.aload_n 0, 1) := by decide +kernel
theorem dX5_isMoreByDivisor_3 : decode cX5_isMoreByDivisor 3 = .ok (.getfield 9, 3) := by decide +kernel
theorem in_X5_isMoreByDivisor_5 : ∀ w ∈ u_ws RX5 TX5 3, w ∈ wsX5_isMoreByDivisor := fun _ h => List.mem_cons_of_mem _ (List.mem_append_left _ (List.mem_append_right _ h))
theorem dX5_isMoreByDivisor_6 : decode cX5_isMoreByDivisor 6 = .ok (.iload_n 1, 1) := by decide +kernel
theorem dX5_isMoreByDivisor_7 : decode cX5_isMoreByDivisor 7 = .ok (.iaload, 1) := by decide +kernel
theorem dX5_isMoreByDivisor_8 : decode cX5_isMoreByDivisor 8 = .ok (.imul, 1) := by decide +kernel
theorem dX5_isMoreByDivisor_9 : decode cX5_isMoreByDivisor 9 = .ok (.iadd, 1) := by decide +kernel
theorem dX5_isMoreByDivisor_10 : decode cX5_isMoreByDivisor 10 = .ok (.i2l, 1) := by decide +kernel
theorem dX5_isMoreByDivisor_11 : decode cX5_isMoreByDivisor 11 = .ok (.lstore 4, 2) := by decide +kernel
theorem dX5_isMoreByDivisor_13 : decode cX5_isMoreByDivisor 13 = .ok (.iconst 1, 1) := by decide +kernel
theorem dX5_isMoreByDivisor_14 : decode cX5_isMoreByDivisor 14 = .ok (.iload_n 3, 1) := by decide +kernel
theorem dX5_isMoreByDivisor_15 : decode cX5_isMoreByDivisor 15 = .ok (.aload_n 0, 1) := by decide +kernel
theorem dX5_isMoreByDivisor_16 : decode cX5_isMoreByDivisor 16 = .ok (.getfield 9, 3) := by decide +kernel
theorem dX5_isMoreByDivisor_19 : decode cX5_isMoreByDivisor 19 = .ok (.iload_n 2, 1) := by decide +kernel
theorem dX5_isMoreByDivisor_20 : decode cX5_isMoreByDivisor 20 = .ok (.iaload, 1) := by decide +kernel
theorem dX5_isMoreByDivisor_21 : decode cX5_isMoreByDivisor 21 = .ok (.imul, 1) := by decide +kernel
theorem dX5_isMoreByDivisor_22 : decode cX5_isMoreByDivisor 22 = .ok (.iadd, 1) := by decide +kernel
theorem dX5_isMoreByDivisor_23 : decode cX5_isMoreByDivisor 23 = .ok (.i2l, 1) := by decide +kernel
theorem dX5_isMoreByDivisor_24 : decode cX5_isMoreByDivisor 24 = .ok (.lstore 6, 2) := by decide +kernel
theorem dX5_isMoreByDivisor_26 : decode cX5_isMoreByDivisor 26 = .ok (.aload_n 0, 1) := by decide +kernel
theorem dX5_isMoreByDivisor_27 : decode cX5_isMoreByDivisor 27 = .ok (.getfield 18, 3) := by decide +kernel
theorem dX5_isMoreByDivisor_30 : decode cX5_isMoreByDivisor 30 = .ok (.getfield 68, 3) := by decide +kernel
theorem in_X5_isMoreByDivisor_6 : ∀ w ∈ u_ws RX6 TX6 8, w ∈ wsX5_isMoreByDivisor := fun _ h => List.mem_cons_of_mem _ (List.mem_append_right _ h)
theorem dX5_isMoreByDivisor_33 : decode cX5_isMoreByDivisor 33 = .ok (.iload_n 1, 1) := by decide +kernel
theorem dX5_isMoreByDivisor_34 : decode cX5_isMoreByDivisor 34 = .ok (.laload, 1) := by decide +kernel
theorem dX5_isMoreByDivisor_35 : decode cX5_isMoreByDivisor 35 = .ok (.lload 6, 2) := by decide +kernel
theorem dX5_isMoreByDivisor_37 : decode cX5_isMoreByDivisor 37 = .ok (.lmul, 1) := by decide +kernel
theorem dX5_isMoreByDivisor_38 : decode cX5_isMoreByDivisor 38 = .ok (.aload_n 0, 1) := by decide +kernel
theorem dX5_isMoreByDivisor_39 : decode cX5_isMoreByDivisor 39 = .ok (.getfield 18, 3) := by decide +kernel
theorem dX5_isMoreByDivisor_42 : decode cX5_isMoreByDivisor 42 = .ok (.getfield 68, 3) := by decide +kernel
theorem dX5_isMoreByDivisor_45 : decode cX5_isMoreByDivisor 45 = .ok (.iload_n 2, 1) := by decide +kernel
theorem dX5_isMoreByDivisor_46 : decode cX5_isMoreByDivisor 46 = .ok (.laload, 1) := by decide +kernel
theorem dX5_isMoreByDivisor_47 : decode cX5_isMoreByDivisor 47 = .ok (.lload 4, 2) := by decide +kernel
theorem dX5_isMoreByDivisor_49 : decode cX5_isMoreByDivisor 49 = .ok (.lmul, 1) := by decide +kernel
theorem dX5_isMoreByDivisor_50 : decode cX5_isMoreByDivisor 50 = .ok (.lcmp, 1) := by decide +kernel
theorem dX5_isMoreByDivisor_51 : decode cX5_isMoreByDivisor 51 = .ok (.ifCond .le 7, 3) := by decide +kernel
theorem dX5_isMoreByDivisor_58 : decode cX5_isMoreByDivisor 58 = .ok (.iconst 0, 1) := by decide +kernel
theorem dX5_isMoreByDivisor_59 : decode cX5_isMoreByDivisor 59 = .ok (.ireturn, 1) := by decide +kernel
theorem dX5_isMoreByDivisor_54 : decode cX5_isMoreByDivisor 54 = .ok (.iconst 1, 1) := by decide +kernel
theorem dX5_isMoreByDivisor_55 : decode cX5_isMoreByDivisor 55 = .ok (.goto 4, 3) := by decide +kernel
theorem dX5_greatestByDivisor_0 : decode cX5_greatestByDivisor 0 = .ok (.bipush (-9), 2) := by decide +kernel
theorem dX5_greatestByDivisor_2 : decode cX5_greatestByDivisor 2 = .ok (.istore_n 2, 1) := by decide +kernel
theorem dX5_greatestByDivisor_3 : decode cX5_greatestByDivisor 3 = .ok (.iconst 0, 1) := by decide +kernel
theorem dX5_greatestByDivisor_4 : decode cX5_greatestByDivisor 4 = .ok (.istore_n 3, 1) := by decide +kernel
theorem dX5_greatestByDivisor_5 : decode cX5_greatestByDivisor 5 = .ok (.iload_n 3, 1) := by decide +kernel
theorem dX5_greatestByDivisor_6 : decode cX5_greatestByDivisor 6 = .ok (.aload_n 0, 1) := by decide +kernel
theorem dX5_greatestByDivisor_7 : decode cX5_greatestByDivisor 7 = .ok (.getfield 18, 3) := by decide +kernel
theorem in_X5_greatestByDivisor_5 : ∀ w ∈ u_ws RX5 TX5 3, w ∈ wsX5_greatestByDivisor := fun _ h => List.mem_cons_of_mem _ (List.mem_append_left _ (List.mem_append_left _ (List.mem_append_right _ h)))
theorem dX5_greatestByDivisor_10 : decode cX5_greatestByDivisor 10 = .ok (.getfield 61, 3) := by decide +kernel
theorem in_X5_greatestByDivisor_6 : ∀ w ∈ u_ws RX6 TX6 8, w ∈ wsX5_greatestByDivisor := fun _ h => List.mem_cons_of_mem _ (List.mem_append_left _ (List.mem_append_right _ h))
theorem dX5_greatestByDivisor_13 : decode cX5_greatestByDivisor 13 = .ok (.getfield 65, 3) := by decide +kernel
theorem in_X5_greatestByDivisor_2 : ∀ w ∈ u_ws RX2 TX2 2, w ∈ wsX5_greatestByDivisor := fun _ h => List.mem_cons_of_mem _ (List.mem_append_right _ h)
theorem dX5_greatestByDivisor_16 : decode cX5_greatestByDivisor 16 = .ok (.if_icmp .ge 43, 3) := by decide +kernel
theorem dX5_greatestByDivisor_59 : decode cX5_greatestByDivisor 59 = .ok (.iload_n 2, 1) := by decide +kernel
theorem dX5_greatestByDivisor_60 : decode cX5_greatestByDivisor 60 = .ok (.ireturn, 1) := by decide +kernel
theorem dX5_greatestByDivisor_19 : decode cX5_greatestByDivisor 19 = .ok (.aload_n 0, 1) := by decide +kernel
theorem dX5_greatestByDivisor_20 : decode cX5_greatestByDivisor 20 = .ok (.getfield 18, 3) := by decide +kernel
theorem dX5_greatestByDivisor_23 : decode cX5_greatestByDivisor 23 = .ok (.getfield 61, 3) := by decide +kernel
theorem dX5_greatestByDivisor_26 : decode cX5_greatestByDivisor 26 = .ok (.getfield 95, 3) := by decide +kernel
theorem dX5_greatestByDivisor_29 : decode cX5_greatestByDivisor 29 = .ok (.iload_n 3, 1) := by decide +kernel
theorem dX5_greatestByDivisor_30 : decode cX5_greatestByDivisor 30 = .ok (.iaload, 1) := by decide +kernel
theorem dX5_greatestByDivisor_31 : decode cX5_greatestByDivisor 31 = .ok (.istore 4, 2) := by decide +kernel
theorem dX5_greatestByDivisor_33 : decode cX5_greatestByDivisor 33 = .ok (.iload_n 2, 1) := by decide +kernel
theorem dX5_greatestByDivisor_34 : decode cX5_greatestByDivisor 34 = .ok (.bipush (-9), 2) := by decide +kernel
theorem dX5_greatestByDivisor_36 : decode cX5_greatestByDivisor 36 = .ok (.if_icmp .eq 14, 3) := by decide +kernel
theorem dX5_greatestByDivisor_50 : decode cX5_greatestByDivisor 50 = .ok (.iload 4, 2) := by decide +kernel
theorem dX5_greatestByDivisor_52 : decode cX5_greatestByDivisor 52 = .ok (.istore_n 2, 1) := by decide +kernel
theorem dX5_greatestByDivisor_53 : decode cX5_greatestByDivisor 53 = .ok (.iinc 3 1, 3) := by decide +kernel
theorem dX5_greatestByDivisor_56 : decode cX5_greatestByDivisor 56 = .ok (.goto (-51), 3) := by decide +kernel
theorem dX5_greatestByDivisor_39 : decode cX5_greatestByDivisor 39 = .ok (.aload_n 0, 1) := by decide +kernel
theorem dX5_greatestByDivisor_40 : decode cX5_greatestByDivisor 40 = .ok (.iload 4, 2) := by decide +kernel
theorem dX5_greatestByDivisor_42 : decode cX5_greatestByDivisor 42 = .ok (.iload_n 2, 1) := by decide +kernel
theorem dX5_greatestByDivisor_43 : decode cX5_greatestByDivisor 43 = .ok (.iload_n 1, 1) := by decide +kernel
theorem dX5_greatestByDivisor_44 : decode cX5_greatestByDivisor 44 = .ok (.invokevirtual 97, 3) := by decide +kernel
set_option maxRecDepth 20000 in
theorem ggX5_greatestByDivisor_X5_isMoreByDivisor : GoodIn wsX5_greatestByDivisor wsX5_isMoreByDivisor := (gk_code 9 rfl (gk_fieldLink 10 rfl (gk_fieldLink 1 rfl (gk_fieldLink 11 rfl (gk_laysFinal 12 rfl (gk_laysFinal 13 rfl (gk_laysFinal 14 rfl (gk_laysFinal 15 rfl (gk_laysFinal 16 rfl (gk_laysFinal 17 rfl (gk_lays 18 rfl (gk_lays 19 rfl (gk_laysFinal 20 rfl (gk_laysFinal 21 rfl (gk_laysFinal 22 rfl (gn))))))))))))))))
set_option maxRecDepth 20000 in
theorem gX5_greatestByDivisor_X5_isMoreByDivisor : GoodIn wsX5_greatestByDivisor (wsV RX5 97 RX5 yX5_isMoreByDivisor wsX5_isMoreByDivisor) := goodIn_app (gk_methodLink 5 rfl (gk_instanceMethod 6 rfl (gk_selects 7 rfl (gk_initialized 8 rfl (gn))))) ggX5_greatestByDivisor_X5_isMoreByDivisor
theorem dX5_greatestByDivisor_47 : decode cX5_greatestByDivisor 47 = .ok (.ifCond .eq 6, 3) := by decide +kernel
theorem dX5_seatByTallies_0 : decode cX5_seatByTallies 0 = .ok (.aload_n 0, 1) := by decide +kernel
theorem dX5_seatByTallies_1 : decode cX5_seatByTallies 1 = .ok (.iload_n 1, 1) := by decide +kernel
theorem dX5_seatByTallies_2 : decode cX5_seatByTallies 2 = .ok (.invokevirtual 22, 3) := by decide +kernel
set_option maxRecDepth 20000 in
theorem ggX5_seatByTallies_X5_tallyBy : GoodIn wsX5_seatByTallies wsX5_tallyBy := (gk_code 8 rfl (gk_fieldLink 1 rfl (gk_methodLink 9 rfl (gk_instanceMethod 10 rfl (gk_selects 11 rfl (gk_initialized 7 rfl (gk_code 12 rfl (gk_fieldLink 13 rfl (gk_fieldLink 14 rfl (gk_fieldLink 15 rfl (gk_fieldLink 16 rfl (gk_fieldLink 17 rfl (gk_fieldLink 18 rfl (gk_fieldLink 19 rfl (gk_methodLink 20 rfl (gk_instanceMethod 21 rfl (gk_selects 22 rfl (gk_initialized 23 rfl (gk_code 24 rfl (gk_fieldLink 25 rfl (gk_fieldLink 26 rfl (gk_fieldLink 27 rfl (gk_methodLink 28 rfl (gk_instanceMethod 29 rfl (gk_selects 30 rfl (gk_code 31 rfl (gk_fieldLink 32 rfl (gk_methodLink 33 rfl (gk_instanceMethod 34 rfl (gk_selects 35 rfl (gk_code 36 rfl (gk_fieldLink 37 rfl (gk_fieldLink 38 rfl (gk_methodLink 39 rfl (gk_instanceMethod 40 rfl (gk_selects 41 rfl (gk_code 42 rfl (gk_fieldLink 43 rfl (gk_methodLink 44 rfl (gk_instanceMethod 45 rfl (gk_selects 46 rfl (gk_code 47 rfl (gk_fieldLink 48 rfl (gk_fieldLink 49 rfl (gk_fieldLink 50 rfl (gk_methodLink 51 rfl (gk_laysFinal 85 rfl (gk_laysFinal 86 rfl (gk_laysFinal 87 rfl (gk_laysFinal 88 rfl (gk_laysFinal 89 rfl (gk_laysFinal 90 rfl (gk_lays 91 rfl (gk_lays 92 rfl (gk_laysFinal 93 rfl (gk_laysFinal 94 rfl (gk_laysFinal 95 rfl (gk_lays 96 rfl (gk_laysFinal 97 rfl (gk_lays 98 rfl (gk_laysFinal 99 rfl (gk_laysFinal 100 rfl (gk_laysFinal 101 rfl (gk_laysFinal 102 rfl (gn)))))))))))))))))))))))))))))))))))))))))))))))))))))))))))))))))
set_option maxRecDepth 20000 in
theorem gX5_seatByTallies_X5_tallyBy : GoodIn wsX5_seatByTallies (wsV RX5 22 RX5 yX5_tallyBy wsX5_tallyBy) := goodIn_app (gk_methodLink 4 rfl (gk_instanceMethod 5 rfl (gk_selects 6 rfl (gk_initialized 7 rfl (gn))))) ggX5_seatByTallies_X5_tallyBy
theorem dX5_seatByTallies_5 : decode cX5_seatByTallies 5 = .ok (.iconst 0, 1) := by decide +kernel
theorem dX5_seatByTallies_6 : decode cX5_seatByTallies 6 = .ok (.istore_n 3, 1) := by decide +kernel
theorem dX5_seatByTallies_7 : decode cX5_seatByTallies 7 = .ok (.iload_n 3, 1) := by decide +kernel
theorem dX5_seatByTallies_8 : decode cX5_seatByTallies 8 = .ok (.aload_n 0, 1) := by decide +kernel
theorem dX5_seatByTallies_9 : decode cX5_seatByTallies 9 = .ok (.getfield 18, 3) := by decide +kernel
theorem in_X5_seatByTallies_5 : ∀ w ∈ u_ws RX5 TX5 3, w ∈ wsX5_seatByTallies := fun _ h => List.mem_cons_of_mem _ (List.mem_append_left _ (List.mem_append_left _ (List.mem_append_left _ (List.mem_append_left _ (List.mem_append_right _ h)))))
theorem dX5_seatByTallies_12 : decode cX5_seatByTallies 12 = .ok (.getfield 26, 3) := by decide +kernel
theorem in_X5_seatByTallies_6 : ∀ w ∈ u_ws RX6 TX6 8, w ∈ wsX5_seatByTallies := fun _ h => List.mem_cons_of_mem _ (List.mem_append_left _ (List.mem_append_left _ (List.mem_append_left _ (List.mem_append_right _ h))))
theorem dX5_seatByTallies_15 : decode cX5_seatByTallies 15 = .ok (.if_icmp .ge 54, 3) := by decide +kernel
theorem dX5_seatByTallies_69 : decode cX5_seatByTallies 69 = .ok (.return_, 1) := by decide +kernel
theorem dX5_seatByTallies_18 : decode cX5_seatByTallies 18 = .ok (.aload_n 0, 1) := by decide +kernel
theorem dX5_seatByTallies_19 : decode cX5_seatByTallies 19 = .ok (.getfield 18, 3) := by decide +kernel
theorem dX5_seatByTallies_22 : decode cX5_seatByTallies 22 = .ok (.invokevirtual 32, 3) := by decide +kernel
set_option maxRecDepth 20000 in
theorem ggX5_seatByTallies_X6_greatestIn : GoodIn wsX5_seatByTallies wsX6_greatestIn := (gk_code 55 rfl (gk_fieldLink 56 rfl (gk_fieldLink 57 rfl (gk_fieldLink 58 rfl (gk_fieldLink 50 rfl (gk_methodLink 59 rfl (gk_instanceMethod 60 rfl (gk_selects 61 rfl (gk_initialized 23 rfl (gk_code 62 rfl (gk_fieldLink 38 rfl (gk_fieldLink 43 rfl (gk_methodLink 63 rfl (gk_static 64 rfl (gk_initialized 65 rfl (gk_code 66 rfl (gk_laysFinal 88 rfl (gk_laysFinal 89 rfl (gk_laysFinal 90 rfl (gk_lays 91 rfl (gk_lays 92 rfl (gk_laysFinal 93 rfl (gk_laysFinal 94 rfl (gk_laysFinal 95 rfl (gk_lays 96 rfl (gk_laysFinal 97 rfl (gn)))))))))))))))))))))))))))
set_option maxRecDepth 20000 in
theorem gX5_seatByTallies_X6_greatestIn : GoodIn wsX5_seatByTallies (wsV RX5 32 RX6 yX6_greatestIn wsX6_greatestIn) := goodIn_app (gk_methodLink 52 rfl (gk_instanceMethod 53 rfl (gk_selects 54 rfl (gk_initialized 23 rfl (gn))))) ggX5_seatByTallies_X6_greatestIn
theorem dX5_seatByTallies_25 : decode cX5_seatByTallies 25 = .ok (.istore 4, 2) := by decide +kernel
theorem dX5_seatByTallies_27 : decode cX5_seatByTallies 27 = .ok (.iload 4, 2) := by decide +kernel
theorem dX5_seatByTallies_29 : decode cX5_seatByTallies 29 = .ok (.bipush (-9), 2) := by decide +kernel
theorem dX5_seatByTallies_31 : decode cX5_seatByTallies 31 = .ok (.if_icmp .ne 4, 3) := by decide +kernel
theorem dX5_seatByTallies_35 : decode cX5_seatByTallies 35 = .ok (.aload_n 2, 1) := by decide +kernel
theorem dX5_seatByTallies_36 : decode cX5_seatByTallies 36 = .ok (.iconst 1, 1) := by decide +kernel
theorem dX5_seatByTallies_37 : decode cX5_seatByTallies 37 = .ok (.iload 4, 2) := by decide +kernel
theorem dX5_seatByTallies_39 : decode cX5_seatByTallies 39 = .ok (.aload_n 0, 1) := by decide +kernel
theorem dX5_seatByTallies_40 : decode cX5_seatByTallies 40 = .ok (.getfield 18, 3) := by decide +kernel
theorem dX5_seatByTallies_43 : decode cX5_seatByTallies 43 = .ok (.invokevirtual 36, 3) := by decide +kernel
set_option maxRecDepth 20000 in
theorem ggX5_seatByTallies_X7_note : GoodIn wsX5_seatByTallies wsX7_note := (gk_code 71 rfl (gk_fieldLink 72 rfl (gk_fieldLink 73 rfl (gk_fieldLink 74 rfl (gk_fieldLink 75 rfl (gk_fieldLink 76 rfl (gk_fieldLink 77 rfl (gk_fieldLink 78 rfl (gk_lays 103 rfl (gk_laysFinal 104 rfl (gk_lays 105 rfl (gk_laysFinal 106 rfl (gk_laysFinal 107 rfl (gk_laysFinal 108 rfl (gk_laysFinal 109 rfl (gk_laysFinal 88 rfl (gk_laysFinal 89 rfl (gk_laysFinal 90 rfl (gk_lays 91 rfl (gk_lays 92 rfl (gk_laysFinal 93 rfl (gk_laysFinal 94 rfl (gk_laysFinal 95 rfl (gn))))))))))))))))))))))))
set_option maxRecDepth 20000 in
theorem gX5_seatByTallies_X7_note : GoodIn wsX5_seatByTallies (wsV RX5 36 RX7 yX7_note wsX7_note) := goodIn_app (gk_methodLink 67 rfl (gk_instanceMethod 68 rfl (gk_selects 69 rfl (gk_initialized 70 rfl (gn))))) ggX5_seatByTallies_X7_note
theorem dX5_seatByTallies_46 : decode cX5_seatByTallies 46 = .ok (.aload_n 2, 1) := by decide +kernel
theorem dX5_seatByTallies_47 : decode cX5_seatByTallies 47 = .ok (.iload 4, 2) := by decide +kernel
theorem dX5_seatByTallies_49 : decode cX5_seatByTallies 49 = .ok (.invokevirtual 42, 3) := by decide +kernel
set_option maxRecDepth 20000 in
theorem ggX5_seatByTallies_X7_give : GoodIn wsX5_seatByTallies wsX7_give := (gk_code 82 rfl (gk_fieldLink 83 rfl (gk_fieldLink 84 rfl (gk_lays 103 rfl (gk_laysFinal 104 rfl (gk_lays 105 rfl (gk_laysFinal 106 rfl (gk_laysFinal 107 rfl (gk_laysFinal 108 rfl (gk_laysFinal 109 rfl (gn)))))))))))
set_option maxRecDepth 20000 in
theorem gX5_seatByTallies_X7_give : GoodIn wsX5_seatByTallies (wsV RX5 42 RX7 yX7_give wsX7_give) := goodIn_app (gk_methodLink 79 rfl (gk_instanceMethod 80 rfl (gk_selects 81 rfl (gk_initialized 70 rfl (gn))))) ggX5_seatByTallies_X7_give
theorem dX5_seatByTallies_52 : decode cX5_seatByTallies 52 = .ok (.aload_n 0, 1) := by decide +kernel
theorem dX5_seatByTallies_53 : decode cX5_seatByTallies 53 = .ok (.getfield 18, 3) := by decide +kernel
theorem dX5_seatByTallies_56 : decode cX5_seatByTallies 56 = .ok (.getfield 45, 3) := by decide +kernel
theorem dX5_seatByTallies_59 : decode cX5_seatByTallies 59 = .ok (.iload 4, 2) := by decide +kernel
theorem dX5_seatByTallies_61 : decode cX5_seatByTallies 61 = .ok (.iconst 0, 1) := by decide +kernel
theorem dX5_seatByTallies_62 : decode cX5_seatByTallies 62 = .ok (.bastore, 1) := by decide +kernel
theorem dX5_seatByTallies_63 : decode cX5_seatByTallies 63 = .ok (.iinc 3 1, 3) := by decide +kernel
theorem dX5_seatByTallies_66 : decode cX5_seatByTallies 66 = .ok (.goto (-59), 3) := by decide +kernel
theorem dX5_seatByTallies_34 : decode cX5_seatByTallies 34 = .ok (.return_, 1) := by decide +kernel
theorem dX5_seatByDivisors_0 : decode cX5_seatByDivisors 0 = .ok (.aload_n 0, 1) := by decide +kernel
theorem dX5_seatByDivisors_1 : decode cX5_seatByDivisors 1 = .ok (.getfield 18, 3) := by decide +kernel
theorem in_X5_seatByDivisors_5 : ∀ w ∈ u_ws RX5 TX5 3, w ∈ wsX5_seatByDivisors := fun _ h => List.mem_cons_of_mem _ (List.mem_append_left _ (List.mem_append_left _ (List.mem_append_left _ (List.mem_append_left _ (List.mem_append_right _ h)))))
theorem dX5_seatByDivisors_4 : decode cX5_seatByDivisors 4 = .ok (.invokevirtual 55, 3) := by decide +kernel
set_option maxRecDepth 20000 in
theorem ggX5_seatByDivisors_X6_tallyFirstIn : GoodIn wsX5_seatByDivisors wsX6_tallyFirstIn := (gk_code 8 rfl (gk_fieldLink 9 rfl (gk_fieldLink 10 rfl (gk_methodLink 11 rfl (gk_instanceMethod 12 rfl (gk_selects 13 rfl (gk_initialized 7 rfl (gk_code 14 rfl (gk_fieldLink 15 rfl (gk_methodLink 16 rfl (gk_instanceMethod 17 rfl (gk_selects 18 rfl (gk_code 19 rfl (gk_fieldLink 20 rfl (gk_fieldLink 21 rfl (gk_fieldLink 22 rfl (gk_fieldLink 23 rfl (gk_fieldLink 24 rfl (gk_methodLink 25 rfl (gk_instanceMethod 26 rfl (gk_selects 27 rfl (gk_code 28 rfl (gk_fieldLink 29 rfl (gk_laysFinal 64 rfl (gk_laysFinal 65 rfl (gk_laysFinal 66 rfl (gk_lays 67 rfl (gk_lays 68 rfl (gk_laysFinal 69 rfl (gk_laysFinal 70 rfl (gk_laysFinal 71 rfl (gk_lays 72 rfl (gk_laysFinal 73 rfl (gk_laysFinal 74 rfl (gk_laysFinal 75 rfl (gk_laysFinal 76 rfl (gn)))))))))))))))))))))))))))))))))))))
set_option maxRecDepth 20000 in
theorem gX5_seatByDivisors_X6_tallyFirstIn : GoodIn wsX5_seatByDivisors (wsV RX5 55 RX6 yX6_tallyFirstIn wsX6_tallyFirstIn) := goodIn_app (gk_methodLink 4 rfl (gk_instanceMethod 5 rfl (gk_selects 6 rfl (gk_initialized 7 rfl (gn))))) ggX5_seatByDivisors_X6_tallyFirstIn
theorem dX5_seatByDivisors_7 : decode cX5_seatByDivisors 7 = .ok (.iconst 0, 1) := by decide +kernel
theorem dX5_seatByDivisors_8 : decode cX5_seatByDivisors 8 = .ok (.istore_n 3, 1) := by decide +kernel
theorem dX5_seatByDivisors_9 : decode cX5_seatByDivisors 9 = .ok (.iload_n 3, 1) := by decide +kernel
theorem dX5_seatByDivisors_10 : decode cX5_seatByDivisors 10 = .ok (.bipush 10, 2) := by decide +kernel
theorem dX5_seatByDivisors_12 : decode cX5_seatByDivisors 12 = .ok (.if_icmp .ge 16, 3) := by decide +kernel
theorem dX5_seatByDivisors_28 : decode cX5_seatByDivisors 28 = .ok (.iconst 0, 1) := by decide +kernel
theorem dX5_seatByDivisors_29 : decode cX5_seatByDivisors 29 = .ok (.istore_n 3, 1) := by decide +kernel
theorem dX5_seatByDivisors_30 : decode cX5_seatByDivisors 30 = .ok (.iload_n 3, 1) := by decide +kernel
theorem dX5_seatByDivisors_31 : decode cX5_seatByDivisors 31 = .ok (.aload_n 0, 1) := by decide +kernel
theorem dX5_seatByDivisors_32 : decode cX5_seatByDivisors 32 = .ok (.getfield 18, 3) := by decide +kernel
theorem dX5_seatByDivisors_35 : decode cX5_seatByDivisors 35 = .ok (.getfield 26, 3) := by decide +kernel
theorem in_X5_seatByDivisors_6 : ∀ w ∈ u_ws RX6 TX6 8, w ∈ wsX5_seatByDivisors := fun _ h => List.mem_cons_of_mem _ (List.mem_append_left _ (List.mem_append_left _ (List.mem_append_left _ (List.mem_append_right _ h))))
theorem dX5_seatByDivisors_38 : decode cX5_seatByDivisors 38 = .ok (.if_icmp .ge 52, 3) := by decide +kernel
theorem dX5_seatByDivisors_90 : decode cX5_seatByDivisors 90 = .ok (.return_, 1) := by decide +kernel
theorem dX5_seatByDivisors_41 : decode cX5_seatByDivisors 41 = .ok (.aload_n 0, 1) := by decide +kernel
theorem dX5_seatByDivisors_42 : decode cX5_seatByDivisors 42 = .ok (.iload_n 1, 1) := by decide +kernel
theorem dX5_seatByDivisors_43 : decode cX5_seatByDivisors 43 = .ok (.invokevirtual 92, 3) := by decide +kernel
set_option maxRecDepth 20000 in
theorem ggX5_seatByDivisors_X5_greatestByDivisor : GoodIn wsX5_seatByDivisors wsX5_greatestByDivisor := (gk_code 34 rfl (gk_fieldLink 1 rfl (gk_fieldLink 35 rfl (gk_fieldLink 36 rfl (gk_fieldLink 37 rfl (gk_methodLink 38 rfl (gk_instanceMethod 39 rfl (gk_selects 40 rfl (gk_initialized 33 rfl (gk_code 41 rfl (gk_fieldLink 2 rfl (gk_fieldLink 42 rfl (gk_laysFinal 61 rfl (gk_laysFinal 62 rfl (gk_laysFinal 63 rfl (gk_laysFinal 64 rfl (gk_laysFinal 65 rfl (gk_laysFinal 66 rfl (gk_lays 67 rfl (gk_lays 68 rfl (gk_laysFinal 69 rfl (gk_laysFinal 70 rfl (gk_laysFinal 71 rfl (gk_lays 77 rfl (gk_laysFinal 78 rfl (gn))))))))))))))))))))))))))
set_option maxRecDepth 20000 in
theorem gX5_seatByDivisors_X5_greatestByDivisor : GoodIn wsX5_seatByDivisors (wsV RX5 92 RX5 yX5_greatestByDivisor wsX5_greatestByDivisor) := goodIn_app (gk_methodLink 30 rfl (gk_instanceMethod 31 rfl (gk_selects 32 rfl (gk_initialized 33 rfl (gn))))) ggX5_seatByDivisors_X5_greatestByDivisor
theorem dX5_seatByDivisors_46 : decode cX5_seatByDivisors 46 = .ok (.istore 4, 2) := by decide +kernel
theorem dX5_seatByDivisors_48 : decode cX5_seatByDivisors 48 = .ok (.iload 4, 2) := by decide +kernel
theorem dX5_seatByDivisors_50 : decode cX5_seatByDivisors 50 = .ok (.bipush (-9), 2) := by decide +kernel
theorem dX5_seatByDivisors_52 : decode cX5_seatByDivisors 52 = .ok (.if_icmp .ne 4, 3) := by decide +kernel
theorem dX5_seatByDivisors_56 : decode cX5_seatByDivisors 56 = .ok (.aload_n 2, 1) := by decide +kernel
theorem dX5_seatByDivisors_57 : decode cX5_seatByDivisors 57 = .ok (.iconst 1, 1) := by decide +kernel
theorem dX5_seatByDivisors_58 : decode cX5_seatByDivisors 58 = .ok (.iload 4, 2) := by decide +kernel
theorem dX5_seatByDivisors_60 : decode cX5_seatByDivisors 60 = .ok (.aload_n 0, 1) := by decide +kernel
theorem dX5_seatByDivisors_61 : decode cX5_seatByDivisors 61 = .ok (.getfield 18, 3) := by decide +kernel
theorem dX5_seatByDivisors_64 : decode cX5_seatByDivisors 64 = .ok (.invokevirtual 36, 3) := by decide +kernel
set_option maxRecDepth 20000 in
theorem ggX5_seatByDivisors_X7_note : GoodIn wsX5_seatByDivisors wsX7_note := (gk_code 47 rfl (gk_fieldLink 48 rfl (gk_fieldLink 49 rfl (gk_fieldLink 50 rfl (gk_fieldLink 51 rfl (gk_fieldLink 52 rfl (gk_fieldLink 53 rfl (gk_fieldLink 54 rfl (gk_lays 79 rfl (gk_laysFinal 80 rfl (gk_lays 81 rfl (gk_laysFinal 82 rfl (gk_laysFinal 83 rfl (gk_laysFinal 84 rfl (gk_laysFinal 85 rfl (gk_laysFinal 64 rfl (gk_laysFinal 65 rfl (gk_laysFinal 66 rfl (gk_lays 67 rfl (gk_lays 68 rfl (gk_laysFinal 69 rfl (gk_laysFinal 70 rfl (gk_laysFinal 71 rfl (gn))))))))))))))))))))))))
set_option maxRecDepth 20000 in
theorem gX5_seatByDivisors_X7_note : GoodIn wsX5_seatByDivisors (wsV RX5 36 RX7 yX7_note wsX7_note) := goodIn_app (gk_methodLink 43 rfl (gk_instanceMethod 44 rfl (gk_selects 45 rfl (gk_initialized 46 rfl (gn))))) ggX5_seatByDivisors_X7_note
theorem dX5_seatByDivisors_67 : decode cX5_seatByDivisors 67 = .ok (.aload_n 2, 1) := by decide +kernel
theorem dX5_seatByDivisors_68 : decode cX5_seatByDivisors 68 = .ok (.iload 4, 2) := by decide +kernel
theorem dX5_seatByDivisors_70 : decode cX5_seatByDivisors 70 = .ok (.invokevirtual 42, 3) := by decide +kernel
set_option maxRecDepth 20000 in
theorem ggX5_seatByDivisors_X7_give : GoodIn wsX5_seatByDivisors wsX7_give := (gk_code 58 rfl (gk_fieldLink 59 rfl (gk_fieldLink 60 rfl (gk_lays 79 rfl (gk_laysFinal 80 rfl (gk_lays 81 rfl (gk_laysFinal 82 rfl (gk_laysFinal 83 rfl (gk_laysFinal 84 rfl (gk_laysFinal 85 rfl (gn)))))))))))
set_option maxRecDepth 20000 in
theorem gX5_seatByDivisors_X7_give : GoodIn wsX5_seatByDivisors (wsV RX5 42 RX7 yX7_give wsX7_give) := goodIn_app (gk_methodLink 55 rfl (gk_instanceMethod 56 rfl (gk_selects 57 rfl (gk_initialized 46 rfl (gn))))) ggX5_seatByDivisors_X7_give
theorem dX5_seatByDivisors_73 : decode cX5_seatByDivisors 73 = .ok (.aload_n 0, 1) := by decide +kernel
theorem dX5_seatByDivisors_74 : decode cX5_seatByDivisors 74 = .ok (.getfield 9, 3) := by decide +kernel
theorem dX5_seatByDivisors_77 : decode cX5_seatByDivisors 77 = .ok (.iload 4, 2) := by decide +kernel
theorem dX5_seatByDivisors_79 : decode cX5_seatByDivisors 79 = .ok (.dup2, 1) := by decide +kernel
theorem dX5_seatByDivisors_80 : decode cX5_seatByDivisors 80 = .ok (.iaload, 1) := by decide +kernel
theorem dX5_seatByDivisors_81 : decode cX5_seatByDivisors 81 = .ok (.iconst 1, 1) := by decide +kernel
theorem dX5_seatByDivisors_82 : decode cX5_seatByDivisors 82 = .ok (.iadd, 1) := by decide +kernel
theorem dX5_seatByDivisors_83 : decode cX5_seatByDivisors 83 = .ok (.iastore, 1) := by decide +kernel
theorem dX5_seatByDivisors_84 : decode cX5_seatByDivisors 84 = .ok (.iinc 3 1, 3) := by decide +kernel
theorem dX5_seatByDivisors_87 : decode cX5_seatByDivisors 87 = .ok (.goto (-57), 3) := by decide +kernel
theorem dX5_seatByDivisors_55 : decode cX5_seatByDivisors 55 = .ok (.return_, 1) := by decide +kernel
theorem dX5_seatByDivisors_15 : decode cX5_seatByDivisors 15 = .ok (.aload_n 0, 1) := by decide +kernel
theorem dX5_seatByDivisors_16 : decode cX5_seatByDivisors 16 = .ok (.getfield 9, 3) := by decide +kernel
theorem dX5_seatByDivisors_19 : decode cX5_seatByDivisors 19 = .ok (.iload_n 3, 1) := by decide +kernel
theorem dX5_seatByDivisors_20 : decode cX5_seatByDivisors 20 = .ok (.iconst 0, 1) := by decide +kernel
theorem dX5_seatByDivisors_21 : decode cX5_seatByDivisors 21 = .ok (.iastore, 1) := by decide +kernel
theorem dX5_seatByDivisors_22 : decode cX5_seatByDivisors 22 = .ok (.iinc 3 1, 3) := by decide +kernel
theorem dX5_seatByDivisors_25 : decode cX5_seatByDivisors 25 = .ok (.goto (-16), 3) := by decide +kernel
theorem dX5_runOff_0 : decode cX5_runOff 0 = .ok (.aload_n 0, 1) := by decide +kernel
theorem dX5_runOff_1 : decode cX5_runOff 1 = .ok (.getfield 18, 3) := by decide +kernel
theorem in_X5_runOff_5 : ∀ w ∈ u_ws RX5 TX5 3, w ∈ wsX5_runOff := fun _ h => List.mem_cons_of_mem _ (List.mem_append_left _ (List.mem_append_left _ (List.mem_append_left _ (List.mem_append_left _ (List.mem_append_right _ h)))))
theorem dX5_runOff_4 : decode cX5_runOff 4 = .ok (.getfield 61, 3) := by decide +kernel
theorem in_X5_runOff_6 : ∀ w ∈ u_ws RX6 TX6 8, w ∈ wsX5_runOff := fun _ h => List.mem_cons_of_mem _ (List.mem_append_left _ (List.mem_append_left _ (List.mem_append_left _ (List.mem_append_right _ h))))
theorem dX5_runOff_7 : decode cX5_runOff 7 = .ok (.getfield 65, 3) := by decide +kernel
theorem in_X5_runOff_2 : ∀ w ∈ u_ws RX2 TX2 2, w ∈ wsX5_runOff := fun _ h => List.mem_cons_of_mem _ (List.mem_append_left _ (List.mem_append_left _ (List.mem_append_right _ h)))
theorem dX5_runOff_10 : decode cX5_runOff 10 = .ok (.iconst 1, 1) := by decide +kernel
theorem dX5_runOff_11 : decode cX5_runOff 11 = .ok (.isub, 1) := by decide +kernel
theorem dX5_runOff_12 : decode cX5_runOff 12 = .ok (.istore_n 2, 1) := by decide +kernel
theorem dX5_runOff_13 : decode cX5_runOff 13 = .ok (.iconst 0, 1) := by decide +kernel
theorem dX5_runOff_14 : decode cX5_runOff 14 = .ok (.istore_n 3, 1) := by decide +kernel
theorem dX5_runOff_15 : decode cX5_runOff 15 = .ok (.iload_n 3, 1) := by decide +kernel
theorem dX5_runOff_16 : decode cX5_runOff 16 = .ok (.iload_n 2, 1) := by decide +kernel
theorem dX5_runOff_17 : decode cX5_runOff 17 = .ok (.if_icmp .ge 63, 3) := by decide +kernel
theorem dX5_runOff_80 : decode cX5_runOff 80 = .ok (.aload_n 0, 1) := by decide +kernel
theorem dX5_runOff_81 : decode cX5_runOff 81 = .ok (.getfield 18, 3) := by decide +kernel
theorem dX5_runOff_84 : decode cX5_runOff 84 = .ok (.invokevirtual 55, 3) := by decide +kernel
set_option maxRecDepth 20000 in
theorem ggX5_runOff_X6_tallyFirstIn : GoodIn wsX5_runOff wsX6_tallyFirstIn := (gk_code 11 rfl (gk_fieldLink 12 rfl (gk_fieldLink 13 rfl (gk_methodLink 14 rfl (gk_instanceMethod 15 rfl (gk_selects 16 rfl (gk_initialized 10 rfl (gk_code 17 rfl (gk_fieldLink 18 rfl (gk_methodLink 19 rfl (gk_instanceMethod 20 rfl (gk_selects 21 rfl (gk_code 22 rfl (gk_fieldLink 23 rfl (gk_fieldLink 24 rfl (gk_fieldLink 25 rfl (gk_fieldLink 26 rfl (gk_fieldLink 27 rfl (gk_methodLink 28 rfl (gk_instanceMethod 29 rfl (gk_selects 30 rfl (gk_code 31 rfl (gk_fieldLink 32 rfl (gk_laysFinal 73 rfl (gk_laysFinal 74 rfl (gk_laysFinal 75 rfl (gk_lays 76 rfl (gk_lays 77 rfl (gk_laysFinal 78 rfl (gk_laysFinal 79 rfl (gk_laysFinal 80 rfl (gk_lays 83 rfl (gk_laysFinal 84 rfl (gk_laysFinal 85 rfl (gk_laysFinal 86 rfl (gk_laysFinal 87 rfl (gn)))))))))))))))))))))))))))))))))))))
set_option maxRecDepth 20000 in
theorem gX5_runOff_X6_tallyFirstIn : GoodIn wsX5_runOff (wsV RX5 55 RX6 yX6_tallyFirstIn wsX6_tallyFirstIn) := goodIn_app (gk_methodLink 7 rfl (gk_instanceMethod 8 rfl (gk_selects 9 rfl (gk_initialized 10 rfl (gn))))) ggX5_runOff_X6_tallyFirstIn
theorem dX5_runOff_87 : decode cX5_runOff 87 = .ok (.aload_n 0, 1) := by decide +kernel
theorem dX5_runOff_88 : decode cX5_runOff 88 = .ok (.getfield 18, 3) := by decide +kernel
theorem dX5_runOff_91 : decode cX5_runOff 91 = .ok (.invokevirtual 32, 3) := by decide +kernel
set_option maxRecDepth 20000 in
theorem ggX5_runOff_X6_greatestIn : GoodIn wsX5_runOff wsX6_greatestIn := (gk_code 63 rfl (gk_fieldLink 37 rfl (gk_fieldLink 38 rfl (gk_fieldLink 39 rfl (gk_fieldLink 27 rfl (gk_methodLink 40 rfl (gk_instanceMethod 41 rfl (gk_selects 42 rfl (gk_initialized 10 rfl (gk_code 43 rfl (gk_fieldLink 13 rfl (gk_fieldLink 18 rfl (gk_methodLink 44 rfl (gk_static 45 rfl (gk_initialized 46 rfl (gk_code 47 rfl (gk_laysFinal 73 rfl (gk_laysFinal 74 rfl (gk_laysFinal 75 rfl (gk_lays 76 rfl (gk_lays 77 rfl (gk_laysFinal 78 rfl (gk_laysFinal 79 rfl (gk_laysFinal 80 rfl (gk_lays 81 rfl (gk_laysFinal 82 rfl (gn)))))))))))))))))))))))))))
set_option maxRecDepth 20000 in
theorem gX5_runOff_X6_greatestIn : GoodIn wsX5_runOff (wsV RX5 32 RX6 yX6_greatestIn wsX6_greatestIn) := goodIn_app (gk_methodLink 60 rfl (gk_instanceMethod 61 rfl (gk_selects 62 rfl (gk_initialized 10 rfl (gn))))) ggX5_runOff_X6_greatestIn
theorem dX5_runOff_94 : decode cX5_runOff 94 = .ok (.istore_n 3, 1) := by decide +kernel
theorem dX5_runOff_95 : decode cX5_runOff 95 = .ok (.aload_n 1, 1) := by decide +kernel
theorem dX5_runOff_96 : decode cX5_runOff 96 = .ok (.iconst 1, 1) := by decide +kernel
theorem dX5_runOff_97 : decode cX5_runOff 97 = .ok (.iload_n 3, 1) := by decide +kernel
theorem dX5_runOff_98 : decode cX5_runOff 98 = .ok (.aload_n 0, 1) := by decide +kernel
theorem dX5_runOff_99 : decode cX5_runOff 99 = .ok (.getfield 18, 3) := by decide +kernel
theorem dX5_runOff_102 : decode cX5_runOff 102 = .ok (.invokevirtual 36, 3) := by decide +kernel
set_option maxRecDepth 20000 in
theorem ggX5_runOff_X7_note : GoodIn wsX5_runOff wsX7_note := (gk_code 52 rfl (gk_fieldLink 53 rfl (gk_fieldLink 54 rfl (gk_fieldLink 55 rfl (gk_fieldLink 56 rfl (gk_fieldLink 57 rfl (gk_fieldLink 58 rfl (gk_fieldLink 59 rfl (gk_lays 88 rfl (gk_laysFinal 89 rfl (gk_lays 90 rfl (gk_laysFinal 91 rfl (gk_laysFinal 92 rfl (gk_laysFinal 93 rfl (gk_laysFinal 94 rfl (gk_laysFinal 73 rfl (gk_laysFinal 74 rfl (gk_laysFinal 75 rfl (gk_lays 76 rfl (gk_lays 77 rfl (gk_laysFinal 78 rfl (gk_laysFinal 79 rfl (gk_laysFinal 80 rfl (gn))))))))))))))))))))))))
set_option maxRecDepth 20000 in
theorem gX5_runOff_X7_note : GoodIn wsX5_runOff (wsV RX5 36 RX7 yX7_note wsX7_note) := goodIn_app (gk_methodLink 48 rfl (gk_instanceMethod 49 rfl (gk_selects 50 rfl (gk_initialized 51 rfl (gn))))) ggX5_runOff_X7_note
theorem dX5_runOff_105 : decode cX5_runOff 105 = .ok (.aload_n 1, 1) := by decide +kernel
theorem dX5_runOff_106 : decode cX5_runOff 106 = .ok (.iload_n 3, 1) := by decide +kernel
theorem dX5_runOff_107 : decode cX5_runOff 107 = .ok (.invokevirtual 42, 3) := by decide +kernel
set_option maxRecDepth 20000 in
theorem ggX5_runOff_X7_give : GoodIn wsX5_runOff wsX7_give := (gk_code 67 rfl (gk_fieldLink 68 rfl (gk_fieldLink 69 rfl (gk_lays 88 rfl (gk_laysFinal 89 rfl (gk_lays 90 rfl (gk_laysFinal 91 rfl (gk_laysFinal 92 rfl (gk_laysFinal 93 rfl (gk_laysFinal 94 rfl (gn)))))))))))
set_option maxRecDepth 20000 in
theorem gX5_runOff_X7_give : GoodIn wsX5_runOff (wsV RX5 42 RX7 yX7_give wsX7_give) := goodIn_app (gk_methodLink 64 rfl (gk_instanceMethod 65 rfl (gk_selects 66 rfl (gk_initialized 51 rfl (gn))))) ggX5_runOff_X7_give
theorem dX5_runOff_110 : decode cX5_runOff 110 = .ok (.iconst 1, 1) := by decide +kernel
theorem dX5_runOff_111 : decode cX5_runOff 111 = .ok (.istore 4, 2) := by decide +kernel
theorem dX5_runOff_113 : decode cX5_runOff 113 = .ok (.iload 4, 2) := by decide +kernel
theorem dX5_runOff_115 : decode cX5_runOff 115 = .ok (.aload_n 0, 1) := by decide +kernel
theorem dX5_runOff_116 : decode cX5_runOff 116 = .ok (.getfield 18, 3) := by decide +kernel
theorem dX5_runOff_119 : decode cX5_runOff 119 = .ok (.getfield 26, 3) := by decide +kernel
theorem dX5_runOff_122 : decode cX5_runOff 122 = .ok (.if_icmp .ge 28, 3) := by decide +kernel
theorem dX5_runOff_150 : decode cX5_runOff 150 = .ok (.return_, 1) := by decide +kernel
theorem dX5_runOff_125 : decode cX5_runOff 125 = .ok (.iload 4, 2) := by decide +kernel
theorem dX5_runOff_127 : decode cX5_runOff 127 = .ok (.iload_n 2, 1) := by decide +kernel
theorem dX5_runOff_128 : decode cX5_runOff 128 = .ok (.if_icmp .gt 22, 3) := by decide +kernel
theorem dX5_runOff_131 : decode cX5_runOff 131 = .ok (.aload_n 1, 1) := by decide +kernel
theorem dX5_runOff_132 : decode cX5_runOff 132 = .ok (.aload_n 0, 1) := by decide +kernel
theorem dX5_runOff_133 : decode cX5_runOff 133 = .ok (.getfield 15, 3) := by decide +kernel
theorem dX5_runOff_136 : decode cX5_runOff 136 = .ok (.iload_n 2, 1) := by decide +kernel
theorem dX5_runOff_137 : decode cX5_runOff 137 = .ok (.iload 4, 2) := by decide +kernel
theorem dX5_runOff_139 : decode cX5_runOff 139 = .ok (.isub, 1) := by decide +kernel
theorem dX5_runOff_140 : decode cX5_runOff 140 = .ok (.iaload, 1) := by decide +kernel
theorem dX5_runOff_141 : decode cX5_runOff 141 = .ok (.invokevirtual 42, 3) := by decide +kernel
theorem dX5_runOff_144 : decode cX5_runOff 144 = .ok (.iinc 4 1, 3) := by decide +kernel
theorem dX5_runOff_147 : decode cX5_runOff 147 = .ok (.goto (-34), 3) := by decide +kernel
theorem dX5_runOff_20 : decode cX5_runOff 20 = .ok (.aload_n 0, 1) := by decide +kernel
theorem dX5_runOff_21 : decode cX5_runOff 21 = .ok (.getfield 18, 3) := by decide +kernel
theorem dX5_runOff_24 : decode cX5_runOff 24 = .ok (.invokevirtual 55, 3) := by decide +kernel
theorem dX5_runOff_27 : decode cX5_runOff 27 = .ok (.aload_n 0, 1) := by decide +kernel
theorem dX5_runOff_28 : decode cX5_runOff 28 = .ok (.getfield 18, 3) := by decide +kernel
theorem dX5_runOff_31 : decode cX5_runOff 31 = .ok (.invokevirtual 101, 3) := by decide +kernel
set_option maxRecDepth 20000 in
theorem ggX5_runOff_X6_leastIn : GoodIn wsX5_runOff wsX6_leastIn := (gk_code 36 rfl (gk_fieldLink 37 rfl (gk_fieldLink 38 rfl (gk_fieldLink 39 rfl (gk_fieldLink 27 rfl (gk_methodLink 40 rfl (gk_instanceMethod 41 rfl (gk_selects 42 rfl (gk_initialized 10 rfl (gk_code 43 rfl (gk_fieldLink 13 rfl (gk_fieldLink 18 rfl (gk_methodLink 44 rfl (gk_static 45 rfl (gk_initialized 46 rfl (gk_code 47 rfl (gk_laysFinal 73 rfl (gk_laysFinal 74 rfl (gk_laysFinal 75 rfl (gk_lays 76 rfl (gk_lays 77 rfl (gk_laysFinal 78 rfl (gk_laysFinal 79 rfl (gk_laysFinal 80 rfl (gk_lays 81 rfl (gk_laysFinal 82 rfl (gn)))))))))))))))))))))))))))
set_option maxRecDepth 20000 in
theorem gX5_runOff_X6_leastIn : GoodIn wsX5_runOff (wsV RX5 101 RX6 yX6_leastIn wsX6_leastIn) := goodIn_app (gk_methodLink 33 rfl (gk_instanceMethod 34 rfl (gk_selects 35 rfl (gk_initialized 10 rfl (gn))))) ggX5_runOff_X6_leastIn
theorem dX5_runOff_34 : decode cX5_runOff 34 = .ok (.istore 4, 2) := by decide +kernel
theorem dX5_runOff_36 : decode cX5_runOff 36 = .ok (.iload 4, 2) := by decide +kernel
theorem dX5_runOff_38 : decode cX5_runOff 38 = .ok (.bipush (-9), 2) := by decide +kernel
theorem dX5_runOff_40 : decode cX5_runOff 40 = .ok (.if_icmp .ne 4, 3) := by decide +kernel
theorem dX5_runOff_44 : decode cX5_runOff 44 = .ok (.aload_n 1, 1) := by decide +kernel
theorem dX5_runOff_45 : decode cX5_runOff 45 = .ok (.iconst 2, 1) := by decide +kernel
theorem dX5_runOff_46 : decode cX5_runOff 46 = .ok (.iload 4, 2) := by decide +kernel
theorem dX5_runOff_48 : decode cX5_runOff 48 = .ok (.aload_n 0, 1) := by decide +kernel
theorem dX5_runOff_49 : decode cX5_runOff 49 = .ok (.getfield 18, 3) := by decide +kernel
theorem dX5_runOff_52 : decode cX5_runOff 52 = .ok (.invokevirtual 36, 3) := by decide +kernel
theorem dX5_runOff_55 : decode cX5_runOff 55 = .ok (.aload_n 0, 1) := by decide +kernel
theorem dX5_runOff_56 : decode cX5_runOff 56 = .ok (.getfield 18, 3) := by decide +kernel
theorem dX5_runOff_59 : decode cX5_runOff 59 = .ok (.getfield 45, 3) := by decide +kernel
theorem dX5_runOff_62 : decode cX5_runOff 62 = .ok (.iload 4, 2) := by decide +kernel
theorem dX5_runOff_64 : decode cX5_runOff 64 = .ok (.iconst 0, 1) := by decide +kernel
theorem dX5_runOff_65 : decode cX5_runOff 65 = .ok (.bastore, 1) := by decide +kernel
theorem dX5_runOff_66 : decode cX5_runOff 66 = .ok (.aload_n 0, 1) := by decide +kernel
theorem dX5_runOff_67 : decode cX5_runOff 67 = .ok (.getfield 15, 3) := by decide +kernel
theorem dX5_runOff_70 : decode cX5_runOff 70 = .ok (.iload_n 3, 1) := by decide +kernel
theorem dX5_runOff_71 : decode cX5_runOff 71 = .ok (.iload 4, 2) := by decide +kernel
theorem dX5_runOff_73 : decode cX5_runOff 73 = .ok (.iastore, 1) := by decide +kernel
theorem dX5_runOff_74 : decode cX5_runOff 74 = .ok (.iinc 3 1, 3) := by decide +kernel
theorem dX5_runOff_77 : decode cX5_runOff 77 = .ok (.goto (-62), 3) := by decide +kernel
theorem dX5_runOff_43 : decode cX5_runOff 43 = .ok (.return_, 1) := by decide +kernel
