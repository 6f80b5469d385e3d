section OWN3
variable {p : Program} {l : Launch} {e : Env} {R : Room} {s : State} {m : MethodId} {args : Array Value} {below : List Frame} {meth : Method} {c : Code} {cells slots : Nat} {Q : State → Prop} {D : va_G} {ad : Nat → Nat} {cs : Nat → ClassId} {nL : Nat} {M : MI} {L : ML} {pc : Nat} {lv : List (Nat × Value)} {st : List Value} {cc : ByteArray} {Ts : List Cond} {own : String}
theorem g_lrem (C : Cx p s m args meth c cc nL Ts own D ad cs) {x y : Int64} (hd : decode cc pc = .ok (.lrem, 1)) (hne : ¬ y = 0) (kk : G p l e R s m args below meth c cells slots Q D ad cs nL M L (pc + 1) lv (.long (x - x / y * y) :: st)) : G p l e R s m args below meth c cells slots Q D ad cs nL M L pc lv (.long y :: .long x :: st) := fun H locs ls hH hS hl => lv_lrem C.1 C.2.1 hd hne (kk H locs ls hH hS hl)
theorem g_mmax (C : Cx p s m args meth c cc nL Ts own D ad cs) {index : Nat} {x y : Int32} (h1 : Cond.methodLink own index Lib.Math.max.name ∈ Ts) (h2 : Cond.static Lib.Math.max.name ∈ Ts) (h3 : Cond.initialized "java/lang/Math" ∈ Ts) (h4 : Cond.code Lib.Math.max.name Lib.Math.max.code 2 (some .int) ∈ Ts) (hf : 1 ≤ R.frames) (hlo : (st.map fun v => v.category).sum + 13 ≤ R.locals) (hcs : cells ≤ R.cells ∧ slots ≤ R.slots) (hd : decode cc pc = .ok (.invokestatic index, 3)) (kk : G p l e R s m args below meth c cells slots Q D ad cs nL M L (pc + 3) lv (.int (if x < y then y else x) :: st)) : G p l e R s m args below meth c cells slots Q D ad cs nL M L pc lv (.int y :: .int x :: st) := fun H locs ls hH hS hl => va_mmax C.1 C.2.1 (C.2.2.1.trans hl.1.symm) C.2.2.2.1 (C.2.2.2.2.1 _ h1) (C.2.2.2.2.1 _ h2) (C.2.2.2.2.1 _ h3) (C.2.2.2.2.1 _ h4) hf hlo hcs.1 hcs.2 hd (kk H locs ls hH hS hl)
theorem g_mmin (C : Cx p s m args meth c cc nL Ts own D ad cs) {index : Nat} {x y : Int32} (h1 : Cond.methodLink own index Lib.Math.min.name ∈ Ts) (h2 : Cond.static Lib.Math.min.name ∈ Ts) (h3 : Cond.initialized "java/lang/Math" ∈ Ts) (h4 : Cond.code Lib.Math.min.name Lib.Math.min.code 2 (some .int) ∈ Ts) (hf : 1 ≤ R.frames) (hlo : (st.map fun v => v.category).sum + 13 ≤ R.locals) (hcs : cells ≤ R.cells ∧ slots ≤ R.slots) (hd : decode cc pc = .ok (.invokestatic index, 3)) (kk : G p l e R s m args below meth c cells slots Q D ad cs nL M L (pc + 3) lv (.int (if y < x then y else x) :: st)) : G p l e R s m args below meth c cells slots Q D ad cs nL M L pc lv (.int y :: .int x :: st) := fun H locs ls hH hS hl => va_mmin C.1 C.2.1 (C.2.2.1.trans hl.1.symm) C.2.2.2.1 (C.2.2.2.2.1 _ h1) (C.2.2.2.2.1 _ h2) (C.2.2.2.2.1 _ h3) (C.2.2.2.2.1 _ h4) hf hlo hcs.1 hcs.2 hd (kk H locs ls hH hS hl)
end OWN3
theorem dJ13_compare_74951_0 : decode cJ13_compare_74951 0 = .ok (.lload_n 0, 1) := dw30 (n := 0) (i := 0) kc_cJ13_compare_74951_0 (by decide +kernel)
theorem dJ13_compare_74951_1 : decode cJ13_compare_74951 1 = .ok (.lload_n 2, 1) := dw32 (n := 0) (i := 1) kc_cJ13_compare_74951_0 (by decide +kernel)
theorem dJ13_compare_74951_2 : decode cJ13_compare_74951 2 = .ok (.lcmp, 1) := dw148 (n := 0) (i := 2) kc_cJ13_compare_74951_0 (by decide +kernel)
theorem dJ13_compare_74951_3 : decode cJ13_compare_74951 3 = .ok (.ifCond .ge 7, 3) := dw156 (n := 0) (i := 3) (a := 0) (b := 7) kc_cJ13_compare_74951_0 (by decide +kernel) (by decide)
theorem dJ13_compare_74951_10 : decode cJ13_compare_74951 10 = .ok (.lload_n 0, 1) := dw30 (n := 0) (i := 10) kc_cJ13_compare_74951_0 (by decide +kernel)
theorem dJ13_compare_74951_11 : decode cJ13_compare_74951 11 = .ok (.lload_n 2, 1) := dw32 (n := 0) (i := 11) kc_cJ13_compare_74951_0 (by decide +kernel)
theorem dJ13_compare_74951_12 : decode cJ13_compare_74951 12 = .ok (.lcmp, 1) := dw148 (n := 0) (i := 12) kc_cJ13_compare_74951_0 (by decide +kernel)
theorem dJ13_compare_74951_13 : decode cJ13_compare_74951 13 = .ok (.ifCond .ne 7, 3) := dw154 (n := 0) (i := 13) (a := 0) (b := 7) kc_cJ13_compare_74951_0 (by decide +kernel) (by decide)
theorem dJ13_compare_74951_20 : decode cJ13_compare_74951 20 = .ok (.iconst 1, 1) := dw4 (n := 0) (i := 20) kc_cJ13_compare_74951_0 (by decide +kernel)
theorem dJ13_compare_74951_21 : decode cJ13_compare_74951 21 = .ok (.ireturn, 1) := dw172 (n := 0) (i := 21) kc_cJ13_compare_74951_0 (by decide +kernel)
theorem dJ13_compare_74951_16 : decode cJ13_compare_74951 16 = .ok (.iconst 0, 1) := dw3 (n := 0) (i := 16) kc_cJ13_compare_74951_0 (by decide +kernel)
theorem dJ13_compare_74951_17 : decode cJ13_compare_74951 17 = .ok (.goto 4, 3) := dw167 (n := 0) (i := 17) (a := 0) (b := 4) kc_cJ13_compare_74951_0 (by decide +kernel) (by decide)
theorem dJ13_compare_74951_6 : decode cJ13_compare_74951 6 = .ok (.iconst (-1), 1) := dw2 (n := 0) (i := 6) kc_cJ13_compare_74951_0 (by decide +kernel)
theorem dJ13_compare_74951_7 : decode cJ13_compare_74951 7 = .ok (.goto 14, 3) := dw167 (n := 0) (i := 7) (a := 0) (b := 14) kc_cJ13_compare_74951_0 (by decide +kernel) (by decide)
set_option maxHeartbeats 4000000 in
set_option maxRecDepth 100000 in
theorem s_compare (l : Launch) (D : va_G) (ad : Nat → Nat) (cs : Nat → ClassId) (M : MI) (L : ML) (x : Int64) (y : Int64) (hI : IC M) : Ci l yJ13_compare_74951 wsJ13_compare_74951 ({ frames := 0, cells := 0, slots := 0, locals := 0 }) D ad cs [.long x, .long y] M L (fun r M1 L1 => M1 = M ∧ L1 = L ∧ True) := by
  refine enter_i RJ13 rfl [(0, .long x), (2, .long y)] rfl (Nat.le_of_ble_eq_true rfl) (by decide +kernel) rfl ?_
  intro p e s m below meth c C hr
  have hF : ∀ k, True → M k = M k := fun _ _ => rfl
  have hG : ∀ k, True → L k = L k := fun _ _ => rfl
  refine g_lload_n C 0 dJ13_compare_74951_0 rfl ?_
  refine g_lload_n C 1 dJ13_compare_74951_1 rfl ?_
  refine g_lcmp C dJ13_compare_74951_2 ?_
  refine g_ni (fun v1 ev1 => ?_)
  refine g_if_ge C 10 dJ13_compare_74951_3 (by decide) (fun c2 => ?_) (fun c2 => ?_)
  ·
    have f3 := fle (by decide : (0 : Int32).toInt = 0) rfl c2
    refine g_lload_n C 0 dJ13_compare_74951_10 rfl ?_
    refine g_lload_n C 1 dJ13_compare_74951_11 rfl ?_
    refine g_lcmp C dJ13_compare_74951_12 ?_
    refine g_ni (fun v4 ev4 => ?_)
    refine g_if_ne C 20 dJ13_compare_74951_13 (by decide) (fun c5 => ?_) (fun c5 => ?_)
    ·
      have f6 := fne rfl (by decide : (0 : Int32).toInt = 0) c5
      refine g_iconst C 1 dJ13_compare_74951_20 (by decide) ?_
      exact g_iret C hr ⟨rfl, rfl, trivial⟩ dJ13_compare_74951_21
    ·
      have f7 := feq rfl (by decide : (0 : Int32).toInt = 0) c5
      refine g_iconst C 0 dJ13_compare_74951_16 (by decide) ?_
      refine g_goto C 21 dJ13_compare_74951_17 (by decide) ?_
      exact g_iret C hr ⟨rfl, rfl, trivial⟩ dJ13_compare_74951_21
  ·
    have f8 := fnle (by decide : (0 : Int32).toInt = 0) rfl c2
    refine g_iconst C (-1) dJ13_compare_74951_6 (by decide) ?_
    refine g_goto C 21 dJ13_compare_74951_7 (by decide) ?_
    exact g_iret C hr ⟨rfl, rfl, trivial⟩ dJ13_compare_74951_21
theorem dX6_compareTallies_0 : decode cX6_compareTallies 0 = .ok (.aload_n 0, 1) := dw42 (n := 0) (i := 0) kc_cX6_compareTallies_0 (by decide +kernel)
theorem dX6_compareTallies_1 : decode cX6_compareTallies 1 = .ok (.getfield 26, 3) := dw180 (n := 0) (i := 1) (a := 0) (b := 26) kc_cX6_compareTallies_0 (by decide +kernel) (by decide)
theorem in_X6_compareTallies_6 : ∀ w ∈ u_ws RX6 TX6 8, w ∈ wsX6_compareTallies := fun _ h => List.mem_cons_of_mem _ (List.mem_append_right _ h)
theorem dX6_compareTallies_4 : decode cX6_compareTallies 4 = .ok (.iload_n 1, 1) := dw27 (n := 0) (i := 4) kc_cX6_compareTallies_0 (by decide +kernel)
theorem dX6_compareTallies_5 : decode cX6_compareTallies 5 = .ok (.laload, 1) := dw47 (n := 0) (i := 5) kc_cX6_compareTallies_0 (by decide +kernel)
theorem dX6_compareTallies_6 : decode cX6_compareTallies 6 = .ok (.aload_n 0, 1) := dw42 (n := 0) (i := 6) kc_cX6_compareTallies_0 (by decide +kernel)
theorem dX6_compareTallies_7 : decode cX6_compareTallies 7 = .ok (.getfield 30, 3) := dw180 (n := 0) (i := 7) (a := 0) (b := 30) kc_cX6_compareTallies_0 (by decide +kernel) (by decide)
theorem dX6_compareTallies_10 : decode cX6_compareTallies 10 = .ok (.iload_n 2, 1) := dw28 (n := 0) (i := 10) kc_cX6_compareTallies_0 (by decide +kernel)
theorem dX6_compareTallies_11 : decode cX6_compareTallies 11 = .ok (.laload, 1) := dw47 (n := 0) (i := 11) kc_cX6_compareTallies_0 (by decide +kernel)
theorem dX6_compareTallies_12 : decode cX6_compareTallies 12 = .ok (.lmul, 1) := dw105 (n := 0) (i := 12) kc_cX6_compareTallies_0 (by decide +kernel)
theorem dX6_compareTallies_13 : decode cX6_compareTallies 13 = .ok (.aload_n 0, 1) := dw42 (n := 0) (i := 13) kc_cX6_compareTallies_0 (by decide +kernel)
theorem dX6_compareTallies_14 : decode cX6_compareTallies 14 = .ok (.getfield 26, 3) := dw180 (n := 0) (i := 14) (a := 0) (b := 26) kc_cX6_compareTallies_0 (by decide +kernel) (by decide)
theorem dX6_compareTallies_17 : decode cX6_compareTallies 17 = .ok (.iload_n 2, 1) := dw28 (n := 0) (i := 17) kc_cX6_compareTallies_0 (by decide +kernel)
theorem dX6_compareTallies_18 : decode cX6_compareTallies 18 = .ok (.laload, 1) := dw47 (n := 0) (i := 18) kc_cX6_compareTallies_0 (by decide +kernel)
theorem dX6_compareTallies_19 : decode cX6_compareTallies 19 = .ok (.aload_n 0, 1) := dw42 (n := 0) (i := 19) kc_cX6_compareTallies_0 (by decide +kernel)
theorem dX6_compareTallies_20 : decode cX6_compareTallies 20 = .ok (.getfield 30, 3) := dw180 (n := 0) (i := 20) (a := 0) (b := 30) kc_cX6_compareTallies_0 (by decide +kernel) (by decide)
theorem dX6_compareTallies_23 : decode cX6_compareTallies 23 = .ok (.iload_n 1, 1) := dw27 (n := 0) (i := 23) kc_cX6_compareTallies_0 (by decide +kernel)
theorem dX6_compareTallies_24 : decode cX6_compareTallies 24 = .ok (.laload, 1) := dw47 (n := 0) (i := 24) kc_cX6_compareTallies_0 (by decide +kernel)
theorem dX6_compareTallies_25 : decode cX6_compareTallies 25 = .ok (.lmul, 1) := dw105 (n := 0) (i := 25) kc_cX6_compareTallies_0 (by decide +kernel)
theorem dX6_compareTallies_26 : decode cX6_compareTallies 26 = .ok (.invokestatic 85, 3) := dw184 (n := 0) (i := 26) (a := 0) (b := 85) kc_cX6_compareTallies_0 (by decide +kernel) (by decide)
set_option maxRecDepth 20000 in
theorem ggX6_compareTallies_J13_compare_74951 : GoodIn wsX6_compareTallies wsJ13_compare_74951 := (gk_code 6 rfl (gn))
set_option maxRecDepth 20000 in
theorem gX6_compareTallies_J13_compare_74951 : GoodIn wsX6_compareTallies (va_wsS RX6 85 yJ13_compare_74951 wsJ13_compare_74951) := goodIn_app (gk_methodLink 3 rfl (gk_static 4 rfl (gk_initialized 5 rfl (gn)))) ggX6_compareTallies_J13_compare_74951
theorem dX6_compareTallies_29 : decode cX6_compareTallies 29 = .ok (.ireturn, 1) := dw172 (n := 0) (i := 29) kc_cX6_compareTallies_0 (by decide +kernel)
set_option maxHeartbeats 4000000 in
set_option maxRecDepth 100000 in
theorem s_X6_cmp (l : Launch) (D : va_G) (ad : Nat → Nat) (cs : Nat → ClassId) (M : MI) (L : ML) (x : Int32) (y : Int32) (hI : IC M) (hx : 0 ≤ x.toInt ∧ x.toInt < 10) (hy : 0 ≤ y.toInt ∧ y.toInt < 10) : Ci l yX6_compareTallies wsX6_compareTallies ({ frames := 1, cells := 0, slots := 0, locals := 23 }) D ad cs [.ref (ad 88), .int x, .int y] M L (fun r M1 L1 => M1 = M ∧ L1 = L ∧ True) := by
  refine enter_i RX6 rfl [(0, .ref (ad 88)), (1, .int x), (2, .int y)] rfl (Nat.le_of_ble_eq_true rfl) (by decide +kernel) rfl ?_
  intro p e s m below meth c C hr
  have hF : ∀ k, True → M k = M k := fun _ _ => rfl
  have hG : ∀ k, True → L k = L k := fun _ _ => rfl
  obtain ⟨hx1, hx2⟩ := hx
  obtain ⟨hy1, hy2⟩ := hy
  refine g_aload_n C 0 dX6_compareTallies_0 rfl ?_
  refine g_get C (.ref (ad 91)) 6 in_X6_compareTallies_6 (List.mem_of_getElem? (i := 1) rfl) (by decide) (ce_poll ad cs _ _) rfl (by decide) rfl rfl dX6_compareTallies_1 ?_
  refine g_iload_n C 1 dX6_compareTallies_4 rfl ?_
  refine g_lald C (by decide) (ce_pupper ad cs _ _) (fin' (n := 10) rfl (by omega) (by omega)) dX6_compareTallies_5 ?_
  refine g_nl (fun v1 ev1 => ?_)
  refine g_aload_n C 0 dX6_compareTallies_6 rfl ?_
  refine g_get C (.ref (ad 92)) 7 in_X6_compareTallies_6 (List.mem_of_getElem? (i := 2) rfl) (by decide) (ce_poll ad cs _ _) rfl (by decide) rfl rfl dX6_compareTallies_7 ?_
  refine g_iload_n C 2 dX6_compareTallies_10 rfl ?_
  refine g_lald C (by decide) (ce_plower ad cs _ _) (fin' (n := 10) rfl (by omega) (by omega)) dX6_compareTallies_11 ?_
  refine g_nl (fun v2 ev2 => ?_)
  refine g_lmul C dX6_compareTallies_12 ?_
  refine g_nl (fun v3 ev3 => ?_)
  refine g_aload_n C 0 dX6_compareTallies_13 rfl ?_
  refine g_get C (.ref (ad 91)) 6 in_X6_compareTallies_6 (List.mem_of_getElem? (i := 1) rfl) (by decide) (ce_poll ad cs _ _) rfl (by decide) rfl rfl dX6_compareTallies_14 ?_
  refine g_iload_n C 2 dX6_compareTallies_17 rfl ?_
  refine g_lald C (by decide) (ce_pupper ad cs _ _) (fin' (n := 10) rfl (by omega) (by omega)) dX6_compareTallies_18 ?_
  refine g_nl (fun v4 ev4 => ?_)
  refine g_aload_n C 0 dX6_compareTallies_19 rfl ?_
  refine g_get C (.ref (ad 92)) 7 in_X6_compareTallies_6 (List.mem_of_getElem? (i := 2) rfl) (by decide) (ce_poll ad cs _ _) rfl (by decide) rfl rfl dX6_compareTallies_20 ?_
  refine g_iload_n C 1 dX6_compareTallies_23 rfl ?_
  refine g_lald C (by decide) (ce_plower ad cs _ _) (fin' (n := 10) rfl (by omega) (by omega)) dX6_compareTallies_24 ?_
  refine g_nl (fun v5 ev5 => ?_)
  refine g_lmul C dX6_compareTallies_25 ?_
  refine g_nl (fun v6 ev6 => ?_)
  refine g_callSi C (n := 2) (As := [.long v3, .long v6]) (st := []) (s_compare l D ad cs _ _ v3 v6 hI) gX6_compareTallies_J13_compare_74951 rfl rfl rfl (by decide +kernel) ⟨Nat.le_of_ble_eq_true rfl, Nat.le_of_ble_eq_true rfl⟩ rfl (Nat.le_of_ble_eq_true rfl) ⟨Nat.zero_le _, Nat.zero_le _⟩ rfl dX6_compareTallies_26 (fun r7 M8 L9 hr7 => ?_)
  obtain ⟨hq1, hq2, hr7⟩ := hr7
  obtain rfl := hq1.symm
  obtain rfl := hq2.symm
  exact g_iret C hr ⟨rfl, rfl, trivial⟩ dX6_compareTallies_29
theorem dX6_greatestIn_0 : decode cX6_greatestIn 0 = .ok (.bipush (-9), 2) := dw16 (n := 0) (i := 0) (a := 247) kc_cX6_greatestIn_0 (by decide +kernel) (by decide)
theorem dX6_greatestIn_2 : decode cX6_greatestIn 2 = .ok (.istore_n 1, 1) := dw60 (n := 0) (i := 2) kc_cX6_greatestIn_0 (by decide +kernel)
theorem dX6_greatestIn_3 : decode cX6_greatestIn 3 = .ok (.iconst 0, 1) := dw3 (n := 0) (i := 3) kc_cX6_greatestIn_0 (by decide +kernel)
theorem dX6_greatestIn_4 : decode cX6_greatestIn 4 = .ok (.istore_n 2, 1) := dw61 (n := 0) (i := 4) kc_cX6_greatestIn_0 (by decide +kernel)
theorem dX6_greatestIn_5 : decode cX6_greatestIn 5 = .ok (.iload_n 2, 1) := dw28 (n := 0) (i := 5) kc_cX6_greatestIn_0 (by decide +kernel)
theorem dX6_greatestIn_6 : decode cX6_greatestIn 6 = .ok (.aload_n 0, 1) := dw42 (n := 0) (i := 6) kc_cX6_greatestIn_0 (by decide +kernel)
theorem dX6_greatestIn_7 : decode cX6_greatestIn 7 = .ok (.getfield 33, 3) := dw180 (n := 0) (i := 7) (a := 0) (b := 33) kc_cX6_greatestIn_0 (by decide +kernel) (by decide)
theorem in_X6_greatestIn_6 : ∀ w ∈ u_ws RX6 TX6 8, w ∈ wsX6_greatestIn := fun _ h => List.mem_cons_of_mem _ (List.mem_append_left _ (List.mem_append_right _ h))
theorem dX6_greatestIn_10 : decode cX6_greatestIn 10 = .ok (.getfield 78, 3) := dw180 (n := 0) (i := 10) (a := 0) (b := 78) kc_cX6_greatestIn_0 (by decide +kernel) (by decide)
theorem in_X6_greatestIn_2 : ∀ w ∈ u_ws RX2 TX2 2, w ∈ wsX6_greatestIn := fun _ h => List.mem_cons_of_mem _ (List.mem_append_right _ h)
theorem dX6_greatestIn_13 : decode cX6_greatestIn 13 = .ok (.if_icmp .ge 45, 3) := dw162 (n := 0) (i := 13) (a := 0) (b := 45) kc_cX6_greatestIn_0 (by decide +kernel) (by decide)
theorem dX6_greatestIn_58 : decode cX6_greatestIn 58 = .ok (.iload_n 1, 1) := dw27 (n := 32) (i := 26) kc_cX6_greatestIn_1 (by decide +kernel)
theorem dX6_greatestIn_59 : decode cX6_greatestIn 59 = .ok (.ireturn, 1) := dw172 (n := 32) (i := 27) kc_cX6_greatestIn_1 (by decide +kernel)
theorem dX6_greatestIn_16 : decode cX6_greatestIn 16 = .ok (.aload_n 0, 1) := dw42 (n := 0) (i := 16) kc_cX6_greatestIn_0 (by decide +kernel)
theorem dX6_greatestIn_17 : decode cX6_greatestIn 17 = .ok (.getfield 33, 3) := dw180 (n := 0) (i := 17) (a := 0) (b := 33) kc_cX6_greatestIn_0 (by decide +kernel) (by decide)
theorem dX6_greatestIn_20 : decode cX6_greatestIn 20 = .ok (.getfield 79, 3) := dw180 (n := 0) (i := 20) (a := 0) (b := 79) kc_cX6_greatestIn_0 (by decide +kernel) (by decide)
theorem dX6_greatestIn_23 : decode cX6_greatestIn 23 = .ok (.iload_n 2, 1) := dw28 (n := 0) (i := 23) kc_cX6_greatestIn_0 (by decide +kernel)
theorem dX6_greatestIn_24 : decode cX6_greatestIn 24 = .ok (.iaload, 1) := dw46 (n := 0) (i := 24) kc_cX6_greatestIn_0 (by decide +kernel)
theorem dX6_greatestIn_25 : decode cX6_greatestIn 25 = .ok (.istore_n 3, 1) := dw62 (n := 0) (i := 25) kc_cX6_greatestIn_0 (by decide +kernel)
theorem dX6_greatestIn_26 : decode cX6_greatestIn 26 = .ok (.aload_n 0, 1) := dw42 (n := 0) (i := 26) kc_cX6_greatestIn_0 (by decide +kernel)
theorem dX6_greatestIn_27 : decode cX6_greatestIn 27 = .ok (.getfield 22, 3) := dw180 (n := 0) (i := 27) (a := 0) (b := 22) kc_cX6_greatestIn_0 (by decide +kernel) (by decide)
theorem dX6_greatestIn_30 : decode cX6_greatestIn 30 = .ok (.iload_n 3, 1) := dw29 (n := 0) (i := 30) kc_cX6_greatestIn_0 (by decide +kernel)
theorem dX6_greatestIn_31 : decode cX6_greatestIn 31 = .ok (.baload, 1) := dw51 (n := 0) (i := 31) kc_cX6_greatestIn_0 (by decide +kernel)
theorem dX6_greatestIn_32 : decode cX6_greatestIn 32 = .ok (.ifCond .eq 20, 3) := dw153 (n := 32) (i := 0) (a := 0) (b := 20) kc_cX6_greatestIn_1 (by decide +kernel) (by decide)
theorem dX6_greatestIn_52 : decode cX6_greatestIn 52 = .ok (.iinc 2 1, 3) := by decide +kernel
theorem dX6_greatestIn_55 : decode cX6_greatestIn 55 = .ok (.goto (-50), 3) := dw167 (n := 32) (i := 23) (a := 255) (b := 206) kc_cX6_greatestIn_1 (by decide +kernel) (by decide)
theorem dX6_greatestIn_35 : decode cX6_greatestIn 35 = .ok (.iload_n 1, 1) := dw27 (n := 32) (i := 3) kc_cX6_greatestIn_1 (by decide +kernel)
theorem dX6_greatestIn_36 : decode cX6_greatestIn 36 = .ok (.bipush (-9), 2) := dw16 (n := 32) (i := 4) (a := 247) kc_cX6_greatestIn_1 (by decide +kernel) (by decide)
theorem dX6_greatestIn_38 : decode cX6_greatestIn 38 = .ok (.if_icmp .eq 12, 3) := dw159 (n := 32) (i := 6) (a := 0) (b := 12) kc_cX6_greatestIn_1 (by decide +kernel) (by decide)
theorem dX6_greatestIn_50 : decode cX6_greatestIn 50 = .ok (.iload_n 3, 1) := dw29 (n := 32) (i := 18) kc_cX6_greatestIn_1 (by decide +kernel)
theorem dX6_greatestIn_51 : decode cX6_greatestIn 51 = .ok (.istore_n 1, 1) := dw60 (n := 32) (i := 19) kc_cX6_greatestIn_1 (by decide +kernel)
theorem dX6_greatestIn_41 : decode cX6_greatestIn 41 = .ok (.aload_n 0, 1) := dw42 (n := 32) (i := 9) kc_cX6_greatestIn_1 (by decide +kernel)
theorem dX6_greatestIn_42 : decode cX6_greatestIn 42 = .ok (.iload_n 3, 1) := dw29 (n := 32) (i := 10) kc_cX6_greatestIn_1 (by decide +kernel)
theorem dX6_greatestIn_43 : decode cX6_greatestIn 43 = .ok (.iload_n 1, 1) := dw27 (n := 32) (i := 11) kc_cX6_greatestIn_1 (by decide +kernel)
theorem dX6_greatestIn_44 : decode cX6_greatestIn 44 = .ok (.invokevirtual 81, 3) := dw182 (n := 32) (i := 12) (a := 0) (b := 81) kc_cX6_greatestIn_1 (by decide +kernel) (by decide)
set_option maxRecDepth 20000 in
theorem ggX6_greatestIn_X6_compareTallies : GoodIn wsX6_greatestIn wsX6_compareTallies := (gk_code 9 rfl (gk_fieldLink 10 rfl (gk_fieldLink 11 rfl (gk_methodLink 12 rfl (gk_static 13 rfl (gk_initialized 14 rfl (gk_code 15 rfl (gk_laysFinal 16 rfl (gk_laysFinal 17 rfl (gk_laysFinal 18 rfl (gk_lays 19 rfl (gk_lays 20 rfl (gk_laysFinal 21 rfl (gk_laysFinal 22 rfl (gk_laysFinal 23 rfl (gn))))))))))))))))
set_option maxRecDepth 20000 in
theorem gX6_greatestIn_X6_compareTallies : GoodIn wsX6_greatestIn (wsV RX6 81 RX6 yX6_compareTallies wsX6_compareTallies) := goodIn_app (gk_methodLink 5 rfl (gk_instanceMethod 6 rfl (gk_selects 7 rfl (gk_initialized 8 rfl (gn))))) ggX6_greatestIn_X6_compareTallies
theorem dX6_greatestIn_47 : decode cX6_greatestIn 47 = .ok (.ifCond .le 5, 3) := dw158 (n := 32) (i := 15) (a := 0) (b := 5) kc_cX6_greatestIn_1 (by decide +kernel) (by decide)
set_option maxHeartbeats 4000000 in
set_option maxRecDepth 100000 in
theorem s_X6_greatestIn (l : Launch) (D : va_G) (ad : Nat → Nat) (cs : Nat → ClassId) (M : MI) (L : ML)  (hI : IC M) : Ci l yX6_greatestIn wsX6_greatestIn ({ frames := 2, cells := 0, slots := 0, locals := 45 }) D ad cs [.ref (ad 88)] M L (fun r M1 L1 => M1 = M ∧ L1 = L ∧ (r.toInt = -9 ∨ 0 ≤ r.toInt) ∧ r.toInt < 10) := by
  refine enter_i RX6 rfl [(0, .ref (ad 88))] rfl (Nat.le_of_ble_eq_true rfl) (by decide +kernel) rfl ?_
  intro p e s m below meth c C hr
  have hF : ∀ k, True → M k = M k := fun _ _ => rfl
  have hG : ∀ k, True → L k = L k := fun _ _ => rfl
  refine g_bipush C (-9) dX6_greatestIn_0 (by decide) ?_
  refine g_istore_n C [(1, .int ((-9))), (0, .ref (ad 88))] dX6_greatestIn_2 (by decide) rfl ?_
  refine g_iconst C 0 dX6_greatestIn_3 (by decide) ?_
  refine g_istore_n C [(2, .int 0), (1, .int ((-9))), (0, .ref (ad 88))] dX6_greatestIn_4 (by decide) rfl ?_
  have zy1 : (0 : Int32).toInt = 0 := by decide
  have zy2 : ((-9) : Int32).toInt = (-9) := by decide
  refine g_loop (α := Int32 × Int32 × MI × ML) (fun a => (11 - a.1.toInt).toNat) (fun a => 0 ≤ a.1.toInt ∧ a.1.toInt ≤ 10 ∧ (a.2.1.toInt = -9 ∨ 0 ≤ a.2.1.toInt) ∧ a.2.1.toInt < 10 ∧ IC a.2.2.1 ∧ (∀ k, True → a.2.2.1 k = M k) ∧ (∀ k, True → a.2.2.2 k = L k)) (fun a => a.2.2.1) (fun a => a.2.2.2) (fun a => [(2, .int a.1), (1, .int a.2.1), (0, .ref (ad 88))]) (0, ((-9)), M, L) ⟨by show 0 ≤ (0 : Int32).toInt; omega, by show (0 : Int32).toInt ≤ 10; omega, by show ((((-9)) : Int32).toInt = -9 ∨ 0 ≤ (((-9)) : Int32).toInt); omega, by show (((-9)) : Int32).toInt < 10; omega, hI, hF, hG⟩ rfl rfl rfl ?_
  rintro ⟨x2_5, x1_5, M_5, L_5⟩ ⟨j5_0, j5_1, j5_2, j5_3, hI, hF, hG⟩ ih_5
  dsimp only at j5_0 j5_1 j5_2 j5_3 hI hF hG ih_5 ⊢
  refine g_iload_n C 0 dX6_greatestIn_5 rfl ?_
  refine g_aload_n C 2 dX6_greatestIn_6 rfl ?_
  refine g_get C (.ref (ad 1)) 0 in_X6_greatestIn_6 (List.mem_of_getElem? (i := 1) rfl) (by decide) (ce_poll ad cs _ _) rfl (by decide) rfl rfl dX6_greatestIn_7 ?_
  refine g_get C (.int (M_5 1 0)) 0 in_X6_greatestIn_2 (List.mem_of_getElem? (i := 2) rfl) (by decide) (ce_cand ad cs _ _) rfl (by decide) rfl rfl dX6_greatestIn_10 ?_
  refine g_ni (fun v3 ev3 => ?_)
  have tv3 := congrArg Int32.toInt ev3
  obtain ⟨bv3, dv3⟩ := (show rg 0 10 v3 from (by rw [ev3]; exact hI 1 0 rfl))
  refine g_icmp_ge C 58 dX6_greatestIn_13 (by decide) (fun c4 => ?_) (fun c4 => ?_)
  ·
    have f5 := fle rfl rfl c4
    refine g_iload_n C 1 dX6_greatestIn_58 rfl ?_
    exact g_iret C hr ⟨funext (fun k => hF k trivial), funext (fun k => hG k trivial), by omega, by omega⟩ dX6_greatestIn_59
  ·
    have f6 := fnle rfl rfl c4
    refine g_aload_n C 2 dX6_greatestIn_16 rfl ?_
    refine g_get C (.ref (ad 1)) 0 in_X6_greatestIn_6 (List.mem_of_getElem? (i := 1) rfl) (by decide) (ce_poll ad cs _ _) rfl (by decide) rfl rfl dX6_greatestIn_17 ?_
    refine g_get C (.ref (ad 2)) 1 in_X6_greatestIn_2 (List.mem_of_getElem? (i := 3) rfl) (by decide) (ce_cand ad cs _ _) rfl (by decide) rfl rfl dX6_greatestIn_20 ?_
    refine g_iload_n C 0 dX6_greatestIn_23 rfl ?_
    refine g_iald C (by decide) (ce_crow ad cs _ _) (fin' (n := 10) rfl (by omega) (by omega)) dX6_greatestIn_24 ?_
    refine g_ni (fun v7 ev7 => ?_)
    have tv7 := congrArg Int32.toInt ev7
    obtain ⟨bv7, dv7⟩ := (show rg 0 9 v7 from (by rw [ev7]; exact hI 2 _))
    refine g_istore_n C [(3, .int v7), (2, .int x2_5), (1, .int x1_5), (0, .ref (ad 88))] dX6_greatestIn_25 (by decide) rfl ?_
    refine g_aload_n C 3 dX6_greatestIn_26 rfl ?_
    refine g_get C (.ref (ad 90)) 5 in_X6_greatestIn_6 (List.mem_of_getElem? (i := 4) rfl) (by decide) (ce_poll ad cs _ _) rfl (by decide) rfl rfl dX6_greatestIn_27 ?_
    refine g_iload_n C 0 dX6_greatestIn_30 rfl ?_
    refine g_zald C (by decide) (ce_pin ad cs _ _) (fin' (n := 10) rfl (by omega) (by omega)) dX6_greatestIn_31 ?_
    refine g_ni (fun v8 ev8 => ?_)
    refine g_if_eq C 52 dX6_greatestIn_32 (by decide) (fun c9 => ?_) (fun c9 => ?_)
    ·
      have f10 := feq rfl (by decide : (0 : Int32).toInt = 0) c9
      obtain ⟨v11, ev11⟩ : ∃ y : Int32, y = x2_5 + 1 := ⟨_, rfl⟩
      try have fv11 := fadd rfl (by decide : (1 : Int32).toInt = 1) ev11 (by omega) (by omega)
      refine g_iinc C 1 v11 [(2, .int v11), (3, .int v7), (1, .int x1_5), (0, .ref (ad 88))] dX6_greatestIn_52 rfl (by rw [ev11]; rfl) (by decide) rfl ?_
      refine g_goto C 5 dX6_greatestIn_55 (by decide) ?_
      refine g_lv [0, 2, 3] [(2, .int v11), (1, .int x1_5), (0, .ref (ad 88))] rfl ?_
      exact ih_5 (v11, x1_5, M_5, L_5) ⟨by show 0 ≤ v11.toInt; omega, by show v11.toInt ≤ 10; omega, by show (x1_5.toInt = -9 ∨ 0 ≤ x1_5.toInt); omega, by show x1_5.toInt < 10; omega, hI, hF, hG⟩ (by show (11 - v11.toInt).toNat < (11 - x2_5.toInt).toNat; omega)
    ·
      have f12 := fne rfl (by decide : (0 : Int32).toInt = 0) c9
      refine g_iload_n C 2 dX6_greatestIn_35 rfl ?_
      refine g_bipush C (-9) dX6_greatestIn_36 (by decide) ?_
      refine g_icmp_eq C 50 dX6_greatestIn_38 (by decide) (fun c13 => ?_) (fun c13 => ?_)
      ·
        have f14 := feq rfl (by decide : ((-9) : Int32).toInt = (-9)) c13
        refine g_iload_n C 0 dX6_greatestIn_50 rfl ?_
        refine g_istore_n C [(1, .int v7), (3, .int v7), (2, .int x2_5), (0, .ref (ad 88))] dX6_greatestIn_51 (by decide) rfl ?_
        obtain ⟨v15, ev15⟩ : ∃ y : Int32, y = x2_5 + 1 := ⟨_, rfl⟩
        try have fv15 := fadd rfl (by decide : (1 : Int32).toInt = 1) ev15 (by omega) (by omega)
        refine g_iinc C 2 v15 [(2, .int v15), (1, .int v7), (3, .int v7), (0, .ref (ad 88))] dX6_greatestIn_52 rfl (by rw [ev15]; rfl) (by decide) rfl ?_
        refine g_goto C 5 dX6_greatestIn_55 (by decide) ?_
        refine g_lv [0, 1, 3] [(2, .int v15), (1, .int v7), (0, .ref (ad 88))] rfl ?_
        exact ih_5 (v15, v7, M_5, L_5) ⟨by show 0 ≤ v15.toInt; omega, by show v15.toInt ≤ 10; omega, by show (v7.toInt = -9 ∨ 0 ≤ v7.toInt); omega, by show v7.toInt < 10; omega, hI, hF, hG⟩ (by show (11 - v15.toInt).toNat < (11 - x2_5.toInt).toNat; omega)
      ·
        have f16 := fne rfl (by decide : ((-9) : Int32).toInt = (-9)) c13
        refine g_aload_n C 3 dX6_greatestIn_41 rfl ?_
        refine g_iload_n C 0 dX6_greatestIn_42 rfl ?_
        refine g_iload_n C 2 dX6_greatestIn_43 rfl ?_
        refine g_callVi C (n := 2) (As := [.int v7, .int x1_5]) (st := []) (s_X6_cmp l D ad cs _ _ v7 x1_5 hI ⟨by omega, by omega⟩ ⟨by omega, by omega⟩) gX6_greatestIn_X6_compareTallies rfl rfl rfl (by decide +kernel) ⟨Nat.le_of_ble_eq_true rfl, Nat.le_of_ble_eq_true rfl⟩ rfl (Nat.le_of_ble_eq_true rfl) ⟨Nat.zero_le _, Nat.zero_le _⟩ (by decide) (ce_poll ad cs _ _) rfl rfl dX6_greatestIn_44 (fun r17 M18 L19 hr17 => ?_)
        obtain ⟨hq1, hq2, hr17⟩ := hr17
        obtain rfl := hq1.symm
        obtain rfl := hq2.symm
        refine g_if_le C 52 dX6_greatestIn_47 (by decide) (fun c20 => ?_) (fun c20 => ?_)
        ·
          have f21 := fle rfl (by decide : (0 : Int32).toInt = 0) c20
          obtain ⟨v22, ev22⟩ : ∃ y : Int32, y = x2_5 + 1 := ⟨_, rfl⟩
          try have fv22 := fadd rfl (by decide : (1 : Int32).toInt = 1) ev22 (by omega) (by omega)
          refine g_iinc C 1 v22 [(2, .int v22), (3, .int v7), (1, .int x1_5), (0, .ref (ad 88))] dX6_greatestIn_52 rfl (by rw [ev22]; rfl) (by decide) rfl ?_
          refine g_goto C 5 dX6_greatestIn_55 (by decide) ?_
          refine g_lv [0, 2, 3] [(2, .int v22), (1, .int x1_5), (0, .ref (ad 88))] rfl ?_
          exact ih_5 (v22, x1_5, M_5, L_5) ⟨by show 0 ≤ v22.toInt; omega, by show v22.toInt ≤ 10; omega, by show (x1_5.toInt = -9 ∨ 0 ≤ x1_5.toInt); omega, by show x1_5.toInt < 10; omega, hI, hF, hG⟩ (by show (11 - v22.toInt).toNat < (11 - x2_5.toInt).toNat; omega)
        ·
          have f23 := fnle rfl (by decide : (0 : Int32).toInt = 0) c20
          refine g_iload_n C 0 dX6_greatestIn_50 rfl ?_
          refine g_istore_n C [(1, .int v7), (3, .int v7), (2, .int x2_5), (0, .ref (ad 88))] dX6_greatestIn_51 (by decide) rfl ?_
          obtain ⟨v24, ev24⟩ : ∃ y : Int32, y = x2_5 + 1 := ⟨_, rfl⟩
          try have fv24 := fadd rfl (by decide : (1 : Int32).toInt = 1) ev24 (by omega) (by omega)
          refine g_iinc C 2 v24 [(2, .int v24), (1, .int v7), (3, .int v7), (0, .ref (ad 88))] dX6_greatestIn_52 rfl (by rw [ev24]; rfl) (by decide) rfl ?_
          refine g_goto C 5 dX6_greatestIn_55 (by decide) ?_
          refine g_lv [0, 1, 3] [(2, .int v24), (1, .int v7), (0, .ref (ad 88))] rfl ?_
          exact ih_5 (v24, v7, M_5, L_5) ⟨by show 0 ≤ v24.toInt; omega, by show v24.toInt ≤ 10; omega, by show (v7.toInt = -9 ∨ 0 ≤ v7.toInt); omega, by show v7.toInt < 10; omega, hI, hF, hG⟩ (by show (11 - v24.toInt).toNat < (11 - x2_5.toInt).toNat; omega)
theorem dX6_leastIn_0 : decode cX6_leastIn 0 = .ok (.bipush (-9), 2) := dw16 (n := 0) (i := 0) (a := 247) kc_cX6_leastIn_0 (by decide +kernel) (by decide)
theorem dX6_leastIn_2 : decode cX6_leastIn 2 = .ok (.istore_n 1, 1) := dw60 (n := 0) (i := 2) kc_cX6_leastIn_0 (by decide +kernel)
theorem dX6_leastIn_3 : decode cX6_leastIn 3 = .ok (.iconst 0, 1) := dw3 (n := 0) (i := 3) kc_cX6_leastIn_0 (by decide +kernel)
theorem dX6_leastIn_4 : decode cX6_leastIn 4 = .ok (.istore_n 2, 1) := dw61 (n := 0) (i := 4) kc_cX6_leastIn_0 (by decide +kernel)
theorem dX6_leastIn_5 : decode cX6_leastIn 5 = .ok (.iload_n 2, 1) := dw28 (n := 0) (i := 5) kc_cX6_leastIn_0 (by decide +kernel)
theorem dX6_leastIn_6 : decode cX6_leastIn 6 = .ok (.aload_n 0, 1) := dw42 (n := 0) (i := 6) kc_cX6_leastIn_0 (by decide +kernel)
theorem dX6_leastIn_7 : decode cX6_leastIn 7 = .ok (.getfield 33, 3) := dw180 (n := 0) (i := 7) (a := 0) (b := 33) kc_cX6_leastIn_0 (by decide +kernel) (by decide)
theorem in_X6_leastIn_6 : ∀ w ∈ u_ws RX6 TX6 8, w ∈ wsX6_leastIn := fun _ h => List.mem_cons_of_mem _ (List.mem_append_left _ (List.mem_append_right _ h))
theorem dX6_leastIn_10 : decode cX6_leastIn 10 = .ok (.getfield 78, 3) := dw180 (n := 0) (i := 10) (a := 0) (b := 78) kc_cX6_leastIn_0 (by decide +kernel) (by decide)
theorem in_X6_leastIn_2 : ∀ w ∈ u_ws RX2 TX2 2, w ∈ wsX6_leastIn := fun _ h => List.mem_cons_of_mem _ (List.mem_append_right _ h)
theorem dX6_leastIn_13 : decode cX6_leastIn 13 = .ok (.if_icmp .ge 45, 3) := dw162 (n := 0) (i := 13) (a := 0) (b := 45) kc_cX6_leastIn_0 (by decide +kernel) (by decide)
theorem dX6_leastIn_58 : decode cX6_leastIn 58 = .ok (.iload_n 1, 1) := dw27 (n := 32) (i := 26) kc_cX6_leastIn_1 (by decide +kernel)
theorem dX6_leastIn_59 : decode cX6_leastIn 59 = .ok (.ireturn, 1) := dw172 (n := 32) (i := 27) kc_cX6_leastIn_1 (by decide +kernel)
theorem dX6_leastIn_16 : decode cX6_leastIn 16 = .ok (.aload_n 0, 1) := dw42 (n := 0) (i := 16) kc_cX6_leastIn_0 (by decide +kernel)
theorem dX6_leastIn_17 : decode cX6_leastIn 17 = .ok (.getfield 33, 3) := dw180 (n := 0) (i := 17) (a := 0) (b := 33) kc_cX6_leastIn_0 (by decide +kernel) (by decide)
theorem dX6_leastIn_20 : decode cX6_leastIn 20 = .ok (.getfield 79, 3) := dw180 (n := 0) (i := 20) (a := 0) (b := 79) kc_cX6_leastIn_0 (by decide +kernel) (by decide)
theorem dX6_leastIn_23 : decode cX6_leastIn 23 = .ok (.iload_n 2, 1) := dw28 (n := 0) (i := 23) kc_cX6_leastIn_0 (by decide +kernel)
theorem dX6_leastIn_24 : decode cX6_leastIn 24 = .ok (.iaload, 1) := dw46 (n := 0) (i := 24) kc_cX6_leastIn_0 (by decide +kernel)
theorem dX6_leastIn_25 : decode cX6_leastIn 25 = .ok (.istore_n 3, 1) := dw62 (n := 0) (i := 25) kc_cX6_leastIn_0 (by decide +kernel)
theorem dX6_leastIn_26 : decode cX6_leastIn 26 = .ok (.aload_n 0, 1) := dw42 (n := 0) (i := 26) kc_cX6_leastIn_0 (by decide +kernel)
theorem dX6_leastIn_27 : decode cX6_leastIn 27 = .ok (.getfield 22, 3) := dw180 (n := 0) (i := 27) (a := 0) (b := 22) kc_cX6_leastIn_0 (by decide +kernel) (by decide)
theorem dX6_leastIn_30 : decode cX6_leastIn 30 = .ok (.iload_n 3, 1) := dw29 (n := 0) (i := 30) kc_cX6_leastIn_0 (by decide +kernel)
theorem dX6_leastIn_31 : decode cX6_leastIn 31 = .ok (.baload, 1) := dw51 (n := 0) (i := 31) kc_cX6_leastIn_0 (by decide +kernel)
theorem dX6_leastIn_32 : decode cX6_leastIn 32 = .ok (.ifCond .eq 20, 3) := dw153 (n := 32) (i := 0) (a := 0) (b := 20) kc_cX6_leastIn_1 (by decide +kernel) (by decide)
theorem dX6_leastIn_52 : decode cX6_leastIn 52 = .ok (.iinc 2 1, 3) := by decide +kernel
theorem dX6_leastIn_55 : decode cX6_leastIn 55 = .ok (.goto (-50), 3) := dw167 (n := 32) (i := 23) (a := 255) (b := 206) kc_cX6_leastIn_1 (by decide +kernel) (by decide)
theorem dX6_leastIn_35 : decode cX6_leastIn 35 = .ok (.iload_n 1, 1) := dw27 (n := 32) (i := 3) kc_cX6_leastIn_1 (by decide +kernel)
theorem dX6_leastIn_36 : decode cX6_leastIn 36 = .ok (.bipush (-9), 2) := dw16 (n := 32) (i := 4) (a := 247) kc_cX6_leastIn_1 (by decide +kernel) (by decide)
theorem dX6_leastIn_38 : decode cX6_leastIn 38 = .ok (.if_icmp .eq 12, 3) := dw159 (n := 32) (i := 6) (a := 0) (b := 12) kc_cX6_leastIn_1 (by decide +kernel) (by decide)
theorem dX6_leastIn_50 : decode cX6_leastIn 50 = .ok (.iload_n 3, 1) := dw29 (n := 32) (i := 18) kc_cX6_leastIn_1 (by decide +kernel)
theorem dX6_leastIn_51 : decode cX6_leastIn 51 = .ok (.istore_n 1, 1) := dw60 (n := 32) (i := 19) kc_cX6_leastIn_1 (by decide +kernel)
theorem dX6_leastIn_41 : decode cX6_leastIn 41 = .ok (.aload_n 0, 1) := dw42 (n := 32) (i := 9) kc_cX6_leastIn_1 (by decide +kernel)
theorem dX6_leastIn_42 : decode cX6_leastIn 42 = .ok (.iload_n 3, 1) := dw29 (n := 32) (i := 10) kc_cX6_leastIn_1 (by decide +kernel)
theorem dX6_leastIn_43 : decode cX6_leastIn 43 = .ok (.iload_n 1, 1) := dw27 (n := 32) (i := 11) kc_cX6_leastIn_1 (by decide +kernel)
theorem dX6_leastIn_44 : decode cX6_leastIn 44 = .ok (.invokevirtual 81, 3) := dw182 (n := 32) (i := 12) (a := 0) (b := 81) kc_cX6_leastIn_1 (by decide +kernel) (by decide)
set_option maxRecDepth 20000 in
theorem ggX6_leastIn_X6_compareTallies : GoodIn wsX6_leastIn wsX6_compareTallies := (gk_code 9 rfl (gk_fieldLink 10 rfl (gk_fieldLink 11 rfl (gk_methodLink 12 rfl (gk_static 13 rfl (gk_initialized 14 rfl (gk_code 15 rfl (gk_laysFinal 16 rfl (gk_laysFinal 17 rfl (gk_laysFinal 18 rfl (gk_lays 19 rfl (gk_lays 20 rfl (gk_laysFinal 21 rfl (gk_laysFinal 22 rfl (gk_laysFinal 23 rfl (gn))))))))))))))))
set_option maxRecDepth 20000 in
theorem gX6_leastIn_X6_compareTallies : GoodIn wsX6_leastIn (wsV RX6 81 RX6 yX6_compareTallies wsX6_compareTallies) := goodIn_app (gk_methodLink 5 rfl (gk_instanceMethod 6 rfl (gk_selects 7 rfl (gk_initialized 8 rfl (gn))))) ggX6_leastIn_X6_compareTallies
theorem dX6_leastIn_47 : decode cX6_leastIn 47 = .ok (.ifCond .gt 5, 3) := dw157 (n := 32) (i := 15) (a := 0) (b := 5) kc_cX6_leastIn_1 (by decide +kernel) (by decide)
set_option maxHeartbeats 4000000 in
set_option maxRecDepth 100000 in
theorem s_X6_leastIn (l : Launch) (D : va_G) (ad : Nat → Nat) (cs : Nat → ClassId) (M : MI) (L : ML)  (hI : IC M) : Ci l yX6_leastIn wsX6_leastIn ({ frames := 2, cells := 0, slots := 0, locals := 45 }) D ad cs [.ref (ad 88)] M L (fun r M1 L1 => M1 = M ∧ L1 = L ∧ (r.toInt = -9 ∨ 0 ≤ r.toInt) ∧ r.toInt < 10) := by
  refine enter_i RX6 rfl [(0, .ref (ad 88))] rfl (Nat.le_of_ble_eq_true rfl) (by decide +kernel) rfl ?_
  intro p e s m below meth c C hr
  have hF : ∀ k, True → M k = M k := fun _ _ => rfl
  have hG : ∀ k, True → L k = L k := fun _ _ => rfl
  refine g_bipush C (-9) dX6_leastIn_0 (by decide) ?_
  refine g_istore_n C [(1, .int ((-9))), (0, .ref (ad 88))] dX6_leastIn_2 (by decide) rfl ?_
  refine g_iconst C 0 dX6_leastIn_3 (by decide) ?_
  refine g_istore_n C [(2, .int 0), (1, .int ((-9))), (0, .ref (ad 88))] dX6_leastIn_4 (by decide) rfl ?_
  have zy1 : (0 : Int32).toInt = 0 := by decide
  have zy2 : ((-9) : Int32).toInt = (-9) := by decide
  refine g_loop (α := Int32 × Int32 × MI × ML) (fun a => (11 - a.1.toInt).toNat) (fun a => 0 ≤ a.1.toInt ∧ a.1.toInt ≤ 10 ∧ (a.2.1.toInt = -9 ∨ 0 ≤ a.2.1.toInt) ∧ a.2.1.toInt < 10 ∧ IC a.2.2.1 ∧ (∀ k, True → a.2.2.1 k = M k) ∧ (∀ k, True → a.2.2.2 k = L k)) (fun a => a.2.2.1) (fun a => a.2.2.2) (fun a => [(2, .int a.1), (1, .int a.2.1), (0, .ref (ad 88))]) (0, ((-9)), M, L) ⟨by show 0 ≤ (0 : Int32).toInt; omega, by show (0 : Int32).toInt ≤ 10; omega, by show ((((-9)) : Int32).toInt = -9 ∨ 0 ≤ (((-9)) : Int32).toInt); omega, by show (((-9)) : Int32).toInt < 10; omega, hI, hF, hG⟩ rfl rfl rfl ?_
  rintro ⟨x2_5, x1_5, M_5, L_5⟩ ⟨j5_0, j5_1, j5_2, j5_3, hI, hF, hG⟩ ih_5
  dsimp only at j5_0 j5_1 j5_2 j5_3 hI hF hG ih_5 ⊢
  refine g_iload_n C 0 dX6_leastIn_5 rfl ?_
  refine g_aload_n C 2 dX6_leastIn_6 rfl ?_
  refine g_get C (.ref (ad 1)) 0 in_X6_leastIn_6 (List.mem_of_getElem? (i := 1) rfl) (by decide) (ce_poll ad cs _ _) rfl (by decide) rfl rfl dX6_leastIn_7 ?_
  refine g_get C (.int (M_5 1 0)) 0 in_X6_leastIn_2 (List.mem_of_getElem? (i := 2) rfl) (by decide) (ce_cand ad cs _ _) rfl (by decide) rfl rfl dX6_leastIn_10 ?_
  refine g_ni (fun v3 ev3 => ?_)
  have tv3 := congrArg Int32.toInt ev3
  obtain ⟨bv3, dv3⟩ := (show rg 0 10 v3 from (by rw [ev3]; exact hI 1 0 rfl))
  refine g_icmp_ge C 58 dX6_leastIn_13 (by decide) (fun c4 => ?_) (fun c4 => ?_)
  ·
    have f5 := fle rfl rfl c4
    refine g_iload_n C 1 dX6_leastIn_58 rfl ?_
    exact g_iret C hr ⟨funext (fun k => hF k trivial), funext (fun k => hG k trivial), by omega, by omega⟩ dX6_leastIn_59
  ·
    have f6 := fnle rfl rfl c4
    refine g_aload_n C 2 dX6_leastIn_16 rfl ?_
    refine g_get C (.ref (ad 1)) 0 in_X6_leastIn_6 (List.mem_of_getElem? (i := 1) rfl) (by decide) (ce_poll ad cs _ _) rfl (by decide) rfl rfl dX6_leastIn_17 ?_
    refine g_get C (.ref (ad 2)) 1 in_X6_leastIn_2 (List.mem_of_getElem? (i := 3) rfl) (by decide) (ce_cand ad cs _ _) rfl (by decide) rfl rfl dX6_leastIn_20 ?_
    refine g_iload_n C 0 dX6_leastIn_23 rfl ?_
    refine g_iald C (by decide) (ce_crow ad cs _ _) (fin' (n := 10) rfl (by omega) (by omega)) dX6_leastIn_24 ?_
    refine g_ni (fun v7 ev7 => ?_)
    have tv7 := congrArg Int32.toInt ev7
    obtain ⟨bv7, dv7⟩ := (show rg 0 9 v7 from (by rw [ev7]; exact hI 2 _))
    refine g_istore_n C [(3, .int v7), (2, .int x2_5), (1, .int x1_5), (0, .ref (ad 88))] dX6_leastIn_25 (by decide) rfl ?_
    refine g_aload_n C 3 dX6_leastIn_26 rfl ?_
    refine g_get C (.ref (ad 90)) 5 in_X6_leastIn_6 (List.mem_of_getElem? (i := 4) rfl) (by decide) (ce_poll ad cs _ _) rfl (by decide) rfl rfl dX6_leastIn_27 ?_
    refine g_iload_n C 0 dX6_leastIn_30 rfl ?_
    refine g_zald C (by decide) (ce_pin ad cs _ _) (fin' (n := 10) rfl (by omega) (by omega)) dX6_leastIn_31 ?_
    refine g_ni (fun v8 ev8 => ?_)
    refine g_if_eq C 52 dX6_leastIn_32 (by decide) (fun c9 => ?_) (fun c9 => ?_)
    ·
      have f10 := feq rfl (by decide : (0 : Int32).toInt = 0) c9
      obtain ⟨v11, ev11⟩ : ∃ y : Int32, y = x2_5 + 1 := ⟨_, rfl⟩
      try have fv11 := fadd rfl (by decide : (1 : Int32).toInt = 1) ev11 (by omega) (by omega)
      refine g_iinc C 1 v11 [(2, .int v11), (3, .int v7), (1, .int x1_5), (0, .ref (ad 88))] dX6_leastIn_52 rfl (by rw [ev11]; rfl) (by decide) rfl ?_
      refine g_goto C 5 dX6_leastIn_55 (by decide) ?_
      refine g_lv [0, 2, 3] [(2, .int v11), (1, .int x1_5), (0, .ref (ad 88))] rfl ?_
      exact ih_5 (v11, x1_5, M_5, L_5) ⟨by show 0 ≤ v11.toInt; omega, by show v11.toInt ≤ 10; omega, by show (x1_5.toInt = -9 ∨ 0 ≤ x1_5.toInt); omega, by show x1_5.toInt < 10; omega, hI, hF, hG⟩ (by show (11 - v11.toInt).toNat < (11 - x2_5.toInt).toNat; omega)
    ·
      have f12 := fne rfl (by decide : (0 : Int32).toInt = 0) c9
      refine g_iload_n C 2 dX6_leastIn_35 rfl ?_
      refine g_bipush C (-9) dX6_leastIn_36 (by decide) ?_
      refine g_icmp_eq C 50 dX6_leastIn_38 (by decide) (fun c13 => ?_) (fun c13 => ?_)
      ·
        have f14 := feq rfl (by decide : ((-9) : Int32).toInt = (-9)) c13
        refine g_iload_n C 0 dX6_leastIn_50 rfl ?_
        refine g_istore_n C [(1, .int v7), (3, .int v7), (2, .int x2_5), (0, .ref (ad 88))] dX6_leastIn_51 (by decide) rfl ?_
        obtain ⟨v15, ev15⟩ : ∃ y : Int32, y = x2_5 + 1 := ⟨_, rfl⟩
        try have fv15 := fadd rfl (by decide : (1 : Int32).toInt = 1) ev15 (by omega) (by omega)
        refine g_iinc C 2 v15 [(2, .int v15), (1, .int v7), (3, .int v7), (0, .ref (ad 88))] dX6_leastIn_52 rfl (by rw [ev15]; rfl) (by decide) rfl ?_
        refine g_goto C 5 dX6_leastIn_55 (by decide) ?_
        refine g_lv [0, 1, 3] [(2, .int v15), (1, .int v7), (0, .ref (ad 88))] rfl ?_
        exact ih_5 (v15, v7, M_5, L_5) ⟨by show 0 ≤ v15.toInt; omega, by show v15.toInt ≤ 10; omega, by show (v7.toInt = -9 ∨ 0 ≤ v7.toInt); omega, by show v7.toInt < 10; omega, hI, hF, hG⟩ (by show (11 - v15.toInt).toNat < (11 - x2_5.toInt).toNat; omega)
      ·
        have f16 := fne rfl (by decide : ((-9) : Int32).toInt = (-9)) c13
        refine g_aload_n C 3 dX6_leastIn_41 rfl ?_
        refine g_iload_n C 0 dX6_leastIn_42 rfl ?_
        refine g_iload_n C 2 dX6_leastIn_43 rfl ?_
        refine g_callVi C (n := 2) (As := [.int v7, .int x1_5]) (st := []) (s_X6_cmp l D ad cs _ _ v7 x1_5 hI ⟨by omega, by omega⟩ ⟨by omega, by omega⟩) gX6_leastIn_X6_compareTallies rfl rfl rfl (by decide +kernel) ⟨Nat.le_of_ble_eq_true rfl, Nat.le_of_ble_eq_true rfl⟩ rfl (Nat.le_of_ble_eq_true rfl) ⟨Nat.zero_le _, Nat.zero_le _⟩ (by decide) (ce_poll ad cs _ _) rfl rfl dX6_leastIn_44 (fun r17 M18 L19 hr17 => ?_)
        obtain ⟨hq1, hq2, hr17⟩ := hr17
        obtain rfl := hq1.symm
        obtain rfl := hq2.symm
        refine g_if_gt C 52 dX6_leastIn_47 (by decide) (fun c20 => ?_) (fun c20 => ?_)
        ·
          have f21 := fl (by decide : (0 : Int32).toInt = 0) rfl c20
          obtain ⟨v22, ev22⟩ : ∃ y : Int32, y = x2_5 + 1 := ⟨_, rfl⟩
          try have fv22 := fadd rfl (by decide : (1 : Int32).toInt = 1) ev22 (by omega) (by omega)
          refine g_iinc C 1 v22 [(2, .int v22), (3, .int v7), (1, .int x1_5), (0, .ref (ad 88))] dX6_leastIn_52 rfl (by rw [ev22]; rfl) (by decide) rfl ?_
          refine g_goto C 5 dX6_leastIn_55 (by decide) ?_
          refine g_lv [0, 2, 3] [(2, .int v22), (1, .int x1_5), (0, .ref (ad 88))] rfl ?_
          exact ih_5 (v22, x1_5, M_5, L_5) ⟨by show 0 ≤ v22.toInt; omega, by show v22.toInt ≤ 10; omega, by show (x1_5.toInt = -9 ∨ 0 ≤ x1_5.toInt); omega, by show x1_5.toInt < 10; omega, hI, hF, hG⟩ (by show (11 - v22.toInt).toNat < (11 - x2_5.toInt).toNat; omega)
        ·
          have f23 := fnl (by decide : (0 : Int32).toInt = 0) rfl c20
          refine g_iload_n C 0 dX6_leastIn_50 rfl ?_
          refine g_istore_n C [(1, .int v7), (3, .int v7), (2, .int x2_5), (0, .ref (ad 88))] dX6_leastIn_51 (by decide) rfl ?_
          obtain ⟨v24, ev24⟩ : ∃ y : Int32, y = x2_5 + 1 := ⟨_, rfl⟩
          try have fv24 := fadd rfl (by decide : (1 : Int32).toInt = 1) ev24 (by omega) (by omega)
          refine g_iinc C 2 v24 [(2, .int v24), (1, .int v7), (3, .int v7), (0, .ref (ad 88))] dX6_leastIn_52 rfl (by rw [ev24]; rfl) (by decide) rfl ?_
          refine g_goto C 5 dX6_leastIn_55 (by decide) ?_
          refine g_lv [0, 1, 3] [(2, .int v24), (1, .int v7), (0, .ref (ad 88))] rfl ?_
          exact ih_5 (v24, v7, M_5, L_5) ⟨by show 0 ≤ v24.toInt; omega, by show v24.toInt ≤ 10; omega, by show (v7.toInt = -9 ∨ 0 ≤ v7.toInt); omega, by show v7.toInt < 10; omega, hI, hF, hG⟩ (by show (11 - v24.toInt).toNat < (11 - x2_5.toInt).toNat; omega)
theorem dX6_tallyFirstIn_0 : decode cX6_tallyFirstIn 0 = .ok (.aload_n 0, 1) := dw42 (n := 0) (i := 0) kc_cX6_tallyFirstIn_0 (by decide +kernel)
theorem dX6_tallyFirstIn_1 : decode cX6_tallyFirstIn 1 = .ok (.invokevirtual 59, 3) := dw182 (n := 0) (i := 1) (a := 0) (b := 59) kc_cX6_tallyFirstIn_0 (by decide +kernel) (by decide)
set_option maxRecDepth 20000 in
theorem ggX6_tallyFirstIn_X6_clearTallies : GoodIn wsX6_tallyFirstIn wsX6_clearTallies := (gk_code 7 rfl (gk_fieldLink 2 rfl (gk_fieldLink 8 rfl (gk_laysFinal 23 rfl (gk_laysFinal 24 rfl (gk_laysFinal 25 rfl (gk_lays 26 rfl (gk_lays 27 rfl (gk_laysFinal 28 rfl (gk_laysFinal 29 rfl (gk_laysFinal 30 rfl (gn))))))))))))
set_option maxRecDepth 20000 in
theorem gX6_tallyFirstIn_X6_clearTallies : GoodIn wsX6_tallyFirstIn (wsV RX6 59 RX6 yX6_clearTallies wsX6_clearTallies) := goodIn_app (gk_methodLink 3 rfl (gk_instanceMethod 4 rfl (gk_selects 5 rfl (gk_initialized 6 rfl (gn))))) ggX6_tallyFirstIn_X6_clearTallies
theorem dX6_tallyFirstIn_4 : decode cX6_tallyFirstIn 4 = .ok (.iconst 0, 1) := dw3 (n := 0) (i := 4) kc_cX6_tallyFirstIn_0 (by decide +kernel)
theorem dX6_tallyFirstIn_5 : decode cX6_tallyFirstIn 5 = .ok (.istore_n 1, 1) := dw60 (n := 0) (i := 5) kc_cX6_tallyFirstIn_0 (by decide +kernel)
theorem dX6_tallyFirstIn_6 : decode cX6_tallyFirstIn 6 = .ok (.iload_n 1, 1) := dw27 (n := 0) (i := 6) kc_cX6_tallyFirstIn_0 (by decide +kernel)
theorem dX6_tallyFirstIn_7 : decode cX6_tallyFirstIn 7 = .ok (.aload_n 0, 1) := dw42 (n := 0) (i := 7) kc_cX6_tallyFirstIn_0 (by decide +kernel)
theorem dX6_tallyFirstIn_8 : decode cX6_tallyFirstIn 8 = .ok (.getfield 15, 3) := dw180 (n := 0) (i := 8) (a := 0) (b := 15) kc_cX6_tallyFirstIn_0 (by decide +kernel) (by decide)
theorem in_X6_tallyFirstIn_6 : ∀ w ∈ u_ws RX6 TX6 8, w ∈ wsX6_tallyFirstIn := fun _ h => List.mem_cons_of_mem _ (List.mem_append_left _ (List.mem_append_right _ h))
theorem dX6_tallyFirstIn_11 : decode cX6_tallyFirstIn 11 = .ok (.if_icmp .ge 36, 3) := dw162 (n := 0) (i := 11) (a := 0) (b := 36) kc_cX6_tallyFirstIn_0 (by decide +kernel) (by decide)
theorem dX6_tallyFirstIn_47 : decode cX6_tallyFirstIn 47 = .ok (.return_, 1) := dw177 (n := 32) (i := 15) kc_cX6_tallyFirstIn_1 (by decide +kernel)
theorem dX6_tallyFirstIn_14 : decode cX6_tallyFirstIn 14 = .ok (.aload_n 0, 1) := dw42 (n := 0) (i := 14) kc_cX6_tallyFirstIn_0 (by decide +kernel)
theorem dX6_tallyFirstIn_15 : decode cX6_tallyFirstIn 15 = .ok (.iload_n 1, 1) := dw27 (n := 0) (i := 15) kc_cX6_tallyFirstIn_0 (by decide +kernel)
theorem dX6_tallyFirstIn_16 : decode cX6_tallyFirstIn 16 = .ok (.invokevirtual 75, 3) := dw182 (n := 0) (i := 16) (a := 0) (b := 75) kc_cX6_tallyFirstIn_0 (by decide +kernel) (by decide)
set_option maxRecDepth 20000 in
theorem ggX6_tallyFirstIn_X6_firstIn : GoodIn wsX6_tallyFirstIn wsX6_firstIn := (gk_code 12 rfl (gk_fieldLink 13 rfl (gk_fieldLink 14 rfl (gk_fieldLink 15 rfl (gk_fieldLink 16 rfl (gk_fieldLink 17 rfl (gk_laysFinal 23 rfl (gk_laysFinal 24 rfl (gk_laysFinal 25 rfl (gk_lays 26 rfl (gk_lays 27 rfl (gk_laysFinal 28 rfl (gk_laysFinal 29 rfl (gk_laysFinal 30 rfl (gk_lays 31 rfl (gk_laysFinal 32 rfl (gk_laysFinal 33 rfl (gk_laysFinal 34 rfl (gk_laysFinal 35 rfl (gn))))))))))))))))))))
set_option maxRecDepth 20000 in
theorem gX6_tallyFirstIn_X6_firstIn : GoodIn wsX6_tallyFirstIn (wsV RX6 75 RX6 yX6_firstIn wsX6_firstIn) := goodIn_app (gk_methodLink 9 rfl (gk_instanceMethod 10 rfl (gk_selects 11 rfl (gk_initialized 6 rfl (gn))))) ggX6_tallyFirstIn_X6_firstIn
theorem dX6_tallyFirstIn_19 : decode cX6_tallyFirstIn 19 = .ok (.istore_n 2, 1) := dw61 (n := 0) (i := 19) kc_cX6_tallyFirstIn_0 (by decide +kernel)
theorem dX6_tallyFirstIn_20 : decode cX6_tallyFirstIn 20 = .ok (.iload_n 2, 1) := dw28 (n := 0) (i := 20) kc_cX6_tallyFirstIn_0 (by decide +kernel)
theorem dX6_tallyFirstIn_21 : decode cX6_tallyFirstIn 21 = .ok (.bipush (-9), 2) := dw16 (n := 0) (i := 21) (a := 247) kc_cX6_tallyFirstIn_0 (by decide +kernel) (by decide)
theorem dX6_tallyFirstIn_23 : decode cX6_tallyFirstIn 23 = .ok (.if_icmp .eq 18, 3) := dw159 (n := 0) (i := 23) (a := 0) (b := 18) kc_cX6_tallyFirstIn_0 (by decide +kernel) (by decide)
theorem dX6_tallyFirstIn_41 : decode cX6_tallyFirstIn 41 = .ok (.iinc 1 1, 3) := by decide +kernel
theorem dX6_tallyFirstIn_44 : decode cX6_tallyFirstIn 44 = .ok (.goto (-38), 3) := dw167 (n := 32) (i := 12) (a := 255) (b := 218) kc_cX6_tallyFirstIn_1 (by decide +kernel) (by decide)
theorem dX6_tallyFirstIn_26 : decode cX6_tallyFirstIn 26 = .ok (.aload_n 0, 1) := dw42 (n := 0) (i := 26) kc_cX6_tallyFirstIn_0 (by decide +kernel)
theorem dX6_tallyFirstIn_27 : decode cX6_tallyFirstIn 27 = .ok (.getfield 26, 3) := dw180 (n := 0) (i := 27) (a := 0) (b := 26) kc_cX6_tallyFirstIn_0 (by decide +kernel) (by decide)
theorem dX6_tallyFirstIn_30 : decode cX6_tallyFirstIn 30 = .ok (.iload_n 2, 1) := dw28 (n := 0) (i := 30) kc_cX6_tallyFirstIn_0 (by decide +kernel)
theorem dX6_tallyFirstIn_31 : decode cX6_tallyFirstIn 31 = .ok (.dup2, 1) := dw92 (n := 0) (i := 31) kc_cX6_tallyFirstIn_0 (by decide +kernel)
theorem dX6_tallyFirstIn_32 : decode cX6_tallyFirstIn 32 = .ok (.laload, 1) := dw47 (n := 32) (i := 0) kc_cX6_tallyFirstIn_1 (by decide +kernel)
theorem dX6_tallyFirstIn_33 : decode cX6_tallyFirstIn 33 = .ok (.aload_n 0, 1) := dw42 (n := 32) (i := 1) kc_cX6_tallyFirstIn_1 (by decide +kernel)
theorem dX6_tallyFirstIn_34 : decode cX6_tallyFirstIn 34 = .ok (.iload_n 1, 1) := dw27 (n := 32) (i := 2) kc_cX6_tallyFirstIn_1 (by decide +kernel)
theorem dX6_tallyFirstIn_35 : decode cX6_tallyFirstIn 35 = .ok (.invokevirtual 65, 3) := dw182 (n := 32) (i := 3) (a := 0) (b := 65) kc_cX6_tallyFirstIn_1 (by decide +kernel) (by decide)
set_option maxRecDepth 20000 in
theorem ggX6_tallyFirstIn_X6_papersOf : GoodIn wsX6_tallyFirstIn wsX6_papersOf := (gk_code 21 rfl (gk_fieldLink 14 rfl (gk_fieldLink 22 rfl (gk_fieldLink 13 rfl (gk_laysFinal 23 rfl (gk_laysFinal 24 rfl (gk_laysFinal 25 rfl (gk_lays 26 rfl (gk_lays 27 rfl (gk_laysFinal 28 rfl (gk_laysFinal 29 rfl (gk_laysFinal 30 rfl (gk_lays 31 rfl (gk_laysFinal 32 rfl (gk_laysFinal 33 rfl (gk_laysFinal 34 rfl (gk_laysFinal 35 rfl (gn))))))))))))))))))
set_option maxRecDepth 20000 in
theorem gX6_tallyFirstIn_X6_papersOf : GoodIn wsX6_tallyFirstIn (wsV RX6 65 RX6 yX6_papersOf wsX6_papersOf) := goodIn_app (gk_methodLink 18 rfl (gk_instanceMethod 19 rfl (gk_selects 20 rfl (gk_initialized 6 rfl (gn))))) ggX6_tallyFirstIn_X6_papersOf
theorem dX6_tallyFirstIn_38 : decode cX6_tallyFirstIn 38 = .ok (.i2l, 1) := dw133 (n := 32) (i := 6) kc_cX6_tallyFirstIn_1 (by decide +kernel)
theorem dX6_tallyFirstIn_39 : decode cX6_tallyFirstIn 39 = .ok (.ladd, 1) := dw97 (n := 32) (i := 7) kc_cX6_tallyFirstIn_1 (by decide +kernel)
theorem dX6_tallyFirstIn_40 : decode cX6_tallyFirstIn 40 = .ok (.lastore, 1) := dw80 (n := 32) (i := 8) kc_cX6_tallyFirstIn_1 (by decide +kernel)
set_option maxHeartbeats 4000000 in
set_option maxRecDepth 100000 in
theorem s_X6_tallyFirstIn (l : Launch) (D : va_G) (ad : Nat → Nat) (cs : Nat → ClassId) (M : MI) (L : ML)  (hI : IC M) : Cv l yX6_tallyFirstIn wsX6_tallyFirstIn ({ frames := 1, cells := 0, slots := 0, locals := 24 }) D ad cs [.ref (ad 88)] M L (fun M1 L1 => IC M1 ∧ (∀ k, k < 300 ∨ 300 ≤ k → M1 k = M k) ∧ ∀ k, 258 ≤ k → L1 k = L k) := by
  refine enter_v RX6 rfl [(0, .ref (ad 88))] rfl (Nat.le_of_ble_eq_true rfl) (by decide +kernel) rfl ?_
  intro p e s m below meth c C hr
  have hF : ∀ k, k < 300 ∨ 300 ≤ k → M k = M k := fun _ _ => rfl
  have hG : ∀ k, 258 ≤ k → L k = L k := fun _ _ => rfl
  refine g_aload_n C 0 dX6_tallyFirstIn_0 rfl ?_
  refine g_callVv C (n := 0) (As := []) (st := []) (s_X6_clearTallies l D ad cs _ _ hI) gX6_tallyFirstIn_X6_clearTallies rfl rfl rfl (by decide +kernel) ⟨Nat.le_of_ble_eq_true rfl, Nat.le_of_ble_eq_true rfl⟩ rfl (Nat.le_of_ble_eq_true rfl) ⟨Nat.zero_le _, Nat.zero_le _⟩ (by decide) (ce_poll ad cs _ _) rfl rfl dX6_tallyFirstIn_1 (fun M2 L3 hr1 => ?_)
  obtain ⟨hI, hF1, hG1⟩ := hr1
  have hF : ∀ k, k < 300 ∨ 300 ≤ k → M2 k = M k := fun k hk => by (rw [hF1 k (by omega)]; try exact hF k hk)
  have hG : ∀ k, 258 ≤ k → L3 k = L k := fun k hk => by (rw [hG1 k hk]; try exact hG k hk)
  refine g_iconst C 0 dX6_tallyFirstIn_4 (by decide) ?_
  refine g_istore_n C [(1, .int 0), (0, .ref (ad 88))] dX6_tallyFirstIn_5 (by decide) rfl ?_
  have zy4 : (0 : Int32).toInt = 0 := by decide
  refine g_loop (α := Int32 × MI × ML) (fun a => (41 - a.1.toInt).toNat) (fun a => 0 ≤ a.1.toInt ∧ a.1.toInt ≤ 40 ∧ IC a.2.1 ∧ (∀ k, k < 300 ∨ 300 ≤ k → a.2.1 k = M k) ∧ (∀ k, 258 ≤ k → a.2.2 k = L k)) (fun a => a.2.1) (fun a => a.2.2) (fun a => [(1, .int a.1), (0, .ref (ad 88))]) (0, M2, L3) ⟨by show 0 ≤ (0 : Int32).toInt; omega, by show (0 : Int32).toInt ≤ 40; omega, hI, hF, hG⟩ rfl rfl rfl ?_
  rintro ⟨x1_6, M_6, L_6⟩ ⟨j6_0, j6_1, hI, hF, hG⟩ ih_6
  dsimp only at j6_0 j6_1 hI hF hG ih_6 ⊢
  refine g_iload_n C 0 dX6_tallyFirstIn_6 rfl ?_
  refine g_aload_n C 1 dX6_tallyFirstIn_7 rfl ?_
  refine g_get C (.int (M_6 88 3)) 3 in_X6_tallyFirstIn_6 (List.mem_of_getElem? (i := 1) rfl) (by decide) (ce_poll ad cs _ _) rfl (by decide) rfl rfl dX6_tallyFirstIn_8 ?_
  refine g_ni (fun v5 ev5 => ?_)
  have tv5 := congrArg Int32.toInt ev5
  obtain ⟨bv5, dv5⟩ := (show rg 0 40 v5 from (by rw [ev5]; exact (hI 88 3).1 rfl))
  refine g_icmp_ge C 47 dX6_tallyFirstIn_11 (by decide) (fun c6 => ?_) (fun c6 => ?_)
  ·
    have f7 := fle rfl rfl c6
    exact g_vret C hr ⟨hI, hF, hG⟩ dX6_tallyFirstIn_47
  ·
    have f8 := fnle rfl rfl c6
    refine g_aload_n C 1 dX6_tallyFirstIn_14 rfl ?_
    refine g_iload_n C 0 dX6_tallyFirstIn_15 rfl ?_
    refine g_callVi C (n := 1) (As := [.int x1_6]) (st := []) (s_X6_firstIn l D ad cs _ _ x1_6 hI ⟨by omega, by omega⟩) gX6_tallyFirstIn_X6_firstIn rfl rfl rfl (by decide +kernel) ⟨Nat.le_of_ble_eq_true rfl, Nat.le_of_ble_eq_true rfl⟩ rfl (Nat.le_of_ble_eq_true rfl) ⟨Nat.zero_le _, Nat.zero_le _⟩ (by decide) (ce_poll ad cs _ _) rfl rfl dX6_tallyFirstIn_16 (fun r9 M10 L11 hr9 => ?_)
    obtain ⟨hq1, hq2, hr9⟩ := hr9
    obtain rfl := hq1.symm
    obtain rfl := hq2.symm
    obtain ⟨br9, dr9⟩ := hr9
    refine g_istore_n C [(2, .int r9), (1, .int x1_6), (0, .ref (ad 88))] dX6_tallyFirstIn_19 (by decide) rfl ?_
    refine g_iload_n C 0 dX6_tallyFirstIn_20 rfl ?_
    refine g_bipush C (-9) dX6_tallyFirstIn_21 (by decide) ?_
    refine g_icmp_eq C 41 dX6_tallyFirstIn_23 (by decide) (fun c12 => ?_) (fun c12 => ?_)
    ·
      have f13 := feq rfl (by decide : ((-9) : Int32).toInt = (-9)) c12
      obtain ⟨v14, ev14⟩ : ∃ y : Int32, y = x1_6 + 1 := ⟨_, rfl⟩
      try have fv14 := fadd rfl (by decide : (1 : Int32).toInt = 1) ev14 (by omega) (by omega)
      refine g_iinc C 1 v14 [(1, .int v14), (2, .int r9), (0, .ref (ad 88))] dX6_tallyFirstIn_41 rfl (by rw [ev14]; rfl) (by decide) rfl ?_
      refine g_goto C 6 dX6_tallyFirstIn_44 (by decide) ?_
      refine g_lv [0, 2] [(1, .int v14), (0, .ref (ad 88))] rfl ?_
      exact ih_6 (v14, M_6, L_6) ⟨by show 0 ≤ v14.toInt; omega, by show v14.toInt ≤ 40; omega, hI, hF, hG⟩ (by show (41 - v14.toInt).toNat < (41 - x1_6.toInt).toNat; omega)
    ·
      have f15 := fne rfl (by decide : ((-9) : Int32).toInt = (-9)) c12
      refine g_aload_n C 2 dX6_tallyFirstIn_26 rfl ?_
      refine g_get C (.ref (ad 91)) 6 in_X6_tallyFirstIn_6 (List.mem_of_getElem? (i := 2) rfl) (by decide) (ce_poll ad cs _ _) rfl (by decide) rfl rfl dX6_tallyFirstIn_27 ?_
      refine g_iload_n C 0 dX6_tallyFirstIn_30 rfl ?_
      refine g_dup2 C dX6_tallyFirstIn_31 rfl rfl ?_
      refine g_lald C (by decide) (ce_pupper ad cs _ _) (fin' (n := 10) rfl (by omega) (by omega)) dX6_tallyFirstIn_32 ?_
      refine g_nl (fun v16 ev16 => ?_)
      refine g_aload_n C 2 dX6_tallyFirstIn_33 rfl ?_
      refine g_iload_n C 1 dX6_tallyFirstIn_34 rfl ?_
      refine g_callVi C (n := 1) (As := [.int x1_6]) (st := [.long v16, .int r9, .ref (ad 91)]) (s_X6_papersOf l D ad cs _ _ x1_6 hI ⟨by omega, by omega⟩) gX6_tallyFirstIn_X6_papersOf rfl rfl rfl (by decide +kernel) ⟨Nat.le_of_ble_eq_true rfl, Nat.le_of_ble_eq_true rfl⟩ rfl (Nat.le_of_ble_eq_true rfl) ⟨Nat.zero_le _, Nat.zero_le _⟩ (by decide) (ce_poll ad cs _ _) rfl rfl dX6_tallyFirstIn_35 (fun r17 M18 L19 hr17 => ?_)
      obtain ⟨hq1, hq2, hr17⟩ := hr17
      obtain rfl := hq1.symm
      obtain rfl := hq2.symm
      refine g_i2l C dX6_tallyFirstIn_38 ?_
      refine g_nl (fun v20 ev20 => ?_)
      refine g_ladd C dX6_tallyFirstIn_39 ?_
      refine g_nl (fun v21 ev21 => ?_)
      refine g_last C (by decide) (ce_pupper ad cs _ _) (by rw [sJ_k]; rfl) (fin' (n := 10) rfl (by omega) (by omega)) dX6_tallyFirstIn_40 ?_
      refine g_nmL (fun L22 hL22 => ?_)
      have hG : ∀ k, 258 ≤ k → L22 k = L k := fun k hk => by (rw [hL22, sJ_n _ _ _ (by omega)]; try exact hG k hk)
      obtain ⟨v23, ev23⟩ : ∃ y : Int32, y = x1_6 + 1 := ⟨_, rfl⟩
      try have fv23 := fadd rfl (by decide : (1 : Int32).toInt = 1) ev23 (by omega) (by omega)
      refine g_iinc C 1 v23 [(1, .int v23), (2, .int r9), (0, .ref (ad 88))] dX6_tallyFirstIn_41 rfl (by rw [ev23]; rfl) (by decide) rfl ?_
      refine g_goto C 6 dX6_tallyFirstIn_44 (by decide) ?_
      refine g_lv [0, 2] [(1, .int v23), (0, .ref (ad 88))] rfl ?_
      exact ih_6 (v23, M_6, L22) ⟨by show 0 ≤ v23.toInt; omega, by show v23.toInt ≤ 40; omega, hI, hF, hG⟩ (by show (41 - v23.toInt).toNat < (41 - x1_6.toInt).toNat; omega)
theorem dX5_tallyPoints_0 : decode cX5_tallyPoints 0 = .ok (.iconst 0, 1) := dw3 (n := 0) (i := 0) kc_cX5_tallyPoints_0 (by decide +kernel)
theorem dX5_tallyPoints_1 : decode cX5_tallyPoints 1 = .ok (.istore_n 1, 1) := dw60 (n := 0) (i := 1) kc_cX5_tallyPoints_0 (by decide +kernel)
theorem dX5_tallyPoints_2 : decode cX5_tallyPoints 2 = .ok (.iload_n 1, 1) := dw27 (n := 0) (i := 2) kc_cX5_tallyPoints_0 (by decide +kernel)
theorem dX5_tallyPoints_3 : decode cX5_tallyPoints 3 = .ok (.aload_n 0, 1) := dw42 (n := 0) (i := 3) kc_cX5_tallyPoints_0 (by decide +kernel)
theorem dX5_tallyPoints_4 : decode cX5_tallyPoints 4 = .ok (.getfield 18, 3) := dw180 (n := 0) (i := 4) (a := 0) (b := 18) kc_cX5_tallyPoints_0 (by decide +kernel) (by decide)
theorem in_X5_tallyPoints_5 : ∀ w ∈ u_ws RX5 TX5 3, w ∈ wsX5_tallyPoints := fun _ h => List.mem_cons_of_mem _ (List.mem_append_left _ (List.mem_append_left _ (List.mem_append_left _ (List.mem_append_right _ h))))
theorem dX5_tallyPoints_7 : decode cX5_tallyPoints 7 = .ok (.getfield 58, 3) := dw180 (n := 0) (i := 7) (a := 0) (b := 58) kc_cX5_tallyPoints_0 (by decide +kernel) (by decide)
theorem in_X5_tallyPoints_6 : ∀ w ∈ u_ws RX6 TX6 8, w ∈ wsX5_tallyPoints := fun _ h => List.mem_cons_of_mem _ (List.mem_append_left _ (List.mem_append_left _ (List.mem_append_right _ h)))
theorem dX5_tallyPoints_10 : decode cX5_tallyPoints 10 = .ok (.if_icmp .ge 75, 3) := dw162 (n := 0) (i := 10) (a := 0) (b := 75) kc_cX5_tallyPoints_0 (by decide +kernel) (by decide)
theorem dX5_tallyPoints_85 : decode cX5_tallyPoints 85 = .ok (.return_, 1) := dw177 (n := 64) (i := 21) kc_cX5_tallyPoints_2 (by decide +kernel)
theorem dX5_tallyPoints_13 : decode cX5_tallyPoints 13 = .ok (.iconst 0, 1) := dw3 (n := 0) (i := 13) kc_cX5_tallyPoints_0 (by decide +kernel)
theorem dX5_tallyPoints_14 : decode cX5_tallyPoints 14 = .ok (.istore_n 2, 1) := dw61 (n := 0) (i := 14) kc_cX5_tallyPoints_0 (by decide +kernel)
theorem dX5_tallyPoints_15 : decode cX5_tallyPoints 15 = .ok (.iload_n 2, 1) := dw28 (n := 0) (i := 15) kc_cX5_tallyPoints_0 (by decide +kernel)
theorem dX5_tallyPoints_16 : decode cX5_tallyPoints 16 = .ok (.aload_n 0, 1) := dw42 (n := 0) (i := 16) kc_cX5_tallyPoints_0 (by decide +kernel)
theorem dX5_tallyPoints_17 : decode cX5_tallyPoints 17 = .ok (.getfield 18, 3) := dw180 (n := 0) (i := 17) (a := 0) (b := 18) kc_cX5_tallyPoints_0 (by decide +kernel) (by decide)
theorem dX5_tallyPoints_20 : decode cX5_tallyPoints 20 = .ok (.getfield 61, 3) := dw180 (n := 0) (i := 20) (a := 0) (b := 61) kc_cX5_tallyPoints_0 (by decide +kernel) (by decide)
theorem dX5_tallyPoints_23 : decode cX5_tallyPoints 23 = .ok (.getfield 65, 3) := dw180 (n := 0) (i := 23) (a := 0) (b := 65) kc_cX5_tallyPoints_0 (by decide +kernel) (by decide)
theorem in_X5_tallyPoints_2 : ∀ w ∈ u_ws RX2 TX2 2, w ∈ wsX5_tallyPoints := fun _ h => List.mem_cons_of_mem _ (List.mem_append_left _ (List.mem_append_right _ h))
theorem dX5_tallyPoints_26 : decode cX5_tallyPoints 26 = .ok (.if_icmp .ge 53, 3) := dw162 (n := 0) (i := 26) (a := 0) (b := 53) kc_cX5_tallyPoints_0 (by decide +kernel) (by decide)
theorem dX5_tallyPoints_79 : decode cX5_tallyPoints 79 = .ok (.iinc 1 1, 3) := by decide +kernel
theorem dX5_tallyPoints_82 : decode cX5_tallyPoints 82 = .ok (.goto (-80), 3) := dw167 (n := 64) (i := 18) (a := 255) (b := 176) kc_cX5_tallyPoints_2 (by decide +kernel) (by decide)
theorem dX5_tallyPoints_29 : decode cX5_tallyPoints 29 = .ok (.aload_n 0, 1) := dw42 (n := 0) (i := 29) kc_cX5_tallyPoints_0 (by decide +kernel)
theorem dX5_tallyPoints_30 : decode cX5_tallyPoints 30 = .ok (.getfield 18, 3) := dw180 (n := 0) (i := 30) (a := 0) (b := 18) kc_cX5_tallyPoints_0 (by decide +kernel) (by decide)
theorem dX5_tallyPoints_33 : decode cX5_tallyPoints 33 = .ok (.getfield 68, 3) := dw180 (n := 32) (i := 1) (a := 0) (b := 68) kc_cX5_tallyPoints_1 (by decide +kernel) (by decide)
theorem dX5_tallyPoints_36 : decode cX5_tallyPoints 36 = .ok (.iload_n 2, 1) := dw28 (n := 32) (i := 4) kc_cX5_tallyPoints_1 (by decide +kernel)
theorem dX5_tallyPoints_37 : decode cX5_tallyPoints 37 = .ok (.dup2, 1) := dw92 (n := 32) (i := 5) kc_cX5_tallyPoints_1 (by decide +kernel)
theorem dX5_tallyPoints_38 : decode cX5_tallyPoints 38 = .ok (.laload, 1) := dw47 (n := 32) (i := 6) kc_cX5_tallyPoints_1 (by decide +kernel)
theorem dX5_tallyPoints_39 : decode cX5_tallyPoints 39 = .ok (.aload_n 0, 1) := dw42 (n := 32) (i := 7) kc_cX5_tallyPoints_1 (by decide +kernel)
theorem dX5_tallyPoints_40 : decode cX5_tallyPoints 40 = .ok (.getfield 18, 3) := dw180 (n := 32) (i := 8) (a := 0) (b := 18) kc_cX5_tallyPoints_1 (by decide +kernel) (by decide)
theorem dX5_tallyPoints_43 : decode cX5_tallyPoints 43 = .ok (.iload_n 1, 1) := dw27 (n := 32) (i := 11) kc_cX5_tallyPoints_1 (by decide +kernel)
theorem dX5_tallyPoints_44 : decode cX5_tallyPoints 44 = .ok (.invokevirtual 72, 3) := dw182 (n := 32) (i := 12) (a := 0) (b := 72) kc_cX5_tallyPoints_1 (by decide +kernel) (by decide)
set_option maxRecDepth 20000 in
theorem ggX5_tallyPoints_X6_papersOf : GoodIn wsX5_tallyPoints wsX6_papersOf := (gk_code 13 rfl (gk_fieldLink 14 rfl (gk_fieldLink 15 rfl (gk_fieldLink 16 rfl (gk_laysFinal 20 rfl (gk_laysFinal 21 rfl (gk_laysFinal 22 rfl (gk_lays 23 rfl (gk_lays 24 rfl (gk_laysFinal 25 rfl (gk_laysFinal 26 rfl (gk_laysFinal 27 rfl (gk_lays 30 rfl (gk_laysFinal 31 rfl (gk_laysFinal 32 rfl (gk_laysFinal 33 rfl (gk_laysFinal 34 rfl (gn))))))))))))))))))
set_option maxRecDepth 20000 in
theorem gX5_tallyPoints_X6_papersOf : GoodIn wsX5_tallyPoints (wsV RX5 72 RX6 yX6_papersOf wsX6_papersOf) := goodIn_app (gk_methodLink 9 rfl (gk_instanceMethod 10 rfl (gk_selects 11 rfl (gk_initialized 12 rfl (gn))))) ggX5_tallyPoints_X6_papersOf
theorem dX5_tallyPoints_47 : decode cX5_tallyPoints 47 = .ok (.aload_n 0, 1) := dw42 (n := 32) (i := 15) kc_cX5_tallyPoints_1 (by decide +kernel)
theorem dX5_tallyPoints_48 : decode cX5_tallyPoints 48 = .ok (.getfield 18, 3) := dw180 (n := 32) (i := 16) (a := 0) (b := 18) kc_cX5_tallyPoints_1 (by decide +kernel) (by decide)
theorem dX5_tallyPoints_51 : decode cX5_tallyPoints 51 = .ok (.getfield 76, 3) := dw180 (n := 32) (i := 19) (a := 0) (b := 76) kc_cX5_tallyPoints_1 (by decide +kernel) (by decide)
theorem dX5_tallyPoints_54 : decode cX5_tallyPoints 54 = .ok (.getfield 80, 3) := dw180 (n := 32) (i := 22) (a := 0) (b := 80) kc_cX5_tallyPoints_1 (by decide +kernel) (by decide)
theorem in_X5_tallyPoints_0 : ∀ w ∈ u_ws RX0 TX0 5, w ∈ wsX5_tallyPoints := fun _ h => List.mem_cons_of_mem _ (List.mem_append_right _ h)
theorem dX5_tallyPoints_57 : decode cX5_tallyPoints 57 = .ok (.aload_n 0, 1) := dw42 (n := 32) (i := 25) kc_cX5_tallyPoints_1 (by decide +kernel)
theorem dX5_tallyPoints_58 : decode cX5_tallyPoints 58 = .ok (.getfield 18, 3) := dw180 (n := 32) (i := 26) (a := 0) (b := 18) kc_cX5_tallyPoints_1 (by decide +kernel) (by decide)
theorem dX5_tallyPoints_61 : decode cX5_tallyPoints 61 = .ok (.getfield 86, 3) := dw180 (n := 32) (i := 29) (a := 0) (b := 86) kc_cX5_tallyPoints_1 (by decide +kernel) (by decide)
theorem dX5_tallyPoints_64 : decode cX5_tallyPoints 64 = .ok (.iload_n 1, 1) := dw27 (n := 64) (i := 0) kc_cX5_tallyPoints_2 (by decide +kernel)
theorem dX5_tallyPoints_65 : decode cX5_tallyPoints 65 = .ok (.iaload, 1) := dw46 (n := 64) (i := 1) kc_cX5_tallyPoints_2 (by decide +kernel)
theorem dX5_tallyPoints_66 : decode cX5_tallyPoints 66 = .ok (.aaload, 1) := dw50 (n := 64) (i := 2) kc_cX5_tallyPoints_2 (by decide +kernel)
theorem dX5_tallyPoints_67 : decode cX5_tallyPoints 67 = .ok (.iload_n 2, 1) := dw28 (n := 64) (i := 3) kc_cX5_tallyPoints_2 (by decide +kernel)
theorem dX5_tallyPoints_68 : decode cX5_tallyPoints 68 = .ok (.iaload, 1) := dw46 (n := 64) (i := 4) kc_cX5_tallyPoints_2 (by decide +kernel)
theorem dX5_tallyPoints_69 : decode cX5_tallyPoints 69 = .ok (.imul, 1) := dw104 (n := 64) (i := 5) kc_cX5_tallyPoints_2 (by decide +kernel)
theorem dX5_tallyPoints_70 : decode cX5_tallyPoints 70 = .ok (.i2l, 1) := dw133 (n := 64) (i := 6) kc_cX5_tallyPoints_2 (by decide +kernel)
theorem dX5_tallyPoints_71 : decode cX5_tallyPoints 71 = .ok (.ladd, 1) := dw97 (n := 64) (i := 7) kc_cX5_tallyPoints_2 (by decide +kernel)
theorem dX5_tallyPoints_72 : decode cX5_tallyPoints 72 = .ok (.lastore, 1) := dw80 (n := 64) (i := 8) kc_cX5_tallyPoints_2 (by decide +kernel)
theorem dX5_tallyPoints_73 : decode cX5_tallyPoints 73 = .ok (.iinc 2 1, 3) := by decide +kernel
theorem dX5_tallyPoints_76 : decode cX5_tallyPoints 76 = .ok (.goto (-61), 3) := dw167 (n := 64) (i := 12) (a := 255) (b := 195) kc_cX5_tallyPoints_2 (by decide +kernel) (by decide)
set_option maxHeartbeats 4000000 in
set_option maxRecDepth 100000 in
theorem s_X5_tallyPoints (l : Launch) (D : va_G) (ad : Nat → Nat) (cs : Nat → ClassId) (M : MI) (L : ML)  (hI : IC M) : Cv l yX5_tallyPoints wsX5_tallyPoints ({ frames := 1, cells := 0, slots := 0, locals := 21 }) D ad cs [.ref (ad 93)] M L (fun M1 L1 => IC M1 ∧ (∀ k, k < 300 ∨ 300 ≤ k → M1 k = M k) ∧ ∀ k, 258 ≤ k → L1 k = L k) := by
  refine enter_v RX5 rfl [(0, .ref (ad 93))] rfl (Nat.le_of_ble_eq_true rfl) (by decide +kernel) rfl ?_
  intro p e s m below meth c C hr
  have hF : ∀ k, k < 300 ∨ 300 ≤ k → M k = M k := fun _ _ => rfl
  have hG : ∀ k, 258 ≤ k → L k = L k := fun _ _ => rfl
  refine g_iconst C 0 dX5_tallyPoints_0 (by decide) ?_
  refine g_istore_n C [(1, .int 0), (0, .ref (ad 93))] dX5_tallyPoints_1 (by decide) rfl ?_
  have zy1 : (0 : Int32).toInt = 0 := by decide
  refine g_loop (α := Int32 × MI × ML) (fun a => (41 - a.1.toInt).toNat) (fun a => 0 ≤ a.1.toInt ∧ a.1.toInt ≤ 40 ∧ IC a.2.1 ∧ (∀ k, k < 300 ∨ 300 ≤ k → a.2.1 k = M k) ∧ (∀ k, 258 ≤ k → a.2.2 k = L k)) (fun a => a.2.1) (fun a => a.2.2) (fun a => [(1, .int a.1), (0, .ref (ad 93))]) (0, M, L) ⟨by show 0 ≤ (0 : Int32).toInt; omega, by show (0 : Int32).toInt ≤ 40; omega, hI, hF, hG⟩ rfl rfl rfl ?_
  rintro ⟨x1_2, M_2, L_2⟩ ⟨j2_0, j2_1, hI, hF, hG⟩ ih_2
  dsimp only at j2_0 j2_1 hI hF hG ih_2 ⊢
  refine g_iload_n C 0 dX5_tallyPoints_2 rfl ?_
  refine g_aload_n C 1 dX5_tallyPoints_3 rfl ?_
  refine g_get C (.ref (ad 88)) 0 in_X5_tallyPoints_5 (List.mem_of_getElem? (i := 1) rfl) (by decide) (ce_plain ad cs _ _) rfl (by decide) rfl rfl dX5_tallyPoints_4 ?_
  refine g_get C (.int (M_2 88 3)) 3 in_X5_tallyPoints_6 (List.mem_of_getElem? (i := 2) rfl) (by decide) (ce_poll ad cs _ _) rfl (by decide) rfl rfl dX5_tallyPoints_7 ?_
  refine g_ni (fun v2 ev2 => ?_)
  have tv2 := congrArg Int32.toInt ev2
  obtain ⟨bv2, dv2⟩ := (show rg 0 40 v2 from (by rw [ev2]; exact (hI 88 3).1 rfl))
  refine g_icmp_ge C 85 dX5_tallyPoints_10 (by decide) (fun c3 => ?_) (fun c3 => ?_)
  ·
    have f4 := fle rfl rfl c3
    exact g_vret C hr ⟨hI, hF, hG⟩ dX5_tallyPoints_85
  ·
    have f5 := fnle rfl rfl c3
    refine g_iconst C 0 dX5_tallyPoints_13 (by decide) ?_
    refine g_istore_n C [(2, .int 0), (1, .int x1_2), (0, .ref (ad 93))] dX5_tallyPoints_14 (by decide) rfl ?_
    have zy6 : (0 : Int32).toInt = 0 := by decide
    refine g_loop (α := Int32 × MI × ML) (fun a => (11 - a.1.toInt).toNat) (fun a => 0 ≤ a.1.toInt ∧ a.1.toInt ≤ 10 ∧ IC a.2.1 ∧ (∀ k, k < 300 ∨ 300 ≤ k → a.2.1 k = M k) ∧ (∀ k, 258 ≤ k → a.2.2 k = L k)) (fun a => a.2.1) (fun a => a.2.2) (fun a => [(2, .int a.1), (1, .int x1_2), (0, .ref (ad 93))]) (0, M_2, L_2) ⟨by show 0 ≤ (0 : Int32).toInt; omega, by show (0 : Int32).toInt ≤ 10; omega, hI, hF, hG⟩ rfl rfl rfl ?_
    rintro ⟨x2_15, M_15, L_15⟩ ⟨j15_0, j15_1, hI, hF, hG⟩ ih_15
    dsimp only at j15_0 j15_1 hI hF hG ih_15 ⊢
    refine g_iload_n C 0 dX5_tallyPoints_15 rfl ?_
    refine g_aload_n C 2 dX5_tallyPoints_16 rfl ?_
    refine g_get C (.ref (ad 88)) 0 in_X5_tallyPoints_5 (List.mem_of_getElem? (i := 1) rfl) (by decide) (ce_plain ad cs _ _) rfl (by decide) rfl rfl dX5_tallyPoints_17 ?_
    refine g_get C (.ref (ad 1)) 0 in_X5_tallyPoints_6 (List.mem_of_getElem? (i := 3) rfl) (by decide) (ce_poll ad cs _ _) rfl (by decide) rfl rfl dX5_tallyPoints_20 ?_
    refine g_get C (.int (M_15 1 0)) 0 in_X5_tallyPoints_2 (List.mem_of_getElem? (i := 4) rfl) (by decide) (ce_cand ad cs _ _) rfl (by decide) rfl rfl dX5_tallyPoints_23 ?_
    refine g_ni (fun v7 ev7 => ?_)
    have tv7 := congrArg Int32.toInt ev7
    obtain ⟨bv7, dv7⟩ := (show rg 0 10 v7 from (by rw [ev7]; exact hI 1 0 rfl))
    refine g_icmp_ge C 79 dX5_tallyPoints_26 (by decide) (fun c8 => ?_) (fun c8 => ?_)
    ·
      have f9 := fle rfl rfl c8
      obtain ⟨v10, ev10⟩ : ∃ y : Int32, y = x1_2 + 1 := ⟨_, rfl⟩
      try have fv10 := fadd rfl (by decide : (1 : Int32).toInt = 1) ev10 (by omega) (by omega)
      refine g_iinc C 1 v10 [(1, .int v10), (2, .int x2_15), (0, .ref (ad 93))] dX5_tallyPoints_79 rfl (by rw [ev10]; rfl) (by decide) rfl ?_
      refine g_goto C 2 dX5_tallyPoints_82 (by decide) ?_
      refine g_lv [0, 2] [(1, .int v10), (0, .ref (ad 93))] rfl ?_
      exact ih_2 (v10, M_15, L_15) ⟨by show 0 ≤ v10.toInt; omega, by show v10.toInt ≤ 40; omega, hI, hF, hG⟩ (by show (41 - v10.toInt).toNat < (41 - x1_2.toInt).toNat; omega)
    ·
      have f11 := fnle rfl rfl c8
      refine g_aload_n C 2 dX5_tallyPoints_29 rfl ?_
      refine g_get C (.ref (ad 88)) 0 in_X5_tallyPoints_5 (List.mem_of_getElem? (i := 1) rfl) (by decide) (ce_plain ad cs _ _) rfl (by decide) rfl rfl dX5_tallyPoints_30 ?_
      refine g_get C (.ref (ad 91)) 6 in_X5_tallyPoints_6 (List.mem_of_getElem? (i := 5) rfl) (by decide) (ce_poll ad cs _ _) rfl (by decide) rfl rfl dX5_tallyPoints_33 ?_
      refine g_iload_n C 0 dX5_tallyPoints_36 rfl ?_
      refine g_dup2 C dX5_tallyPoints_37 rfl rfl ?_
      refine g_lald C (by decide) (ce_pupper ad cs _ _) (fin' (n := 10) rfl (by omega) (by omega)) dX5_tallyPoints_38 ?_
      refine g_nl (fun v12 ev12 => ?_)
      refine g_aload_n C 2 dX5_tallyPoints_39 rfl ?_
      refine g_get C (.ref (ad 88)) 0 in_X5_tallyPoints_5 (List.mem_of_getElem? (i := 1) rfl) (by decide) (ce_plain ad cs _ _) rfl (by decide) rfl rfl dX5_tallyPoints_40 ?_
      refine g_iload_n C 1 dX5_tallyPoints_43 rfl ?_
      refine g_callVi C (n := 1) (As := [.int x1_2]) (st := [.long v12, .int x2_15, .ref (ad 91)]) (s_X6_papersOf l D ad cs _ _ x1_2 hI ⟨by omega, by omega⟩) gX5_tallyPoints_X6_papersOf rfl rfl rfl (by decide +kernel) ⟨Nat.le_of_ble_eq_true rfl, Nat.le_of_ble_eq_true rfl⟩ rfl (Nat.le_of_ble_eq_true rfl) ⟨Nat.zero_le _, Nat.zero_le _⟩ (by decide) (ce_poll ad cs _ _) rfl rfl dX5_tallyPoints_44 (fun r13 M14 L15 hr13 => ?_)
      obtain ⟨hq1, hq2, hr13⟩ := hr13
      obtain rfl := hq1.symm
      obtain rfl := hq2.symm
      refine g_aload_n C 2 dX5_tallyPoints_47 rfl ?_
      refine g_get C (.ref (ad 88)) 0 in_X5_tallyPoints_5 (List.mem_of_getElem? (i := 1) rfl) (by decide) (ce_plain ad cs _ _) rfl (by decide) rfl rfl dX5_tallyPoints_48 ?_
      refine g_get C (.ref (ad 3)) 1 in_X5_tallyPoints_6 (List.mem_of_getElem? (i := 6) rfl) (by decide) (ce_poll ad cs _ _) rfl (by decide) rfl rfl dX5_tallyPoints_51 ?_
      refine g_get C (.ref (ad 7)) 4 in_X5_tallyPoints_0 (List.mem_of_getElem? (i := 7) rfl) (by decide) (ce_ball ad cs _ _) rfl (by decide) rfl rfl dX5_tallyPoints_54 ?_
      refine g_aload_n C 2 dX5_tallyPoints_57 rfl ?_
      refine g_get C (.ref (ad 88)) 0 in_X5_tallyPoints_5 (List.mem_of_getElem? (i := 1) rfl) (by decide) (ce_plain ad cs _ _) rfl (by decide) rfl rfl dX5_tallyPoints_58 ?_
      refine g_get C (.ref (ad 89)) 2 in_X5_tallyPoints_6 (List.mem_of_getElem? (i := 8) rfl) (by decide) (ce_poll ad cs _ _) rfl (by decide) rfl rfl dX5_tallyPoints_61 ?_
      refine g_iload_n C 1 dX5_tallyPoints_64 rfl ?_
      refine g_iald C (by decide) (ce_plying ad cs _ _) (fin' (n := 40) rfl (by omega) (by omega)) dX5_tallyPoints_65 ?_
      refine g_ni (fun v16 ev16 => ?_)
      have tv16 := congrArg Int32.toInt ev16
      obtain ⟨bv16, dv16⟩ := (show rg 0 59 v16 from (by rw [ev16]; exact hI 89 _))
      have hi17 : vp_in v16 60 := (fin' (n := 60) rfl (by omega) (by omega))
      have nhi17 := tn hi17
      refine g_aald C (by decide) (ce_browm ad cs _ _) rfl hi17 dX5_tallyPoints_66 ?_
      refine g_iload_n C 0 dX5_tallyPoints_67 rfl ?_
      refine g_iald C (by omega) (ce_brow ad cs _ _ nhi17) (fin' (n := 10) rfl (by omega) (by omega)) dX5_tallyPoints_68 ?_
      refine g_ni (fun v18 ev18 => ?_)
      have tv18 := congrArg Int32.toInt ev18
      obtain ⟨bv18, dv18⟩ := (show rg 0 9 v18 from (by rw [ev18]; exact hI.row _ (by omega) (by omega)))
      refine g_imul C dX5_tallyPoints_69 ?_
      refine g_ni (fun v19 ev19 => ?_)
      try have fv19 := fmul rfl rfl ev19 (by omega) (by omega)
      refine g_i2l C dX5_tallyPoints_70 ?_
      refine g_nl (fun v20 ev20 => ?_)
      refine g_ladd C dX5_tallyPoints_71 ?_
      refine g_nl (fun v21 ev21 => ?_)
      refine g_last C (by decide) (ce_pupper ad cs _ _) (by rw [sJ_k]; rfl) (fin' (n := 10) rfl (by omega) (by omega)) dX5_tallyPoints_72 ?_
      refine g_nmL (fun L22 hL22 => ?_)
      have hG : ∀ k, 258 ≤ k → L22 k = L k := fun k hk => by (rw [hL22, sJ_n _ _ _ (by omega)]; try exact hG k hk)
      obtain ⟨v23, ev23⟩ : ∃ y : Int32, y = x2_15 + 1 := ⟨_, rfl⟩
      try have fv23 := fadd rfl (by decide : (1 : Int32).toInt = 1) ev23 (by omega) (by omega)
      refine g_iinc C 0 v23 [(2, .int v23), (1, .int x1_2), (0, .ref (ad 93))] dX5_tallyPoints_73 rfl (by rw [ev23]; rfl) (by decide) rfl ?_
      refine g_goto C 15 dX5_tallyPoints_76 (by decide) ?_
      exact ih_15 (v23, M_15, L22) ⟨by show 0 ≤ v23.toInt; omega, by show v23.toInt ≤ 10; omega, hI, hF, hG⟩ (by show (11 - v23.toInt).toNat < (11 - x2_15.toInt).toNat; omega)
theorem dX5_tallyPlaces_0 : decode cX5_tallyPlaces 0 = .ok (.aload_n 0, 1) := dw42 (n := 0) (i := 0) kc_cX5_tallyPlaces_0 (by decide +kernel)
theorem dX5_tallyPlaces_1 : decode cX5_tallyPlaces 1 = .ok (.getfield 18, 3) := dw180 (n := 0) (i := 1) (a := 0) (b := 18) kc_cX5_tallyPlaces_0 (by decide +kernel) (by decide)
theorem in_X5_tallyPlaces_5 : ∀ w ∈ u_ws RX5 TX5 3, w ∈ wsX5_tallyPlaces := fun _ h => List.mem_cons_of_mem _ (List.mem_append_left _ (List.mem_append_left _ (List.mem_append_left _ (List.mem_append_right _ h))))
theorem dX5_tallyPlaces_4 : decode cX5_tallyPlaces 4 = .ok (.getfield 61, 3) := dw180 (n := 0) (i := 4) (a := 0) (b := 61) kc_cX5_tallyPlaces_0 (by decide +kernel) (by decide)
theorem in_X5_tallyPlaces_6 : ∀ w ∈ u_ws RX6 TX6 8, w ∈ wsX5_tallyPlaces := fun _ h => List.mem_cons_of_mem _ (List.mem_append_left _ (List.mem_append_left _ (List.mem_append_right _ h)))
theorem dX5_tallyPlaces_7 : decode cX5_tallyPlaces 7 = .ok (.getfield 65, 3) := dw180 (n := 0) (i := 7) (a := 0) (b := 65) kc_cX5_tallyPlaces_0 (by decide +kernel) (by decide)
theorem in_X5_tallyPlaces_2 : ∀ w ∈ u_ws RX2 TX2 2, w ∈ wsX5_tallyPlaces := fun _ h => List.mem_cons_of_mem _ (List.mem_append_left _ (List.mem_append_right _ h))
theorem dX5_tallyPlaces_10 : decode cX5_tallyPlaces 10 = .ok (.iconst 1, 1) := dw4 (n := 0) (i := 10) kc_cX5_tallyPlaces_0 (by decide +kernel)
theorem dX5_tallyPlaces_11 : decode cX5_tallyPlaces 11 = .ok (.isub, 1) := dw100 (n := 0) (i := 11) kc_cX5_tallyPlaces_0 (by decide +kernel)
theorem dX5_tallyPlaces_12 : decode cX5_tallyPlaces 12 = .ok (.istore_n 1, 1) := dw60 (n := 0) (i := 12) kc_cX5_tallyPlaces_0 (by decide +kernel)
theorem dX5_tallyPlaces_13 : decode cX5_tallyPlaces 13 = .ok (.iconst 0, 1) := dw3 (n := 0) (i := 13) kc_cX5_tallyPlaces_0 (by decide +kernel)
theorem dX5_tallyPlaces_14 : decode cX5_tallyPlaces 14 = .ok (.istore_n 2, 1) := dw61 (n := 0) (i := 14) kc_cX5_tallyPlaces_0 (by decide +kernel)
theorem dX5_tallyPlaces_15 : decode cX5_tallyPlaces 15 = .ok (.iload_n 2, 1) := dw28 (n := 0) (i := 15) kc_cX5_tallyPlaces_0 (by decide +kernel)
theorem dX5_tallyPlaces_16 : decode cX5_tallyPlaces 16 = .ok (.aload_n 0, 1) := dw42 (n := 0) (i := 16) kc_cX5_tallyPlaces_0 (by decide +kernel)
theorem dX5_tallyPlaces_17 : decode cX5_tallyPlaces 17 = .ok (.getfield 18, 3) := dw180 (n := 0) (i := 17) (a := 0) (b := 18) kc_cX5_tallyPlaces_0 (by decide +kernel) (by decide)
theorem dX5_tallyPlaces_20 : decode cX5_tallyPlaces 20 = .ok (.getfield 58, 3) := dw180 (n := 0) (i := 20) (a := 0) (b := 58) kc_cX5_tallyPlaces_0 (by decide +kernel) (by decide)
theorem dX5_tallyPlaces_23 : decode cX5_tallyPlaces 23 = .ok (.if_icmp .ge 85, 3) := dw162 (n := 0) (i := 23) (a := 0) (b := 85) kc_cX5_tallyPlaces_0 (by decide +kernel) (by decide)
theorem dX5_tallyPlaces_108 : decode cX5_tallyPlaces 108 = .ok (.return_, 1) := dw177 (n := 96) (i := 12) kc_cX5_tallyPlaces_3 (by decide +kernel)
theorem dX5_tallyPlaces_26 : decode cX5_tallyPlaces 26 = .ok (.aload_n 0, 1) := dw42 (n := 0) (i := 26) kc_cX5_tallyPlaces_0 (by decide +kernel)
theorem dX5_tallyPlaces_27 : decode cX5_tallyPlaces 27 = .ok (.getfield 18, 3) := dw180 (n := 0) (i := 27) (a := 0) (b := 18) kc_cX5_tallyPlaces_0 (by decide +kernel) (by decide)
theorem dX5_tallyPlaces_30 : decode cX5_tallyPlaces 30 = .ok (.getfield 86, 3) := dw180 (n := 0) (i := 30) (a := 0) (b := 86) kc_cX5_tallyPlaces_0 (by decide +kernel) (by decide)
theorem dX5_tallyPlaces_33 : decode cX5_tallyPlaces 33 = .ok (.iload_n 2, 1) := dw28 (n := 32) (i := 1) kc_cX5_tallyPlaces_1 (by decide +kernel)
theorem dX5_tallyPlaces_34 : decode cX5_tallyPlaces 34 = .ok (.iaload, 1) := dw46 (n := 32) (i := 2) kc_cX5_tallyPlaces_1 (by decide +kernel)
theorem dX5_tallyPlaces_35 : decode cX5_tallyPlaces 35 = .ok (.istore_n 3, 1) := dw62 (n := 32) (i := 3) kc_cX5_tallyPlaces_1 (by decide +kernel)
theorem dX5_tallyPlaces_36 : decode cX5_tallyPlaces 36 = .ok (.iconst 0, 1) := dw3 (n := 32) (i := 4) kc_cX5_tallyPlaces_1 (by decide +kernel)
theorem dX5_tallyPlaces_37 : decode cX5_tallyPlaces 37 = .ok (.istore 4, 2) := dw54 (n := 32) (i := 5) (a := 4) kc_cX5_tallyPlaces_1 (by decide +kernel) (by decide)
theorem dX5_tallyPlaces_39 : decode cX5_tallyPlaces 39 = .ok (.iload 4, 2) := dw21 (n := 32) (i := 7) (a := 4) kc_cX5_tallyPlaces_1 (by decide +kernel) (by decide)
theorem dX5_tallyPlaces_41 : decode cX5_tallyPlaces 41 = .ok (.aload_n 0, 1) := dw42 (n := 32) (i := 9) kc_cX5_tallyPlaces_1 (by decide +kernel)
theorem dX5_tallyPlaces_42 : decode cX5_tallyPlaces 42 = .ok (.getfield 18, 3) := dw180 (n := 32) (i := 10) (a := 0) (b := 18) kc_cX5_tallyPlaces_1 (by decide +kernel) (by decide)
theorem dX5_tallyPlaces_45 : decode cX5_tallyPlaces 45 = .ok (.getfield 76, 3) := dw180 (n := 32) (i := 13) (a := 0) (b := 76) kc_cX5_tallyPlaces_1 (by decide +kernel) (by decide)
theorem dX5_tallyPlaces_48 : decode cX5_tallyPlaces 48 = .ok (.getfield 89, 3) := dw180 (n := 32) (i := 16) (a := 0) (b := 89) kc_cX5_tallyPlaces_1 (by decide +kernel) (by decide)
theorem in_X5_tallyPlaces_0 : ∀ w ∈ u_ws RX0 TX0 5, w ∈ wsX5_tallyPlaces := fun _ h => List.mem_cons_of_mem _ (List.mem_append_right _ h)
theorem dX5_tallyPlaces_51 : decode cX5_tallyPlaces 51 = .ok (.iload_n 3, 1) := dw29 (n := 32) (i := 19) kc_cX5_tallyPlaces_1 (by decide +kernel)
theorem dX5_tallyPlaces_52 : decode cX5_tallyPlaces 52 = .ok (.iaload, 1) := dw46 (n := 32) (i := 20) kc_cX5_tallyPlaces_1 (by decide +kernel)
theorem dX5_tallyPlaces_53 : decode cX5_tallyPlaces 53 = .ok (.if_icmp .ge 49, 3) := dw162 (n := 32) (i := 21) (a := 0) (b := 49) kc_cX5_tallyPlaces_1 (by decide +kernel) (by decide)
theorem dX5_tallyPlaces_102 : decode cX5_tallyPlaces 102 = .ok (.iinc 2 1, 3) := by decide +kernel
theorem dX5_tallyPlaces_105 : decode cX5_tallyPlaces 105 = .ok (.goto (-90), 3) := dw167 (n := 96) (i := 9) (a := 255) (b := 166) kc_cX5_tallyPlaces_3 (by decide +kernel) (by decide)
theorem dX5_tallyPlaces_56 : decode cX5_tallyPlaces 56 = .ok (.aload_n 0, 1) := dw42 (n := 32) (i := 24) kc_cX5_tallyPlaces_1 (by decide +kernel)
theorem dX5_tallyPlaces_57 : decode cX5_tallyPlaces 57 = .ok (.getfield 18, 3) := dw180 (n := 32) (i := 25) (a := 0) (b := 18) kc_cX5_tallyPlaces_1 (by decide +kernel) (by decide)
theorem dX5_tallyPlaces_60 : decode cX5_tallyPlaces 60 = .ok (.getfield 68, 3) := dw180 (n := 32) (i := 28) (a := 0) (b := 68) kc_cX5_tallyPlaces_1 (by decide +kernel) (by decide)
theorem dX5_tallyPlaces_63 : decode cX5_tallyPlaces 63 = .ok (.aload_n 0, 1) := dw42 (n := 32) (i := 31) kc_cX5_tallyPlaces_1 (by decide +kernel)
theorem dX5_tallyPlaces_64 : decode cX5_tallyPlaces 64 = .ok (.getfield 18, 3) := dw180 (n := 64) (i := 0) (a := 0) (b := 18) kc_cX5_tallyPlaces_2 (by decide +kernel) (by decide)
theorem dX5_tallyPlaces_67 : decode cX5_tallyPlaces 67 = .ok (.getfield 76, 3) := dw180 (n := 64) (i := 3) (a := 0) (b := 76) kc_cX5_tallyPlaces_2 (by decide +kernel) (by decide)
theorem dX5_tallyPlaces_70 : decode cX5_tallyPlaces 70 = .ok (.getfield 80, 3) := dw180 (n := 64) (i := 6) (a := 0) (b := 80) kc_cX5_tallyPlaces_2 (by decide +kernel) (by decide)
theorem dX5_tallyPlaces_73 : decode cX5_tallyPlaces 73 = .ok (.iload_n 3, 1) := dw29 (n := 64) (i := 9) kc_cX5_tallyPlaces_2 (by decide +kernel)
theorem dX5_tallyPlaces_74 : decode cX5_tallyPlaces 74 = .ok (.aaload, 1) := dw50 (n := 64) (i := 10) kc_cX5_tallyPlaces_2 (by decide +kernel)
theorem dX5_tallyPlaces_75 : decode cX5_tallyPlaces 75 = .ok (.iload 4, 2) := dw21 (n := 64) (i := 11) (a := 4) kc_cX5_tallyPlaces_2 (by decide +kernel) (by decide)
theorem dX5_tallyPlaces_77 : decode cX5_tallyPlaces 77 = .ok (.iaload, 1) := dw46 (n := 64) (i := 13) kc_cX5_tallyPlaces_2 (by decide +kernel)
theorem dX5_tallyPlaces_78 : decode cX5_tallyPlaces 78 = .ok (.dup2, 1) := dw92 (n := 64) (i := 14) kc_cX5_tallyPlaces_2 (by decide +kernel)
theorem dX5_tallyPlaces_79 : decode cX5_tallyPlaces 79 = .ok (.laload, 1) := dw47 (n := 64) (i := 15) kc_cX5_tallyPlaces_2 (by decide +kernel)
theorem dX5_tallyPlaces_80 : decode cX5_tallyPlaces 80 = .ok (.aload_n 0, 1) := dw42 (n := 64) (i := 16) kc_cX5_tallyPlaces_2 (by decide +kernel)
theorem dX5_tallyPlaces_81 : decode cX5_tallyPlaces 81 = .ok (.getfield 18, 3) := dw180 (n := 64) (i := 17) (a := 0) (b := 18) kc_cX5_tallyPlaces_2 (by decide +kernel) (by decide)
theorem dX5_tallyPlaces_84 : decode cX5_tallyPlaces 84 = .ok (.iload_n 2, 1) := dw28 (n := 64) (i := 20) kc_cX5_tallyPlaces_2 (by decide +kernel)
theorem dX5_tallyPlaces_85 : decode cX5_tallyPlaces 85 = .ok (.invokevirtual 72, 3) := dw182 (n := 64) (i := 21) (a := 0) (b := 72) kc_cX5_tallyPlaces_2 (by decide +kernel) (by decide)
set_option maxRecDepth 20000 in
theorem ggX5_tallyPlaces_X6_papersOf : GoodIn wsX5_tallyPlaces wsX6_papersOf := (gk_code 14 rfl (gk_fieldLink 15 rfl (gk_fieldLink 16 rfl (gk_fieldLink 17 rfl (gk_laysFinal 21 rfl (gk_laysFinal 22 rfl (gk_laysFinal 23 rfl (gk_lays 24 rfl (gk_lays 25 rfl (gk_laysFinal 26 rfl (gk_laysFinal 27 rfl (gk_laysFinal 28 rfl (gk_lays 31 rfl (gk_laysFinal 32 rfl (gk_laysFinal 33 rfl (gk_laysFinal 34 rfl (gk_laysFinal 35 rfl (gn))))))))))))))))))
set_option maxRecDepth 20000 in
theorem gX5_tallyPlaces_X6_papersOf : GoodIn wsX5_tallyPlaces (wsV RX5 72 RX6 yX6_papersOf wsX6_papersOf) := goodIn_app (gk_methodLink 10 rfl (gk_instanceMethod 11 rfl (gk_selects 12 rfl (gk_initialized 13 rfl (gn))))) ggX5_tallyPlaces_X6_papersOf
theorem dX5_tallyPlaces_88 : decode cX5_tallyPlaces 88 = .ok (.iload_n 1, 1) := dw27 (n := 64) (i := 24) kc_cX5_tallyPlaces_2 (by decide +kernel)
theorem dX5_tallyPlaces_89 : decode cX5_tallyPlaces 89 = .ok (.iload 4, 2) := dw21 (n := 64) (i := 25) (a := 4) kc_cX5_tallyPlaces_2 (by decide +kernel) (by decide)
theorem dX5_tallyPlaces_91 : decode cX5_tallyPlaces 91 = .ok (.isub, 1) := dw100 (n := 64) (i := 27) kc_cX5_tallyPlaces_2 (by decide +kernel)
theorem dX5_tallyPlaces_92 : decode cX5_tallyPlaces 92 = .ok (.imul, 1) := dw104 (n := 64) (i := 28) kc_cX5_tallyPlaces_2 (by decide +kernel)
theorem dX5_tallyPlaces_93 : decode cX5_tallyPlaces 93 = .ok (.i2l, 1) := dw133 (n := 64) (i := 29) kc_cX5_tallyPlaces_2 (by decide +kernel)
theorem dX5_tallyPlaces_94 : decode cX5_tallyPlaces 94 = .ok (.ladd, 1) := dw97 (n := 64) (i := 30) kc_cX5_tallyPlaces_2 (by decide +kernel)
theorem dX5_tallyPlaces_95 : decode cX5_tallyPlaces 95 = .ok (.lastore, 1) := dw80 (n := 64) (i := 31) kc_cX5_tallyPlaces_2 (by decide +kernel)
theorem dX5_tallyPlaces_96 : decode cX5_tallyPlaces 96 = .ok (.iinc 4 1, 3) := by decide +kernel
theorem dX5_tallyPlaces_99 : decode cX5_tallyPlaces 99 = .ok (.goto (-60), 3) := dw167 (n := 96) (i := 3) (a := 255) (b := 196) kc_cX5_tallyPlaces_3 (by decide +kernel) (by decide)
set_option maxHeartbeats 4000000 in
set_option maxRecDepth 100000 in
theorem s_X5_tallyPlaces (l : Launch) (D : va_G) (ad : Nat → Nat) (cs : Nat → ClassId) (M : MI) (L : ML)  (hI : IC M) : Cv l yX5_tallyPlaces wsX5_tallyPlaces ({ frames := 1, cells := 0, slots := 0, locals := 21 }) D ad cs [.ref (ad 93)] M L (fun M1 L1 => IC M1 ∧ (∀ k, k < 300 ∨ 300 ≤ k → M1 k = M k) ∧ ∀ k, 258 ≤ k → L1 k = L k) := by
  refine enter_v RX5 rfl [(0, .ref (ad 93))] rfl (Nat.le_of_ble_eq_true rfl) (by decide +kernel) rfl ?_
  intro p e s m below meth c C hr
  have hF : ∀ k, k < 300 ∨ 300 ≤ k → M k = M k := fun _ _ => rfl
  have hG : ∀ k, 258 ≤ k → L k = L k := fun _ _ => rfl
  refine g_aload_n C 0 dX5_tallyPlaces_0 rfl ?_
  refine g_get C (.ref (ad 88)) 0 in_X5_tallyPlaces_5 (List.mem_of_getElem? (i := 1) rfl) (by decide) (ce_plain ad cs _ _) rfl (by decide) rfl rfl dX5_tallyPlaces_1 ?_
  refine g_get C (.ref (ad 1)) 0 in_X5_tallyPlaces_6 (List.mem_of_getElem? (i := 2) rfl) (by decide) (ce_poll ad cs _ _) rfl (by decide) rfl rfl dX5_tallyPlaces_4 ?_
  refine g_get C (.int (M 1 0)) 0 in_X5_tallyPlaces_2 (List.mem_of_getElem? (i := 3) rfl) (by decide) (ce_cand ad cs _ _) rfl (by decide) rfl rfl dX5_tallyPlaces_7 ?_
  refine g_ni (fun v1 ev1 => ?_)
  have tv1 := congrArg Int32.toInt ev1
  obtain ⟨bv1, dv1⟩ := (show rg 0 10 v1 from (by rw [ev1]; exact hI 1 0 rfl))
  refine g_iconst C 1 dX5_tallyPlaces_10 (by decide) ?_
  refine g_isub C dX5_tallyPlaces_11 ?_
  refine g_ni (fun v2 ev2 => ?_)
  try have fv2 := fsub rfl (by decide : (1 : Int32).toInt = 1) ev2 (by omega) (by omega)
  refine g_istore_n C [(1, .int v2), (0, .ref (ad 93))] dX5_tallyPlaces_12 (by decide) rfl ?_
  refine g_iconst C 0 dX5_tallyPlaces_13 (by decide) ?_
  refine g_istore_n C [(2, .int 0), (1, .int v2), (0, .ref (ad 93))] dX5_tallyPlaces_14 (by decide) rfl ?_
  have zy3 : (0 : Int32).toInt = 0 := by decide
  refine g_loop (α := Int32 × MI × ML) (fun a => (41 - a.1.toInt).toNat) (fun a => 0 ≤ a.1.toInt ∧ a.1.toInt ≤ 40 ∧ IC a.2.1 ∧ (∀ k, k < 300 ∨ 300 ≤ k → a.2.1 k = M k) ∧ (∀ k, 258 ≤ k → a.2.2 k = L k)) (fun a => a.2.1) (fun a => a.2.2) (fun a => [(2, .int a.1), (1, .int v2), (0, .ref (ad 93))]) (0, M, L) ⟨by show 0 ≤ (0 : Int32).toInt; omega, by show (0 : Int32).toInt ≤ 40; omega, hI, hF, hG⟩ rfl rfl rfl ?_
  rintro ⟨x2_15, M_15, L_15⟩ ⟨j15_0, j15_1, hI, hF, hG⟩ ih_15
  dsimp only at j15_0 j15_1 hI hF hG ih_15 ⊢
  refine g_iload_n C 0 dX5_tallyPlaces_15 rfl ?_
  refine g_aload_n C 2 dX5_tallyPlaces_16 rfl ?_
  refine g_get C (.ref (ad 88)) 0 in_X5_tallyPlaces_5 (List.mem_of_getElem? (i := 1) rfl) (by decide) (ce_plain ad cs _ _) rfl (by decide) rfl rfl dX5_tallyPlaces_17 ?_
  refine g_get C (.int (M_15 88 3)) 3 in_X5_tallyPlaces_6 (List.mem_of_getElem? (i := 4) rfl) (by decide) (ce_poll ad cs _ _) rfl (by decide) rfl rfl dX5_tallyPlaces_20 ?_
  refine g_ni (fun v4 ev4 => ?_)
  have tv4 := congrArg Int32.toInt ev4
  obtain ⟨bv4, dv4⟩ := (show rg 0 40 v4 from (by rw [ev4]; exact (hI 88 3).1 rfl))
  refine g_icmp_ge C 108 dX5_tallyPlaces_23 (by decide) (fun c5 => ?_) (fun c5 => ?_)
  ·
    have f6 := fle rfl rfl c5
    exact g_vret C hr ⟨hI, hF, hG⟩ dX5_tallyPlaces_108
  ·
    have f7 := fnle rfl rfl c5
    refine g_aload_n C 2 dX5_tallyPlaces_26 rfl ?_
    refine g_get C (.ref (ad 88)) 0 in_X5_tallyPlaces_5 (List.mem_of_getElem? (i := 1) rfl) (by decide) (ce_plain ad cs _ _) rfl (by decide) rfl rfl dX5_tallyPlaces_27 ?_
    refine g_get C (.ref (ad 89)) 2 in_X5_tallyPlaces_6 (List.mem_of_getElem? (i := 5) rfl) (by decide) (ce_poll ad cs _ _) rfl (by decide) rfl rfl dX5_tallyPlaces_30 ?_
    refine g_iload_n C 0 dX5_tallyPlaces_33 rfl ?_
    refine g_iald C (by decide) (ce_plying ad cs _ _) (fin' (n := 40) rfl (by omega) (by omega)) dX5_tallyPlaces_34 ?_
    refine g_ni (fun v8 ev8 => ?_)
    have tv8 := congrArg Int32.toInt ev8
    obtain ⟨bv8, dv8⟩ := (show rg 0 59 v8 from (by rw [ev8]; exact hI 89 _))
    refine g_istore_n C [(3, .int v8), (2, .int x2_15), (1, .int v2), (0, .ref (ad 93))] dX5_tallyPlaces_35 (by decide) rfl ?_
    refine g_iconst C 0 dX5_tallyPlaces_36 (by decide) ?_
    refine g_istore C [(4, .int 0), (3, .int v8), (2, .int x2_15), (1, .int v2), (0, .ref (ad 93))] dX5_tallyPlaces_37 (by decide) rfl ?_
    have zy9 : (0 : Int32).toInt = 0 := by decide
    refine g_loop (α := Int32 × MI × ML) (fun a => (11 - a.1.toInt).toNat) (fun a => 0 ≤ a.1.toInt ∧ a.1.toInt ≤ 10 ∧ IC a.2.1 ∧ (∀ k, k < 300 ∨ 300 ≤ k → a.2.1 k = M k) ∧ (∀ k, 258 ≤ k → a.2.2 k = L k)) (fun a => a.2.1) (fun a => a.2.2) (fun a => [(4, .int a.1), (3, .int v8), (2, .int x2_15), (1, .int v2), (0, .ref (ad 93))]) (0, M_15, L_15) ⟨by show 0 ≤ (0 : Int32).toInt; omega, by show (0 : Int32).toInt ≤ 10; omega, hI, hF, hG⟩ rfl rfl rfl ?_
    rintro ⟨x4_39, M_39, L_39⟩ ⟨j39_0, j39_1, hI, hF, hG⟩ ih_39
    dsimp only at j39_0 j39_1 hI hF hG ih_39 ⊢
    refine g_iload C 0 dX5_tallyPlaces_39 rfl ?_
    refine g_aload_n C 4 dX5_tallyPlaces_41 rfl ?_
    refine g_get C (.ref (ad 88)) 0 in_X5_tallyPlaces_5 (List.mem_of_getElem? (i := 1) rfl) (by decide) (ce_plain ad cs _ _) rfl (by decide) rfl rfl dX5_tallyPlaces_42 ?_
    refine g_get C (.ref (ad 3)) 1 in_X5_tallyPlaces_6 (List.mem_of_getElem? (i := 6) rfl) (by decide) (ce_poll ad cs _ _) rfl (by decide) rfl rfl dX5_tallyPlaces_45 ?_
    refine g_get C (.ref (ad 6)) 3 in_X5_tallyPlaces_0 (List.mem_of_getElem? (i := 7) rfl) (by decide) (ce_ball ad cs _ _) rfl (by decide) rfl rfl dX5_tallyPlaces_48 ?_
    refine g_iload_n C 1 dX5_tallyPlaces_51 rfl ?_
    refine g_iald C (by decide) (ce_bonit ad cs _ _) (fin' (n := 60) rfl (by omega) (by omega)) dX5_tallyPlaces_52 ?_
    refine g_ni (fun v10 ev10 => ?_)
    have tv10 := congrArg Int32.toInt ev10
    obtain ⟨bv10, dv10⟩ := (show rg 0 10 v10 from (by rw [ev10]; exact hI 6 _))
    refine g_icmp_ge C 102 dX5_tallyPlaces_53 (by decide) (fun c11 => ?_) (fun c11 => ?_)
    ·
      have f12 := fle rfl rfl c11
      obtain ⟨v13, ev13⟩ : ∃ y : Int32, y = x2_15 + 1 := ⟨_, rfl⟩
      try have fv13 := fadd rfl (by decide : (1 : Int32).toInt = 1) ev13 (by omega) (by omega)
      refine g_iinc C 2 v13 [(2, .int v13), (4, .int x4_39), (3, .int v8), (1, .int v2), (0, .ref (ad 93))] dX5_tallyPlaces_102 rfl (by rw [ev13]; rfl) (by decide) rfl ?_
      refine g_goto C 15 dX5_tallyPlaces_105 (by decide) ?_
      refine g_lv [0, 3, 4] [(2, .int v13), (1, .int v2), (0, .ref (ad 93))] rfl ?_
      exact ih_15 (v13, M_39, L_39) ⟨by show 0 ≤ v13.toInt; omega, by show v13.toInt ≤ 40; omega, hI, hF, hG⟩ (by show (41 - v13.toInt).toNat < (41 - x2_15.toInt).toNat; omega)
    ·
      have f14 := fnle rfl rfl c11
      refine g_aload_n C 4 dX5_tallyPlaces_56 rfl ?_
      refine g_get C (.ref (ad 88)) 0 in_X5_tallyPlaces_5 (List.mem_of_getElem? (i := 1) rfl) (by decide) (ce_plain ad cs _ _) rfl (by decide) rfl rfl dX5_tallyPlaces_57 ?_
      refine g_get C (.ref (ad 91)) 6 in_X5_tallyPlaces_6 (List.mem_of_getElem? (i := 8) rfl) (by decide) (ce_poll ad cs _ _) rfl (by decide) rfl rfl dX5_tallyPlaces_60 ?_
      refine g_aload_n C 4 dX5_tallyPlaces_63 rfl ?_
      refine g_get C (.ref (ad 88)) 0 in_X5_tallyPlaces_5 (List.mem_of_getElem? (i := 1) rfl) (by decide) (ce_plain ad cs _ _) rfl (by decide) rfl rfl dX5_tallyPlaces_64 ?_
      refine g_get C (.ref (ad 3)) 1 in_X5_tallyPlaces_6 (List.mem_of_getElem? (i := 6) rfl) (by decide) (ce_poll ad cs _ _) rfl (by decide) rfl rfl dX5_tallyPlaces_67 ?_
      refine g_get C (.ref (ad 7)) 4 in_X5_tallyPlaces_0 (List.mem_of_getElem? (i := 9) rfl) (by decide) (ce_ball ad cs _ _) rfl (by decide) rfl rfl dX5_tallyPlaces_70 ?_
      refine g_iload_n C 1 dX5_tallyPlaces_73 rfl ?_
      have hi15 : vp_in v8 60 := (fin' (n := 60) rfl (by omega) (by omega))
      have nhi15 := tn hi15
      refine g_aald C (by decide) (ce_browm ad cs _ _) rfl hi15 dX5_tallyPlaces_74 ?_
      refine g_iload C 0 dX5_tallyPlaces_75 rfl ?_
      refine g_iald C (by omega) (ce_brow ad cs _ _ nhi15) (fin' (n := 10) rfl (by omega) (by omega)) dX5_tallyPlaces_77 ?_
      refine g_ni (fun v16 ev16 => ?_)
      have tv16 := congrArg Int32.toInt ev16
      obtain ⟨bv16, dv16⟩ := (show rg 0 9 v16 from (by rw [ev16]; exact hI.row _ (by omega) (by omega)))
      refine g_dup2 C dX5_tallyPlaces_78 rfl rfl ?_
      refine g_lald C (by decide) (ce_pupper ad cs _ _) (fin' (n := 10) rfl (by omega) (by omega)) dX5_tallyPlaces_79 ?_
      refine g_nl (fun v17 ev17 => ?_)
      refine g_aload_n C 4 dX5_tallyPlaces_80 rfl ?_
      refine g_get C (.ref (ad 88)) 0 in_X5_tallyPlaces_5 (List.mem_of_getElem? (i := 1) rfl) (by decide) (ce_plain ad cs _ _) rfl (by decide) rfl rfl dX5_tallyPlaces_81 ?_
      refine g_iload_n C 2 dX5_tallyPlaces_84 rfl ?_
      refine g_callVi C (n := 1) (As := [.int x2_15]) (st := [.long v17, .int v16, .ref (ad 91)]) (s_X6_papersOf l D ad cs _ _ x2_15 hI ⟨by omega, by omega⟩) gX5_tallyPlaces_X6_papersOf rfl rfl rfl (by decide +kernel) ⟨Nat.le_of_ble_eq_true rfl, Nat.le_of_ble_eq_true rfl⟩ rfl (Nat.le_of_ble_eq_true rfl) ⟨Nat.zero_le _, Nat.zero_le _⟩ (by decide) (ce_poll ad cs _ _) rfl rfl dX5_tallyPlaces_85 (fun r18 M19 L20 hr18 => ?_)
      obtain ⟨hq1, hq2, hr18⟩ := hr18
      obtain rfl := hq1.symm
      obtain rfl := hq2.symm
      refine g_iload_n C 3 dX5_tallyPlaces_88 rfl ?_
      refine g_iload C 0 dX5_tallyPlaces_89 rfl ?_
      refine g_isub C dX5_tallyPlaces_91 ?_
      refine g_ni (fun v21 ev21 => ?_)
      try have fv21 := fsub rfl rfl ev21 (by omega) (by omega)
      refine g_imul C dX5_tallyPlaces_92 ?_
      refine g_ni (fun v22 ev22 => ?_)
      try have fv22 := fmul rfl rfl ev22 (by omega) (by omega)
      refine g_i2l C dX5_tallyPlaces_93 ?_
      refine g_nl (fun v23 ev23 => ?_)
      refine g_ladd C dX5_tallyPlaces_94 ?_
      refine g_nl (fun v24 ev24 => ?_)
      refine g_last C (by decide) (ce_pupper ad cs _ _) (by rw [sJ_k]; rfl) (fin' (n := 10) rfl (by omega) (by omega)) dX5_tallyPlaces_95 ?_
      refine g_nmL (fun L25 hL25 => ?_)
      have hG : ∀ k, 258 ≤ k → L25 k = L k := fun k hk => by (rw [hL25, sJ_n _ _ _ (by omega)]; try exact hG k hk)
      obtain ⟨v26, ev26⟩ : ∃ y : Int32, y = x4_39 + 1 := ⟨_, rfl⟩
      try have fv26 := fadd rfl (by decide : (1 : Int32).toInt = 1) ev26 (by omega) (by omega)
      refine g_iinc C 0 v26 [(4, .int v26), (3, .int v8), (2, .int x2_15), (1, .int v2), (0, .ref (ad 93))] dX5_tallyPlaces_96 rfl (by rw [ev26]; rfl) (by decide) rfl ?_
      refine g_goto C 39 dX5_tallyPlaces_99 (by decide) ?_
      exact ih_39 (v26, M_39, L25) ⟨by show 0 ≤ v26.toInt; omega, by show v26.toInt ≤ 10; omega, hI, hF, hG⟩ (by show (11 - v26.toInt).toNat < (11 - x4_39.toInt).toNat; omega)
theorem dX5_tallyBy_0 : decode cX5_tallyBy 0 = .ok (.iload_n 1, 1) := dw27 (n := 0) (i := 0) kc_cX5_tallyBy_0 (by decide +kernel)
theorem dX5_tallyBy_1 : decode cX5_tallyBy 1 = .ok (.iconst 1, 1) := dw4 (n := 0) (i := 1) kc_cX5_tallyBy_0 (by decide +kernel)
theorem dX5_tallyBy_2 : decode cX5_tallyBy 2 = .ok (.if_icmp .ne 10, 3) := dw160 (n := 0) (i := 2) (a := 0) (b := 10) kc_cX5_tallyBy_0 (by decide +kernel) (by decide)
theorem dX5_tallyBy_12 : decode cX5_tallyBy 12 = .ok (.iload_n 1, 1) := dw27 (n := 0) (i := 12) kc_cX5_tallyBy_0 (by decide +kernel)
theorem dX5_tallyBy_13 : decode cX5_tallyBy 13 = .ok (.iconst 2, 1) := dw5 (n := 0) (i := 13) kc_cX5_tallyBy_0 (by decide +kernel)
theorem dX5_tallyBy_14 : decode cX5_tallyBy 14 = .ok (.if_icmp .ne 10, 3) := dw160 (n := 0) (i := 14) (a := 0) (b := 10) kc_cX5_tallyBy_0 (by decide +kernel) (by decide)
theorem dX5_tallyBy_24 : decode cX5_tallyBy 24 = .ok (.aload_n 0, 1) := dw42 (n := 0) (i := 24) kc_cX5_tallyBy_0 (by decide +kernel)
theorem dX5_tallyBy_25 : decode cX5_tallyBy 25 = .ok (.getfield 18, 3) := dw180 (n := 0) (i := 25) (a := 0) (b := 18) kc_cX5_tallyBy_0 (by decide +kernel) (by decide)
theorem in_X5_tallyBy_5 : ∀ w ∈ u_ws RX5 TX5 3, w ∈ wsX5_tallyBy := fun _ h => List.mem_cons_of_mem _ (List.mem_append_left _ (List.mem_append_left _ (List.mem_append_left _ (List.mem_append_right _ h))))
theorem dX5_tallyBy_28 : decode cX5_tallyBy 28 = .ok (.invokevirtual 55, 3) := dw182 (n := 0) (i := 28) (a := 0) (b := 55) kc_cX5_tallyBy_0 (by decide +kernel) (by decide)
set_option maxRecDepth 20000 in
theorem ggX5_tallyBy_X6_tallyFirstIn : GoodIn wsX5_tallyBy wsX6_tallyFirstIn := (gk_code 30 rfl (gk_fieldLink 31 rfl (gk_fieldLink 32 rfl (gk_methodLink 33 rfl (gk_instanceMethod 34 rfl (gk_selects 35 rfl (gk_initialized 17 rfl (gk_code 36 rfl (gk_fieldLink 37 rfl (gk_methodLink 38 rfl (gk_instanceMethod 39 rfl (gk_selects 40 rfl (gk_code 41 rfl (gk_fieldLink 21 rfl (gk_fieldLink 19 rfl (gk_fieldLink 42 rfl (gk_fieldLink 43 rfl (gk_fieldLink 44 rfl (gk_methodLink 45 rfl (gk_instanceMethod 15 rfl (gk_selects 16 rfl (gk_code 18 rfl (gk_fieldLink 20 rfl (gk_laysFinal 49 rfl (gk_laysFinal 50 rfl (gk_laysFinal 51 rfl (gk_lays 52 rfl (gk_lays 53 rfl (gk_laysFinal 54 rfl (gk_laysFinal 55 rfl (gk_laysFinal 56 rfl (gk_lays 59 rfl (gk_laysFinal 60 rfl (gk_laysFinal 61 rfl (gk_laysFinal 62 rfl (gk_laysFinal 63 rfl (gn)))))))))))))))))))))))))))))))))))))
set_option maxRecDepth 20000 in
theorem gX5_tallyBy_X6_tallyFirstIn : GoodIn wsX5_tallyBy (wsV RX5 55 RX6 yX6_tallyFirstIn wsX6_tallyFirstIn) := goodIn_app (gk_methodLink 27 rfl (gk_instanceMethod 28 rfl (gk_selects 29 rfl (gk_initialized 17 rfl (gn))))) ggX5_tallyBy_X6_tallyFirstIn
theorem dX5_tallyBy_31 : decode cX5_tallyBy 31 = .ok (.return_, 1) := dw177 (n := 0) (i := 31) kc_cX5_tallyBy_0 (by decide +kernel)
theorem dX5_tallyBy_17 : decode cX5_tallyBy 17 = .ok (.aload_n 0, 1) := dw42 (n := 0) (i := 17) kc_cX5_tallyBy_0 (by decide +kernel)
theorem dX5_tallyBy_18 : decode cX5_tallyBy 18 = .ok (.invokevirtual 52, 3) := dw182 (n := 0) (i := 18) (a := 0) (b := 52) kc_cX5_tallyBy_0 (by decide +kernel) (by decide)
set_option maxRecDepth 20000 in
theorem ggX5_tallyBy_X5_tallyPlaces : GoodIn wsX5_tallyBy wsX5_tallyPlaces := (gk_code 25 rfl (gk_fieldLink 1 rfl (gk_fieldLink 8 rfl (gk_fieldLink 9 rfl (gk_fieldLink 7 rfl (gk_fieldLink 13 rfl (gk_fieldLink 11 rfl (gk_fieldLink 26 rfl (gk_fieldLink 10 rfl (gk_fieldLink 12 rfl (gk_methodLink 14 rfl (gk_instanceMethod 15 rfl (gk_selects 16 rfl (gk_initialized 17 rfl (gk_code 18 rfl (gk_fieldLink 19 rfl (gk_fieldLink 20 rfl (gk_fieldLink 21 rfl (gk_laysFinal 46 rfl (gk_laysFinal 47 rfl (gk_laysFinal 48 rfl (gk_laysFinal 49 rfl (gk_laysFinal 50 rfl (gk_laysFinal 51 rfl (gk_lays 52 rfl (gk_lays 53 rfl (gk_laysFinal 54 rfl (gk_laysFinal 55 rfl (gk_laysFinal 56 rfl (gk_lays 57 rfl (gk_laysFinal 58 rfl (gk_lays 59 rfl (gk_laysFinal 60 rfl (gk_laysFinal 61 rfl (gk_laysFinal 62 rfl (gk_laysFinal 63 rfl (gn)))))))))))))))))))))))))))))))))))))
set_option maxRecDepth 20000 in
theorem gX5_tallyBy_X5_tallyPlaces : GoodIn wsX5_tallyBy (wsV RX5 52 RX5 yX5_tallyPlaces wsX5_tallyPlaces) := goodIn_app (gk_methodLink 22 rfl (gk_instanceMethod 23 rfl (gk_selects 24 rfl (gk_initialized 5 rfl (gn))))) ggX5_tallyBy_X5_tallyPlaces
theorem dX5_tallyBy_21 : decode cX5_tallyBy 21 = .ok (.goto 10, 3) := dw167 (n := 0) (i := 21) (a := 0) (b := 10) kc_cX5_tallyBy_0 (by decide +kernel) (by decide)
theorem dX5_tallyBy_5 : decode cX5_tallyBy 5 = .ok (.aload_n 0, 1) := dw42 (n := 0) (i := 5) kc_cX5_tallyBy_0 (by decide +kernel)
theorem dX5_tallyBy_6 : decode cX5_tallyBy 6 = .ok (.invokevirtual 49, 3) := dw182 (n := 0) (i := 6) (a := 0) (b := 49) kc_cX5_tallyBy_0 (by decide +kernel) (by decide)
set_option maxRecDepth 20000 in
theorem ggX5_tallyBy_X5_tallyPoints : GoodIn wsX5_tallyBy wsX5_tallyPoints := (gk_code 6 rfl (gk_fieldLink 1 rfl (gk_fieldLink 7 rfl (gk_fieldLink 8 rfl (gk_fieldLink 9 rfl (gk_fieldLink 10 rfl (gk_fieldLink 11 rfl (gk_fieldLink 12 rfl (gk_fieldLink 13 rfl (gk_methodLink 14 rfl (gk_instanceMethod 15 rfl (gk_selects 16 rfl (gk_initialized 17 rfl (gk_code 18 rfl (gk_fieldLink 19 rfl (gk_fieldLink 20 rfl (gk_fieldLink 21 rfl (gk_laysFinal 46 rfl (gk_laysFinal 47 rfl (gk_laysFinal 48 rfl (gk_laysFinal 49 rfl (gk_laysFinal 50 rfl (gk_laysFinal 51 rfl (gk_lays 52 rfl (gk_lays 53 rfl (gk_laysFinal 54 rfl (gk_laysFinal 55 rfl (gk_laysFinal 56 rfl (gk_lays 57 rfl (gk_laysFinal 58 rfl (gk_lays 59 rfl (gk_laysFinal 60 rfl (gk_laysFinal 61 rfl (gk_laysFinal 62 rfl (gk_laysFinal 63 rfl (gn))))))))))))))))))))))))))))))))))))
set_option maxRecDepth 20000 in
theorem gX5_tallyBy_X5_tallyPoints : GoodIn wsX5_tallyBy (wsV RX5 49 RX5 yX5_tallyPoints wsX5_tallyPoints) := goodIn_app (gk_methodLink 2 rfl (gk_instanceMethod 3 rfl (gk_selects 4 rfl (gk_initialized 5 rfl (gn))))) ggX5_tallyBy_X5_tallyPoints
theorem dX5_tallyBy_9 : decode cX5_tallyBy 9 = .ok (.goto 22, 3) := dw167 (n := 0) (i := 9) (a := 0) (b := 22) kc_cX5_tallyBy_0 (by decide +kernel) (by decide)
set_option maxHeartbeats 4000000 in
set_option maxRecDepth 100000 in
theorem s_X5_tallyBy (l : Launch) (D : va_G) (ad : Nat → Nat) (cs : Nat → ClassId) (M : MI) (L : ML) (x : Int32) (hI : IC M) : Cv l yX5_tallyBy wsX5_tallyBy ({ frames := 2, cells := 0, slots := 0, locals := 46 }) D ad cs [.ref (ad 93), .int x] M L (fun M1 L1 => IC M1 ∧ (∀ k, k < 300 ∨ 300 ≤ k → M1 k = M k) ∧ ∀ k, 258 ≤ k → L1 k = L k) := by
  refine enter_v RX5 rfl [(0, .ref (ad 93)), (1, .int x)] rfl (Nat.le_of_ble_eq_true rfl) (by decide +kernel) rfl ?_
  intro p e s m below meth c C hr
  have hF : ∀ k, k < 300 ∨ 300 ≤ k → M k = M k := fun _ _ => rfl
  have hG : ∀ k, 258 ≤ k → L k = L k := fun _ _ => rfl
  refine g_iload_n C 1 dX5_tallyBy_0 rfl ?_
  refine g_iconst C 1 dX5_tallyBy_1 (by decide) ?_
  refine g_icmp_ne C 12 dX5_tallyBy_2 (by decide) (fun c1 => ?_) (fun c1 => ?_)
  ·
    have f2 := fne rfl (by decide : (1 : Int32).toInt = 1) c1
    refine g_iload_n C 1 dX5_tallyBy_12 rfl ?_
    refine g_iconst C 2 dX5_tallyBy_13 (by decide) ?_
    refine g_icmp_ne C 24 dX5_tallyBy_14 (by decide) (fun c3 => ?_) (fun c3 => ?_)
    ·
      have f4 := fne rfl (by decide : (2 : Int32).toInt = 2) c3
      refine g_aload_n C 0 dX5_tallyBy_24 rfl ?_
      refine g_get C (.ref (ad 88)) 0 in_X5_tallyBy_5 (List.mem_of_getElem? (i := 1) rfl) (by decide) (ce_plain ad cs _ _) rfl (by decide) rfl rfl dX5_tallyBy_25 ?_
      refine g_callVv C (n := 0) (As := []) (st := []) (s_X6_tallyFirstIn l D ad cs _ _ hI) gX5_tallyBy_X6_tallyFirstIn rfl rfl rfl (by decide +kernel) ⟨Nat.le_of_ble_eq_true rfl, Nat.le_of_ble_eq_true rfl⟩ rfl (Nat.le_of_ble_eq_true rfl) ⟨Nat.zero_le _, Nat.zero_le _⟩ (by decide) (ce_poll ad cs _ _) rfl rfl dX5_tallyBy_28 (fun M6 L7 hr5 => ?_)
      obtain ⟨hI, hF1, hG1⟩ := hr5
      have hF : ∀ k, k < 300 ∨ 300 ≤ k → M6 k = M k := fun k hk => by (rw [hF1 k (by omega)]; try exact hF k hk)
      have hG : ∀ k, 258 ≤ k → L7 k = L k := fun k hk => by (rw [hG1 k hk]; try exact hG k hk)
      exact g_vret C hr ⟨hI, hF, hG⟩ dX5_tallyBy_31
    ·
      have f8 := feq rfl (by decide : (2 : Int32).toInt = 2) c3
      refine g_aload_n C 0 dX5_tallyBy_17 rfl ?_
      refine g_callVv C (n := 0) (As := []) (st := []) (s_X5_tallyPlaces l D ad cs _ _ hI) gX5_tallyBy_X5_tallyPlaces rfl rfl rfl (by decide +kernel) ⟨Nat.le_of_ble_eq_true rfl, Nat.le_of_ble_eq_true rfl⟩ rfl (Nat.le_of_ble_eq_true rfl) ⟨Nat.zero_le _, Nat.zero_le _⟩ (by decide) (ce_plain ad cs _ _) rfl rfl dX5_tallyBy_18 (fun M10 L11 hr9 => ?_)
      obtain ⟨hI, hF1, hG1⟩ := hr9
      have hF : ∀ k, k < 300 ∨ 300 ≤ k → M10 k = M k := fun k hk => by (rw [hF1 k (by omega)]; try exact hF k hk)
      have hG : ∀ k, 258 ≤ k → L11 k = L k := fun k hk => by (rw [hG1 k hk]; try exact hG k hk)
      refine g_goto C 31 dX5_tallyBy_21 (by decide) ?_
      exact g_vret C hr ⟨hI, hF, hG⟩ dX5_tallyBy_31
  ·
    have f12 := feq rfl (by decide : (1 : Int32).toInt = 1) c1
    refine g_aload_n C 0 dX5_tallyBy_5 rfl ?_
    refine g_callVv C (n := 0) (As := []) (st := []) (s_X5_tallyPoints l D ad cs _ _ hI) gX5_tallyBy_X5_tallyPoints rfl rfl rfl (by decide +kernel) ⟨Nat.le_of_ble_eq_true rfl, Nat.le_of_ble_eq_true rfl⟩ rfl (Nat.le_of_ble_eq_true rfl) ⟨Nat.zero_le _, Nat.zero_le _⟩ (by decide) (ce_plain ad cs _ _) rfl rfl dX5_tallyBy_6 (fun M14 L15 hr13 => ?_)
    obtain ⟨hI, hF1, hG1⟩ := hr13
    have hF : ∀ k, k < 300 ∨ 300 ≤ k → M14 k = M k := fun k hk => by (rw [hF1 k (by omega)]; try exact hF k hk)
    have hG : ∀ k, 258 ≤ k → L15 k = L k := fun k hk => by (rw [hG1 k hk]; try exact hG k hk)
    refine g_goto C 31 dX5_tallyBy_9 (by decide) ?_
    exact g_vret C hr ⟨hI, hF, hG⟩ dX5_tallyBy_31
theorem dX5_isMoreByDivisor_0 : decode cX5_isMoreByDivisor 0 = .ok (.iconst 1, 1) := dw4 (n := 0) (i := 0) kc_cX5_isMoreByDivisor_0 (by decide +kernel)
theorem dX5_isMoreByDivisor_1 : decode cX5_isMoreByDivisor 1 = .ok (.iload_n 3, 1) := dw29 (n := 0) (i := 1) kc_cX5_isMoreByDivisor_0 (by decide +kernel)
theorem dX5_isMoreByDivisor_2 : decode cX5_isMoreByDivisor 2 = .ok (.aload_n 0, 1) := dw42 (n := 0) (i := 2) kc_cX5_isMoreByDivisor_0 (by decide +kernel)
theorem dX5_isMoreByDivisor_3 : decode cX5_isMoreByDivisor 3 = .ok (.getfield 9, 3) := dw180 (n := 0) (i := 3) (a := 0) (b := 9) kc_cX5_isMoreByDivisor_0 (by decide +kernel) (by decide)
theorem in_X5_isMoreByDivisor_5 : ∀ w ∈ u_ws RX5 TX5 3, w ∈ wsX5_isMoreByDivisor := fun _ h => List.mem_cons_of_mem _ (List.mem_append_left _ (List.mem_append_right _ h))
theorem dX5_isMoreByDivisor_6 : decode cX5_isMoreByDivisor 6 = .ok (.iload_n 1, 1) := dw27 (n := 0) (i := 6) kc_cX5_isMoreByDivisor_0 (by decide +kernel)
theorem dX5_isMoreByDivisor_7 : decode cX5_isMoreByDivisor 7 = .ok (.iaload, 1) := dw46 (n := 0) (i := 7) kc_cX5_isMoreByDivisor_0 (by decide +kernel)
theorem dX5_isMoreByDivisor_8 : decode cX5_isMoreByDivisor 8 = .ok (.imul, 1) := dw104 (n := 0) (i := 8) kc_cX5_isMoreByDivisor_0 (by decide +kernel)
theorem dX5_isMoreByDivisor_9 : decode cX5_isMoreByDivisor 9 = .ok (.iadd, 1) := dw96 (n := 0) (i := 9) kc_cX5_isMoreByDivisor_0 (by decide +kernel)
theorem dX5_isMoreByDivisor_10 : decode cX5_isMoreByDivisor 10 = .ok (.i2l, 1) := dw133 (n := 0) (i := 10) kc_cX5_isMoreByDivisor_0 (by decide +kernel)
theorem dX5_isMoreByDivisor_11 : decode cX5_isMoreByDivisor 11 = .ok (.lstore 4, 2) := dw55 (n := 0) (i := 11) (a := 4) kc_cX5_isMoreByDivisor_0 (by decide +kernel) (by decide)
theorem dX5_isMoreByDivisor_13 : decode cX5_isMoreByDivisor 13 = .ok (.iconst 1, 1) := dw4 (n := 0) (i := 13) kc_cX5_isMoreByDivisor_0 (by decide +kernel)
theorem dX5_isMoreByDivisor_14 : decode cX5_isMoreByDivisor 14 = .ok (.iload_n 3, 1) := dw29 (n := 0) (i := 14) kc_cX5_isMoreByDivisor_0 (by decide +kernel)
theorem dX5_isMoreByDivisor_15 : decode cX5_isMoreByDivisor 15 = .ok (.aload_n 0, 1) := dw42 (n := 0) (i := 15) kc_cX5_isMoreByDivisor_0 (by decide +kernel)
theorem dX5_isMoreByDivisor_16 : decode cX5_isMoreByDivisor 16 = .ok (.getfield 9, 3) := dw180 (n := 0) (i := 16) (a := 0) (b := 9) kc_cX5_isMoreByDivisor_0 (by decide +kernel) (by decide)
theorem dX5_isMoreByDivisor_19 : decode cX5_isMoreByDivisor 19 = .ok (.iload_n 2, 1) := dw28 (n := 0) (i := 19) kc_cX5_isMoreByDivisor_0 (by decide +kernel)
theorem dX5_isMoreByDivisor_20 : decode cX5_isMoreByDivisor 20 = .ok (.iaload, 1) := dw46 (n := 0) (i := 20) kc_cX5_isMoreByDivisor_0 (by decide +kernel)
theorem dX5_isMoreByDivisor_21 : decode cX5_isMoreByDivisor 21 = .ok (.imul, 1) := dw104 (n := 0) (i := 21) kc_cX5_isMoreByDivisor_0 (by decide +kernel)
theorem dX5_isMoreByDivisor_22 : decode cX5_isMoreByDivisor 22 = .ok (.iadd, 1) := dw96 (n := 0) (i := 22) kc_cX5_isMoreByDivisor_0 (by decide +kernel)
theorem dX5_isMoreByDivisor_23 : decode cX5_isMoreByDivisor 23 = .ok (.i2l, 1) := dw133 (n := 0) (i := 23) kc_cX5_isMoreByDivisor_0 (by decide +kernel)
theorem dX5_isMoreByDivisor_24 : decode cX5_isMoreByDivisor 24 = .ok (.lstore 6, 2) := dw55 (n := 0) (i := 24) (a := 6) kc_cX5_isMoreByDivisor_0 (by decide +kernel) (by decide)
theorem dX5_isMoreByDivisor_26 : decode cX5_isMoreByDivisor 26 = .ok (.aload_n 0, 1) := dw42 (n := 0) (i := 26) kc_cX5_isMoreByDivisor_0 (by decide +kernel)
theorem dX5_isMoreByDivisor_27 : decode cX5_isMoreByDivisor 27 = .ok (.getfield 18, 3) := dw180 (n := 0) (i := 27) (a := 0) (b := 18) kc_cX5_isMoreByDivisor_0 (by decide +kernel) (by decide)
theorem dX5_isMoreByDivisor_30 : decode cX5_isMoreByDivisor 30 = .ok (.getfield 68, 3) := dw180 (n := 0) (i := 30) (a := 0) (b := 68) kc_cX5_isMoreByDivisor_0 (by decide +kernel) (by decide)
theorem in_X5_isMoreByDivisor_6 : ∀ w ∈ u_ws RX6 TX6 8, w ∈ wsX5_isMoreByDivisor := fun _ h => List.mem_cons_of_mem _ (List.mem_append_right _ h)
theorem dX5_isMoreByDivisor_33 : decode cX5_isMoreByDivisor 33 = .ok (.iload_n 1, 1) := dw27 (n := 32) (i := 1) kc_cX5_isMoreByDivisor_1 (by decide +kernel)
theorem dX5_isMoreByDivisor_34 : decode cX5_isMoreByDivisor 34 = .ok (.laload, 1) := dw47 (n := 32) (i := 2) kc_cX5_isMoreByDivisor_1 (by decide +kernel)
theorem dX5_isMoreByDivisor_35 : decode cX5_isMoreByDivisor 35 = .ok (.lload 6, 2) := dw22 (n := 32) (i := 3) (a := 6) kc_cX5_isMoreByDivisor_1 (by decide +kernel) (by decide)
theorem dX5_isMoreByDivisor_37 : decode cX5_isMoreByDivisor 37 = .ok (.lmul, 1) := dw105 (n := 32) (i := 5) kc_cX5_isMoreByDivisor_1 (by decide +kernel)
theorem dX5_isMoreByDivisor_38 : decode cX5_isMoreByDivisor 38 = .ok (.aload_n 0, 1) := dw42 (n := 32) (i := 6) kc_cX5_isMoreByDivisor_1 (by decide +kernel)
theorem dX5_isMoreByDivisor_39 : decode cX5_isMoreByDivisor 39 = .ok (.getfield 18, 3) := dw180 (n := 32) (i := 7) (a := 0) (b := 18) kc_cX5_isMoreByDivisor_1 (by decide +kernel) (by decide)
theorem dX5_isMoreByDivisor_42 : decode cX5_isMoreByDivisor 42 = .ok (.getfield 68, 3) := dw180 (n := 32) (i := 10) (a := 0) (b := 68) kc_cX5_isMoreByDivisor_1 (by decide +kernel) (by decide)
theorem dX5_isMoreByDivisor_45 : decode cX5_isMoreByDivisor 45 = .ok (.iload_n 2, 1) := dw28 (n := 32) (i := 13) kc_cX5_isMoreByDivisor_1 (by decide +kernel)
theorem dX5_isMoreByDivisor_46 : decode cX5_isMoreByDivisor 46 = .ok (.laload, 1) := dw47 (n := 32) (i := 14) kc_cX5_isMoreByDivisor_1 (by decide +kernel)
theorem dX5_isMoreByDivisor_47 : decode cX5_isMoreByDivisor 47 = .ok (.lload 4, 2) := dw22 (n := 32) (i := 15) (a := 4) kc_cX5_isMoreByDivisor_1 (by decide +kernel) (by decide)
theorem dX5_isMoreByDivisor_49 : decode cX5_isMoreByDivisor 49 = .ok (.lmul, 1) := dw105 (n := 32) (i := 17) kc_cX5_isMoreByDivisor_1 (by decide +kernel)
theorem dX5_isMoreByDivisor_50 : decode cX5_isMoreByDivisor 50 = .ok (.lcmp, 1) := dw148 (n := 32) (i := 18) kc_cX5_isMoreByDivisor_1 (by decide +kernel)
theorem dX5_isMoreByDivisor_51 : decode cX5_isMoreByDivisor 51 = .ok (.ifCond .le 7, 3) := dw158 (n := 32) (i := 19) (a := 0) (b := 7) kc_cX5_isMoreByDivisor_1 (by decide +kernel) (by decide)
theorem dX5_isMoreByDivisor_58 : decode cX5_isMoreByDivisor 58 = .ok (.iconst 0, 1) := dw3 (n := 32) (i := 26) kc_cX5_isMoreByDivisor_1 (by decide +kernel)
theorem dX5_isMoreByDivisor_59 : decode cX5_isMoreByDivisor 59 = .ok (.ireturn, 1) := dw172 (n := 32) (i := 27) kc_cX5_isMoreByDivisor_1 (by decide +kernel)
theorem dX5_isMoreByDivisor_54 : decode cX5_isMoreByDivisor 54 = .ok (.iconst 1, 1) := dw4 (n := 32) (i := 22) kc_cX5_isMoreByDivisor_1 (by decide +kernel)
theorem dX5_isMoreByDivisor_55 : decode cX5_isMoreByDivisor 55 = .ok (.goto 4, 3) := dw167 (n := 32) (i := 23) (a := 0) (b := 4) kc_cX5_isMoreByDivisor_1 (by decide +kernel) (by decide)
set_option maxHeartbeats 4000000 in
set_option maxRecDepth 100000 in
theorem s_X5_more (l : Launch) (D : va_G) (ad : Nat → Nat) (cs : Nat → ClassId) (M : MI) (L : ML) (x : Int32) (y : Int32) (z : Int32) (hI : IC M) (hx : 0 ≤ x.toInt ∧ x.toInt < 10) (hy : 0 ≤ y.toInt ∧ y.toInt < 10) : Ci l yX5_isMoreByDivisor wsX5_isMoreByDivisor ({ frames := 0, cells := 0, slots := 0, locals := 0 }) D ad cs [.ref (ad 93), .int x, .int y, .int z] M L (fun r M1 L1 => M1 = M ∧ L1 = L ∧ (r = 0 ∨ r = 1)) := by
  refine enter_i RX5 rfl [(0, .ref (ad 93)), (1, .int x), (2, .int y), (3, .int z)] rfl (Nat.le_of_ble_eq_true rfl) (by decide +kernel) rfl ?_
  intro p e s m below meth c C hr
  have hF : ∀ k, True → M k = M k := fun _ _ => rfl
  have hG : ∀ k, True → L k = L k := fun _ _ => rfl
  obtain ⟨hx1, hx2⟩ := hx
  obtain ⟨hy1, hy2⟩ := hy
  refine g_iconst C 1 dX5_isMoreByDivisor_0 (by decide) ?_
  refine g_iload_n C 3 dX5_isMoreByDivisor_1 rfl ?_
  refine g_aload_n C 0 dX5_isMoreByDivisor_2 rfl ?_
  refine g_get C (.ref (ad 94)) 1 in_X5_isMoreByDivisor_5 (List.mem_of_getElem? (i := 1) rfl) (by decide) (ce_plain ad cs _ _) rfl (by decide) rfl rfl dX5_isMoreByDivisor_3 ?_
  refine g_iload_n C 1 dX5_isMoreByDivisor_6 rfl ?_
  refine g_iald C (by decide) (ce_lseats ad cs _ _) (fin' (n := 10) rfl (by omega) (by omega)) dX5_isMoreByDivisor_7 ?_
  refine g_ni (fun v1 ev1 => ?_)
  have tv1 := congrArg Int32.toInt ev1
  refine g_imul C dX5_isMoreByDivisor_8 ?_
  refine g_ni (fun v2 ev2 => ?_)
  try have fv2 := fmul rfl rfl ev2 (by omega) (by omega)
  refine g_iadd C dX5_isMoreByDivisor_9 ?_
  refine g_ni (fun v3 ev3 => ?_)
  try have fv3 := fadd (by decide : (1 : Int32).toInt = 1) rfl ev3 (by omega) (by omega)
  refine g_i2l C dX5_isMoreByDivisor_10 ?_
  refine g_nl (fun v4 ev4 => ?_)
  refine g_lstore C [(4, .long v4), (0, .ref (ad 93)), (1, .int x), (2, .int y), (3, .int z)] dX5_isMoreByDivisor_11 (by decide) rfl ?_
  refine g_iconst C 1 dX5_isMoreByDivisor_13 (by decide) ?_
  refine g_iload_n C 4 dX5_isMoreByDivisor_14 rfl ?_
  refine g_aload_n C 1 dX5_isMoreByDivisor_15 rfl ?_
  refine g_get C (.ref (ad 94)) 1 in_X5_isMoreByDivisor_5 (List.mem_of_getElem? (i := 1) rfl) (by decide) (ce_plain ad cs _ _) rfl (by decide) rfl rfl dX5_isMoreByDivisor_16 ?_
  refine g_iload_n C 3 dX5_isMoreByDivisor_19 rfl ?_
  refine g_iald C (by decide) (ce_lseats ad cs _ _) (fin' (n := 10) rfl (by omega) (by omega)) dX5_isMoreByDivisor_20 ?_
  refine g_ni (fun v5 ev5 => ?_)
  have tv5 := congrArg Int32.toInt ev5
  refine g_imul C dX5_isMoreByDivisor_21 ?_
  refine g_ni (fun v6 ev6 => ?_)
  try have fv6 := fmul rfl rfl ev6 (by omega) (by omega)
  refine g_iadd C dX5_isMoreByDivisor_22 ?_
  refine g_ni (fun v7 ev7 => ?_)
  try have fv7 := fadd (by decide : (1 : Int32).toInt = 1) rfl ev7 (by omega) (by omega)
  refine g_i2l C dX5_isMoreByDivisor_23 ?_
  refine g_nl (fun v8 ev8 => ?_)
  refine g_lstore C [(6, .long v8), (4, .long v4), (0, .ref (ad 93)), (1, .int x), (2, .int y), (3, .int z)] dX5_isMoreByDivisor_24 (by decide) rfl ?_
  refine g_aload_n C 2 dX5_isMoreByDivisor_26 rfl ?_
  refine g_get C (.ref (ad 88)) 0 in_X5_isMoreByDivisor_5 (List.mem_of_getElem? (i := 2) rfl) (by decide) (ce_plain ad cs _ _) rfl (by decide) rfl rfl dX5_isMoreByDivisor_27 ?_
  refine g_get C (.ref (ad 91)) 6 in_X5_isMoreByDivisor_6 (List.mem_of_getElem? (i := 3) rfl) (by decide) (ce_poll ad cs _ _) rfl (by decide) rfl rfl dX5_isMoreByDivisor_30 ?_
  refine g_iload_n C 3 dX5_isMoreByDivisor_33 rfl ?_
  refine g_lald C (by decide) (ce_pupper ad cs _ _) (fin' (n := 10) rfl (by omega) (by omega)) dX5_isMoreByDivisor_34 ?_
  refine g_nl (fun v9 ev9 => ?_)
  refine g_lload C 0 dX5_isMoreByDivisor_35 rfl ?_
  refine g_lmul C dX5_isMoreByDivisor_37 ?_
  refine g_nl (fun v10 ev10 => ?_)
  refine g_aload_n C 2 dX5_isMoreByDivisor_38 rfl ?_
  refine g_get C (.ref (ad 88)) 0 in_X5_isMoreByDivisor_5 (List.mem_of_getElem? (i := 2) rfl) (by decide) (ce_plain ad cs _ _) rfl (by decide) rfl rfl dX5_isMoreByDivisor_39 ?_
  refine g_get C (.ref (ad 91)) 6 in_X5_isMoreByDivisor_6 (List.mem_of_getElem? (i := 3) rfl) (by decide) (ce_poll ad cs _ _) rfl (by decide) rfl rfl dX5_isMoreByDivisor_42 ?_
  refine g_iload_n C 4 dX5_isMoreByDivisor_45 rfl ?_
  refine g_lald C (by decide) (ce_pupper ad cs _ _) (fin' (n := 10) rfl (by omega) (by omega)) dX5_isMoreByDivisor_46 ?_
  refine g_nl (fun v11 ev11 => ?_)
  refine g_lload C 1 dX5_isMoreByDivisor_47 rfl ?_
  refine g_lmul C dX5_isMoreByDivisor_49 ?_
  refine g_nl (fun v12 ev12 => ?_)
  refine g_lcmp C dX5_isMoreByDivisor_50 ?_
  refine g_ni (fun v13 ev13 => ?_)
  refine g_if_le C 58 dX5_isMoreByDivisor_51 (by decide) (fun c14 => ?_) (fun c14 => ?_)
  ·
    have f15 := fle rfl (by decide : (0 : Int32).toInt = 0) c14
    refine g_iconst C 0 dX5_isMoreByDivisor_58 (by decide) ?_
    exact g_zret C hr (by first | rfl | (rcases hz with rfl | rfl <;> rfl)) ⟨rfl, rfl, (by first | exact Or.inl rfl | exact Or.inr rfl | exact hz)⟩ dX5_isMoreByDivisor_59
  ·
    have f16 := fnle rfl (by decide : (0 : Int32).toInt = 0) c14
    refine g_iconst C 1 dX5_isMoreByDivisor_54 (by decide) ?_
    refine g_goto C 59 dX5_isMoreByDivisor_55 (by decide) ?_
    exact g_zret C hr (by first | rfl | (rcases hz with rfl | rfl <;> rfl)) ⟨rfl, rfl, (by first | exact Or.inl rfl | exact Or.inr rfl | exact hz)⟩ dX5_isMoreByDivisor_59
theorem dX5_greatestByDivisor_0 : decode cX5_greatestByDivisor 0 = .ok (.bipush (-9), 2) := dw16 (n := 0) (i := 0) (a := 247) kc_cX5_greatestByDivisor_0 (by decide +kernel) (by decide)
theorem dX5_greatestByDivisor_2 : decode cX5_greatestByDivisor 2 = .ok (.istore_n 2, 1) := dw61 (n := 0) (i := 2) kc_cX5_greatestByDivisor_0 (by decide +kernel)
theorem dX5_greatestByDivisor_3 : decode cX5_greatestByDivisor 3 = .ok (.iconst 0, 1) := dw3 (n := 0) (i := 3) kc_cX5_greatestByDivisor_0 (by decide +kernel)
theorem dX5_greatestByDivisor_4 : decode cX5_greatestByDivisor 4 = .ok (.istore_n 3, 1) := dw62 (n := 0) (i := 4) kc_cX5_greatestByDivisor_0 (by decide +kernel)
theorem dX5_greatestByDivisor_5 : decode cX5_greatestByDivisor 5 = .ok (.iload_n 3, 1) := dw29 (n := 0) (i := 5) kc_cX5_greatestByDivisor_0 (by decide +kernel)
theorem dX5_greatestByDivisor_6 : decode cX5_greatestByDivisor 6 = .ok (.aload_n 0, 1) := dw42 (n := 0) (i := 6) kc_cX5_greatestByDivisor_0 (by decide +kernel)
theorem dX5_greatestByDivisor_7 : decode cX5_greatestByDivisor 7 = .ok (.getfield 18, 3) := dw180 (n := 0) (i := 7) (a := 0) (b := 18) kc_cX5_greatestByDivisor_0 (by decide +kernel) (by decide)
theorem in_X5_greatestByDivisor_5 : ∀ w ∈ u_ws RX5 TX5 3, w ∈ wsX5_greatestByDivisor := fun _ h => List.mem_cons_of_mem _ (List.mem_append_left _ (List.mem_append_left _ (List.mem_append_right _ h)))
theorem dX5_greatestByDivisor_10 : decode cX5_greatestByDivisor 10 = .ok (.getfield 61, 3) := dw180 (n := 0) (i := 10) (a := 0) (b := 61) kc_cX5_greatestByDivisor_0 (by decide +kernel) (by decide)
theorem in_X5_greatestByDivisor_6 : ∀ w ∈ u_ws RX6 TX6 8, w ∈ wsX5_greatestByDivisor := fun _ h => List.mem_cons_of_mem _ (List.mem_append_left _ (List.mem_append_right _ h))
theorem dX5_greatestByDivisor_13 : decode cX5_greatestByDivisor 13 = .ok (.getfield 65, 3) := dw180 (n := 0) (i := 13) (a := 0) (b := 65) kc_cX5_greatestByDivisor_0 (by decide +kernel) (by decide)
theorem in_X5_greatestByDivisor_2 : ∀ w ∈ u_ws RX2 TX2 2, w ∈ wsX5_greatestByDivisor := fun _ h => List.mem_cons_of_mem _ (List.mem_append_right _ h)
theorem dX5_greatestByDivisor_16 : decode cX5_greatestByDivisor 16 = .ok (.if_icmp .ge 43, 3) := dw162 (n := 0) (i := 16) (a := 0) (b := 43) kc_cX5_greatestByDivisor_0 (by decide +kernel) (by decide)
theorem dX5_greatestByDivisor_59 : decode cX5_greatestByDivisor 59 = .ok (.iload_n 2, 1) := dw28 (n := 32) (i := 27) kc_cX5_greatestByDivisor_1 (by decide +kernel)
theorem dX5_greatestByDivisor_60 : decode cX5_greatestByDivisor 60 = .ok (.ireturn, 1) := dw172 (n := 32) (i := 28) kc_cX5_greatestByDivisor_1 (by decide +kernel)
theorem dX5_greatestByDivisor_19 : decode cX5_greatestByDivisor 19 = .ok (.aload_n 0, 1) := dw42 (n := 0) (i := 19) kc_cX5_greatestByDivisor_0 (by decide +kernel)
theorem dX5_greatestByDivisor_20 : decode cX5_greatestByDivisor 20 = .ok (.getfield 18, 3) := dw180 (n := 0) (i := 20) (a := 0) (b := 18) kc_cX5_greatestByDivisor_0 (by decide +kernel) (by decide)
theorem dX5_greatestByDivisor_23 : decode cX5_greatestByDivisor 23 = .ok (.getfield 61, 3) := dw180 (n := 0) (i := 23) (a := 0) (b := 61) kc_cX5_greatestByDivisor_0 (by decide +kernel) (by decide)
theorem dX5_greatestByDivisor_26 : decode cX5_greatestByDivisor 26 = .ok (.getfield 95, 3) := dw180 (n := 0) (i := 26) (a := 0) (b := 95) kc_cX5_greatestByDivisor_0 (by decide +kernel) (by decide)
theorem dX5_greatestByDivisor_29 : decode cX5_greatestByDivisor 29 = .ok (.iload_n 3, 1) := dw29 (n := 0) (i := 29) kc_cX5_greatestByDivisor_0 (by decide +kernel)
theorem dX5_greatestByDivisor_30 : decode cX5_greatestByDivisor 30 = .ok (.iaload, 1) := dw46 (n := 0) (i := 30) kc_cX5_greatestByDivisor_0 (by decide +kernel)
theorem dX5_greatestByDivisor_31 : decode cX5_greatestByDivisor 31 = .ok (.istore 4, 2) := dw54 (n := 0) (i := 31) (a := 4) kc_cX5_greatestByDivisor_0 (by decide +kernel) (by decide)
theorem dX5_greatestByDivisor_33 : decode cX5_greatestByDivisor 33 = .ok (.iload_n 2, 1) := dw28 (n := 32) (i := 1) kc_cX5_greatestByDivisor_1 (by decide +kernel)
theorem dX5_greatestByDivisor_34 : decode cX5_greatestByDivisor 34 = .ok (.bipush (-9), 2) := dw16 (n := 32) (i := 2) (a := 247) kc_cX5_greatestByDivisor_1 (by decide +kernel) (by decide)
theorem dX5_greatestByDivisor_36 : decode cX5_greatestByDivisor 36 = .ok (.if_icmp .eq 14, 3) := dw159 (n := 32) (i := 4) (a := 0) (b := 14) kc_cX5_greatestByDivisor_1 (by decide +kernel) (by decide)
theorem dX5_greatestByDivisor_50 : decode cX5_greatestByDivisor 50 = .ok (.iload 4, 2) := dw21 (n := 32) (i := 18) (a := 4) kc_cX5_greatestByDivisor_1 (by decide +kernel) (by decide)
theorem dX5_greatestByDivisor_52 : decode cX5_greatestByDivisor 52 = .ok (.istore_n 2, 1) := dw61 (n := 32) (i := 20) kc_cX5_greatestByDivisor_1 (by decide +kernel)
theorem dX5_greatestByDivisor_53 : decode cX5_greatestByDivisor 53 = .ok (.iinc 3 1, 3) := by decide +kernel
theorem dX5_greatestByDivisor_56 : decode cX5_greatestByDivisor 56 = .ok (.goto (-51), 3) := dw167 (n := 32) (i := 24) (a := 255) (b := 205) kc_cX5_greatestByDivisor_1 (by decide +kernel) (by decide)
theorem dX5_greatestByDivisor_39 : decode cX5_greatestByDivisor 39 = .ok (.aload_n 0, 1) := dw42 (n := 32) (i := 7) kc_cX5_greatestByDivisor_1 (by decide +kernel)
theorem dX5_greatestByDivisor_40 : decode cX5_greatestByDivisor 40 = .ok (.iload 4, 2) := dw21 (n := 32) (i := 8) (a := 4) kc_cX5_greatestByDivisor_1 (by decide +kernel) (by decide)
theorem dX5_greatestByDivisor_42 : decode cX5_greatestByDivisor 42 = .ok (.iload_n 2, 1) := dw28 (n := 32) (i := 10) kc_cX5_greatestByDivisor_1 (by decide +kernel)
theorem dX5_greatestByDivisor_43 : decode cX5_greatestByDivisor 43 = .ok (.iload_n 1, 1) := dw27 (n := 32) (i := 11) kc_cX5_greatestByDivisor_1 (by decide +kernel)
theorem dX5_greatestByDivisor_44 : decode cX5_greatestByDivisor 44 = .ok (.invokevirtual 97, 3) := dw182 (n := 32) (i := 12) (a := 0) (b := 97) kc_cX5_greatestByDivisor_1 (by decide +kernel) (by decide)
set_option maxRecDepth 20000 in
theorem ggX5_greatestByDivisor_X5_isMoreByDivisor : GoodIn wsX5_greatestByDivisor wsX5_isMoreByDivisor := (gk_code 9 rfl (gk_fieldLink 10 rfl (gk_fieldLink 1 rfl (gk_fieldLink 11 rfl (gk_laysFinal 12 rfl (gk_laysFinal 13 rfl (gk_laysFinal 14 rfl (gk_laysFinal 15 rfl (gk_laysFinal 16 rfl (gk_laysFinal 17 rfl (gk_lays 18 rfl (gk_lays 19 rfl (gk_laysFinal 20 rfl (gk_laysFinal 21 rfl (gk_laysFinal 22 rfl (gn))))))))))))))))
set_option maxRecDepth 20000 in
theorem gX5_greatestByDivisor_X5_isMoreByDivisor : GoodIn wsX5_greatestByDivisor (wsV RX5 97 RX5 yX5_isMoreByDivisor wsX5_isMoreByDivisor) := goodIn_app (gk_methodLink 5 rfl (gk_instanceMethod 6 rfl (gk_selects 7 rfl (gk_initialized 8 rfl (gn))))) ggX5_greatestByDivisor_X5_isMoreByDivisor
theorem dX5_greatestByDivisor_47 : decode cX5_greatestByDivisor 47 = .ok (.ifCond .eq 6, 3) := dw153 (n := 32) (i := 15) (a := 0) (b := 6) kc_cX5_greatestByDivisor_1 (by decide +kernel) (by decide)
set_option maxHeartbeats 4000000 in
set_option maxRecDepth 100000 in
theorem s_X5_gbd (l : Launch) (D : va_G) (ad : Nat → Nat) (cs : Nat → ClassId) (M : MI) (L : ML) (x : Int32) (hI : IC M) : Ci l yX5_greatestByDivisor wsX5_greatestByDivisor ({ frames := 1, cells := 0, slots := 0, locals := 27 }) D ad cs [.ref (ad 93), .int x] M L (fun r M1 L1 => M1 = M ∧ L1 = L ∧ (r.toInt = -9 ∨ 0 ≤ r.toInt) ∧ r.toInt < 10) := by
  refine enter_i RX5 rfl [(0, .ref (ad 93)), (1, .int x)] rfl (Nat.le_of_ble_eq_true rfl) (by decide +kernel) rfl ?_
  intro p e s m below meth c C hr
  have hF : ∀ k, True → M k = M k := fun _ _ => rfl
  have hG : ∀ k, True → L k = L k := fun _ _ => rfl
  refine g_bipush C (-9) dX5_greatestByDivisor_0 (by decide) ?_
  refine g_istore_n C [(2, .int ((-9))), (0, .ref (ad 93)), (1, .int x)] dX5_greatestByDivisor_2 (by decide) rfl ?_
  refine g_iconst C 0 dX5_greatestByDivisor_3 (by decide) ?_
  refine g_istore_n C [(3, .int 0), (2, .int ((-9))), (0, .ref (ad 93)), (1, .int x)] dX5_greatestByDivisor_4 (by decide) rfl ?_
  have zy1 : (0 : Int32).toInt = 0 := by decide
  have zy2 : ((-9) : Int32).toInt = (-9) := by decide
  refine g_loop (α := Int32 × Int32 × MI × ML) (fun a => (11 - a.1.toInt).toNat) (fun a => 0 ≤ a.1.toInt ∧ a.1.toInt ≤ 10 ∧ (a.2.1.toInt = -9 ∨ 0 ≤ a.2.1.toInt) ∧ a.2.1.toInt < 10 ∧ IC a.2.2.1 ∧ (∀ k, True → a.2.2.1 k = M k) ∧ (∀ k, True → a.2.2.2 k = L k)) (fun a => a.2.2.1) (fun a => a.2.2.2) (fun a => [(3, .int a.1), (2, .int a.2.1), (0, .ref (ad 93)), (1, .int x)]) (0, ((-9)), M, L) ⟨by show 0 ≤ (0 : Int32).toInt; omega, by show (0 : Int32).toInt ≤ 10; omega, by show ((((-9)) : Int32).toInt = -9 ∨ 0 ≤ (((-9)) : Int32).toInt); omega, by show (((-9)) : Int32).toInt < 10; omega, hI, hF, hG⟩ rfl rfl rfl ?_
  rintro ⟨x3_5, x2_5, M_5, L_5⟩ ⟨j5_0, j5_1, j5_2, j5_3, hI, hF, hG⟩ ih_5
  dsimp only at j5_0 j5_1 j5_2 j5_3 hI hF hG ih_5 ⊢
  refine g_iload_n C 0 dX5_greatestByDivisor_5 rfl ?_
  refine g_aload_n C 2 dX5_greatestByDivisor_6 rfl ?_
  refine g_get C (.ref (ad 88)) 0 in_X5_greatestByDivisor_5 (List.mem_of_getElem? (i := 1) rfl) (by decide) (ce_plain ad cs _ _) rfl (by decide) rfl rfl dX5_greatestByDivisor_7 ?_
  refine g_get C (.ref (ad 1)) 0 in_X5_greatestByDivisor_6 (List.mem_of_getElem? (i := 2) rfl) (by decide) (ce_poll ad cs _ _) rfl (by decide) rfl rfl dX5_greatestByDivisor_10 ?_
  refine g_get C (.int (M_5 1 0)) 0 in_X5_greatestByDivisor_2 (List.mem_of_getElem? (i := 3) rfl) (by decide) (ce_cand ad cs _ _) rfl (by decide) rfl rfl dX5_greatestByDivisor_13 ?_
  refine g_ni (fun v3 ev3 => ?_)
  have tv3 := congrArg Int32.toInt ev3
  obtain ⟨bv3, dv3⟩ := (show rg 0 10 v3 from (by rw [ev3]; exact hI 1 0 rfl))
  refine g_icmp_ge C 59 dX5_greatestByDivisor_16 (by decide) (fun c4 => ?_) (fun c4 => ?_)
  ·
    have f5 := fle rfl rfl c4
    refine g_iload_n C 1 dX5_greatestByDivisor_59 rfl ?_
    exact g_iret C hr ⟨funext (fun k => hF k trivial), funext (fun k => hG k trivial), by omega, by omega⟩ dX5_greatestByDivisor_60
  ·
    have f6 := fnle rfl rfl c4
    refine g_aload_n C 2 dX5_greatestByDivisor_19 rfl ?_
    refine g_get C (.ref (ad 88)) 0 in_X5_greatestByDivisor_5 (List.mem_of_getElem? (i := 1) rfl) (by decide) (ce_plain ad cs _ _) rfl (by decide) rfl rfl dX5_greatestByDivisor_20 ?_
    refine g_get C (.ref (ad 1)) 0 in_X5_greatestByDivisor_6 (List.mem_of_getElem? (i := 2) rfl) (by decide) (ce_poll ad cs _ _) rfl (by decide) rfl rfl dX5_greatestByDivisor_23 ?_
    refine g_get C (.ref (ad 2)) 1 in_X5_greatestByDivisor_2 (List.mem_of_getElem? (i := 4) rfl) (by decide) (ce_cand ad cs _ _) rfl (by decide) rfl rfl dX5_greatestByDivisor_26 ?_
    refine g_iload_n C 0 dX5_greatestByDivisor_29 rfl ?_
    refine g_iald C (by decide) (ce_crow ad cs _ _) (fin' (n := 10) rfl (by omega) (by omega)) dX5_greatestByDivisor_30 ?_
    refine g_ni (fun v7 ev7 => ?_)
    have tv7 := congrArg Int32.toInt ev7
    obtain ⟨bv7, dv7⟩ := (show rg 0 9 v7 from (by rw [ev7]; exact hI 2 _))
    refine g_istore C [(4, .int v7), (3, .int x3_5), (2, .int x2_5), (0, .ref (ad 93)), (1, .int x)] dX5_greatestByDivisor_31 (by decide) rfl ?_
    refine g_iload_n C 2 dX5_greatestByDivisor_33 rfl ?_
    refine g_bipush C (-9) dX5_greatestByDivisor_34 (by decide) ?_
    refine g_icmp_eq C 50 dX5_greatestByDivisor_36 (by decide) (fun c8 => ?_) (fun c8 => ?_)
    ·
      have f9 := feq rfl (by decide : ((-9) : Int32).toInt = (-9)) c8
      refine g_iload C 0 dX5_greatestByDivisor_50 rfl ?_
      refine g_istore_n C [(2, .int v7), (4, .int v7), (3, .int x3_5), (0, .ref (ad 93)), (1, .int x)] dX5_greatestByDivisor_52 (by decide) rfl ?_
      obtain ⟨v10, ev10⟩ : ∃ y : Int32, y = x3_5 + 1 := ⟨_, rfl⟩
      try have fv10 := fadd rfl (by decide : (1 : Int32).toInt = 1) ev10 (by omega) (by omega)
      refine g_iinc C 2 v10 [(3, .int v10), (2, .int v7), (4, .int v7), (0, .ref (ad 93)), (1, .int x)] dX5_greatestByDivisor_53 rfl (by rw [ev10]; rfl) (by decide) rfl ?_
      refine g_goto C 5 dX5_greatestByDivisor_56 (by decide) ?_
      refine g_lv [0, 1, 3, 4] [(3, .int v10), (2, .int v7), (0, .ref (ad 93)), (1, .int x)] rfl ?_
      exact ih_5 (v10, v7, M_5, L_5) ⟨by show 0 ≤ v10.toInt; omega, by show v10.toInt ≤ 10; omega, by show (v7.toInt = -9 ∨ 0 ≤ v7.toInt); omega, by show v7.toInt < 10; omega, hI, hF, hG⟩ (by show (11 - v10.toInt).toNat < (11 - x3_5.toInt).toNat; omega)
    ·
      have f11 := fne rfl (by decide : ((-9) : Int32).toInt = (-9)) c8
      refine g_aload_n C 3 dX5_greatestByDivisor_39 rfl ?_
      refine g_iload C 0 dX5_greatestByDivisor_40 rfl ?_
      refine g_iload_n C 2 dX5_greatestByDivisor_42 rfl ?_
      refine g_iload_n C 4 dX5_greatestByDivisor_43 rfl ?_
      refine g_callVi C (n := 3) (As := [.int v7, .int x2_5, .int x]) (st := []) (s_X5_more l D ad cs _ _ v7 x2_5 x hI ⟨by omega, by omega⟩ ⟨by omega, by omega⟩) gX5_greatestByDivisor_X5_isMoreByDivisor rfl rfl rfl (by decide +kernel) ⟨Nat.le_of_ble_eq_true rfl, Nat.le_of_ble_eq_true rfl⟩ rfl (Nat.le_of_ble_eq_true rfl) ⟨Nat.zero_le _, Nat.zero_le _⟩ (by decide) (ce_plain ad cs _ _) rfl rfl dX5_greatestByDivisor_44 (fun r12 M13 L14 hr12 => ?_)
      obtain ⟨hq1, hq2, hr12⟩ := hr12
      obtain rfl := hq1.symm
      obtain rfl := hq2.symm
      have hz := hr12
      obtain ⟨zar12, zbr12⟩ := z_to hr12
      refine g_if_eq C 53 dX5_greatestByDivisor_47 (by decide) (fun c15 => ?_) (fun c15 => ?_)
      ·
        have f16 := feq rfl (by decide : (0 : Int32).toInt = 0) c15
        obtain ⟨v17, ev17⟩ : ∃ y : Int32, y = x3_5 + 1 := ⟨_, rfl⟩
        try have fv17 := fadd rfl (by decide : (1 : Int32).toInt = 1) ev17 (by omega) (by omega)
        refine g_iinc C 1 v17 [(3, .int v17), (4, .int v7), (2, .int x2_5), (0, .ref (ad 93)), (1, .int x)] dX5_greatestByDivisor_53 rfl (by rw [ev17]; rfl) (by decide) rfl ?_
        refine g_goto C 5 dX5_greatestByDivisor_56 (by decide) ?_
        refine g_lv [0, 2, 3, 4] [(3, .int v17), (2, .int x2_5), (0, .ref (ad 93)), (1, .int x)] rfl ?_
        exact ih_5 (v17, x2_5, M_5, L_5) ⟨by show 0 ≤ v17.toInt; omega, by show v17.toInt ≤ 10; omega, by show (x2_5.toInt = -9 ∨ 0 ≤ x2_5.toInt); omega, by show x2_5.toInt < 10; omega, hI, hF, hG⟩ (by show (11 - v17.toInt).toNat < (11 - x3_5.toInt).toNat; omega)
      ·
        have f18 := fne rfl (by decide : (0 : Int32).toInt = 0) c15
        refine g_iload C 0 dX5_greatestByDivisor_50 rfl ?_
        refine g_istore_n C [(2, .int v7), (4, .int v7), (3, .int x3_5), (0, .ref (ad 93)), (1, .int x)] dX5_greatestByDivisor_52 (by decide) rfl ?_
        obtain ⟨v19, ev19⟩ : ∃ y : Int32, y = x3_5 + 1 := ⟨_, rfl⟩
        try have fv19 := fadd rfl (by decide : (1 : Int32).toInt = 1) ev19 (by omega) (by omega)
        refine g_iinc C 2 v19 [(3, .int v19), (2, .int v7), (4, .int v7), (0, .ref (ad 93)), (1, .int x)] dX5_greatestByDivisor_53 rfl (by rw [ev19]; rfl) (by decide) rfl ?_
        refine g_goto C 5 dX5_greatestByDivisor_56 (by decide) ?_
        refine g_lv [0, 1, 3, 4] [(3, .int v19), (2, .int v7), (0, .ref (ad 93)), (1, .int x)] rfl ?_
        exact ih_5 (v19, v7, M_5, L_5) ⟨by show 0 ≤ v19.toInt; omega, by show v19.toInt ≤ 10; omega, by show (v7.toInt = -9 ∨ 0 ≤ v7.toInt); omega, by show v7.toInt < 10; omega, hI, hF, hG⟩ (by show (11 - v19.toInt).toNat < (11 - x3_5.toInt).toNat; omega)
theorem dX5_seatByTallies_0 : decode cX5_seatByTallies 0 = .ok (.aload_n 0, 1) := dw42 (n := 0) (i := 0) kc_cX5_seatByTallies_0 (by decide +kernel)
theorem dX5_seatByTallies_1 : decode cX5_seatByTallies 1 = .ok (.iload_n 1, 1) := dw27 (n := 0) (i := 1) kc_cX5_seatByTallies_0 (by decide +kernel)
theorem dX5_seatByTallies_2 : decode cX5_seatByTallies 2 = .ok (.invokevirtual 22, 3) := dw182 (n := 0) (i := 2) (a := 0) (b := 22) kc_cX5_seatByTallies_0 (by decide +kernel) (by decide)
set_option maxRecDepth 20000 in
theorem ggX5_seatByTallies_X5_tallyBy : GoodIn wsX5_seatByTallies wsX5_tallyBy := (gk_code 8 rfl (gk_fieldLink 1 rfl (gk_methodLink 9 rfl (gk_instanceMethod 10 rfl (gk_selects 11 rfl (gk_initialized 7 rfl (gk_code 12 rfl (gk_fieldLink 13 rfl (gk_fieldLink 14 rfl (gk_fieldLink 15 rfl (gk_fieldLink 16 rfl (gk_fieldLink 17 rfl (gk_fieldLink 18 rfl (gk_fieldLink 19 rfl (gk_methodLink 20 rfl (gk_instanceMethod 21 rfl (gk_selects 22 rfl (gk_initialized 23 rfl (gk_code 24 rfl (gk_fieldLink 25 rfl (gk_fieldLink 26 rfl (gk_fieldLink 27 rfl (gk_methodLink 28 rfl (gk_instanceMethod 29 rfl (gk_selects 30 rfl (gk_code 31 rfl (gk_fieldLink 32 rfl (gk_methodLink 33 rfl (gk_instanceMethod 34 rfl (gk_selects 35 rfl (gk_code 36 rfl (gk_fieldLink 37 rfl (gk_fieldLink 38 rfl (gk_methodLink 39 rfl (gk_instanceMethod 40 rfl (gk_selects 41 rfl (gk_code 42 rfl (gk_fieldLink 43 rfl (gk_methodLink 44 rfl (gk_instanceMethod 45 rfl (gk_selects 46 rfl (gk_code 47 rfl (gk_fieldLink 48 rfl (gk_fieldLink 49 rfl (gk_fieldLink 50 rfl (gk_methodLink 51 rfl (gk_laysFinal 85 rfl (gk_laysFinal 86 rfl (gk_laysFinal 87 rfl (gk_laysFinal 88 rfl (gk_laysFinal 89 rfl (gk_laysFinal 90 rfl (gk_lays 91 rfl (gk_lays 92 rfl (gk_laysFinal 93 rfl (gk_laysFinal 94 rfl (gk_laysFinal 95 rfl (gk_lays 96 rfl (gk_laysFinal 97 rfl (gk_lays 98 rfl (gk_laysFinal 99 rfl (gk_laysFinal 100 rfl (gk_laysFinal 101 rfl (gk_laysFinal 102 rfl (gn)))))))))))))))))))))))))))))))))))))))))))))))))))))))))))))))))
set_option maxRecDepth 20000 in
theorem gX5_seatByTallies_X5_tallyBy : GoodIn wsX5_seatByTallies (wsV RX5 22 RX5 yX5_tallyBy wsX5_tallyBy) := goodIn_app (gk_methodLink 4 rfl (gk_instanceMethod 5 rfl (gk_selects 6 rfl (gk_initialized 7 rfl (gn))))) ggX5_seatByTallies_X5_tallyBy
theorem dX5_seatByTallies_5 : decode cX5_seatByTallies 5 = .ok (.iconst 0, 1) := dw3 (n := 0) (i := 5) kc_cX5_seatByTallies_0 (by decide +kernel)
theorem dX5_seatByTallies_6 : decode cX5_seatByTallies 6 = .ok (.istore_n 3, 1) := dw62 (n := 0) (i := 6) kc_cX5_seatByTallies_0 (by decide +kernel)
theorem dX5_seatByTallies_7 : decode cX5_seatByTallies 7 = .ok (.iload_n 3, 1) := dw29 (n := 0) (i := 7) kc_cX5_seatByTallies_0 (by decide +kernel)
theorem dX5_seatByTallies_8 : decode cX5_seatByTallies 8 = .ok (.aload_n 0, 1) := dw42 (n := 0) (i := 8) kc_cX5_seatByTallies_0 (by decide +kernel)
theorem dX5_seatByTallies_9 : decode cX5_seatByTallies 9 = .ok (.getfield 18, 3) := dw180 (n := 0) (i := 9) (a := 0) (b := 18) kc_cX5_seatByTallies_0 (by decide +kernel) (by decide)
theorem in_X5_seatByTallies_5 : ∀ w ∈ u_ws RX5 TX5 3, w ∈ wsX5_seatByTallies := fun _ h => List.mem_cons_of_mem _ (List.mem_append_left _ (List.mem_append_left _ (List.mem_append_left _ (List.mem_append_left _ (List.mem_append_right _ h)))))
theorem dX5_seatByTallies_12 : decode cX5_seatByTallies 12 = .ok (.getfield 26, 3) := dw180 (n := 0) (i := 12) (a := 0) (b := 26) kc_cX5_seatByTallies_0 (by decide +kernel) (by decide)
theorem in_X5_seatByTallies_6 : ∀ w ∈ u_ws RX6 TX6 8, w ∈ wsX5_seatByTallies := fun _ h => List.mem_cons_of_mem _ (List.mem_append_left _ (List.mem_append_left _ (List.mem_append_left _ (List.mem_append_right _ h))))
theorem dX5_seatByTallies_15 : decode cX5_seatByTallies 15 = .ok (.if_icmp .ge 54, 3) := dw162 (n := 0) (i := 15) (a := 0) (b := 54) kc_cX5_seatByTallies_0 (by decide +kernel) (by decide)
theorem dX5_seatByTallies_69 : decode cX5_seatByTallies 69 = .ok (.return_, 1) := dw177 (n := 64) (i := 5) kc_cX5_seatByTallies_2 (by decide +kernel)
theorem dX5_seatByTallies_18 : decode cX5_seatByTallies 18 = .ok (.aload_n 0, 1) := dw42 (n := 0) (i := 18) kc_cX5_seatByTallies_0 (by decide +kernel)
theorem dX5_seatByTallies_19 : decode cX5_seatByTallies 19 = .ok (.getfield 18, 3) := dw180 (n := 0) (i := 19) (a := 0) (b := 18) kc_cX5_seatByTallies_0 (by decide +kernel) (by decide)
theorem dX5_seatByTallies_22 : decode cX5_seatByTallies 22 = .ok (.invokevirtual 32, 3) := dw182 (n := 0) (i := 22) (a := 0) (b := 32) kc_cX5_seatByTallies_0 (by decide +kernel) (by decide)
set_option maxRecDepth 20000 in
theorem ggX5_seatByTallies_X6_greatestIn : GoodIn wsX5_seatByTallies wsX6_greatestIn := (gk_code 55 rfl (gk_fieldLink 56 rfl (gk_fieldLink 57 rfl (gk_fieldLink 58 rfl (gk_fieldLink 50 rfl (gk_methodLink 59 rfl (gk_instanceMethod 60 rfl (gk_selects 61 rfl (gk_initialized 23 rfl (gk_code 62 rfl (gk_fieldLink 38 rfl (gk_fieldLink 43 rfl (gk_methodLink 63 rfl (gk_static 64 rfl (gk_initialized 65 rfl (gk_code 66 rfl (gk_laysFinal 88 rfl (gk_laysFinal 89 rfl (gk_laysFinal 90 rfl (gk_lays 91 rfl (gk_lays 92 rfl (gk_laysFinal 93 rfl (gk_laysFinal 94 rfl (gk_laysFinal 95 rfl (gk_lays 96 rfl (gk_laysFinal 97 rfl (gn)))))))))))))))))))))))))))
set_option maxRecDepth 20000 in
theorem gX5_seatByTallies_X6_greatestIn : GoodIn wsX5_seatByTallies (wsV RX5 32 RX6 yX6_greatestIn wsX6_greatestIn) := goodIn_app (gk_methodLink 52 rfl (gk_instanceMethod 53 rfl (gk_selects 54 rfl (gk_initialized 23 rfl (gn))))) ggX5_seatByTallies_X6_greatestIn
theorem dX5_seatByTallies_25 : decode cX5_seatByTallies 25 = .ok (.istore 4, 2) := dw54 (n := 0) (i := 25) (a := 4) kc_cX5_seatByTallies_0 (by decide +kernel) (by decide)
theorem dX5_seatByTallies_27 : decode cX5_seatByTallies 27 = .ok (.iload 4, 2) := dw21 (n := 0) (i := 27) (a := 4) kc_cX5_seatByTallies_0 (by decide +kernel) (by decide)
theorem dX5_seatByTallies_29 : decode cX5_seatByTallies 29 = .ok (.bipush (-9), 2) := dw16 (n := 0) (i := 29) (a := 247) kc_cX5_seatByTallies_0 (by decide +kernel) (by decide)
theorem dX5_seatByTallies_31 : decode cX5_seatByTallies 31 = .ok (.if_icmp .ne 4, 3) := dw160 (n := 0) (i := 31) (a := 0) (b := 4) kc_cX5_seatByTallies_0 (by decide +kernel) (by decide)
theorem dX5_seatByTallies_35 : decode cX5_seatByTallies 35 = .ok (.aload_n 2, 1) := dw44 (n := 32) (i := 3) kc_cX5_seatByTallies_1 (by decide +kernel)
theorem dX5_seatByTallies_36 : decode cX5_seatByTallies 36 = .ok (.iconst 1, 1) := dw4 (n := 32) (i := 4) kc_cX5_seatByTallies_1 (by decide +kernel)
theorem dX5_seatByTallies_37 : decode cX5_seatByTallies 37 = .ok (.iload 4, 2) := dw21 (n := 32) (i := 5) (a := 4) kc_cX5_seatByTallies_1 (by decide +kernel) (by decide)
theorem dX5_seatByTallies_39 : decode cX5_seatByTallies 39 = .ok (.aload_n 0, 1) := dw42 (n := 32) (i := 7) kc_cX5_seatByTallies_1 (by decide +kernel)
theorem dX5_seatByTallies_40 : decode cX5_seatByTallies 40 = .ok (.getfield 18, 3) := dw180 (n := 32) (i := 8) (a := 0) (b := 18) kc_cX5_seatByTallies_1 (by decide +kernel) (by decide)
theorem dX5_seatByTallies_43 : decode cX5_seatByTallies 43 = .ok (.invokevirtual 36, 3) := dw182 (n := 32) (i := 11) (a := 0) (b := 36) kc_cX5_seatByTallies_1 (by decide +kernel) (by decide)
set_option maxRecDepth 20000 in
theorem ggX5_seatByTallies_X7_note : GoodIn wsX5_seatByTallies wsX7_note := (gk_code 71 rfl (gk_fieldLink 72 rfl (gk_fieldLink 73 rfl (gk_fieldLink 74 rfl (gk_fieldLink 75 rfl (gk_fieldLink 76 rfl (gk_fieldLink 77 rfl (gk_fieldLink 78 rfl (gk_lays 103 rfl (gk_laysFinal 104 rfl (gk_lays 105 rfl (gk_laysFinal 106 rfl (gk_laysFinal 107 rfl (gk_laysFinal 108 rfl (gk_laysFinal 109 rfl (gk_laysFinal 88 rfl (gk_laysFinal 89 rfl (gk_laysFinal 90 rfl (gk_lays 91 rfl (gk_lays 92 rfl (gk_laysFinal 93 rfl (gk_laysFinal 94 rfl (gk_laysFinal 95 rfl (gn))))))))))))))))))))))))
set_option maxRecDepth 20000 in
theorem gX5_seatByTallies_X7_note : GoodIn wsX5_seatByTallies (wsV RX5 36 RX7 yX7_note wsX7_note) := goodIn_app (gk_methodLink 67 rfl (gk_instanceMethod 68 rfl (gk_selects 69 rfl (gk_initialized 70 rfl (gn))))) ggX5_seatByTallies_X7_note
theorem dX5_seatByTallies_46 : decode cX5_seatByTallies 46 = .ok (.aload_n 2, 1) := dw44 (n := 32) (i := 14) kc_cX5_seatByTallies_1 (by decide +kernel)
theorem dX5_seatByTallies_47 : decode cX5_seatByTallies 47 = .ok (.iload 4, 2) := dw21 (n := 32) (i := 15) (a := 4) kc_cX5_seatByTallies_1 (by decide +kernel) (by decide)
theorem dX5_seatByTallies_49 : decode cX5_seatByTallies 49 = .ok (.invokevirtual 42, 3) := dw182 (n := 32) (i := 17) (a := 0) (b := 42) kc_cX5_seatByTallies_1 (by decide +kernel) (by decide)
set_option maxRecDepth 20000 in
theorem ggX5_seatByTallies_X7_give : GoodIn wsX5_seatByTallies wsX7_give := (gk_code 82 rfl (gk_fieldLink 83 rfl (gk_fieldLink 84 rfl (gk_lays 103 rfl (gk_laysFinal 104 rfl (gk_lays 105 rfl (gk_laysFinal 106 rfl (gk_laysFinal 107 rfl (gk_laysFinal 108 rfl (gk_laysFinal 109 rfl (gn)))))))))))
set_option maxRecDepth 20000 in
theorem gX5_seatByTallies_X7_give : GoodIn wsX5_seatByTallies (wsV RX5 42 RX7 yX7_give wsX7_give) := goodIn_app (gk_methodLink 79 rfl (gk_instanceMethod 80 rfl (gk_selects 81 rfl (gk_initialized 70 rfl (gn))))) ggX5_seatByTallies_X7_give
theorem dX5_seatByTallies_52 : decode cX5_seatByTallies 52 = .ok (.aload_n 0, 1) := dw42 (n := 32) (i := 20) kc_cX5_seatByTallies_1 (by decide +kernel)
theorem dX5_seatByTallies_53 : decode cX5_seatByTallies 53 = .ok (.getfield 18, 3) := dw180 (n := 32) (i := 21) (a := 0) (b := 18) kc_cX5_seatByTallies_1 (by decide +kernel) (by decide)
theorem dX5_seatByTallies_56 : decode cX5_seatByTallies 56 = .ok (.getfield 45, 3) := dw180 (n := 32) (i := 24) (a := 0) (b := 45) kc_cX5_seatByTallies_1 (by decide +kernel) (by decide)
theorem dX5_seatByTallies_59 : decode cX5_seatByTallies 59 = .ok (.iload 4, 2) := dw21 (n := 32) (i := 27) (a := 4) kc_cX5_seatByTallies_1 (by decide +kernel) (by decide)
theorem dX5_seatByTallies_61 : decode cX5_seatByTallies 61 = .ok (.iconst 0, 1) := dw3 (n := 32) (i := 29) kc_cX5_seatByTallies_1 (by decide +kernel)
theorem dX5_seatByTallies_62 : decode cX5_seatByTallies 62 = .ok (.bastore, 1) := dw84 (n := 32) (i := 30) kc_cX5_seatByTallies_1 (by decide +kernel)
theorem dX5_seatByTallies_63 : decode cX5_seatByTallies 63 = .ok (.iinc 3 1, 3) := by decide +kernel
theorem dX5_seatByTallies_66 : decode cX5_seatByTallies 66 = .ok (.goto (-59), 3) := dw167 (n := 64) (i := 2) (a := 255) (b := 197) kc_cX5_seatByTallies_2 (by decide +kernel) (by decide)
theorem dX5_seatByTallies_34 : decode cX5_seatByTallies 34 = .ok (.return_, 1) := dw177 (n := 32) (i := 2) kc_cX5_seatByTallies_1 (by decide +kernel)
set_option maxHeartbeats 4000000 in
set_option maxRecDepth 100000 in
theorem s_X5_sbt_a (l : Launch) (D : va_G) (ad : Nat → Nat) (cs : Nat → ClassId) (M : MI) (L : ML) (x : Int32) (hI : IC M) : Cv l yX5_seatByTallies wsX5_seatByTallies ({ frames := 3, cells := 0, slots := 0, locals := 68 }) D ad cs [.ref (ad 93), .int x, .ref (ad 125)] M L (fun M1 L1 => IC M1 ∧ (∀ k, k ≠ 90 ∧ k ≠ 125 ∧ k ≠ 126 ∧ k ≠ 127 ∧ k ≠ 128 → M1 k = M k) ∧ ∀ k, 258 ≤ k → L1 k = L k) := by
  refine enter_v RX5 rfl [(0, .ref (ad 93)), (1, .int x), (2, .ref (ad 125))] rfl (Nat.le_of_ble_eq_true rfl) (by decide +kernel) rfl ?_
  intro p e s m below meth c C hr
  have hF : ∀ k, k ≠ 90 ∧ k ≠ 125 ∧ k ≠ 126 ∧ k ≠ 127 ∧ k ≠ 128 → M k = M k := fun _ _ => rfl
  have hG : ∀ k, 258 ≤ k → L k = L k := fun _ _ => rfl
  refine g_aload_n C 0 dX5_seatByTallies_0 rfl ?_
  refine g_iload_n C 1 dX5_seatByTallies_1 rfl ?_
  refine g_callVv C (n := 1) (As := [.int x]) (st := []) (s_X5_tallyBy l D ad cs _ _ x hI) gX5_seatByTallies_X5_tallyBy rfl rfl rfl (by decide +kernel) ⟨Nat.le_of_ble_eq_true rfl, Nat.le_of_ble_eq_true rfl⟩ rfl (Nat.le_of_ble_eq_true rfl) ⟨Nat.zero_le _, Nat.zero_le _⟩ (by decide) (ce_plain ad cs _ _) rfl rfl dX5_seatByTallies_2 (fun M2 L3 hr1 => ?_)
  obtain ⟨hI, hF1, hG1⟩ := hr1
  have hF : ∀ k, k ≠ 90 ∧ k ≠ 125 ∧ k ≠ 126 ∧ k ≠ 127 ∧ k ≠ 128 → M2 k = M k := fun k hk => by (rw [hF1 k (by omega)]; try exact hF k hk)
  have hG : ∀ k, 258 ≤ k → L3 k = L k := fun k hk => by (rw [hG1 k hk]; try exact hG k hk)
  refine g_iconst C 0 dX5_seatByTallies_5 (by decide) ?_
  refine g_istore_n C [(3, .int 0), (0, .ref (ad 93)), (1, .int x), (2, .ref (ad 125))] dX5_seatByTallies_6 (by decide) rfl ?_
  have zy4 : (0 : Int32).toInt = 0 := by decide
  refine g_loop (α := Int32 × MI × ML) (fun a => (31 - a.1.toInt).toNat) (fun a => 0 ≤ a.1.toInt ∧ a.1.toInt ≤ 30 ∧ IC a.2.1 ∧ (∀ k, k ≠ 90 ∧ k ≠ 125 ∧ k ≠ 126 ∧ k ≠ 127 ∧ k ≠ 128 → a.2.1 k = M k) ∧ (∀ k, 258 ≤ k → a.2.2 k = L k)) (fun a => a.2.1) (fun a => a.2.2) (fun a => [(3, .int a.1), (0, .ref (ad 93)), (1, .int x), (2, .ref (ad 125))]) (0, M2, L3) ⟨by show 0 ≤ (0 : Int32).toInt; omega, by show (0 : Int32).toInt ≤ 30; omega, hI, hF, hG⟩ rfl rfl rfl ?_
  rintro ⟨x3_7, M_7, L_7⟩ ⟨j7_0, j7_1, hI, hF, hG⟩ ih_7
  dsimp only at j7_0 j7_1 hI hF hG ih_7 ⊢
  refine g_iload_n C 0 dX5_seatByTallies_7 rfl ?_
  refine g_aload_n C 1 dX5_seatByTallies_8 rfl ?_
  refine g_get C (.ref (ad 88)) 0 in_X5_seatByTallies_5 (List.mem_of_getElem? (i := 1) rfl) (by decide) (ce_plain ad cs _ _) rfl (by decide) rfl rfl dX5_seatByTallies_9 ?_
  refine g_get C (.int (M_7 88 4)) 4 in_X5_seatByTallies_6 (List.mem_of_getElem? (i := 2) rfl) (by decide) (ce_poll ad cs _ _) rfl (by decide) rfl rfl dX5_seatByTallies_12 ?_
  refine g_ni (fun v5 ev5 => ?_)
  have tv5 := congrArg Int32.toInt ev5
  obtain ⟨bv5, dv5⟩ := (show rg 0 30 v5 from (by rw [ev5]; exact (hI 88 4).2 rfl))
  refine g_icmp_ge C 69 dX5_seatByTallies_15 (by decide) (fun c6 => ?_) (fun c6 => ?_)
  ·
    have f7 := fle rfl rfl c6
    exact g_vret C hr ⟨hI, hF, hG⟩ dX5_seatByTallies_69
  ·
    have f8 := fnle rfl rfl c6
    refine g_aload_n C 1 dX5_seatByTallies_18 rfl ?_
    refine g_get C (.ref (ad 88)) 0 in_X5_seatByTallies_5 (List.mem_of_getElem? (i := 1) rfl) (by decide) (ce_plain ad cs _ _) rfl (by decide) rfl rfl dX5_seatByTallies_19 ?_
    refine g_callVi C (n := 0) (As := []) (st := []) (s_X6_greatestIn l D ad cs _ _ hI) gX5_seatByTallies_X6_greatestIn rfl rfl rfl (by decide +kernel) ⟨Nat.le_of_ble_eq_true rfl, Nat.le_of_ble_eq_true rfl⟩ rfl (Nat.le_of_ble_eq_true rfl) ⟨Nat.zero_le _, Nat.zero_le _⟩ (by decide) (ce_poll ad cs _ _) rfl rfl dX5_seatByTallies_22 (fun r9 M10 L11 hr9 => ?_)
    obtain ⟨hq1, hq2, hr9⟩ := hr9
    obtain rfl := hq1.symm
    obtain rfl := hq2.symm
    obtain ⟨br9, dr9⟩ := hr9
    refine g_istore C [(4, .int r9), (3, .int x3_7), (0, .ref (ad 93)), (1, .int x), (2, .ref (ad 125))] dX5_seatByTallies_25 (by decide) rfl ?_
    refine g_iload C 0 dX5_seatByTallies_27 rfl ?_
    refine g_bipush C (-9) dX5_seatByTallies_29 (by decide) ?_
    refine g_icmp_ne C 35 dX5_seatByTallies_31 (by decide) (fun c12 => ?_) (fun c12 => ?_)
    ·
      have f13 := fne rfl (by decide : ((-9) : Int32).toInt = (-9)) c12
      refine g_aload_n C 4 dX5_seatByTallies_35 rfl ?_
      refine g_iconst C 1 dX5_seatByTallies_36 (by decide) ?_
      refine g_iload C 0 dX5_seatByTallies_37 rfl ?_
      refine g_aload_n C 2 dX5_seatByTallies_39 rfl ?_
      refine g_get C (.ref (ad 88)) 0 in_X5_seatByTallies_5 (List.mem_of_getElem? (i := 1) rfl) (by decide) (ce_plain ad cs _ _) rfl (by decide) rfl rfl dX5_seatByTallies_40 ?_
      refine g_callVv C (n := 3) (As := [.int 1, .int r9, .ref (ad 88)]) (st := []) (s_X7_note_a l D ad cs _ _ 1 r9 hI) gX5_seatByTallies_X7_note rfl rfl rfl (by decide +kernel) ⟨Nat.le_of_ble_eq_true rfl, Nat.le_of_ble_eq_true rfl⟩ rfl (Nat.le_of_ble_eq_true rfl) ⟨Nat.zero_le _, Nat.zero_le _⟩ (by decide) (ce_ra ad cs _ _) rfl rfl dX5_seatByTallies_43 (fun M15 L16 hr14 => ?_)
      obtain ⟨hI, hF1, hG1⟩ := hr14
      have hF : ∀ k, k ≠ 90 ∧ k ≠ 125 ∧ k ≠ 126 ∧ k ≠ 127 ∧ k ≠ 128 → M15 k = M k := fun k hk => by (rw [hF1 k (by omega)]; try exact hF k hk)
      have hG : ∀ k, 258 ≤ k → L16 k = L k := fun k hk => by (rw [hG1 k hk]; try exact hG k hk)
      refine g_aload_n C 4 dX5_seatByTallies_46 rfl ?_
      refine g_iload C 0 dX5_seatByTallies_47 rfl ?_
      refine g_callVv C (n := 1) (As := [.int r9]) (st := []) (s_X7_give_a l D ad cs _ _ r9 hI) gX5_seatByTallies_X7_give rfl rfl rfl (by decide +kernel) ⟨Nat.le_of_ble_eq_true rfl, Nat.le_of_ble_eq_true rfl⟩ rfl (Nat.le_of_ble_eq_true rfl) ⟨Nat.zero_le _, Nat.zero_le _⟩ (by decide) (ce_ra ad cs _ _) rfl rfl dX5_seatByTallies_49 (fun M18 L19 hr17 => ?_)
      obtain ⟨hI, hF1, hG1⟩ := hr17
      have hF : ∀ k, k ≠ 90 ∧ k ≠ 125 ∧ k ≠ 126 ∧ k ≠ 127 ∧ k ≠ 128 → M18 k = M k := fun k hk => by (rw [hF1 k (by omega)]; try exact hF k hk)
      have hG : ∀ k, 258 ≤ k → L19 k = L k := fun k hk => by (rw [hG1 k hk]; try exact hG k hk)
      refine g_aload_n C 2 dX5_seatByTallies_52 rfl ?_
      refine g_get C (.ref (ad 88)) 0 in_X5_seatByTallies_5 (List.mem_of_getElem? (i := 1) rfl) (by decide) (ce_plain ad cs _ _) rfl (by decide) rfl rfl dX5_seatByTallies_53 ?_
      refine g_get C (.ref (ad 90)) 5 in_X5_seatByTallies_6 (List.mem_of_getElem? (i := 3) rfl) (by decide) (ce_poll ad cs _ _) rfl (by decide) rfl rfl dX5_seatByTallies_56 ?_
      refine g_iload C 0 dX5_seatByTallies_59 rfl ?_
      refine g_iconst C 0 dX5_seatByTallies_61 (by decide) ?_
      refine g_zast C (by decide) (ce_pin ad cs _ _) (by rw [sI_k]; rfl) (fin' (n := 10) rfl (by omega) (by omega)) dX5_seatByTallies_62 ?_
      refine g_nm (fun M20 hM20 => ?_)
      have hI : IC M20 := by rw [hM20]; exact hI.st (bC_free (by decide) (by decide) (by decide) (by decide) (by decide) (by decide) (by decide))
      have hF : ∀ k, k ≠ 90 ∧ k ≠ 125 ∧ k ≠ 126 ∧ k ≠ 127 ∧ k ≠ 128 → M20 k = M k := fun k hk => by (rw [hM20, sI_n _ _ _ (by omega)]; try exact hF k hk)
      obtain ⟨v21, ev21⟩ : ∃ y : Int32, y = x3_7 + 1 := ⟨_, rfl⟩
      try have fv21 := fadd rfl (by decide : (1 : Int32).toInt = 1) ev21 (by omega) (by omega)
      refine g_iinc C 1 v21 [(3, .int v21), (4, .int r9), (0, .ref (ad 93)), (1, .int x), (2, .ref (ad 125))] dX5_seatByTallies_63 rfl (by rw [ev21]; rfl) (by decide) rfl ?_
      refine g_goto C 7 dX5_seatByTallies_66 (by decide) ?_
      refine g_lv [0, 2, 3, 4] [(3, .int v21), (0, .ref (ad 93)), (1, .int x), (2, .ref (ad 125))] rfl ?_
      exact ih_7 (v21, M20, L19) ⟨by show 0 ≤ v21.toInt; omega, by show v21.toInt ≤ 30; omega, hI, hF, hG⟩ (by show (31 - v21.toInt).toNat < (31 - x3_7.toInt).toNat; omega)
    ·
      have f22 := feq rfl (by decide : ((-9) : Int32).toInt = (-9)) c12
      exact g_vret C hr ⟨hI, hF, hG⟩ dX5_seatByTallies_34
theorem dX5_seatByDivisors_0 : decode cX5_seatByDivisors 0 = .ok (.aload_n 0, 1) := dw42 (n := 0) (i := 0) kc_cX5_seatByDivisors_0 (by decide +kernel)
theorem dX5_seatByDivisors_1 : decode cX5_seatByDivisors 1 = .ok (.getfield 18, 3) := dw180 (n := 0) (i := 1) (a := 0) (b := 18) kc_cX5_seatByDivisors_0 (by decide +kernel) (by decide)
theorem in_X5_seatByDivisors_5 : ∀ w ∈ u_ws RX5 TX5 3, w ∈ wsX5_seatByDivisors := fun _ h => List.mem_cons_of_mem _ (List.mem_append_left _ (List.mem_append_left _ (List.mem_append_left _ (List.mem_append_left _ (List.mem_append_right _ h)))))
theorem dX5_seatByDivisors_4 : decode cX5_seatByDivisors 4 = .ok (.invokevirtual 55, 3) := dw182 (n := 0) (i := 4) (a := 0) (b := 55) kc_cX5_seatByDivisors_0 (by decide +kernel) (by decide)
set_option maxRecDepth 20000 in
theorem ggX5_seatByDivisors_X6_tallyFirstIn : GoodIn wsX5_seatByDivisors wsX6_tallyFirstIn := (gk_code 8 rfl (gk_fieldLink 9 rfl (gk_fieldLink 10 rfl (gk_methodLink 11 rfl (gk_instanceMethod 12 rfl (gk_selects 13 rfl (gk_initialized 7 rfl (gk_code 14 rfl (gk_fieldLink 15 rfl (gk_methodLink 16 rfl (gk_instanceMethod 17 rfl (gk_selects 18 rfl (gk_code 19 rfl (gk_fieldLink 20 rfl (gk_fieldLink 21 rfl (gk_fieldLink 22 rfl (gk_fieldLink 23 rfl (gk_fieldLink 24 rfl (gk_methodLink 25 rfl (gk_instanceMethod 26 rfl (gk_selects 27 rfl (gk_code 28 rfl (gk_fieldLink 29 rfl (gk_laysFinal 64 rfl (gk_laysFinal 65 rfl (gk_laysFinal 66 rfl (gk_lays 67 rfl (gk_lays 68 rfl (gk_laysFinal 69 rfl (gk_laysFinal 70 rfl (gk_laysFinal 71 rfl (gk_lays 72 rfl (gk_laysFinal 73 rfl (gk_laysFinal 74 rfl (gk_laysFinal 75 rfl (gk_laysFinal 76 rfl (gn)))))))))))))))))))))))))))))))))))))
set_option maxRecDepth 20000 in
theorem gX5_seatByDivisors_X6_tallyFirstIn : GoodIn wsX5_seatByDivisors (wsV RX5 55 RX6 yX6_tallyFirstIn wsX6_tallyFirstIn) := goodIn_app (gk_methodLink 4 rfl (gk_instanceMethod 5 rfl (gk_selects 6 rfl (gk_initialized 7 rfl (gn))))) ggX5_seatByDivisors_X6_tallyFirstIn
theorem dX5_seatByDivisors_7 : decode cX5_seatByDivisors 7 = .ok (.iconst 0, 1) := dw3 (n := 0) (i := 7) kc_cX5_seatByDivisors_0 (by decide +kernel)
theorem dX5_seatByDivisors_8 : decode cX5_seatByDivisors 8 = .ok (.istore_n 3, 1) := dw62 (n := 0) (i := 8) kc_cX5_seatByDivisors_0 (by decide +kernel)
theorem dX5_seatByDivisors_9 : decode cX5_seatByDivisors 9 = .ok (.iload_n 3, 1) := dw29 (n := 0) (i := 9) kc_cX5_seatByDivisors_0 (by decide +kernel)
theorem dX5_seatByDivisors_10 : decode cX5_seatByDivisors 10 = .ok (.bipush 10, 2) := dw16 (n := 0) (i := 10) (a := 10) kc_cX5_seatByDivisors_0 (by decide +kernel) (by decide)
theorem dX5_seatByDivisors_12 : decode cX5_seatByDivisors 12 = .ok (.if_icmp .ge 16, 3) := dw162 (n := 0) (i := 12) (a := 0) (b := 16) kc_cX5_seatByDivisors_0 (by decide +kernel) (by decide)
theorem dX5_seatByDivisors_28 : decode cX5_seatByDivisors 28 = .ok (.iconst 0, 1) := dw3 (n := 0) (i := 28) kc_cX5_seatByDivisors_0 (by decide +kernel)
theorem dX5_seatByDivisors_29 : decode cX5_seatByDivisors 29 = .ok (.istore_n 3, 1) := dw62 (n := 0) (i := 29) kc_cX5_seatByDivisors_0 (by decide +kernel)
theorem dX5_seatByDivisors_30 : decode cX5_seatByDivisors 30 = .ok (.iload_n 3, 1) := dw29 (n := 0) (i := 30) kc_cX5_seatByDivisors_0 (by decide +kernel)
theorem dX5_seatByDivisors_31 : decode cX5_seatByDivisors 31 = .ok (.aload_n 0, 1) := dw42 (n := 0) (i := 31) kc_cX5_seatByDivisors_0 (by decide +kernel)
theorem dX5_seatByDivisors_32 : decode cX5_seatByDivisors 32 = .ok (.getfield 18, 3) := dw180 (n := 32) (i := 0) (a := 0) (b := 18) kc_cX5_seatByDivisors_1 (by decide +kernel) (by decide)
theorem dX5_seatByDivisors_35 : decode cX5_seatByDivisors 35 = .ok (.getfield 26, 3) := dw180 (n := 32) (i := 3) (a := 0) (b := 26) kc_cX5_seatByDivisors_1 (by decide +kernel) (by decide)
theorem in_X5_seatByDivisors_6 : ∀ w ∈ u_ws RX6 TX6 8, w ∈ wsX5_seatByDivisors := fun _ h => List.mem_cons_of_mem _ (List.mem_append_left _ (List.mem_append_left _ (List.mem_append_left _ (List.mem_append_right _ h))))
theorem dX5_seatByDivisors_38 : decode cX5_seatByDivisors 38 = .ok (.if_icmp .ge 52, 3) := dw162 (n := 32) (i := 6) (a := 0) (b := 52) kc_cX5_seatByDivisors_1 (by decide +kernel) (by decide)
theorem dX5_seatByDivisors_90 : decode cX5_seatByDivisors 90 = .ok (.return_, 1) := dw177 (n := 64) (i := 26) kc_cX5_seatByDivisors_2 (by decide +kernel)
theorem dX5_seatByDivisors_41 : decode cX5_seatByDivisors 41 = .ok (.aload_n 0, 1) := dw42 (n := 32) (i := 9) kc_cX5_seatByDivisors_1 (by decide +kernel)
theorem dX5_seatByDivisors_42 : decode cX5_seatByDivisors 42 = .ok (.iload_n 1, 1) := dw27 (n := 32) (i := 10) kc_cX5_seatByDivisors_1 (by decide +kernel)
theorem dX5_seatByDivisors_43 : decode cX5_seatByDivisors 43 = .ok (.invokevirtual 92, 3) := dw182 (n := 32) (i := 11) (a := 0) (b := 92) kc_cX5_seatByDivisors_1 (by decide +kernel) (by decide)
set_option maxRecDepth 20000 in
theorem ggX5_seatByDivisors_X5_greatestByDivisor : GoodIn wsX5_seatByDivisors wsX5_greatestByDivisor := (gk_code 34 rfl (gk_fieldLink 1 rfl (gk_fieldLink 35 rfl (gk_fieldLink 36 rfl (gk_fieldLink 37 rfl (gk_methodLink 38 rfl (gk_instanceMethod 39 rfl (gk_selects 40 rfl (gk_initialized 33 rfl (gk_code 41 rfl (gk_fieldLink 2 rfl (gk_fieldLink 42 rfl (gk_laysFinal 61 rfl (gk_laysFinal 62 rfl (gk_laysFinal 63 rfl (gk_laysFinal 64 rfl (gk_laysFinal 65 rfl (gk_laysFinal 66 rfl (gk_lays 67 rfl (gk_lays 68 rfl (gk_laysFinal 69 rfl (gk_laysFinal 70 rfl (gk_laysFinal 71 rfl (gk_lays 77 rfl (gk_laysFinal 78 rfl (gn))))))))))))))))))))))))))
set_option maxRecDepth 20000 in
theorem gX5_seatByDivisors_X5_greatestByDivisor : GoodIn wsX5_seatByDivisors (wsV RX5 92 RX5 yX5_greatestByDivisor wsX5_greatestByDivisor) := goodIn_app (gk_methodLink 30 rfl (gk_instanceMethod 31 rfl (gk_selects 32 rfl (gk_initialized 33 rfl (gn))))) ggX5_seatByDivisors_X5_greatestByDivisor
theorem dX5_seatByDivisors_46 : decode cX5_seatByDivisors 46 = .ok (.istore 4, 2) := dw54 (n := 32) (i := 14) (a := 4) kc_cX5_seatByDivisors_1 (by decide +kernel) (by decide)
theorem dX5_seatByDivisors_48 : decode cX5_seatByDivisors 48 = .ok (.iload 4, 2) := dw21 (n := 32) (i := 16) (a := 4) kc_cX5_seatByDivisors_1 (by decide +kernel) (by decide)
theorem dX5_seatByDivisors_50 : decode cX5_seatByDivisors 50 = .ok (.bipush (-9), 2) := dw16 (n := 32) (i := 18) (a := 247) kc_cX5_seatByDivisors_1 (by decide +kernel) (by decide)
theorem dX5_seatByDivisors_52 : decode cX5_seatByDivisors 52 = .ok (.if_icmp .ne 4, 3) := dw160 (n := 32) (i := 20) (a := 0) (b := 4) kc_cX5_seatByDivisors_1 (by decide +kernel) (by decide)
theorem dX5_seatByDivisors_56 : decode cX5_seatByDivisors 56 = .ok (.aload_n 2, 1) := dw44 (n := 32) (i := 24) kc_cX5_seatByDivisors_1 (by decide +kernel)
theorem dX5_seatByDivisors_57 : decode cX5_seatByDivisors 57 = .ok (.iconst 1, 1) := dw4 (n := 32) (i := 25) kc_cX5_seatByDivisors_1 (by decide +kernel)
theorem dX5_seatByDivisors_58 : decode cX5_seatByDivisors 58 = .ok (.iload 4, 2) := dw21 (n := 32) (i := 26) (a := 4) kc_cX5_seatByDivisors_1 (by decide +kernel) (by decide)
theorem dX5_seatByDivisors_60 : decode cX5_seatByDivisors 60 = .ok (.aload_n 0, 1) := dw42 (n := 32) (i := 28) kc_cX5_seatByDivisors_1 (by decide +kernel)
theorem dX5_seatByDivisors_61 : decode cX5_seatByDivisors 61 = .ok (.getfield 18, 3) := dw180 (n := 32) (i := 29) (a := 0) (b := 18) kc_cX5_seatByDivisors_1 (by decide +kernel) (by decide)
theorem dX5_seatByDivisors_64 : decode cX5_seatByDivisors 64 = .ok (.invokevirtual 36, 3) := dw182 (n := 64) (i := 0) (a := 0) (b := 36) kc_cX5_seatByDivisors_2 (by decide +kernel) (by decide)
set_option maxRecDepth 20000 in
theorem ggX5_seatByDivisors_X7_note : GoodIn wsX5_seatByDivisors wsX7_note := (gk_code 47 rfl (gk_fieldLink 48 rfl (gk_fieldLink 49 rfl (gk_fieldLink 50 rfl (gk_fieldLink 51 rfl (gk_fieldLink 52 rfl (gk_fieldLink 53 rfl (gk_fieldLink 54 rfl (gk_lays 79 rfl (gk_laysFinal 80 rfl (gk_lays 81 rfl (gk_laysFinal 82 rfl (gk_laysFinal 83 rfl (gk_laysFinal 84 rfl (gk_laysFinal 85 rfl (gk_laysFinal 64 rfl (gk_laysFinal 65 rfl (gk_laysFinal 66 rfl (gk_lays 67 rfl (gk_lays 68 rfl (gk_laysFinal 69 rfl (gk_laysFinal 70 rfl (gk_laysFinal 71 rfl (gn))))))))))))))))))))))))
set_option maxRecDepth 20000 in
theorem gX5_seatByDivisors_X7_note : GoodIn wsX5_seatByDivisors (wsV RX5 36 RX7 yX7_note wsX7_note) := goodIn_app (gk_methodLink 43 rfl (gk_instanceMethod 44 rfl (gk_selects 45 rfl (gk_initialized 46 rfl (gn))))) ggX5_seatByDivisors_X7_note
theorem dX5_seatByDivisors_67 : decode cX5_seatByDivisors 67 = .ok (.aload_n 2, 1) := dw44 (n := 64) (i := 3) kc_cX5_seatByDivisors_2 (by decide +kernel)
theorem dX5_seatByDivisors_68 : decode cX5_seatByDivisors 68 = .ok (.iload 4, 2) := dw21 (n := 64) (i := 4) (a := 4) kc_cX5_seatByDivisors_2 (by decide +kernel) (by decide)
theorem dX5_seatByDivisors_70 : decode cX5_seatByDivisors 70 = .ok (.invokevirtual 42, 3) := dw182 (n := 64) (i := 6) (a := 0) (b := 42) kc_cX5_seatByDivisors_2 (by decide +kernel) (by decide)
set_option maxRecDepth 20000 in
theorem ggX5_seatByDivisors_X7_give : GoodIn wsX5_seatByDivisors wsX7_give := (gk_code 58 rfl (gk_fieldLink 59 rfl (gk_fieldLink 60 rfl (gk_lays 79 rfl (gk_laysFinal 80 rfl (gk_lays 81 rfl (gk_laysFinal 82 rfl (gk_laysFinal 83 rfl (gk_laysFinal 84 rfl (gk_laysFinal 85 rfl (gn)))))))))))
set_option maxRecDepth 20000 in
theorem gX5_seatByDivisors_X7_give : GoodIn wsX5_seatByDivisors (wsV RX5 42 RX7 yX7_give wsX7_give) := goodIn_app (gk_methodLink 55 rfl (gk_instanceMethod 56 rfl (gk_selects 57 rfl (gk_initialized 46 rfl (gn))))) ggX5_seatByDivisors_X7_give
theorem dX5_seatByDivisors_73 : decode cX5_seatByDivisors 73 = .ok (.aload_n 0, 1) := dw42 (n := 64) (i := 9) kc_cX5_seatByDivisors_2 (by decide +kernel)
theorem dX5_seatByDivisors_74 : decode cX5_seatByDivisors 74 = .ok (.getfield 9, 3) := dw180 (n := 64) (i := 10) (a := 0) (b := 9) kc_cX5_seatByDivisors_2 (by decide +kernel) (by decide)
theorem dX5_seatByDivisors_77 : decode cX5_seatByDivisors 77 = .ok (.iload 4, 2) := dw21 (n := 64) (i := 13) (a := 4) kc_cX5_seatByDivisors_2 (by decide +kernel) (by decide)
theorem dX5_seatByDivisors_79 : decode cX5_seatByDivisors 79 = .ok (.dup2, 1) := dw92 (n := 64) (i := 15) kc_cX5_seatByDivisors_2 (by decide +kernel)
theorem dX5_seatByDivisors_80 : decode cX5_seatByDivisors 80 = .ok (.iaload, 1) := dw46 (n := 64) (i := 16) kc_cX5_seatByDivisors_2 (by decide +kernel)
theorem dX5_seatByDivisors_81 : decode cX5_seatByDivisors 81 = .ok (.iconst 1, 1) := dw4 (n := 64) (i := 17) kc_cX5_seatByDivisors_2 (by decide +kernel)
theorem dX5_seatByDivisors_82 : decode cX5_seatByDivisors 82 = .ok (.iadd, 1) := dw96 (n := 64) (i := 18) kc_cX5_seatByDivisors_2 (by decide +kernel)
theorem dX5_seatByDivisors_83 : decode cX5_seatByDivisors 83 = .ok (.iastore, 1) := dw79 (n := 64) (i := 19) kc_cX5_seatByDivisors_2 (by decide +kernel)
theorem dX5_seatByDivisors_84 : decode cX5_seatByDivisors 84 = .ok (.iinc 3 1, 3) := by decide +kernel
theorem dX5_seatByDivisors_87 : decode cX5_seatByDivisors 87 = .ok (.goto (-57), 3) := dw167 (n := 64) (i := 23) (a := 255) (b := 199) kc_cX5_seatByDivisors_2 (by decide +kernel) (by decide)
theorem dX5_seatByDivisors_55 : decode cX5_seatByDivisors 55 = .ok (.return_, 1) := dw177 (n := 32) (i := 23) kc_cX5_seatByDivisors_1 (by decide +kernel)
theorem dX5_seatByDivisors_15 : decode cX5_seatByDivisors 15 = .ok (.aload_n 0, 1) := dw42 (n := 0) (i := 15) kc_cX5_seatByDivisors_0 (by decide +kernel)
theorem dX5_seatByDivisors_16 : decode cX5_seatByDivisors 16 = .ok (.getfield 9, 3) := dw180 (n := 0) (i := 16) (a := 0) (b := 9) kc_cX5_seatByDivisors_0 (by decide +kernel) (by decide)
theorem dX5_seatByDivisors_19 : decode cX5_seatByDivisors 19 = .ok (.iload_n 3, 1) := dw29 (n := 0) (i := 19) kc_cX5_seatByDivisors_0 (by decide +kernel)
theorem dX5_seatByDivisors_20 : decode cX5_seatByDivisors 20 = .ok (.iconst 0, 1) := dw3 (n := 0) (i := 20) kc_cX5_seatByDivisors_0 (by decide +kernel)
theorem dX5_seatByDivisors_21 : decode cX5_seatByDivisors 21 = .ok (.iastore, 1) := dw79 (n := 0) (i := 21) kc_cX5_seatByDivisors_0 (by decide +kernel)
theorem dX5_seatByDivisors_22 : decode cX5_seatByDivisors 22 = .ok (.iinc 3 1, 3) := by decide +kernel
theorem dX5_seatByDivisors_25 : decode cX5_seatByDivisors 25 = .ok (.goto (-16), 3) := dw167 (n := 0) (i := 25) (a := 255) (b := 240) kc_cX5_seatByDivisors_0 (by decide +kernel) (by decide)
set_option maxHeartbeats 4000000 in
set_option maxRecDepth 100000 in
theorem s_X5_sbd_a (l : Launch) (D : va_G) (ad : Nat → Nat) (cs : Nat → ClassId) (M : MI) (L : ML) (x : Int32) (hI : IC M) : Cv l yX5_seatByDivisors wsX5_seatByDivisors ({ frames := 2, cells := 0, slots := 0, locals := 51 }) D ad cs [.ref (ad 93), .int x, .ref (ad 125)] M L (fun M1 L1 => IC M1 ∧ (∀ k, k ≠ 94 ∧ k ≠ 125 ∧ k ≠ 126 ∧ k ≠ 127 ∧ k ≠ 128 → M1 k = M k) ∧ ∀ k, 258 ≤ k → L1 k = L k) := by
  refine enter_v RX5 rfl [(0, .ref (ad 93)), (1, .int x), (2, .ref (ad 125))] rfl (Nat.le_of_ble_eq_true rfl) (by decide +kernel) rfl ?_
  intro p e s m below meth c C hr
  have hF : ∀ k, k ≠ 94 ∧ k ≠ 125 ∧ k ≠ 126 ∧ k ≠ 127 ∧ k ≠ 128 → M k = M k := fun _ _ => rfl
  have hG : ∀ k, 258 ≤ k → L k = L k := fun _ _ => rfl
  refine g_aload_n C 0 dX5_seatByDivisors_0 rfl ?_
  refine g_get C (.ref (ad 88)) 0 in_X5_seatByDivisors_5 (List.mem_of_getElem? (i := 1) rfl) (by decide) (ce_plain ad cs _ _) rfl (by decide) rfl rfl dX5_seatByDivisors_1 ?_
  refine g_callVv C (n := 0) (As := []) (st := []) (s_X6_tallyFirstIn l D ad cs _ _ hI) gX5_seatByDivisors_X6_tallyFirstIn rfl rfl rfl (by decide +kernel) ⟨Nat.le_of_ble_eq_true rfl, Nat.le_of_ble_eq_true rfl⟩ rfl (Nat.le_of_ble_eq_true rfl) ⟨Nat.zero_le _, Nat.zero_le _⟩ (by decide) (ce_poll ad cs _ _) rfl rfl dX5_seatByDivisors_4 (fun M2 L3 hr1 => ?_)
  obtain ⟨hI, hF1, hG1⟩ := hr1
  have hF : ∀ k, k ≠ 94 ∧ k ≠ 125 ∧ k ≠ 126 ∧ k ≠ 127 ∧ k ≠ 128 → M2 k = M k := fun k hk => by (rw [hF1 k (by omega)]; try exact hF k hk)
  have hG : ∀ k, 258 ≤ k → L3 k = L k := fun k hk => by (rw [hG1 k hk]; try exact hG k hk)
  refine g_iconst C 0 dX5_seatByDivisors_7 (by decide) ?_
  refine g_istore_n C [(3, .int 0), (0, .ref (ad 93)), (1, .int x), (2, .ref (ad 125))] dX5_seatByDivisors_8 (by decide) rfl ?_
  have zy4 : (0 : Int32).toInt = 0 := by decide
  refine g_loop (α := Int32 × MI × ML) (fun a => (11 - a.1.toInt).toNat) (fun a => 0 ≤ a.1.toInt ∧ a.1.toInt ≤ 10 ∧ IC a.2.1 ∧ (∀ k, k ≠ 94 ∧ k ≠ 125 ∧ k ≠ 126 ∧ k ≠ 127 ∧ k ≠ 128 → a.2.1 k = M k) ∧ (∀ k, 258 ≤ k → a.2.2 k = L k)) (fun a => a.2.1) (fun a => a.2.2) (fun a => [(3, .int a.1), (0, .ref (ad 93)), (1, .int x), (2, .ref (ad 125))]) (0, M2, L3) ⟨by show 0 ≤ (0 : Int32).toInt; omega, by show (0 : Int32).toInt ≤ 10; omega, hI, hF, hG⟩ rfl rfl rfl ?_
  rintro ⟨x3_9, M_9, L_9⟩ ⟨j9_0, j9_1, hI, hF, hG⟩ ih_9
  dsimp only at j9_0 j9_1 hI hF hG ih_9 ⊢
  refine g_iload_n C 0 dX5_seatByDivisors_9 rfl ?_
  refine g_bipush C 10 dX5_seatByDivisors_10 (by decide) ?_
  refine g_icmp_ge C 28 dX5_seatByDivisors_12 (by decide) (fun c5 => ?_) (fun c5 => ?_)
  ·
    have f6 := fle (by decide : (10 : Int32).toInt = 10) rfl c5
    refine g_iconst C 0 dX5_seatByDivisors_28 (by decide) ?_
    refine g_istore_n C [(3, .int 0), (0, .ref (ad 93)), (1, .int x), (2, .ref (ad 125))] dX5_seatByDivisors_29 (by decide) rfl ?_
    have zy7 : (0 : Int32).toInt = 0 := by decide
    refine g_loop (α := Int32 × MI × ML) (fun a => (31 - a.1.toInt).toNat) (fun a => 0 ≤ a.1.toInt ∧ a.1.toInt ≤ 30 ∧ IC a.2.1 ∧ (∀ k, k ≠ 94 ∧ k ≠ 125 ∧ k ≠ 126 ∧ k ≠ 127 ∧ k ≠ 128 → a.2.1 k = M k) ∧ (∀ k, 258 ≤ k → a.2.2 k = L k)) (fun a => a.2.1) (fun a => a.2.2) (fun a => [(3, .int a.1), (0, .ref (ad 93)), (1, .int x), (2, .ref (ad 125))]) (0, M_9, L_9) ⟨by show 0 ≤ (0 : Int32).toInt; omega, by show (0 : Int32).toInt ≤ 30; omega, hI, hF, hG⟩ rfl rfl rfl ?_
    rintro ⟨x3_30, M_30, L_30⟩ ⟨j30_0, j30_1, hI, hF, hG⟩ ih_30
    dsimp only at j30_0 j30_1 hI hF hG ih_30 ⊢
    refine g_iload_n C 0 dX5_seatByDivisors_30 rfl ?_
    refine g_aload_n C 1 dX5_seatByDivisors_31 rfl ?_
    refine g_get C (.ref (ad 88)) 0 in_X5_seatByDivisors_5 (List.mem_of_getElem? (i := 1) rfl) (by decide) (ce_plain ad cs _ _) rfl (by decide) rfl rfl dX5_seatByDivisors_32 ?_
    refine g_get C (.int (M_30 88 4)) 4 in_X5_seatByDivisors_6 (List.mem_of_getElem? (i := 3) rfl) (by decide) (ce_poll ad cs _ _) rfl (by decide) rfl rfl dX5_seatByDivisors_35 ?_
    refine g_ni (fun v8 ev8 => ?_)
    have tv8 := congrArg Int32.toInt ev8
    obtain ⟨bv8, dv8⟩ := (show rg 0 30 v8 from (by rw [ev8]; exact (hI 88 4).2 rfl))
    refine g_icmp_ge C 90 dX5_seatByDivisors_38 (by decide) (fun c9 => ?_) (fun c9 => ?_)
    ·
      have f10 := fle rfl rfl c9
      exact g_vret C hr ⟨hI, hF, hG⟩ dX5_seatByDivisors_90
    ·
      have f11 := fnle rfl rfl c9
      refine g_aload_n C 1 dX5_seatByDivisors_41 rfl ?_
      refine g_iload_n C 2 dX5_seatByDivisors_42 rfl ?_
      refine g_callVi C (n := 1) (As := [.int x]) (st := []) (s_X5_gbd l D ad cs _ _ x hI) gX5_seatByDivisors_X5_greatestByDivisor rfl rfl rfl (by decide +kernel) ⟨Nat.le_of_ble_eq_true rfl, Nat.le_of_ble_eq_true rfl⟩ rfl (Nat.le_of_ble_eq_true rfl) ⟨Nat.zero_le _, Nat.zero_le _⟩ (by decide) (ce_plain ad cs _ _) rfl rfl dX5_seatByDivisors_43 (fun r12 M13 L14 hr12 => ?_)
      obtain ⟨hq1, hq2, hr12⟩ := hr12
      obtain rfl := hq1.symm
      obtain rfl := hq2.symm
      obtain ⟨br12, dr12⟩ := hr12
      refine g_istore C [(4, .int r12), (3, .int x3_30), (0, .ref (ad 93)), (1, .int x), (2, .ref (ad 125))] dX5_seatByDivisors_46 (by decide) rfl ?_
      refine g_iload C 0 dX5_seatByDivisors_48 rfl ?_
      refine g_bipush C (-9) dX5_seatByDivisors_50 (by decide) ?_
      refine g_icmp_ne C 56 dX5_seatByDivisors_52 (by decide) (fun c15 => ?_) (fun c15 => ?_)
      ·
        have f16 := fne rfl (by decide : ((-9) : Int32).toInt = (-9)) c15
        refine g_aload_n C 4 dX5_seatByDivisors_56 rfl ?_
        refine g_iconst C 1 dX5_seatByDivisors_57 (by decide) ?_
        refine g_iload C 0 dX5_seatByDivisors_58 rfl ?_
        refine g_aload_n C 2 dX5_seatByDivisors_60 rfl ?_
        refine g_get C (.ref (ad 88)) 0 in_X5_seatByDivisors_5 (List.mem_of_getElem? (i := 1) rfl) (by decide) (ce_plain ad cs _ _) rfl (by decide) rfl rfl dX5_seatByDivisors_61 ?_
        refine g_callVv C (n := 3) (As := [.int 1, .int r12, .ref (ad 88)]) (st := []) (s_X7_note_a l D ad cs _ _ 1 r12 hI) gX5_seatByDivisors_X7_note rfl rfl rfl (by decide +kernel) ⟨Nat.le_of_ble_eq_true rfl, Nat.le_of_ble_eq_true rfl⟩ rfl (Nat.le_of_ble_eq_true rfl) ⟨Nat.zero_le _, Nat.zero_le _⟩ (by decide) (ce_ra ad cs _ _) rfl rfl dX5_seatByDivisors_64 (fun M18 L19 hr17 => ?_)
        obtain ⟨hI, hF1, hG1⟩ := hr17
        have hF : ∀ k, k ≠ 94 ∧ k ≠ 125 ∧ k ≠ 126 ∧ k ≠ 127 ∧ k ≠ 128 → M18 k = M k := fun k hk => by (rw [hF1 k (by omega)]; try exact hF k hk)
        have hG : ∀ k, 258 ≤ k → L19 k = L k := fun k hk => by (rw [hG1 k hk]; try exact hG k hk)
        refine g_aload_n C 4 dX5_seatByDivisors_67 rfl ?_
        refine g_iload C 0 dX5_seatByDivisors_68 rfl ?_
        refine g_callVv C (n := 1) (As := [.int r12]) (st := []) (s_X7_give_a l D ad cs _ _ r12 hI) gX5_seatByDivisors_X7_give rfl rfl rfl (by decide +kernel) ⟨Nat.le_of_ble_eq_true rfl, Nat.le_of_ble_eq_true rfl⟩ rfl (Nat.le_of_ble_eq_true rfl) ⟨Nat.zero_le _, Nat.zero_le _⟩ (by decide) (ce_ra ad cs _ _) rfl rfl dX5_seatByDivisors_70 (fun M21 L22 hr20 => ?_)
        obtain ⟨hI, hF1, hG1⟩ := hr20
        have hF : ∀ k, k ≠ 94 ∧ k ≠ 125 ∧ k ≠ 126 ∧ k ≠ 127 ∧ k ≠ 128 → M21 k = M k := fun k hk => by (rw [hF1 k (by omega)]; try exact hF k hk)
        have hG : ∀ k, 258 ≤ k → L22 k = L k := fun k hk => by (rw [hG1 k hk]; try exact hG k hk)
        refine g_aload_n C 2 dX5_seatByDivisors_73 rfl ?_
        refine g_get C (.ref (ad 94)) 1 in_X5_seatByDivisors_5 (List.mem_of_getElem? (i := 2) rfl) (by decide) (ce_plain ad cs _ _) rfl (by decide) rfl rfl dX5_seatByDivisors_74 ?_
        refine g_iload C 0 dX5_seatByDivisors_77 rfl ?_
        refine g_dup2 C dX5_seatByDivisors_79 rfl rfl ?_
        refine g_iald C (by decide) (ce_lseats ad cs _ _) (fin' (n := 10) rfl (by omega) (by omega)) dX5_seatByDivisors_80 ?_
        refine g_ni (fun v23 ev23 => ?_)
        have tv23 := congrArg Int32.toInt ev23
        refine g_iconst C 1 dX5_seatByDivisors_81 (by decide) ?_
        refine g_iadd C dX5_seatByDivisors_82 ?_
        refine g_ni (fun v24 ev24 => ?_)
        try have fv24 := fadd rfl (by decide : (1 : Int32).toInt = 1) ev24 (by omega) (by omega)
        refine g_iast C (by decide) (ce_lseats ad cs _ _) (by rw [sI_k]; rfl) (fin' (n := 10) rfl (by omega) (by omega)) dX5_seatByDivisors_83 ?_
        refine g_nm (fun M25 hM25 => ?_)
        have hI : IC M25 := by rw [hM25]; exact hI.st (bC_free (by decide) (by decide) (by decide) (by decide) (by decide) (by decide) (by decide))
        have hF : ∀ k, k ≠ 94 ∧ k ≠ 125 ∧ k ≠ 126 ∧ k ≠ 127 ∧ k ≠ 128 → M25 k = M k := fun k hk => by (rw [hM25, sI_n _ _ _ (by omega)]; try exact hF k hk)
        obtain ⟨v26, ev26⟩ : ∃ y : Int32, y = x3_30 + 1 := ⟨_, rfl⟩
        try have fv26 := fadd rfl (by decide : (1 : Int32).toInt = 1) ev26 (by omega) (by omega)
        refine g_iinc C 1 v26 [(3, .int v26), (4, .int r12), (0, .ref (ad 93)), (1, .int x), (2, .ref (ad 125))] dX5_seatByDivisors_84 rfl (by rw [ev26]; rfl) (by decide) rfl ?_
        refine g_goto C 30 dX5_seatByDivisors_87 (by decide) ?_
        refine g_lv [0, 2, 3, 4] [(3, .int v26), (0, .ref (ad 93)), (1, .int x), (2, .ref (ad 125))] rfl ?_
        exact ih_30 (v26, M25, L22) ⟨by show 0 ≤ v26.toInt; omega, by show v26.toInt ≤ 30; omega, hI, hF, hG⟩ (by show (31 - v26.toInt).toNat < (31 - x3_30.toInt).toNat; omega)
      ·
        have f27 := feq rfl (by decide : ((-9) : Int32).toInt = (-9)) c15
        exact g_vret C hr ⟨hI, hF, hG⟩ dX5_seatByDivisors_55
  ·
    have f28 := fnle (by decide : (10 : Int32).toInt = 10) rfl c5
    refine g_aload_n C 1 dX5_seatByDivisors_15 rfl ?_
    refine g_get C (.ref (ad 94)) 1 in_X5_seatByDivisors_5 (List.mem_of_getElem? (i := 2) rfl) (by decide) (ce_plain ad cs _ _) rfl (by decide) rfl rfl dX5_seatByDivisors_16 ?_
    refine g_iload_n C 0 dX5_seatByDivisors_19 rfl ?_
    refine g_iconst C 0 dX5_seatByDivisors_20 (by decide) ?_
    refine g_iast C (by decide) (ce_lseats ad cs _ _) (by rw [sI_k]; rfl) (fin' (n := 10) rfl (by omega) (by omega)) dX5_seatByDivisors_21 ?_
    refine g_nm (fun M29 hM29 => ?_)
    have hI : IC M29 := by rw [hM29]; exact hI.st (bC_free (by decide) (by decide) (by decide) (by decide) (by decide) (by decide) (by decide))
    have hF : ∀ k, k ≠ 94 ∧ k ≠ 125 ∧ k ≠ 126 ∧ k ≠ 127 ∧ k ≠ 128 → M29 k = M k := fun k hk => by (rw [hM29, sI_n _ _ _ (by omega)]; try exact hF k hk)
    obtain ⟨v30, ev30⟩ : ∃ y : Int32, y = x3_9 + 1 := ⟨_, rfl⟩
    try have fv30 := fadd rfl (by decide : (1 : Int32).toInt = 1) ev30 (by omega) (by omega)
    refine g_iinc C 0 v30 [(3, .int v30), (0, .ref (ad 93)), (1, .int x), (2, .ref (ad 125))] dX5_seatByDivisors_22 rfl (by rw [ev30]; rfl) (by decide) rfl ?_
    refine g_goto C 9 dX5_seatByDivisors_25 (by decide) ?_
    exact ih_9 (v30, M29, L_9) ⟨by show 0 ≤ v30.toInt; omega, by show v30.toInt ≤ 10; omega, hI, hF, hG⟩ (by show (11 - v30.toInt).toNat < (11 - x3_9.toInt).toNat; omega)
theorem dX5_runOff_0 : decode cX5_runOff 0 = .ok (.aload_n 0, 1) := dw42 (n := 0) (i := 0) kc_cX5_runOff_0 (by decide +kernel)
theorem dX5_runOff_1 : decode cX5_runOff 1 = .ok (.getfield 18, 3) := dw180 (n := 0) (i := 1) (a := 0) (b := 18) kc_cX5_runOff_0 (by decide +kernel) (by decide)
theorem in_X5_runOff_5 : ∀ w ∈ u_ws RX5 TX5 3, w ∈ wsX5_runOff := fun _ h => List.mem_cons_of_mem _ (List.mem_append_left _ (List.mem_append_left _ (List.mem_append_left _ (List.mem_append_left _ (List.mem_append_right _ h)))))
theorem dX5_runOff_4 : decode cX5_runOff 4 = .ok (.getfield 61, 3) := dw180 (n := 0) (i := 4) (a := 0) (b := 61) kc_cX5_runOff_0 (by decide +kernel) (by decide)
theorem in_X5_runOff_6 : ∀ w ∈ u_ws RX6 TX6 8, w ∈ wsX5_runOff := fun _ h => List.mem_cons_of_mem _ (List.mem_append_left _ (List.mem_append_left _ (List.mem_append_left _ (List.mem_append_right _ h))))
theorem dX5_runOff_7 : decode cX5_runOff 7 = .ok (.getfield 65, 3) := dw180 (n := 0) (i := 7) (a := 0) (b := 65) kc_cX5_runOff_0 (by decide +kernel) (by decide)
theorem in_X5_runOff_2 : ∀ w ∈ u_ws RX2 TX2 2, w ∈ wsX5_runOff := fun _ h => List.mem_cons_of_mem _ (List.mem_append_left _ (List.mem_append_left _ (List.mem_append_right _ h)))
theorem dX5_runOff_10 : decode cX5_runOff 10 = .ok (.iconst 1, 1) := dw4 (n := 0) (i := 10) kc_cX5_runOff_0 (by decide +kernel)
theorem dX5_runOff_11 : decode cX5_runOff 11 = .ok (.isub, 1) := dw100 (n := 0) (i := 11) kc_cX5_runOff_0 (by decide +kernel)
theorem dX5_runOff_12 : decode cX5_runOff 12 = .ok (.istore_n 2, 1) := dw61 (n := 0) (i := 12) kc_cX5_runOff_0 (by decide +kernel)
theorem dX5_runOff_13 : decode cX5_runOff 13 = .ok (.iconst 0, 1) := dw3 (n := 0) (i := 13) kc_cX5_runOff_0 (by decide +kernel)
theorem dX5_runOff_14 : decode cX5_runOff 14 = .ok (.istore_n 3, 1) := dw62 (n := 0) (i := 14) kc_cX5_runOff_0 (by decide +kernel)
theorem dX5_runOff_15 : decode cX5_runOff 15 = .ok (.iload_n 3, 1) := dw29 (n := 0) (i := 15) kc_cX5_runOff_0 (by decide +kernel)
theorem dX5_runOff_16 : decode cX5_runOff 16 = .ok (.iload_n 2, 1) := dw28 (n := 0) (i := 16) kc_cX5_runOff_0 (by decide +kernel)
theorem dX5_runOff_17 : decode cX5_runOff 17 = .ok (.if_icmp .ge 63, 3) := dw162 (n := 0) (i := 17) (a := 0) (b := 63) kc_cX5_runOff_0 (by decide +kernel) (by decide)
theorem dX5_runOff_80 : decode cX5_runOff 80 = .ok (.aload_n 0, 1) := dw42 (n := 64) (i := 16) kc_cX5_runOff_2 (by decide +kernel)
theorem dX5_runOff_81 : decode cX5_runOff 81 = .ok (.getfield 18, 3) := dw180 (n := 64) (i := 17) (a := 0) (b := 18) kc_cX5_runOff_2 (by decide +kernel) (by decide)
theorem dX5_runOff_84 : decode cX5_runOff 84 = .ok (.invokevirtual 55, 3) := dw182 (n := 64) (i := 20) (a := 0) (b := 55) kc_cX5_runOff_2 (by decide +kernel) (by decide)
set_option maxRecDepth 20000 in
theorem ggX5_runOff_X6_tallyFirstIn : GoodIn wsX5_runOff wsX6_tallyFirstIn := (gk_code 11 rfl (gk_fieldLink 12 rfl (gk_fieldLink 13 rfl (gk_methodLink 14 rfl (gk_instanceMethod 15 rfl (gk_selects 16 rfl (gk_initialized 10 rfl (gk_code 17 rfl (gk_fieldLink 18 rfl (gk_methodLink 19 rfl (gk_instanceMethod 20 rfl (gk_selects 21 rfl (gk_code 22 rfl (gk_fieldLink 23 rfl (gk_fieldLink 24 rfl (gk_fieldLink 25 rfl (gk_fieldLink 26 rfl (gk_fieldLink 27 rfl (gk_methodLink 28 rfl (gk_instanceMethod 29 rfl (gk_selects 30 rfl (gk_code 31 rfl (gk_fieldLink 32 rfl (gk_laysFinal 73 rfl (gk_laysFinal 74 rfl (gk_laysFinal 75 rfl (gk_lays 76 rfl (gk_lays 77 rfl (gk_laysFinal 78 rfl (gk_laysFinal 79 rfl (gk_laysFinal 80 rfl (gk_lays 83 rfl (gk_laysFinal 84 rfl (gk_laysFinal 85 rfl (gk_laysFinal 86 rfl (gk_laysFinal 87 rfl (gn)))))))))))))))))))))))))))))))))))))
set_option maxRecDepth 20000 in
theorem gX5_runOff_X6_tallyFirstIn : GoodIn wsX5_runOff (wsV RX5 55 RX6 yX6_tallyFirstIn wsX6_tallyFirstIn) := goodIn_app (gk_methodLink 7 rfl (gk_instanceMethod 8 rfl (gk_selects 9 rfl (gk_initialized 10 rfl (gn))))) ggX5_runOff_X6_tallyFirstIn
theorem dX5_runOff_87 : decode cX5_runOff 87 = .ok (.aload_n 0, 1) := dw42 (n := 64) (i := 23) kc_cX5_runOff_2 (by decide +kernel)
theorem dX5_runOff_88 : decode cX5_runOff 88 = .ok (.getfield 18, 3) := dw180 (n := 64) (i := 24) (a := 0) (b := 18) kc_cX5_runOff_2 (by decide +kernel) (by decide)
theorem dX5_runOff_91 : decode cX5_runOff 91 = .ok (.invokevirtual 32, 3) := dw182 (n := 64) (i := 27) (a := 0) (b := 32) kc_cX5_runOff_2 (by decide +kernel) (by decide)
set_option maxRecDepth 20000 in
theorem ggX5_runOff_X6_greatestIn : GoodIn wsX5_runOff wsX6_greatestIn := (gk_code 63 rfl (gk_fieldLink 37 rfl (gk_fieldLink 38 rfl (gk_fieldLink 39 rfl (gk_fieldLink 27 rfl (gk_methodLink 40 rfl (gk_instanceMethod 41 rfl (gk_selects 42 rfl (gk_initialized 10 rfl (gk_code 43 rfl (gk_fieldLink 13 rfl (gk_fieldLink 18 rfl (gk_methodLink 44 rfl (gk_static 45 rfl (gk_initialized 46 rfl (gk_code 47 rfl (gk_laysFinal 73 rfl (gk_laysFinal 74 rfl (gk_laysFinal 75 rfl (gk_lays 76 rfl (gk_lays 77 rfl (gk_laysFinal 78 rfl (gk_laysFinal 79 rfl (gk_laysFinal 80 rfl (gk_lays 81 rfl (gk_laysFinal 82 rfl (gn)))))))))))))))))))))))))))
set_option maxRecDepth 20000 in
theorem gX5_runOff_X6_greatestIn : GoodIn wsX5_runOff (wsV RX5 32 RX6 yX6_greatestIn wsX6_greatestIn) := goodIn_app (gk_methodLink 60 rfl (gk_instanceMethod 61 rfl (gk_selects 62 rfl (gk_initialized 10 rfl (gn))))) ggX5_runOff_X6_greatestIn
theorem dX5_runOff_94 : decode cX5_runOff 94 = .ok (.istore_n 3, 1) := dw62 (n := 64) (i := 30) kc_cX5_runOff_2 (by decide +kernel)
theorem dX5_runOff_95 : decode cX5_runOff 95 = .ok (.aload_n 1, 1) := dw43 (n := 64) (i := 31) kc_cX5_runOff_2 (by decide +kernel)
theorem dX5_runOff_96 : decode cX5_runOff 96 = .ok (.iconst 1, 1) := dw4 (n := 96) (i := 0) kc_cX5_runOff_3 (by decide +kernel)
theorem dX5_runOff_97 : decode cX5_runOff 97 = .ok (.iload_n 3, 1) := dw29 (n := 96) (i := 1) kc_cX5_runOff_3 (by decide +kernel)
theorem dX5_runOff_98 : decode cX5_runOff 98 = .ok (.aload_n 0, 1) := dw42 (n := 96) (i := 2) kc_cX5_runOff_3 (by decide +kernel)
theorem dX5_runOff_99 : decode cX5_runOff 99 = .ok (.getfield 18, 3) := dw180 (n := 96) (i := 3) (a := 0) (b := 18) kc_cX5_runOff_3 (by decide +kernel) (by decide)
theorem dX5_runOff_102 : decode cX5_runOff 102 = .ok (.invokevirtual 36, 3) := dw182 (n := 96) (i := 6) (a := 0) (b := 36) kc_cX5_runOff_3 (by decide +kernel) (by decide)
set_option maxRecDepth 20000 in
theorem ggX5_runOff_X7_note : GoodIn wsX5_runOff wsX7_note := (gk_code 52 rfl (gk_fieldLink 53 rfl (gk_fieldLink 54 rfl (gk_fieldLink 55 rfl (gk_fieldLink 56 rfl (gk_fieldLink 57 rfl (gk_fieldLink 58 rfl (gk_fieldLink 59 rfl (gk_lays 88 rfl (gk_laysFinal 89 rfl (gk_lays 90 rfl (gk_laysFinal 91 rfl (gk_laysFinal 92 rfl (gk_laysFinal 93 rfl (gk_laysFinal 94 rfl (gk_laysFinal 73 rfl (gk_laysFinal 74 rfl (gk_laysFinal 75 rfl (gk_lays 76 rfl (gk_lays 77 rfl (gk_laysFinal 78 rfl (gk_laysFinal 79 rfl (gk_laysFinal 80 rfl (gn))))))))))))))))))))))))
set_option maxRecDepth 20000 in
theorem gX5_runOff_X7_note : GoodIn wsX5_runOff (wsV RX5 36 RX7 yX7_note wsX7_note) := goodIn_app (gk_methodLink 48 rfl (gk_instanceMethod 49 rfl (gk_selects 50 rfl (gk_initialized 51 rfl (gn))))) ggX5_runOff_X7_note
theorem dX5_runOff_105 : decode cX5_runOff 105 = .ok (.aload_n 1, 1) := dw43 (n := 96) (i := 9) kc_cX5_runOff_3 (by decide +kernel)
theorem dX5_runOff_106 : decode cX5_runOff 106 = .ok (.iload_n 3, 1) := dw29 (n := 96) (i := 10) kc_cX5_runOff_3 (by decide +kernel)
theorem dX5_runOff_107 : decode cX5_runOff 107 = .ok (.invokevirtual 42, 3) := dw182 (n := 96) (i := 11) (a := 0) (b := 42) kc_cX5_runOff_3 (by decide +kernel) (by decide)
set_option maxRecDepth 20000 in
theorem ggX5_runOff_X7_give : GoodIn wsX5_runOff wsX7_give := (gk_code 67 rfl (gk_fieldLink 68 rfl (gk_fieldLink 69 rfl (gk_lays 88 rfl (gk_laysFinal 89 rfl (gk_lays 90 rfl (gk_laysFinal 91 rfl (gk_laysFinal 92 rfl (gk_laysFinal 93 rfl (gk_laysFinal 94 rfl (gn)))))))))))
set_option maxRecDepth 20000 in
theorem gX5_runOff_X7_give : GoodIn wsX5_runOff (wsV RX5 42 RX7 yX7_give wsX7_give) := goodIn_app (gk_methodLink 64 rfl (gk_instanceMethod 65 rfl (gk_selects 66 rfl (gk_initialized 51 rfl (gn))))) ggX5_runOff_X7_give
theorem dX5_runOff_110 : decode cX5_runOff 110 = .ok (.iconst 1, 1) := dw4 (n := 96) (i := 14) kc_cX5_runOff_3 (by decide +kernel)
theorem dX5_runOff_111 : decode cX5_runOff 111 = .ok (.istore 4, 2) := dw54 (n := 96) (i := 15) (a := 4) kc_cX5_runOff_3 (by decide +kernel) (by decide)
theorem dX5_runOff_113 : decode cX5_runOff 113 = .ok (.iload 4, 2) := dw21 (n := 96) (i := 17) (a := 4) kc_cX5_runOff_3 (by decide +kernel) (by decide)
theorem dX5_runOff_115 : decode cX5_runOff 115 = .ok (.aload_n 0, 1) := dw42 (n := 96) (i := 19) kc_cX5_runOff_3 (by decide +kernel)
theorem dX5_runOff_116 : decode cX5_runOff 116 = .ok (.getfield 18, 3) := dw180 (n := 96) (i := 20) (a := 0) (b := 18) kc_cX5_runOff_3 (by decide +kernel) (by decide)
theorem dX5_runOff_119 : decode cX5_runOff 119 = .ok (.getfield 26, 3) := dw180 (n := 96) (i := 23) (a := 0) (b := 26) kc_cX5_runOff_3 (by decide +kernel) (by decide)
theorem dX5_runOff_122 : decode cX5_runOff 122 = .ok (.if_icmp .ge 28, 3) := dw162 (n := 96) (i := 26) (a := 0) (b := 28) kc_cX5_runOff_3 (by decide +kernel) (by decide)
theorem dX5_runOff_150 : decode cX5_runOff 150 = .ok (.return_, 1) := dw177 (n := 128) (i := 22) kc_cX5_runOff_4 (by decide +kernel)
theorem dX5_runOff_125 : decode cX5_runOff 125 = .ok (.iload 4, 2) := dw21 (n := 96) (i := 29) (a := 4) kc_cX5_runOff_3 (by decide +kernel) (by decide)
theorem dX5_runOff_127 : decode cX5_runOff 127 = .ok (.iload_n 2, 1) := dw28 (n := 96) (i := 31) kc_cX5_runOff_3 (by decide +kernel)
theorem dX5_runOff_128 : decode cX5_runOff 128 = .ok (.if_icmp .gt 22, 3) := dw163 (n := 128) (i := 0) (a := 0) (b := 22) kc_cX5_runOff_4 (by decide +kernel) (by decide)
theorem dX5_runOff_131 : decode cX5_runOff 131 = .ok (.aload_n 1, 1) := dw43 (n := 128) (i := 3) kc_cX5_runOff_4 (by decide +kernel)
theorem dX5_runOff_132 : decode cX5_runOff 132 = .ok (.aload_n 0, 1) := dw42 (n := 128) (i := 4) kc_cX5_runOff_4 (by decide +kernel)
theorem dX5_runOff_133 : decode cX5_runOff 133 = .ok (.getfield 15, 3) := dw180 (n := 128) (i := 5) (a := 0) (b := 15) kc_cX5_runOff_4 (by decide +kernel) (by decide)
theorem dX5_runOff_136 : decode cX5_runOff 136 = .ok (.iload_n 2, 1) := dw28 (n := 128) (i := 8) kc_cX5_runOff_4 (by decide +kernel)
theorem dX5_runOff_137 : decode cX5_runOff 137 = .ok (.iload 4, 2) := dw21 (n := 128) (i := 9) (a := 4) kc_cX5_runOff_4 (by decide +kernel) (by decide)
theorem dX5_runOff_139 : decode cX5_runOff 139 = .ok (.isub, 1) := dw100 (n := 128) (i := 11) kc_cX5_runOff_4 (by decide +kernel)
theorem dX5_runOff_140 : decode cX5_runOff 140 = .ok (.iaload, 1) := dw46 (n := 128) (i := 12) kc_cX5_runOff_4 (by decide +kernel)
theorem dX5_runOff_141 : decode cX5_runOff 141 = .ok (.invokevirtual 42, 3) := dw182 (n := 128) (i := 13) (a := 0) (b := 42) kc_cX5_runOff_4 (by decide +kernel) (by decide)
theorem dX5_runOff_144 : decode cX5_runOff 144 = .ok (.iinc 4 1, 3) := by decide +kernel
theorem dX5_runOff_147 : decode cX5_runOff 147 = .ok (.goto (-34), 3) := dw167 (n := 128) (i := 19) (a := 255) (b := 222) kc_cX5_runOff_4 (by decide +kernel) (by decide)
theorem dX5_runOff_20 : decode cX5_runOff 20 = .ok (.aload_n 0, 1) := dw42 (n := 0) (i := 20) kc_cX5_runOff_0 (by decide +kernel)
theorem dX5_runOff_21 : decode cX5_runOff 21 = .ok (.getfield 18, 3) := dw180 (n := 0) (i := 21) (a := 0) (b := 18) kc_cX5_runOff_0 (by decide +kernel) (by decide)
theorem dX5_runOff_24 : decode cX5_runOff 24 = .ok (.invokevirtual 55, 3) := dw182 (n := 0) (i := 24) (a := 0) (b := 55) kc_cX5_runOff_0 (by decide +kernel) (by decide)
theorem dX5_runOff_27 : decode cX5_runOff 27 = .ok (.aload_n 0, 1) := dw42 (n := 0) (i := 27) kc_cX5_runOff_0 (by decide +kernel)
theorem dX5_runOff_28 : decode cX5_runOff 28 = .ok (.getfield 18, 3) := dw180 (n := 0) (i := 28) (a := 0) (b := 18) kc_cX5_runOff_0 (by decide +kernel) (by decide)
theorem dX5_runOff_31 : decode cX5_runOff 31 = .ok (.invokevirtual 101, 3) := dw182 (n := 0) (i := 31) (a := 0) (b := 101) kc_cX5_runOff_0 (by decide +kernel) (by decide)
set_option maxRecDepth 20000 in
theorem ggX5_runOff_X6_leastIn : GoodIn wsX5_runOff wsX6_leastIn := (gk_code 36 rfl (gk_fieldLink 37 rfl (gk_fieldLink 38 rfl (gk_fieldLink 39 rfl (gk_fieldLink 27 rfl (gk_methodLink 40 rfl (gk_instanceMethod 41 rfl (gk_selects 42 rfl (gk_initialized 10 rfl (gk_code 43 rfl (gk_fieldLink 13 rfl (gk_fieldLink 18 rfl (gk_methodLink 44 rfl (gk_static 45 rfl (gk_initialized 46 rfl (gk_code 47 rfl (gk_laysFinal 73 rfl (gk_laysFinal 74 rfl (gk_laysFinal 75 rfl (gk_lays 76 rfl (gk_lays 77 rfl (gk_laysFinal 78 rfl (gk_laysFinal 79 rfl (gk_laysFinal 80 rfl (gk_lays 81 rfl (gk_laysFinal 82 rfl (gn)))))))))))))))))))))))))))
set_option maxRecDepth 20000 in
theorem gX5_runOff_X6_leastIn : GoodIn wsX5_runOff (wsV RX5 101 RX6 yX6_leastIn wsX6_leastIn) := goodIn_app (gk_methodLink 33 rfl (gk_instanceMethod 34 rfl (gk_selects 35 rfl (gk_initialized 10 rfl (gn))))) ggX5_runOff_X6_leastIn
theorem dX5_runOff_34 : decode cX5_runOff 34 = .ok (.istore 4, 2) := dw54 (n := 32) (i := 2) (a := 4) kc_cX5_runOff_1 (by decide +kernel) (by decide)
theorem dX5_runOff_36 : decode cX5_runOff 36 = .ok (.iload 4, 2) := dw21 (n := 32) (i := 4) (a := 4) kc_cX5_runOff_1 (by decide +kernel) (by decide)
theorem dX5_runOff_38 : decode cX5_runOff 38 = .ok (.bipush (-9), 2) := dw16 (n := 32) (i := 6) (a := 247) kc_cX5_runOff_1 (by decide +kernel) (by decide)
theorem dX5_runOff_40 : decode cX5_runOff 40 = .ok (.if_icmp .ne 4, 3) := dw160 (n := 32) (i := 8) (a := 0) (b := 4) kc_cX5_runOff_1 (by decide +kernel) (by decide)
theorem dX5_runOff_44 : decode cX5_runOff 44 = .ok (.aload_n 1, 1) := dw43 (n := 32) (i := 12) kc_cX5_runOff_1 (by decide +kernel)
theorem dX5_runOff_45 : decode cX5_runOff 45 = .ok (.iconst 2, 1) := dw5 (n := 32) (i := 13) kc_cX5_runOff_1 (by decide +kernel)
theorem dX5_runOff_46 : decode cX5_runOff 46 = .ok (.iload 4, 2) := dw21 (n := 32) (i := 14) (a := 4) kc_cX5_runOff_1 (by decide +kernel) (by decide)
theorem dX5_runOff_48 : decode cX5_runOff 48 = .ok (.aload_n 0, 1) := dw42 (n := 32) (i := 16) kc_cX5_runOff_1 (by decide +kernel)
theorem dX5_runOff_49 : decode cX5_runOff 49 = .ok (.getfield 18, 3) := dw180 (n := 32) (i := 17) (a := 0) (b := 18) kc_cX5_runOff_1 (by decide +kernel) (by decide)
theorem dX5_runOff_52 : decode cX5_runOff 52 = .ok (.invokevirtual 36, 3) := dw182 (n := 32) (i := 20) (a := 0) (b := 36) kc_cX5_runOff_1 (by decide +kernel) (by decide)
theorem dX5_runOff_55 : decode cX5_runOff 55 = .ok (.aload_n 0, 1) := dw42 (n := 32) (i := 23) kc_cX5_runOff_1 (by decide +kernel)
theorem dX5_runOff_56 : decode cX5_runOff 56 = .ok (.getfield 18, 3) := dw180 (n := 32) (i := 24) (a := 0) (b := 18) kc_cX5_runOff_1 (by decide +kernel) (by decide)
theorem dX5_runOff_59 : decode cX5_runOff 59 = .ok (.getfield 45, 3) := dw180 (n := 32) (i := 27) (a := 0) (b := 45) kc_cX5_runOff_1 (by decide +kernel) (by decide)
theorem dX5_runOff_62 : decode cX5_runOff 62 = .ok (.iload 4, 2) := dw21 (n := 32) (i := 30) (a := 4) kc_cX5_runOff_1 (by decide +kernel) (by decide)
theorem dX5_runOff_64 : decode cX5_runOff 64 = .ok (.iconst 0, 1) := dw3 (n := 64) (i := 0) kc_cX5_runOff_2 (by decide +kernel)
theorem dX5_runOff_65 : decode cX5_runOff 65 = .ok (.bastore, 1) := dw84 (n := 64) (i := 1) kc_cX5_runOff_2 (by decide +kernel)
theorem dX5_runOff_66 : decode cX5_runOff 66 = .ok (.aload_n 0, 1) := dw42 (n := 64) (i := 2) kc_cX5_runOff_2 (by decide +kernel)
theorem dX5_runOff_67 : decode cX5_runOff 67 = .ok (.getfield 15, 3) := dw180 (n := 64) (i := 3) (a := 0) (b := 15) kc_cX5_runOff_2 (by decide +kernel) (by decide)
theorem dX5_runOff_70 : decode cX5_runOff 70 = .ok (.iload_n 3, 1) := dw29 (n := 64) (i := 6) kc_cX5_runOff_2 (by decide +kernel)
theorem dX5_runOff_71 : decode cX5_runOff 71 = .ok (.iload 4, 2) := dw21 (n := 64) (i := 7) (a := 4) kc_cX5_runOff_2 (by decide +kernel) (by decide)
theorem dX5_runOff_73 : decode cX5_runOff 73 = .ok (.iastore, 1) := dw79 (n := 64) (i := 9) kc_cX5_runOff_2 (by decide +kernel)
theorem dX5_runOff_74 : decode cX5_runOff 74 = .ok (.iinc 3 1, 3) := by decide +kernel
theorem dX5_runOff_77 : decode cX5_runOff 77 = .ok (.goto (-62), 3) := dw167 (n := 64) (i := 13) (a := 255) (b := 194) kc_cX5_runOff_2 (by decide +kernel) (by decide)
theorem dX5_runOff_43 : decode cX5_runOff 43 = .ok (.return_, 1) := dw177 (n := 32) (i := 11) kc_cX5_runOff_1 (by decide +kernel)
set_option maxHeartbeats 4000000 in
set_option maxRecDepth 100000 in
theorem s_X5_ro_a (l : Launch) (D : va_G) (ad : Nat → Nat) (cs : Nat → ClassId) (M : MI) (L : ML)  (hI : IC M) : Cv l yX5_runOff wsX5_runOff ({ frames := 3, cells := 0, slots := 0, locals := 68 }) D ad cs [.ref (ad 93), .ref (ad 125)] M L (fun M1 L1 => IC M1 ∧ (∀ k, k ≠ 90 ∧ k ≠ 95 ∧ k ≠ 125 ∧ k ≠ 126 ∧ k ≠ 127 ∧ k ≠ 128 → M1 k = M k) ∧ ∀ k, 258 ≤ k → L1 k = L k) := by
  refine enter_v RX5 rfl [(0, .ref (ad 93)), (1, .ref (ad 125))] rfl (Nat.le_of_ble_eq_true rfl) (by decide +kernel) rfl ?_
  intro p e s m below meth c C hr
  have hF : ∀ k, k ≠ 90 ∧ k ≠ 95 ∧ k ≠ 125 ∧ k ≠ 126 ∧ k ≠ 127 ∧ k ≠ 128 → M k = M k := fun _ _ => rfl
  have hG : ∀ k, 258 ≤ k → L k = L k := fun _ _ => rfl
  refine g_aload_n C 0 dX5_runOff_0 rfl ?_
  refine g_get C (.ref (ad 88)) 0 in_X5_runOff_5 (List.mem_of_getElem? (i := 1) rfl) (by decide) (ce_plain ad cs _ _) rfl (by decide) rfl rfl dX5_runOff_1 ?_
  refine g_get C (.ref (ad 1)) 0 in_X5_runOff_6 (List.mem_of_getElem? (i := 2) rfl) (by decide) (ce_poll ad cs _ _) rfl (by decide) rfl rfl dX5_runOff_4 ?_
  refine g_get C (.int (M 1 0)) 0 in_X5_runOff_2 (List.mem_of_getElem? (i := 3) rfl) (by decide) (ce_cand ad cs _ _) rfl (by decide) rfl rfl dX5_runOff_7 ?_
  refine g_ni (fun v1 ev1 => ?_)
  have tv1 := congrArg Int32.toInt ev1
  obtain ⟨bv1, dv1⟩ := (show rg 0 10 v1 from (by rw [ev1]; exact hI 1 0 rfl))
  refine g_iconst C 1 dX5_runOff_10 (by decide) ?_
  refine g_isub C dX5_runOff_11 ?_
  refine g_ni (fun v2 ev2 => ?_)
  try have fv2 := fsub rfl (by decide : (1 : Int32).toInt = 1) ev2 (by omega) (by omega)
  refine g_istore_n C [(2, .int v2), (0, .ref (ad 93)), (1, .ref (ad 125))] dX5_runOff_12 (by decide) rfl ?_
  refine g_iconst C 0 dX5_runOff_13 (by decide) ?_
  refine g_istore_n C [(3, .int 0), (2, .int v2), (0, .ref (ad 93)), (1, .ref (ad 125))] dX5_runOff_14 (by decide) rfl ?_
  have zy3 : (0 : Int32).toInt = 0 := by decide
  refine g_loop (α := Int32 × MI × ML) (fun a => (10 - a.1.toInt).toNat) (fun a => 0 ≤ a.1.toInt ∧ a.1.toInt ≤ 9 ∧ IC a.2.1 ∧ (∀ k, k ≠ 90 ∧ k ≠ 95 ∧ k ≠ 125 ∧ k ≠ 126 ∧ k ≠ 127 ∧ k ≠ 128 → a.2.1 k = M k) ∧ (∀ k, 258 ≤ k → a.2.2 k = L k)) (fun a => a.2.1) (fun a => a.2.2) (fun a => [(3, .int a.1), (2, .int v2), (0, .ref (ad 93)), (1, .ref (ad 125))]) (0, M, L) ⟨by show 0 ≤ (0 : Int32).toInt; omega, by show (0 : Int32).toInt ≤ 9; omega, hI, hF, hG⟩ rfl rfl rfl ?_
  rintro ⟨x3_15, M_15, L_15⟩ ⟨j15_0, j15_1, hI, hF, hG⟩ ih_15
  dsimp only at j15_0 j15_1 hI hF hG ih_15 ⊢
  refine g_iload_n C 0 dX5_runOff_15 rfl ?_
  refine g_iload_n C 1 dX5_runOff_16 rfl ?_
  refine g_icmp_ge C 80 dX5_runOff_17 (by decide) (fun c4 => ?_) (fun c4 => ?_)
  ·
    have f5 := fle rfl rfl c4
    refine g_aload_n C 2 dX5_runOff_80 rfl ?_
    refine g_get C (.ref (ad 88)) 0 in_X5_runOff_5 (List.mem_of_getElem? (i := 1) rfl) (by decide) (ce_plain ad cs _ _) rfl (by decide) rfl rfl dX5_runOff_81 ?_
    refine g_callVv C (n := 0) (As := []) (st := []) (s_X6_tallyFirstIn l D ad cs _ _ hI) gX5_runOff_X6_tallyFirstIn rfl rfl rfl (by decide +kernel) ⟨Nat.le_of_ble_eq_true rfl, Nat.le_of_ble_eq_true rfl⟩ rfl (Nat.le_of_ble_eq_true rfl) ⟨Nat.zero_le _, Nat.zero_le _⟩ (by decide) (ce_poll ad cs _ _) rfl rfl dX5_runOff_84 (fun M7 L8 hr6 => ?_)
    obtain ⟨hI, hF1, hG1⟩ := hr6
    have hF : ∀ k, k ≠ 90 ∧ k ≠ 95 ∧ k ≠ 125 ∧ k ≠ 126 ∧ k ≠ 127 ∧ k ≠ 128 → M7 k = M k := fun k hk => by (rw [hF1 k (by omega)]; try exact hF k hk)
    have hG : ∀ k, 258 ≤ k → L8 k = L k := fun k hk => by (rw [hG1 k hk]; try exact hG k hk)
    refine g_aload_n C 2 dX5_runOff_87 rfl ?_
    refine g_get C (.ref (ad 88)) 0 in_X5_runOff_5 (List.mem_of_getElem? (i := 1) rfl) (by decide) (ce_plain ad cs _ _) rfl (by decide) rfl rfl dX5_runOff_88 ?_
    refine g_callVi C (n := 0) (As := []) (st := []) (s_X6_greatestIn l D ad cs _ _ hI) gX5_runOff_X6_greatestIn rfl rfl rfl (by decide +kernel) ⟨Nat.le_of_ble_eq_true rfl, Nat.le_of_ble_eq_true rfl⟩ rfl (Nat.le_of_ble_eq_true rfl) ⟨Nat.zero_le _, Nat.zero_le _⟩ (by decide) (ce_poll ad cs _ _) rfl rfl dX5_runOff_91 (fun r9 M10 L11 hr9 => ?_)
    obtain ⟨hq1, hq2, hr9⟩ := hr9
    obtain rfl := hq1.symm
    obtain rfl := hq2.symm
    obtain ⟨br9, dr9⟩ := hr9
    refine g_istore_n C [(3, .int r9), (2, .int v2), (0, .ref (ad 93)), (1, .ref (ad 125))] dX5_runOff_94 (by decide) rfl ?_
    refine g_aload_n C 3 dX5_runOff_95 rfl ?_
    refine g_iconst C 1 dX5_runOff_96 (by decide) ?_
    refine g_iload_n C 0 dX5_runOff_97 rfl ?_
    refine g_aload_n C 2 dX5_runOff_98 rfl ?_
    refine g_get C (.ref (ad 88)) 0 in_X5_runOff_5 (List.mem_of_getElem? (i := 1) rfl) (by decide) (ce_plain ad cs _ _) rfl (by decide) rfl rfl dX5_runOff_99 ?_
    refine g_callVv C (n := 3) (As := [.int 1, .int r9, .ref (ad 88)]) (st := []) (s_X7_note_a l D ad cs _ _ 1 r9 hI) gX5_runOff_X7_note rfl rfl rfl (by decide +kernel) ⟨Nat.le_of_ble_eq_true rfl, Nat.le_of_ble_eq_true rfl⟩ rfl (Nat.le_of_ble_eq_true rfl) ⟨Nat.zero_le _, Nat.zero_le _⟩ (by decide) (ce_ra ad cs _ _) rfl rfl dX5_runOff_102 (fun M13 L14 hr12 => ?_)
    obtain ⟨hI, hF1, hG1⟩ := hr12
    have hF : ∀ k, k ≠ 90 ∧ k ≠ 95 ∧ k ≠ 125 ∧ k ≠ 126 ∧ k ≠ 127 ∧ k ≠ 128 → M13 k = M k := fun k hk => by (rw [hF1 k (by omega)]; try exact hF k hk)
    have hG : ∀ k, 258 ≤ k → L14 k = L k := fun k hk => by (rw [hG1 k hk]; try exact hG k hk)
    refine g_aload_n C 3 dX5_runOff_105 rfl ?_
    refine g_iload_n C 0 dX5_runOff_106 rfl ?_
    refine g_callVv C (n := 1) (As := [.int r9]) (st := []) (s_X7_give_a l D ad cs _ _ r9 hI) gX5_runOff_X7_give rfl rfl rfl (by decide +kernel) ⟨Nat.le_of_ble_eq_true rfl, Nat.le_of_ble_eq_true rfl⟩ rfl (Nat.le_of_ble_eq_true rfl) ⟨Nat.zero_le _, Nat.zero_le _⟩ (by decide) (ce_ra ad cs _ _) rfl rfl dX5_runOff_107 (fun M16 L17 hr15 => ?_)
    obtain ⟨hI, hF1, hG1⟩ := hr15
    have hF : ∀ k, k ≠ 90 ∧ k ≠ 95 ∧ k ≠ 125 ∧ k ≠ 126 ∧ k ≠ 127 ∧ k ≠ 128 → M16 k = M k := fun k hk => by (rw [hF1 k (by omega)]; try exact hF k hk)
    have hG : ∀ k, 258 ≤ k → L17 k = L k := fun k hk => by (rw [hG1 k hk]; try exact hG k hk)
    refine g_iconst C 1 dX5_runOff_110 (by decide) ?_
    refine g_istore C [(4, .int 1), (3, .int r9), (2, .int v2), (0, .ref (ad 93)), (1, .ref (ad 125))] dX5_runOff_111 (by decide) rfl ?_
    have zy18 : (1 : Int32).toInt = 1 := by decide
    refine g_loop (α := Int32 × MI × ML) (fun a => (32 - a.1.toInt).toNat) (fun a => 1 ≤ a.1.toInt ∧ a.1.toInt ≤ 31 ∧ IC a.2.1 ∧ (∀ k, k ≠ 90 ∧ k ≠ 95 ∧ k ≠ 125 ∧ k ≠ 126 ∧ k ≠ 127 ∧ k ≠ 128 → a.2.1 k = M k) ∧ (∀ k, 258 ≤ k → a.2.2 k = L k)) (fun a => a.2.1) (fun a => a.2.2) (fun a => [(4, .int a.1), (3, .int r9), (2, .int v2), (0, .ref (ad 93)), (1, .ref (ad 125))]) (1, M16, L17) ⟨by show 1 ≤ (1 : Int32).toInt; omega, by show (1 : Int32).toInt ≤ 31; omega, hI, hF, hG⟩ rfl rfl rfl ?_
    rintro ⟨x4_113, M_113, L_113⟩ ⟨j113_0, j113_1, hI, hF, hG⟩ ih_113
    dsimp only at j113_0 j113_1 hI hF hG ih_113 ⊢
    refine g_iload C 0 dX5_runOff_113 rfl ?_
    refine g_aload_n C 3 dX5_runOff_115 rfl ?_
    refine g_get C (.ref (ad 88)) 0 in_X5_runOff_5 (List.mem_of_getElem? (i := 1) rfl) (by decide) (ce_plain ad cs _ _) rfl (by decide) rfl rfl dX5_runOff_116 ?_
    refine g_get C (.int (M_113 88 4)) 4 in_X5_runOff_6 (List.mem_of_getElem? (i := 6) rfl) (by decide) (ce_poll ad cs _ _) rfl (by decide) rfl rfl dX5_runOff_119 ?_
    refine g_ni (fun v19 ev19 => ?_)
    have tv19 := congrArg Int32.toInt ev19
    obtain ⟨bv19, dv19⟩ := (show rg 0 30 v19 from (by rw [ev19]; exact (hI 88 4).2 rfl))
    refine g_icmp_ge C 150 dX5_runOff_122 (by decide) (fun c20 => ?_) (fun c20 => ?_)
    ·
      have f21 := fle rfl rfl c20
      exact g_vret C hr ⟨hI, hF, hG⟩ dX5_runOff_150
    ·
      have f22 := fnle rfl rfl c20
      refine g_iload C 0 dX5_runOff_125 rfl ?_
      refine g_iload_n C 2 dX5_runOff_127 rfl ?_
      refine g_icmp_gt C 150 dX5_runOff_128 (by decide) (fun c23 => ?_) (fun c23 => ?_)
      ·
        have f24 := fl rfl rfl c23
        exact g_vret C hr ⟨hI, hF, hG⟩ dX5_runOff_150
      ·
        have f25 := fnl rfl rfl c23
        refine g_aload_n C 4 dX5_runOff_131 rfl ?_
        refine g_aload_n C 3 dX5_runOff_132 rfl ?_
        refine g_get C (.ref (ad 95)) 2 in_X5_runOff_5 (List.mem_of_getElem? (i := 5) rfl) (by decide) (ce_plain ad cs _ _) rfl (by decide) rfl rfl dX5_runOff_133 ?_
        refine g_iload_n C 2 dX5_runOff_136 rfl ?_
        refine g_iload C 0 dX5_runOff_137 rfl ?_
        refine g_isub C dX5_runOff_139 ?_
        refine g_ni (fun v26 ev26 => ?_)
        try have fv26 := fsub rfl rfl ev26 (by omega) (by omega)
        refine g_iald C (by decide) (ce_louts ad cs _ _) (fin' (n := 10) rfl (by omega) (by omega)) dX5_runOff_140 ?_
        refine g_ni (fun v27 ev27 => ?_)
        have tv27 := congrArg Int32.toInt ev27
        refine g_callVv C (n := 1) (As := [.int v27]) (st := []) (s_X7_give_a l D ad cs _ _ v27 hI) gX5_runOff_X7_give rfl rfl rfl (by decide +kernel) ⟨Nat.le_of_ble_eq_true rfl, Nat.le_of_ble_eq_true rfl⟩ rfl (Nat.le_of_ble_eq_true rfl) ⟨Nat.zero_le _, Nat.zero_le _⟩ (by decide) (ce_ra ad cs _ _) rfl rfl dX5_runOff_141 (fun M29 L30 hr28 => ?_)
        obtain ⟨hI, hF1, hG1⟩ := hr28
        have hF : ∀ k, k ≠ 90 ∧ k ≠ 95 ∧ k ≠ 125 ∧ k ≠ 126 ∧ k ≠ 127 ∧ k ≠ 128 → M29 k = M k := fun k hk => by (rw [hF1 k (by omega)]; try exact hF k hk)
        have hG : ∀ k, 258 ≤ k → L30 k = L k := fun k hk => by (rw [hG1 k hk]; try exact hG k hk)
        obtain ⟨v31, ev31⟩ : ∃ y : Int32, y = x4_113 + 1 := ⟨_, rfl⟩
        try have fv31 := fadd rfl (by decide : (1 : Int32).toInt = 1) ev31 (by omega) (by omega)
        refine g_iinc C 0 v31 [(4, .int v31), (3, .int r9), (2, .int v2), (0, .ref (ad 93)), (1, .ref (ad 125))] dX5_runOff_144 rfl (by rw [ev31]; rfl) (by decide) rfl ?_
        refine g_goto C 113 dX5_runOff_147 (by decide) ?_
        exact ih_113 (v31, M29, L30) ⟨by show 1 ≤ v31.toInt; omega, by show v31.toInt ≤ 31; omega, hI, hF, hG⟩ (by show (32 - v31.toInt).toNat < (32 - x4_113.toInt).toNat; omega)
  ·
    have f32 := fnle rfl rfl c4
    refine g_aload_n C 2 dX5_runOff_20 rfl ?_
    refine g_get C (.ref (ad 88)) 0 in_X5_runOff_5 (List.mem_of_getElem? (i := 1) rfl) (by decide) (ce_plain ad cs _ _) rfl (by decide) rfl rfl dX5_runOff_21 ?_
    refine g_callVv C (n := 0) (As := []) (st := []) (s_X6_tallyFirstIn l D ad cs _ _ hI) gX5_runOff_X6_tallyFirstIn rfl rfl rfl (by decide +kernel) ⟨Nat.le_of_ble_eq_true rfl, Nat.le_of_ble_eq_true rfl⟩ rfl (Nat.le_of_ble_eq_true rfl) ⟨Nat.zero_le _, Nat.zero_le _⟩ (by decide) (ce_poll ad cs _ _) rfl rfl dX5_runOff_24 (fun M34 L35 hr33 => ?_)
    obtain ⟨hI, hF1, hG1⟩ := hr33
    have hF : ∀ k, k ≠ 90 ∧ k ≠ 95 ∧ k ≠ 125 ∧ k ≠ 126 ∧ k ≠ 127 ∧ k ≠ 128 → M34 k = M k := fun k hk => by (rw [hF1 k (by omega)]; try exact hF k hk)
    have hG : ∀ k, 258 ≤ k → L35 k = L k := fun k hk => by (rw [hG1 k hk]; try exact hG k hk)
    refine g_aload_n C 2 dX5_runOff_27 rfl ?_
    refine g_get C (.ref (ad 88)) 0 in_X5_runOff_5 (List.mem_of_getElem? (i := 1) rfl) (by decide) (ce_plain ad cs _ _) rfl (by decide) rfl rfl dX5_runOff_28 ?_
    refine g_callVi C (n := 0) (As := []) (st := []) (s_X6_leastIn l D ad cs _ _ hI) gX5_runOff_X6_leastIn rfl rfl rfl (by decide +kernel) ⟨Nat.le_of_ble_eq_true rfl, Nat.le_of_ble_eq_true rfl⟩ rfl (Nat.le_of_ble_eq_true rfl) ⟨Nat.zero_le _, Nat.zero_le _⟩ (by decide) (ce_poll ad cs _ _) rfl rfl dX5_runOff_31 (fun r36 M37 L38 hr36 => ?_)
    obtain ⟨hq1, hq2, hr36⟩ := hr36
    obtain rfl := hq1.symm
    obtain rfl := hq2.symm
    obtain ⟨br36, dr36⟩ := hr36
    refine g_istore C [(4, .int r36), (3, .int x3_15), (2, .int v2), (0, .ref (ad 93)), (1, .ref (ad 125))] dX5_runOff_34 (by decide) rfl ?_
    refine g_iload C 0 dX5_runOff_36 rfl ?_
    refine g_bipush C (-9) dX5_runOff_38 (by decide) ?_
    refine g_icmp_ne C 44 dX5_runOff_40 (by decide) (fun c39 => ?_) (fun c39 => ?_)
    ·
      have f40 := fne rfl (by decide : ((-9) : Int32).toInt = (-9)) c39
      refine g_aload_n C 4 dX5_runOff_44 rfl ?_
      refine g_iconst C 2 dX5_runOff_45 (by decide) ?_
      refine g_iload C 0 dX5_runOff_46 rfl ?_
      refine g_aload_n C 3 dX5_runOff_48 rfl ?_
      refine g_get C (.ref (ad 88)) 0 in_X5_runOff_5 (List.mem_of_getElem? (i := 1) rfl) (by decide) (ce_plain ad cs _ _) rfl (by decide) rfl rfl dX5_runOff_49 ?_
      refine g_callVv C (n := 3) (As := [.int 2, .int r36, .ref (ad 88)]) (st := []) (s_X7_note_a l D ad cs _ _ 2 r36 hI) gX5_runOff_X7_note rfl rfl rfl (by decide +kernel) ⟨Nat.le_of_ble_eq_true rfl, Nat.le_of_ble_eq_true rfl⟩ rfl (Nat.le_of_ble_eq_true rfl) ⟨Nat.zero_le _, Nat.zero_le _⟩ (by decide) (ce_ra ad cs _ _) rfl rfl dX5_runOff_52 (fun M42 L43 hr41 => ?_)
      obtain ⟨hI, hF1, hG1⟩ := hr41
      have hF : ∀ k, k ≠ 90 ∧ k ≠ 95 ∧ k ≠ 125 ∧ k ≠ 126 ∧ k ≠ 127 ∧ k ≠ 128 → M42 k = M k := fun k hk => by (rw [hF1 k (by omega)]; try exact hF k hk)
      have hG : ∀ k, 258 ≤ k → L43 k = L k := fun k hk => by (rw [hG1 k hk]; try exact hG k hk)
      refine g_aload_n C 3 dX5_runOff_55 rfl ?_
      refine g_get C (.ref (ad 88)) 0 in_X5_runOff_5 (List.mem_of_getElem? (i := 1) rfl) (by decide) (ce_plain ad cs _ _) rfl (by decide) rfl rfl dX5_runOff_56 ?_
      refine g_get C (.ref (ad 90)) 5 in_X5_runOff_6 (List.mem_of_getElem? (i := 4) rfl) (by decide) (ce_poll ad cs _ _) rfl (by decide) rfl rfl dX5_runOff_59 ?_
      refine g_iload C 0 dX5_runOff_62 rfl ?_
      refine g_iconst C 0 dX5_runOff_64 (by decide) ?_
      refine g_zast C (by decide) (ce_pin ad cs _ _) (by rw [sI_k]; rfl) (fin' (n := 10) rfl (by omega) (by omega)) dX5_runOff_65 ?_
      refine g_nm (fun M44 hM44 => ?_)
      have hI : IC M44 := by rw [hM44]; exact hI.st (bC_free (by decide) (by decide) (by decide) (by decide) (by decide) (by decide) (by decide))
      have hF : ∀ k, k ≠ 90 ∧ k ≠ 95 ∧ k ≠ 125 ∧ k ≠ 126 ∧ k ≠ 127 ∧ k ≠ 128 → M44 k = M k := fun k hk => by (rw [hM44, sI_n _ _ _ (by omega)]; try exact hF k hk)
      refine g_aload_n C 3 dX5_runOff_66 rfl ?_
      refine g_get C (.ref (ad 95)) 2 in_X5_runOff_5 (List.mem_of_getElem? (i := 5) rfl) (by decide) (ce_plain ad cs _ _) rfl (by decide) rfl rfl dX5_runOff_67 ?_
      refine g_iload_n C 1 dX5_runOff_70 rfl ?_
      refine g_iload C 0 dX5_runOff_71 rfl ?_
      refine g_iast C (by decide) (ce_louts ad cs _ _) (by rw [sI_k]; rfl) (fin' (n := 10) rfl (by omega) (by omega)) dX5_runOff_73 ?_
      refine g_nm (fun M45 hM45 => ?_)
      have hI : IC M45 := by rw [hM45]; exact hI.st (bC_free (by decide) (by decide) (by decide) (by decide) (by decide) (by decide) (by decide))
      have hF : ∀ k, k ≠ 90 ∧ k ≠ 95 ∧ k ≠ 125 ∧ k ≠ 126 ∧ k ≠ 127 ∧ k ≠ 128 → M45 k = M k := fun k hk => by (rw [hM45, sI_n _ _ _ (by omega)]; try exact hF k hk)
      obtain ⟨v46, ev46⟩ : ∃ y : Int32, y = x3_15 + 1 := ⟨_, rfl⟩
      try have fv46 := fadd rfl (by decide : (1 : Int32).toInt = 1) ev46 (by omega) (by omega)
      refine g_iinc C 1 v46 [(3, .int v46), (4, .int r36), (2, .int v2), (0, .ref (ad 93)), (1, .ref (ad 125))] dX5_runOff_74 rfl (by rw [ev46]; rfl) (by decide) rfl ?_
      refine g_goto C 15 dX5_runOff_77 (by decide) ?_
      refine g_lv [0, 2, 3, 4] [(3, .int v46), (2, .int v2), (0, .ref (ad 93)), (1, .ref (ad 125))] rfl ?_
      exact ih_15 (v46, M45, L43) ⟨by show 0 ≤ v46.toInt; omega, by show v46.toInt ≤ 9; omega, hI, hF, hG⟩ (by show (10 - v46.toInt).toNat < (10 - x3_15.toInt).toNat; omega)
    ·
      have f47 := feq rfl (by decide : ((-9) : Int32).toInt = (-9)) c39
      exact g_vret C hr ⟨hI, hF, hG⟩ dX5_runOff_43
set_option maxHeartbeats 4000000 in
set_option maxRecDepth 100000 in
theorem s_X5_sbt_b (l : Launch) (D : va_G) (ad : Nat → Nat) (cs : Nat → ClassId) (M : MI) (L : ML) (x : Int32) (hI : IC M) : Cv l yX5_seatByTallies wsX5_seatByTallies ({ frames := 3, cells := 0, slots := 0, locals := 68 }) D ad cs [.ref (ad 93), .int x, .ref (ad 191)] M L (fun M1 L1 => IC M1 ∧ (∀ k, k ≠ 90 ∧ k ≠ 191 ∧ k ≠ 192 ∧ k ≠ 193 ∧ k ≠ 194 → M1 k = M k) ∧ ∀ k, 258 ≤ k → L1 k = L k) := by
  refine enter_v RX5 rfl [(0, .ref (ad 93)), (1, .int x), (2, .ref (ad 191))] rfl (Nat.le_of_ble_eq_true rfl) (by decide +kernel) rfl ?_
  intro p e s m below meth c C hr
  have hF : ∀ k, k ≠ 90 ∧ k ≠ 191 ∧ k ≠ 192 ∧ k ≠ 193 ∧ k ≠ 194 → M k = M k := fun _ _ => rfl
  have hG : ∀ k, 258 ≤ k → L k = L k := fun _ _ => rfl
  refine g_aload_n C 0 dX5_seatByTallies_0 rfl ?_
  refine g_iload_n C 1 dX5_seatByTallies_1 rfl ?_
  refine g_callVv C (n := 1) (As := [.int x]) (st := []) (s_X5_tallyBy l D ad cs _ _ x hI) gX5_seatByTallies_X5_tallyBy rfl rfl rfl (by decide +kernel) ⟨Nat.le_of_ble_eq_true rfl, Nat.le_of_ble_eq_true rfl⟩ rfl (Nat.le_of_ble_eq_true rfl) ⟨Nat.zero_le _, Nat.zero_le _⟩ (by decide) (ce_plain ad cs _ _) rfl rfl dX5_seatByTallies_2 (fun M2 L3 hr1 => ?_)
  obtain ⟨hI, hF1, hG1⟩ := hr1
  have hF : ∀ k, k ≠ 90 ∧ k ≠ 191 ∧ k ≠ 192 ∧ k ≠ 193 ∧ k ≠ 194 → M2 k = M k := fun k hk => by (rw [hF1 k (by omega)]; try exact hF k hk)
  have hG : ∀ k, 258 ≤ k → L3 k = L k := fun k hk => by (rw [hG1 k hk]; try exact hG k hk)
  refine g_iconst C 0 dX5_seatByTallies_5 (by decide) ?_
  refine g_istore_n C [(3, .int 0), (0, .ref (ad 93)), (1, .int x), (2, .ref (ad 191))] dX5_seatByTallies_6 (by decide) rfl ?_
  have zy4 : (0 : Int32).toInt = 0 := by decide
  refine g_loop (α := Int32 × MI × ML) (fun a => (31 - a.1.toInt).toNat) (fun a => 0 ≤ a.1.toInt ∧ a.1.toInt ≤ 30 ∧ IC a.2.1 ∧ (∀ k, k ≠ 90 ∧ k ≠ 191 ∧ k ≠ 192 ∧ k ≠ 193 ∧ k ≠ 194 → a.2.1 k = M k) ∧ (∀ k, 258 ≤ k → a.2.2 k = L k)) (fun a => a.2.1) (fun a => a.2.2) (fun a => [(3, .int a.1), (0, .ref (ad 93)), (1, .int x), (2, .ref (ad 191))]) (0, M2, L3) ⟨by show 0 ≤ (0 : Int32).toInt; omega, by show (0 : Int32).toInt ≤ 30; omega, hI, hF, hG⟩ rfl rfl rfl ?_
  rintro ⟨x3_7, M_7, L_7⟩ ⟨j7_0, j7_1, hI, hF, hG⟩ ih_7
  dsimp only at j7_0 j7_1 hI hF hG ih_7 ⊢
  refine g_iload_n C 0 dX5_seatByTallies_7 rfl ?_
  refine g_aload_n C 1 dX5_seatByTallies_8 rfl ?_
  refine g_get C (.ref (ad 88)) 0 in_X5_seatByTallies_5 (List.mem_of_getElem? (i := 1) rfl) (by decide) (ce_plain ad cs _ _) rfl (by decide) rfl rfl dX5_seatByTallies_9 ?_
  refine g_get C (.int (M_7 88 4)) 4 in_X5_seatByTallies_6 (List.mem_of_getElem? (i := 2) rfl) (by decide) (ce_poll ad cs _ _) rfl (by decide) rfl rfl dX5_seatByTallies_12 ?_
  refine g_ni (fun v5 ev5 => ?_)
  have tv5 := congrArg Int32.toInt ev5
  obtain ⟨bv5, dv5⟩ := (show rg 0 30 v5 from (by rw [ev5]; exact (hI 88 4).2 rfl))
  refine g_icmp_ge C 69 dX5_seatByTallies_15 (by decide) (fun c6 => ?_) (fun c6 => ?_)
  ·
    have f7 := fle rfl rfl c6
    exact g_vret C hr ⟨hI, hF, hG⟩ dX5_seatByTallies_69
  ·
    have f8 := fnle rfl rfl c6
    refine g_aload_n C 1 dX5_seatByTallies_18 rfl ?_
    refine g_get C (.ref (ad 88)) 0 in_X5_seatByTallies_5 (List.mem_of_getElem? (i := 1) rfl) (by decide) (ce_plain ad cs _ _) rfl (by decide) rfl rfl dX5_seatByTallies_19 ?_
    refine g_callVi C (n := 0) (As := []) (st := []) (s_X6_greatestIn l D ad cs _ _ hI) gX5_seatByTallies_X6_greatestIn rfl rfl rfl (by decide +kernel) ⟨Nat.le_of_ble_eq_true rfl, Nat.le_of_ble_eq_true rfl⟩ rfl (Nat.le_of_ble_eq_true rfl) ⟨Nat.zero_le _, Nat.zero_le _⟩ (by decide) (ce_poll ad cs _ _) rfl rfl dX5_seatByTallies_22 (fun r9 M10 L11 hr9 => ?_)
    obtain ⟨hq1, hq2, hr9⟩ := hr9
    obtain rfl := hq1.symm
    obtain rfl := hq2.symm
    obtain ⟨br9, dr9⟩ := hr9
    refine g_istore C [(4, .int r9), (3, .int x3_7), (0, .ref (ad 93)), (1, .int x), (2, .ref (ad 191))] dX5_seatByTallies_25 (by decide) rfl ?_
    refine g_iload C 0 dX5_seatByTallies_27 rfl ?_
    refine g_bipush C (-9) dX5_seatByTallies_29 (by decide) ?_
    refine g_icmp_ne C 35 dX5_seatByTallies_31 (by decide) (fun c12 => ?_) (fun c12 => ?_)
    ·
      have f13 := fne rfl (by decide : ((-9) : Int32).toInt = (-9)) c12
      refine g_aload_n C 4 dX5_seatByTallies_35 rfl ?_
      refine g_iconst C 1 dX5_seatByTallies_36 (by decide) ?_
      refine g_iload C 0 dX5_seatByTallies_37 rfl ?_
      refine g_aload_n C 2 dX5_seatByTallies_39 rfl ?_
      refine g_get C (.ref (ad 88)) 0 in_X5_seatByTallies_5 (List.mem_of_getElem? (i := 1) rfl) (by decide) (ce_plain ad cs _ _) rfl (by decide) rfl rfl dX5_seatByTallies_40 ?_
      refine g_callVv C (n := 3) (As := [.int 1, .int r9, .ref (ad 88)]) (st := []) (s_X7_note_b l D ad cs _ _ 1 r9 hI) gX5_seatByTallies_X7_note rfl rfl rfl (by decide +kernel) ⟨Nat.le_of_ble_eq_true rfl, Nat.le_of_ble_eq_true rfl⟩ rfl (Nat.le_of_ble_eq_true rfl) ⟨Nat.zero_le _, Nat.zero_le _⟩ (by decide) (ce_rb ad cs _ _) rfl rfl dX5_seatByTallies_43 (fun M15 L16 hr14 => ?_)
      obtain ⟨hI, hF1, hG1⟩ := hr14
      have hF : ∀ k, k ≠ 90 ∧ k ≠ 191 ∧ k ≠ 192 ∧ k ≠ 193 ∧ k ≠ 194 → M15 k = M k := fun k hk => by (rw [hF1 k (by omega)]; try exact hF k hk)
      have hG : ∀ k, 258 ≤ k → L16 k = L k := fun k hk => by (rw [hG1 k hk]; try exact hG k hk)
      refine g_aload_n C 4 dX5_seatByTallies_46 rfl ?_
      refine g_iload C 0 dX5_seatByTallies_47 rfl ?_
      refine g_callVv C (n := 1) (As := [.int r9]) (st := []) (s_X7_give_b l D ad cs _ _ r9 hI) gX5_seatByTallies_X7_give rfl rfl rfl (by decide +kernel) ⟨Nat.le_of_ble_eq_true rfl, Nat.le_of_ble_eq_true rfl⟩ rfl (Nat.le_of_ble_eq_true rfl) ⟨Nat.zero_le _, Nat.zero_le _⟩ (by decide) (ce_rb ad cs _ _) rfl rfl dX5_seatByTallies_49 (fun M18 L19 hr17 => ?_)
      obtain ⟨hI, hF1, hG1⟩ := hr17
      have hF : ∀ k, k ≠ 90 ∧ k ≠ 191 ∧ k ≠ 192 ∧ k ≠ 193 ∧ k ≠ 194 → M18 k = M k := fun k hk => by (rw [hF1 k (by omega)]; try exact hF k hk)
      have hG : ∀ k, 258 ≤ k → L19 k = L k := fun k hk => by (rw [hG1 k hk]; try exact hG k hk)
      refine g_aload_n C 2 dX5_seatByTallies_52 rfl ?_
      refine g_get C (.ref (ad 88)) 0 in_X5_seatByTallies_5 (List.mem_of_getElem? (i := 1) rfl) (by decide) (ce_plain ad cs _ _) rfl (by decide) rfl rfl dX5_seatByTallies_53 ?_
      refine g_get C (.ref (ad 90)) 5 in_X5_seatByTallies_6 (List.mem_of_getElem? (i := 3) rfl) (by decide) (ce_poll ad cs _ _) rfl (by decide) rfl rfl dX5_seatByTallies_56 ?_
      refine g_iload C 0 dX5_seatByTallies_59 rfl ?_
      refine g_iconst C 0 dX5_seatByTallies_61 (by decide) ?_
      refine g_zast C (by decide) (ce_pin ad cs _ _) (by rw [sI_k]; rfl) (fin' (n := 10) rfl (by omega) (by omega)) dX5_seatByTallies_62 ?_
      refine g_nm (fun M20 hM20 => ?_)
      have hI : IC M20 := by rw [hM20]; exact hI.st (bC_free (by decide) (by decide) (by decide) (by decide) (by decide) (by decide) (by decide))
      have hF : ∀ k, k ≠ 90 ∧ k ≠ 191 ∧ k ≠ 192 ∧ k ≠ 193 ∧ k ≠ 194 → M20 k = M k := fun k hk => by (rw [hM20, sI_n _ _ _ (by omega)]; try exact hF k hk)
      obtain ⟨v21, ev21⟩ : ∃ y : Int32, y = x3_7 + 1 := ⟨_, rfl⟩
      try have fv21 := fadd rfl (by decide : (1 : Int32).toInt = 1) ev21 (by omega) (by omega)
      refine g_iinc C 1 v21 [(3, .int v21), (4, .int r9), (0, .ref (ad 93)), (1, .int x), (2, .ref (ad 191))] dX5_seatByTallies_63 rfl (by rw [ev21]; rfl) (by decide) rfl ?_
      refine g_goto C 7 dX5_seatByTallies_66 (by decide) ?_
      refine g_lv [0, 2, 3, 4] [(3, .int v21), (0, .ref (ad 93)), (1, .int x), (2, .ref (ad 191))] rfl ?_
      exact ih_7 (v21, M20, L19) ⟨by show 0 ≤ v21.toInt; omega, by show v21.toInt ≤ 30; omega, hI, hF, hG⟩ (by show (31 - v21.toInt).toNat < (31 - x3_7.toInt).toNat; omega)
    ·
      have f22 := feq rfl (by decide : ((-9) : Int32).toInt = (-9)) c12
      exact g_vret C hr ⟨hI, hF, hG⟩ dX5_seatByTallies_34
set_option maxHeartbeats 4000000 in
set_option maxRecDepth 100000 in
theorem s_X5_sbd_b (l : Launch) (D : va_G) (ad : Nat → Nat) (cs : Nat → ClassId) (M : MI) (L : ML) (x : Int32) (hI : IC M) : Cv l yX5_seatByDivisors wsX5_seatByDivisors ({ frames := 2, cells := 0, slots := 0, locals := 51 }) D ad cs [.ref (ad 93), .int x, .ref (ad 191)] M L (fun M1 L1 => IC M1 ∧ (∀ k, k ≠ 94 ∧ k ≠ 191 ∧ k ≠ 192 ∧ k ≠ 193 ∧ k ≠ 194 → M1 k = M k) ∧ ∀ k, 258 ≤ k → L1 k = L k) := by
  refine enter_v RX5 rfl [(0, .ref (ad 93)), (1, .int x), (2, .ref (ad 191))] rfl (Nat.le_of_ble_eq_true rfl) (by decide +kernel) rfl ?_
  intro p e s m below meth c C hr
  have hF : ∀ k, k ≠ 94 ∧ k ≠ 191 ∧ k ≠ 192 ∧ k ≠ 193 ∧ k ≠ 194 → M k = M k := fun _ _ => rfl
  have hG : ∀ k, 258 ≤ k → L k = L k := fun _ _ => rfl
  refine g_aload_n C 0 dX5_seatByDivisors_0 rfl ?_
  refine g_get C (.ref (ad 88)) 0 in_X5_seatByDivisors_5 (List.mem_of_getElem? (i := 1) rfl) (by decide) (ce_plain ad cs _ _) rfl (by decide) rfl rfl dX5_seatByDivisors_1 ?_
  refine g_callVv C (n := 0) (As := []) (st := []) (s_X6_tallyFirstIn l D ad cs _ _ hI) gX5_seatByDivisors_X6_tallyFirstIn rfl rfl rfl (by decide +kernel) ⟨Nat.le_of_ble_eq_true rfl, Nat.le_of_ble_eq_true rfl⟩ rfl (Nat.le_of_ble_eq_true rfl) ⟨Nat.zero_le _, Nat.zero_le _⟩ (by decide) (ce_poll ad cs _ _) rfl rfl dX5_seatByDivisors_4 (fun M2 L3 hr1 => ?_)
  obtain ⟨hI, hF1, hG1⟩ := hr1
  have hF : ∀ k, k ≠ 94 ∧ k ≠ 191 ∧ k ≠ 192 ∧ k ≠ 193 ∧ k ≠ 194 → M2 k = M k := fun k hk => by (rw [hF1 k (by omega)]; try exact hF k hk)
  have hG : ∀ k, 258 ≤ k → L3 k = L k := fun k hk => by (rw [hG1 k hk]; try exact hG k hk)
  refine g_iconst C 0 dX5_seatByDivisors_7 (by decide) ?_
  refine g_istore_n C [(3, .int 0), (0, .ref (ad 93)), (1, .int x), (2, .ref (ad 191))] dX5_seatByDivisors_8 (by decide) rfl ?_
  have zy4 : (0 : Int32).toInt = 0 := by decide
  refine g_loop (α := Int32 × MI × ML) (fun a => (11 - a.1.toInt).toNat) (fun a => 0 ≤ a.1.toInt ∧ a.1.toInt ≤ 10 ∧ IC a.2.1 ∧ (∀ k, k ≠ 94 ∧ k ≠ 191 ∧ k ≠ 192 ∧ k ≠ 193 ∧ k ≠ 194 → a.2.1 k = M k) ∧ (∀ k, 258 ≤ k → a.2.2 k = L k)) (fun a => a.2.1) (fun a => a.2.2) (fun a => [(3, .int a.1), (0, .ref (ad 93)), (1, .int x), (2, .ref (ad 191))]) (0, M2, L3) ⟨by show 0 ≤ (0 : Int32).toInt; omega, by show (0 : Int32).toInt ≤ 10; omega, hI, hF, hG⟩ rfl rfl rfl ?_
  rintro ⟨x3_9, M_9, L_9⟩ ⟨j9_0, j9_1, hI, hF, hG⟩ ih_9
  dsimp only at j9_0 j9_1 hI hF hG ih_9 ⊢
  refine g_iload_n C 0 dX5_seatByDivisors_9 rfl ?_
  refine g_bipush C 10 dX5_seatByDivisors_10 (by decide) ?_
  refine g_icmp_ge C 28 dX5_seatByDivisors_12 (by decide) (fun c5 => ?_) (fun c5 => ?_)
  ·
    have f6 := fle (by decide : (10 : Int32).toInt = 10) rfl c5
    refine g_iconst C 0 dX5_seatByDivisors_28 (by decide) ?_
    refine g_istore_n C [(3, .int 0), (0, .ref (ad 93)), (1, .int x), (2, .ref (ad 191))] dX5_seatByDivisors_29 (by decide) rfl ?_
    have zy7 : (0 : Int32).toInt = 0 := by decide
    refine g_loop (α := Int32 × MI × ML) (fun a => (31 - a.1.toInt).toNat) (fun a => 0 ≤ a.1.toInt ∧ a.1.toInt ≤ 30 ∧ IC a.2.1 ∧ (∀ k, k ≠ 94 ∧ k ≠ 191 ∧ k ≠ 192 ∧ k ≠ 193 ∧ k ≠ 194 → a.2.1 k = M k) ∧ (∀ k, 258 ≤ k → a.2.2 k = L k)) (fun a => a.2.1) (fun a => a.2.2) (fun a => [(3, .int a.1), (0, .ref (ad 93)), (1, .int x), (2, .ref (ad 191))]) (0, M_9, L_9) ⟨by show 0 ≤ (0 : Int32).toInt; omega, by show (0 : Int32).toInt ≤ 30; omega, hI, hF, hG⟩ rfl rfl rfl ?_
    rintro ⟨x3_30, M_30, L_30⟩ ⟨j30_0, j30_1, hI, hF, hG⟩ ih_30
    dsimp only at j30_0 j30_1 hI hF hG ih_30 ⊢
    refine g_iload_n C 0 dX5_seatByDivisors_30 rfl ?_
    refine g_aload_n C 1 dX5_seatByDivisors_31 rfl ?_
    refine g_get C (.ref (ad 88)) 0 in_X5_seatByDivisors_5 (List.mem_of_getElem? (i := 1) rfl) (by decide) (ce_plain ad cs _ _) rfl (by decide) rfl rfl dX5_seatByDivisors_32 ?_
    refine g_get C (.int (M_30 88 4)) 4 in_X5_seatByDivisors_6 (List.mem_of_getElem? (i := 3) rfl) (by decide) (ce_poll ad cs _ _) rfl (by decide) rfl rfl dX5_seatByDivisors_35 ?_
    refine g_ni (fun v8 ev8 => ?_)
    have tv8 := congrArg Int32.toInt ev8
    obtain ⟨bv8, dv8⟩ := (show rg 0 30 v8 from (by rw [ev8]; exact (hI 88 4).2 rfl))
    refine g_icmp_ge C 90 dX5_seatByDivisors_38 (by decide) (fun c9 => ?_) (fun c9 => ?_)
    ·
      have f10 := fle rfl rfl c9
      exact g_vret C hr ⟨hI, hF, hG⟩ dX5_seatByDivisors_90
    ·
      have f11 := fnle rfl rfl c9
      refine g_aload_n C 1 dX5_seatByDivisors_41 rfl ?_
      refine g_iload_n C 2 dX5_seatByDivisors_42 rfl ?_
      refine g_callVi C (n := 1) (As := [.int x]) (st := []) (s_X5_gbd l D ad cs _ _ x hI) gX5_seatByDivisors_X5_greatestByDivisor rfl rfl rfl (by decide +kernel) ⟨Nat.le_of_ble_eq_true rfl, Nat.le_of_ble_eq_true rfl⟩ rfl (Nat.le_of_ble_eq_true rfl) ⟨Nat.zero_le _, Nat.zero_le _⟩ (by decide) (ce_plain ad cs _ _) rfl rfl dX5_seatByDivisors_43 (fun r12 M13 L14 hr12 => ?_)
      obtain ⟨hq1, hq2, hr12⟩ := hr12
      obtain rfl := hq1.symm
      obtain rfl := hq2.symm
      obtain ⟨br12, dr12⟩ := hr12
      refine g_istore C [(4, .int r12), (3, .int x3_30), (0, .ref (ad 93)), (1, .int x), (2, .ref (ad 191))] dX5_seatByDivisors_46 (by decide) rfl ?_
      refine g_iload C 0 dX5_seatByDivisors_48 rfl ?_
      refine g_bipush C (-9) dX5_seatByDivisors_50 (by decide) ?_
      refine g_icmp_ne C 56 dX5_seatByDivisors_52 (by decide) (fun c15 => ?_) (fun c15 => ?_)
      ·
        have f16 := fne rfl (by decide : ((-9) : Int32).toInt = (-9)) c15
        refine g_aload_n C 4 dX5_seatByDivisors_56 rfl ?_
        refine g_iconst C 1 dX5_seatByDivisors_57 (by decide) ?_
        refine g_iload C 0 dX5_seatByDivisors_58 rfl ?_
        refine g_aload_n C 2 dX5_seatByDivisors_60 rfl ?_
        refine g_get C (.ref (ad 88)) 0 in_X5_seatByDivisors_5 (List.mem_of_getElem? (i := 1) rfl) (by decide) (ce_plain ad cs _ _) rfl (by decide) rfl rfl dX5_seatByDivisors_61 ?_
        refine g_callVv C (n := 3) (As := [.int 1, .int r12, .ref (ad 88)]) (st := []) (s_X7_note_b l D ad cs _ _ 1 r12 hI) gX5_seatByDivisors_X7_note rfl rfl rfl (by decide +kernel) ⟨Nat.le_of_ble_eq_true rfl, Nat.le_of_ble_eq_true rfl⟩ rfl (Nat.le_of_ble_eq_true rfl) ⟨Nat.zero_le _, Nat.zero_le _⟩ (by decide) (ce_rb ad cs _ _) rfl rfl dX5_seatByDivisors_64 (fun M18 L19 hr17 => ?_)
        obtain ⟨hI, hF1, hG1⟩ := hr17
        have hF : ∀ k, k ≠ 94 ∧ k ≠ 191 ∧ k ≠ 192 ∧ k ≠ 193 ∧ k ≠ 194 → M18 k = M k := fun k hk => by (rw [hF1 k (by omega)]; try exact hF k hk)
        have hG : ∀ k, 258 ≤ k → L19 k = L k := fun k hk => by (rw [hG1 k hk]; try exact hG k hk)
        refine g_aload_n C 4 dX5_seatByDivisors_67 rfl ?_
        refine g_iload C 0 dX5_seatByDivisors_68 rfl ?_
        refine g_callVv C (n := 1) (As := [.int r12]) (st := []) (s_X7_give_b l D ad cs _ _ r12 hI) gX5_seatByDivisors_X7_give rfl rfl rfl (by decide +kernel) ⟨Nat.le_of_ble_eq_true rfl, Nat.le_of_ble_eq_true rfl⟩ rfl (Nat.le_of_ble_eq_true rfl) ⟨Nat.zero_le _, Nat.zero_le _⟩ (by decide) (ce_rb ad cs _ _) rfl rfl dX5_seatByDivisors_70 (fun M21 L22 hr20 => ?_)
        obtain ⟨hI, hF1, hG1⟩ := hr20
        have hF : ∀ k, k ≠ 94 ∧ k ≠ 191 ∧ k ≠ 192 ∧ k ≠ 193 ∧ k ≠ 194 → M21 k = M k := fun k hk => by (rw [hF1 k (by omega)]; try exact hF k hk)
        have hG : ∀ k, 258 ≤ k → L22 k = L k := fun k hk => by (rw [hG1 k hk]; try exact hG k hk)
        refine g_aload_n C 2 dX5_seatByDivisors_73 rfl ?_
        refine g_get C (.ref (ad 94)) 1 in_X5_seatByDivisors_5 (List.mem_of_getElem? (i := 2) rfl) (by decide) (ce_plain ad cs _ _) rfl (by decide) rfl rfl dX5_seatByDivisors_74 ?_
        refine g_iload C 0 dX5_seatByDivisors_77 rfl ?_
        refine g_dup2 C dX5_seatByDivisors_79 rfl rfl ?_
        refine g_iald C (by decide) (ce_lseats ad cs _ _) (fin' (n := 10) rfl (by omega) (by omega)) dX5_seatByDivisors_80 ?_
        refine g_ni (fun v23 ev23 => ?_)
        have tv23 := congrArg Int32.toInt ev23
        refine g_iconst C 1 dX5_seatByDivisors_81 (by decide) ?_
        refine g_iadd C dX5_seatByDivisors_82 ?_
        refine g_ni (fun v24 ev24 => ?_)
        try have fv24 := fadd rfl (by decide : (1 : Int32).toInt = 1) ev24 (by omega) (by omega)
        refine g_iast C (by decide) (ce_lseats ad cs _ _) (by rw [sI_k]; rfl) (fin' (n := 10) rfl (by omega) (by omega)) dX5_seatByDivisors_83 ?_
        refine g_nm (fun M25 hM25 => ?_)
        have hI : IC M25 := by rw [hM25]; exact hI.st (bC_free (by decide) (by decide) (by decide) (by decide) (by decide) (by decide) (by decide))
        have hF : ∀ k, k ≠ 94 ∧ k ≠ 191 ∧ k ≠ 192 ∧ k ≠ 193 ∧ k ≠ 194 → M25 k = M k := fun k hk => by (rw [hM25, sI_n _ _ _ (by omega)]; try exact hF k hk)
        obtain ⟨v26, ev26⟩ : ∃ y : Int32, y = x3_30 + 1 := ⟨_, rfl⟩
        try have fv26 := fadd rfl (by decide : (1 : Int32).toInt = 1) ev26 (by omega) (by omega)
        refine g_iinc C 1 v26 [(3, .int v26), (4, .int r12), (0, .ref (ad 93)), (1, .int x), (2, .ref (ad 191))] dX5_seatByDivisors_84 rfl (by rw [ev26]; rfl) (by decide) rfl ?_
        refine g_goto C 30 dX5_seatByDivisors_87 (by decide) ?_
        refine g_lv [0, 2, 3, 4] [(3, .int v26), (0, .ref (ad 93)), (1, .int x), (2, .ref (ad 191))] rfl ?_
        exact ih_30 (v26, M25, L22) ⟨by show 0 ≤ v26.toInt; omega, by show v26.toInt ≤ 30; omega, hI, hF, hG⟩ (by show (31 - v26.toInt).toNat < (31 - x3_30.toInt).toNat; omega)
      ·
        have f27 := feq rfl (by decide : ((-9) : Int32).toInt = (-9)) c15
        exact g_vret C hr ⟨hI, hF, hG⟩ dX5_seatByDivisors_55
  ·
    have f28 := fnle (by decide : (10 : Int32).toInt = 10) rfl c5
    refine g_aload_n C 1 dX5_seatByDivisors_15 rfl ?_
    refine g_get C (.ref (ad 94)) 1 in_X5_seatByDivisors_5 (List.mem_of_getElem? (i := 2) rfl) (by decide) (ce_plain ad cs _ _) rfl (by decide) rfl rfl dX5_seatByDivisors_16 ?_
    refine g_iload_n C 0 dX5_seatByDivisors_19 rfl ?_
    refine g_iconst C 0 dX5_seatByDivisors_20 (by decide) ?_
    refine g_iast C (by decide) (ce_lseats ad cs _ _) (by rw [sI_k]; rfl) (fin' (n := 10) rfl (by omega) (by omega)) dX5_seatByDivisors_21 ?_
    refine g_nm (fun M29 hM29 => ?_)
    have hI : IC M29 := by rw [hM29]; exact hI.st (bC_free (by decide) (by decide) (by decide) (by decide) (by decide) (by decide) (by decide))
    have hF : ∀ k, k ≠ 94 ∧ k ≠ 191 ∧ k ≠ 192 ∧ k ≠ 193 ∧ k ≠ 194 → M29 k = M k := fun k hk => by (rw [hM29, sI_n _ _ _ (by omega)]; try exact hF k hk)
    obtain ⟨v30, ev30⟩ : ∃ y : Int32, y = x3_9 + 1 := ⟨_, rfl⟩
    try have fv30 := fadd rfl (by decide : (1 : Int32).toInt = 1) ev30 (by omega) (by omega)
    refine g_iinc C 0 v30 [(3, .int v30), (0, .ref (ad 93)), (1, .int x), (2, .ref (ad 191))] dX5_seatByDivisors_22 rfl (by rw [ev30]; rfl) (by decide) rfl ?_
    refine g_goto C 9 dX5_seatByDivisors_25 (by decide) ?_
    exact ih_9 (v30, M29, L_9) ⟨by show 0 ≤ v30.toInt; omega, by show v30.toInt ≤ 10; omega, hI, hF, hG⟩ (by show (11 - v30.toInt).toNat < (11 - x3_9.toInt).toNat; omega)
set_option maxHeartbeats 4000000 in
set_option maxRecDepth 100000 in
theorem s_X5_ro_b (l : Launch) (D : va_G) (ad : Nat → Nat) (cs : Nat → ClassId) (M : MI) (L : ML)  (hI : IC M) : Cv l yX5_runOff wsX5_runOff ({ frames := 3, cells := 0, slots := 0, locals := 68 }) D ad cs [.ref (ad 93), .ref (ad 191)] M L (fun M1 L1 => IC M1 ∧ (∀ k, k ≠ 90 ∧ k ≠ 95 ∧ k ≠ 191 ∧ k ≠ 192 ∧ k ≠ 193 ∧ k ≠ 194 → M1 k = M k) ∧ ∀ k, 258 ≤ k → L1 k = L k) := by
  refine enter_v RX5 rfl [(0, .ref (ad 93)), (1, .ref (ad 191))] rfl (Nat.le_of_ble_eq_true rfl) (by decide +kernel) rfl ?_
  intro p e s m below meth c C hr
  have hF : ∀ k, k ≠ 90 ∧ k ≠ 95 ∧ k ≠ 191 ∧ k ≠ 192 ∧ k ≠ 193 ∧ k ≠ 194 → M k = M k := fun _ _ => rfl
  have hG : ∀ k, 258 ≤ k → L k = L k := fun _ _ => rfl
  refine g_aload_n C 0 dX5_runOff_0 rfl ?_
  refine g_get C (.ref (ad 88)) 0 in_X5_runOff_5 (List.mem_of_getElem? (i := 1) rfl) (by decide) (ce_plain ad cs _ _) rfl (by decide) rfl rfl dX5_runOff_1 ?_
  refine g_get C (.ref (ad 1)) 0 in_X5_runOff_6 (List.mem_of_getElem? (i := 2) rfl) (by decide) (ce_poll ad cs _ _) rfl (by decide) rfl rfl dX5_runOff_4 ?_
  refine g_get C (.int (M 1 0)) 0 in_X5_runOff_2 (List.mem_of_getElem? (i := 3) rfl) (by decide) (ce_cand ad cs _ _) rfl (by decide) rfl rfl dX5_runOff_7 ?_
  refine g_ni (fun v1 ev1 => ?_)
  have tv1 := congrArg Int32.toInt ev1
  obtain ⟨bv1, dv1⟩ := (show rg 0 10 v1 from (by rw [ev1]; exact hI 1 0 rfl))
  refine g_iconst C 1 dX5_runOff_10 (by decide) ?_
  refine g_isub C dX5_runOff_11 ?_
  refine g_ni (fun v2 ev2 => ?_)
  try have fv2 := fsub rfl (by decide : (1 : Int32).toInt = 1) ev2 (by omega) (by omega)
  refine g_istore_n C [(2, .int v2), (0, .ref (ad 93)), (1, .ref (ad 191))] dX5_runOff_12 (by decide) rfl ?_
  refine g_iconst C 0 dX5_runOff_13 (by decide) ?_
  refine g_istore_n C [(3, .int 0), (2, .int v2), (0, .ref (ad 93)), (1, .ref (ad 191))] dX5_runOff_14 (by decide) rfl ?_
  have zy3 : (0 : Int32).toInt = 0 := by decide
  refine g_loop (α := Int32 × MI × ML) (fun a => (10 - a.1.toInt).toNat) (fun a => 0 ≤ a.1.toInt ∧ a.1.toInt ≤ 9 ∧ IC a.2.1 ∧ (∀ k, k ≠ 90 ∧ k ≠ 95 ∧ k ≠ 191 ∧ k ≠ 192 ∧ k ≠ 193 ∧ k ≠ 194 → a.2.1 k = M k) ∧ (∀ k, 258 ≤ k → a.2.2 k = L k)) (fun a => a.2.1) (fun a => a.2.2) (fun a => [(3, .int a.1), (2, .int v2), (0, .ref (ad 93)), (1, .ref (ad 191))]) (0, M, L) ⟨by show 0 ≤ (0 : Int32).toInt; omega, by show (0 : Int32).toInt ≤ 9; omega, hI, hF, hG⟩ rfl rfl rfl ?_
  rintro ⟨x3_15, M_15, L_15⟩ ⟨j15_0, j15_1, hI, hF, hG⟩ ih_15
  dsimp only at j15_0 j15_1 hI hF hG ih_15 ⊢
  refine g_iload_n C 0 dX5_runOff_15 rfl ?_
  refine g_iload_n C 1 dX5_runOff_16 rfl ?_
  refine g_icmp_ge C 80 dX5_runOff_17 (by decide) (fun c4 => ?_) (fun c4 => ?_)
  ·
    have f5 := fle rfl rfl c4
    refine g_aload_n C 2 dX5_runOff_80 rfl ?_
    refine g_get C (.ref (ad 88)) 0 in_X5_runOff_5 (List.mem_of_getElem? (i := 1) rfl) (by decide) (ce_plain ad cs _ _) rfl (by decide) rfl rfl dX5_runOff_81 ?_
    refine g_callVv C (n := 0) (As := []) (st := []) (s_X6_tallyFirstIn l D ad cs _ _ hI) gX5_runOff_X6_tallyFirstIn rfl rfl rfl (by decide +kernel) ⟨Nat.le_of_ble_eq_true rfl, Nat.le_of_ble_eq_true rfl⟩ rfl (Nat.le_of_ble_eq_true rfl) ⟨Nat.zero_le _, Nat.zero_le _⟩ (by decide) (ce_poll ad cs _ _) rfl rfl dX5_runOff_84 (fun M7 L8 hr6 => ?_)
    obtain ⟨hI, hF1, hG1⟩ := hr6
    have hF : ∀ k, k ≠ 90 ∧ k ≠ 95 ∧ k ≠ 191 ∧ k ≠ 192 ∧ k ≠ 193 ∧ k ≠ 194 → M7 k = M k := fun k hk => by (rw [hF1 k (by omega)]; try exact hF k hk)
    have hG : ∀ k, 258 ≤ k → L8 k = L k := fun k hk => by (rw [hG1 k hk]; try exact hG k hk)
    refine g_aload_n C 2 dX5_runOff_87 rfl ?_
    refine g_get C (.ref (ad 88)) 0 in_X5_runOff_5 (List.mem_of_getElem? (i := 1) rfl) (by decide) (ce_plain ad cs _ _) rfl (by decide) rfl rfl dX5_runOff_88 ?_
    refine g_callVi C (n := 0) (As := []) (st := []) (s_X6_greatestIn l D ad cs _ _ hI) gX5_runOff_X6_greatestIn rfl rfl rfl (by decide +kernel) ⟨Nat.le_of_ble_eq_true rfl, Nat.le_of_ble_eq_true rfl⟩ rfl (Nat.le_of_ble_eq_true rfl) ⟨Nat.zero_le _, Nat.zero_le _⟩ (by decide) (ce_poll ad cs _ _) rfl rfl dX5_runOff_91 (fun r9 M10 L11 hr9 => ?_)
    obtain ⟨hq1, hq2, hr9⟩ := hr9
    obtain rfl := hq1.symm
    obtain rfl := hq2.symm
    obtain ⟨br9, dr9⟩ := hr9
    refine g_istore_n C [(3, .int r9), (2, .int v2), (0, .ref (ad 93)), (1, .ref (ad 191))] dX5_runOff_94 (by decide) rfl ?_
    refine g_aload_n C 3 dX5_runOff_95 rfl ?_
    refine g_iconst C 1 dX5_runOff_96 (by decide) ?_
    refine g_iload_n C 0 dX5_runOff_97 rfl ?_
    refine g_aload_n C 2 dX5_runOff_98 rfl ?_
    refine g_get C (.ref (ad 88)) 0 in_X5_runOff_5 (List.mem_of_getElem? (i := 1) rfl) (by decide) (ce_plain ad cs _ _) rfl (by decide) rfl rfl dX5_runOff_99 ?_
    refine g_callVv C (n := 3) (As := [.int 1, .int r9, .ref (ad 88)]) (st := []) (s_X7_note_b l D ad cs _ _ 1 r9 hI) gX5_runOff_X7_note rfl rfl rfl (by decide +kernel) ⟨Nat.le_of_ble_eq_true rfl, Nat.le_of_ble_eq_true rfl⟩ rfl (Nat.le_of_ble_eq_true rfl) ⟨Nat.zero_le _, Nat.zero_le _⟩ (by decide) (ce_rb ad cs _ _) rfl rfl dX5_runOff_102 (fun M13 L14 hr12 => ?_)
    obtain ⟨hI, hF1, hG1⟩ := hr12
    have hF : ∀ k, k ≠ 90 ∧ k ≠ 95 ∧ k ≠ 191 ∧ k ≠ 192 ∧ k ≠ 193 ∧ k ≠ 194 → M13 k = M k := fun k hk => by (rw [hF1 k (by omega)]; try exact hF k hk)
    have hG : ∀ k, 258 ≤ k → L14 k = L k := fun k hk => by (rw [hG1 k hk]; try exact hG k hk)
    refine g_aload_n C 3 dX5_runOff_105 rfl ?_
    refine g_iload_n C 0 dX5_runOff_106 rfl ?_
    refine g_callVv C (n := 1) (As := [.int r9]) (st := []) (s_X7_give_b l D ad cs _ _ r9 hI) gX5_runOff_X7_give rfl rfl rfl (by decide +kernel) ⟨Nat.le_of_ble_eq_true rfl, Nat.le_of_ble_eq_true rfl⟩ rfl (Nat.le_of_ble_eq_true rfl) ⟨Nat.zero_le _, Nat.zero_le _⟩ (by decide) (ce_rb ad cs _ _) rfl rfl dX5_runOff_107 (fun M16 L17 hr15 => ?_)
    obtain ⟨hI, hF1, hG1⟩ := hr15
    have hF : ∀ k, k ≠ 90 ∧ k ≠ 95 ∧ k ≠ 191 ∧ k ≠ 192 ∧ k ≠ 193 ∧ k ≠ 194 → M16 k = M k := fun k hk => by (rw [hF1 k (by omega)]; try exact hF k hk)
    have hG : ∀ k, 258 ≤ k → L17 k = L k := fun k hk => by (rw [hG1 k hk]; try exact hG k hk)
    refine g_iconst C 1 dX5_runOff_110 (by decide) ?_
    refine g_istore C [(4, .int 1), (3, .int r9), (2, .int v2), (0, .ref (ad 93)), (1, .ref (ad 191))] dX5_runOff_111 (by decide) rfl ?_
    have zy18 : (1 : Int32).toInt = 1 := by decide
    refine g_loop (α := Int32 × MI × ML) (fun a => (32 - a.1.toInt).toNat) (fun a => 1 ≤ a.1.toInt ∧ a.1.toInt ≤ 31 ∧ IC a.2.1 ∧ (∀ k, k ≠ 90 ∧ k ≠ 95 ∧ k ≠ 191 ∧ k ≠ 192 ∧ k ≠ 193 ∧ k ≠ 194 → a.2.1 k = M k) ∧ (∀ k, 258 ≤ k → a.2.2 k = L k)) (fun a => a.2.1) (fun a => a.2.2) (fun a => [(4, .int a.1), (3, .int r9), (2, .int v2), (0, .ref (ad 93)), (1, .ref (ad 191))]) (1, M16, L17) ⟨by show 1 ≤ (1 : Int32).toInt; omega, by show (1 : Int32).toInt ≤ 31; omega, hI, hF, hG⟩ rfl rfl rfl ?_
    rintro ⟨x4_113, M_113, L_113⟩ ⟨j113_0, j113_1, hI, hF, hG⟩ ih_113
    dsimp only at j113_0 j113_1 hI hF hG ih_113 ⊢
    refine g_iload C 0 dX5_runOff_113 rfl ?_
    refine g_aload_n C 3 dX5_runOff_115 rfl ?_
    refine g_get C (.ref (ad 88)) 0 in_X5_runOff_5 (List.mem_of_getElem? (i := 1) rfl) (by decide) (ce_plain ad cs _ _) rfl (by decide) rfl rfl dX5_runOff_116 ?_
    refine g_get C (.int (M_113 88 4)) 4 in_X5_runOff_6 (List.mem_of_getElem? (i := 6) rfl) (by decide) (ce_poll ad cs _ _) rfl (by decide) rfl rfl dX5_runOff_119 ?_
    refine g_ni (fun v19 ev19 => ?_)
    have tv19 := congrArg Int32.toInt ev19
    obtain ⟨bv19, dv19⟩ := (show rg 0 30 v19 from (by rw [ev19]; exact (hI 88 4).2 rfl))
    refine g_icmp_ge C 150 dX5_runOff_122 (by decide) (fun c20 => ?_) (fun c20 => ?_)
    ·
      have f21 := fle rfl rfl c20
      exact g_vret C hr ⟨hI, hF, hG⟩ dX5_runOff_150
    ·
      have f22 := fnle rfl rfl c20
      refine g_iload C 0 dX5_runOff_125 rfl ?_
      refine g_iload_n C 2 dX5_runOff_127 rfl ?_
      refine g_icmp_gt C 150 dX5_runOff_128 (by decide) (fun c23 => ?_) (fun c23 => ?_)
      ·
        have f24 := fl rfl rfl c23
        exact g_vret C hr ⟨hI, hF, hG⟩ dX5_runOff_150
      ·
        have f25 := fnl rfl rfl c23
        refine g_aload_n C 4 dX5_runOff_131 rfl ?_
        refine g_aload_n C 3 dX5_runOff_132 rfl ?_
        refine g_get C (.ref (ad 95)) 2 in_X5_runOff_5 (List.mem_of_getElem? (i := 5) rfl) (by decide) (ce_plain ad cs _ _) rfl (by decide) rfl rfl dX5_runOff_133 ?_
        refine g_iload_n C 2 dX5_runOff_136 rfl ?_
        refine g_iload C 0 dX5_runOff_137 rfl ?_
        refine g_isub C dX5_runOff_139 ?_
        refine g_ni (fun v26 ev26 => ?_)
        try have fv26 := fsub rfl rfl ev26 (by omega) (by omega)
        refine g_iald C (by decide) (ce_louts ad cs _ _) (fin' (n := 10) rfl (by omega) (by omega)) dX5_runOff_140 ?_
        refine g_ni (fun v27 ev27 => ?_)
        have tv27 := congrArg Int32.toInt ev27
        refine g_callVv C (n := 1) (As := [.int v27]) (st := []) (s_X7_give_b l D ad cs _ _ v27 hI) gX5_runOff_X7_give rfl rfl rfl (by decide +kernel) ⟨Nat.le_of_ble_eq_true rfl, Nat.le_of_ble_eq_true rfl⟩ rfl (Nat.le_of_ble_eq_true rfl) ⟨Nat.zero_le _, Nat.zero_le _⟩ (by decide) (ce_rb ad cs _ _) rfl rfl dX5_runOff_141 (fun M29 L30 hr28 => ?_)
        obtain ⟨hI, hF1, hG1⟩ := hr28
        have hF : ∀ k, k ≠ 90 ∧ k ≠ 95 ∧ k ≠ 191 ∧ k ≠ 192 ∧ k ≠ 193 ∧ k ≠ 194 → M29 k = M k := fun k hk => by (rw [hF1 k (by omega)]; try exact hF k hk)
        have hG : ∀ k, 258 ≤ k → L30 k = L k := fun k hk => by (rw [hG1 k hk]; try exact hG k hk)
        obtain ⟨v31, ev31⟩ : ∃ y : Int32, y = x4_113 + 1 := ⟨_, rfl⟩
        try have fv31 := fadd rfl (by decide : (1 : Int32).toInt = 1) ev31 (by omega) (by omega)
        refine g_iinc C 0 v31 [(4, .int v31), (3, .int r9), (2, .int v2), (0, .ref (ad 93)), (1, .ref (ad 191))] dX5_runOff_144 rfl (by rw [ev31]; rfl) (by decide) rfl ?_
        refine g_goto C 113 dX5_runOff_147 (by decide) ?_
        exact ih_113 (v31, M29, L30) ⟨by show 1 ≤ v31.toInt; omega, by show v31.toInt ≤ 31; omega, hI, hF, hG⟩ (by show (32 - v31.toInt).toNat < (32 - x4_113.toInt).toNat; omega)
  ·
    have f32 := fnle rfl rfl c4
    refine g_aload_n C 2 dX5_runOff_20 rfl ?_
    refine g_get C (.ref (ad 88)) 0 in_X5_runOff_5 (List.mem_of_getElem? (i := 1) rfl) (by decide) (ce_plain ad cs _ _) rfl (by decide) rfl rfl dX5_runOff_21 ?_
    refine g_callVv C (n := 0) (As := []) (st := []) (s_X6_tallyFirstIn l D ad cs _ _ hI) gX5_runOff_X6_tallyFirstIn rfl rfl rfl (by decide +kernel) ⟨Nat.le_of_ble_eq_true rfl, Nat.le_of_ble_eq_true rfl⟩ rfl (Nat.le_of_ble_eq_true rfl) ⟨Nat.zero_le _, Nat.zero_le _⟩ (by decide) (ce_poll ad cs _ _) rfl rfl dX5_runOff_24 (fun M34 L35 hr33 => ?_)
    obtain ⟨hI, hF1, hG1⟩ := hr33
    have hF : ∀ k, k ≠ 90 ∧ k ≠ 95 ∧ k ≠ 191 ∧ k ≠ 192 ∧ k ≠ 193 ∧ k ≠ 194 → M34 k = M k := fun k hk => by (rw [hF1 k (by omega)]; try exact hF k hk)
    have hG : ∀ k, 258 ≤ k → L35 k = L k := fun k hk => by (rw [hG1 k hk]; try exact hG k hk)
    refine g_aload_n C 2 dX5_runOff_27 rfl ?_
    refine g_get C (.ref (ad 88)) 0 in_X5_runOff_5 (List.mem_of_getElem? (i := 1) rfl) (by decide) (ce_plain ad cs _ _) rfl (by decide) rfl rfl dX5_runOff_28 ?_
    refine g_callVi C (n := 0) (As := []) (st := []) (s_X6_leastIn l D ad cs _ _ hI) gX5_runOff_X6_leastIn rfl rfl rfl (by decide +kernel) ⟨Nat.le_of_ble_eq_true rfl, Nat.le_of_ble_eq_true rfl⟩ rfl (Nat.le_of_ble_eq_true rfl) ⟨Nat.zero_le _, Nat.zero_le _⟩ (by decide) (ce_poll ad cs _ _) rfl rfl dX5_runOff_31 (fun r36 M37 L38 hr36 => ?_)
    obtain ⟨hq1, hq2, hr36⟩ := hr36
    obtain rfl := hq1.symm
    obtain rfl := hq2.symm
    obtain ⟨br36, dr36⟩ := hr36
    refine g_istore C [(4, .int r36), (3, .int x3_15), (2, .int v2), (0, .ref (ad 93)), (1, .ref (ad 191))] dX5_runOff_34 (by decide) rfl ?_
    refine g_iload C 0 dX5_runOff_36 rfl ?_
    refine g_bipush C (-9) dX5_runOff_38 (by decide) ?_
    refine g_icmp_ne C 44 dX5_runOff_40 (by decide) (fun c39 => ?_) (fun c39 => ?_)
    ·
      have f40 := fne rfl (by decide : ((-9) : Int32).toInt = (-9)) c39
      refine g_aload_n C 4 dX5_runOff_44 rfl ?_
      refine g_iconst C 2 dX5_runOff_45 (by decide) ?_
      refine g_iload C 0 dX5_runOff_46 rfl ?_
      refine g_aload_n C 3 dX5_runOff_48 rfl ?_
      refine g_get C (.ref (ad 88)) 0 in_X5_runOff_5 (List.mem_of_getElem? (i := 1) rfl) (by decide) (ce_plain ad cs _ _) rfl (by decide) rfl rfl dX5_runOff_49 ?_
      refine g_callVv C (n := 3) (As := [.int 2, .int r36, .ref (ad 88)]) (st := []) (s_X7_note_b l D ad cs _ _ 2 r36 hI) gX5_runOff_X7_note rfl rfl rfl (by decide +kernel) ⟨Nat.le_of_ble_eq_true rfl, Nat.le_of_ble_eq_true rfl⟩ rfl (Nat.le_of_ble_eq_true rfl) ⟨Nat.zero_le _, Nat.zero_le _⟩ (by decide) (ce_rb ad cs _ _) rfl rfl dX5_runOff_52 (fun M42 L43 hr41 => ?_)
      obtain ⟨hI, hF1, hG1⟩ := hr41
      have hF : ∀ k, k ≠ 90 ∧ k ≠ 95 ∧ k ≠ 191 ∧ k ≠ 192 ∧ k ≠ 193 ∧ k ≠ 194 → M42 k = M k := fun k hk => by (rw [hF1 k (by omega)]; try exact hF k hk)
      have hG : ∀ k, 258 ≤ k → L43 k = L k := fun k hk => by (rw [hG1 k hk]; try exact hG k hk)
      refine g_aload_n C 3 dX5_runOff_55 rfl ?_
      refine g_get C (.ref (ad 88)) 0 in_X5_runOff_5 (List.mem_of_getElem? (i := 1) rfl) (by decide) (ce_plain ad cs _ _) rfl (by decide) rfl rfl dX5_runOff_56 ?_
      refine g_get C (.ref (ad 90)) 5 in_X5_runOff_6 (List.mem_of_getElem? (i := 4) rfl) (by decide) (ce_poll ad cs _ _) rfl (by decide) rfl rfl dX5_runOff_59 ?_
      refine g_iload C 0 dX5_runOff_62 rfl ?_
      refine g_iconst C 0 dX5_runOff_64 (by decide) ?_
      refine g_zast C (by decide) (ce_pin ad cs _ _) (by rw [sI_k]; rfl) (fin' (n := 10) rfl (by omega) (by omega)) dX5_runOff_65 ?_
      refine g_nm (fun M44 hM44 => ?_)
      have hI : IC M44 := by rw [hM44]; exact hI.st (bC_free (by decide) (by decide) (by decide) (by decide) (by decide) (by decide) (by decide))
      have hF : ∀ k, k ≠ 90 ∧ k ≠ 95 ∧ k ≠ 191 ∧ k ≠ 192 ∧ k ≠ 193 ∧ k ≠ 194 → M44 k = M k := fun k hk => by (rw [hM44, sI_n _ _ _ (by omega)]; try exact hF k hk)
      refine g_aload_n C 3 dX5_runOff_66 rfl ?_
      refine g_get C (.ref (ad 95)) 2 in_X5_runOff_5 (List.mem_of_getElem? (i := 5) rfl) (by decide) (ce_plain ad cs _ _) rfl (by decide) rfl rfl dX5_runOff_67 ?_
      refine g_iload_n C 1 dX5_runOff_70 rfl ?_
      refine g_iload C 0 dX5_runOff_71 rfl ?_
      refine g_iast C (by decide) (ce_louts ad cs _ _) (by rw [sI_k]; rfl) (fin' (n := 10) rfl (by omega) (by omega)) dX5_runOff_73 ?_
      refine g_nm (fun M45 hM45 => ?_)
      have hI : IC M45 := by rw [hM45]; exact hI.st (bC_free (by decide) (by decide) (by decide) (by decide) (by decide) (by decide) (by decide))
      have hF : ∀ k, k ≠ 90 ∧ k ≠ 95 ∧ k ≠ 191 ∧ k ≠ 192 ∧ k ≠ 193 ∧ k ≠ 194 → M45 k = M k := fun k hk => by (rw [hM45, sI_n _ _ _ (by omega)]; try exact hF k hk)
      obtain ⟨v46, ev46⟩ : ∃ y : Int32, y = x3_15 + 1 := ⟨_, rfl⟩
      try have fv46 := fadd rfl (by decide : (1 : Int32).toInt = 1) ev46 (by omega) (by omega)
      refine g_iinc C 1 v46 [(3, .int v46), (4, .int r36), (2, .int v2), (0, .ref (ad 93)), (1, .ref (ad 191))] dX5_runOff_74 rfl (by rw [ev46]; rfl) (by decide) rfl ?_
      refine g_goto C 15 dX5_runOff_77 (by decide) ?_
      refine g_lv [0, 2, 3, 4] [(3, .int v46), (2, .int v2), (0, .ref (ad 93)), (1, .ref (ad 191))] rfl ?_
      exact ih_15 (v46, M45, L43) ⟨by show 0 ≤ v46.toInt; omega, by show v46.toInt ≤ 9; omega, hI, hF, hG⟩ (by show (10 - v46.toInt).toNat < (10 - x3_15.toInt).toNat; omega)
    ·
      have f47 := feq rfl (by decide : ((-9) : Int32).toInt = (-9)) c39
      exact g_vret C hr ⟨hI, hF, hG⟩ dX5_runOff_43
