theorem dX11_box_0 : decode cX11_box 0 = .ok (.iload_n 1, 1) := dw27 (n := 0) (i := 0) kc_cX11_box_0 (by decide +kernel)
theorem dX11_box_1 : decode cX11_box 1 = .ok (.iconst 0, 1) := dw3 (n := 0) (i := 1) kc_cX11_box_0 (by decide +kernel)
theorem dX11_box_2 : decode cX11_box 2 = .ok (.iconst 3, 1) := dw6 (n := 0) (i := 2) kc_cX11_box_0 (by decide +kernel)
theorem dX11_box_3 : decode cX11_box 3 = .ok (.invokestatic 133, 3) := dw184 (n := 0) (i := 3) (a := 0) (b := 133) kc_cX11_box_0 (by decide +kernel) (by decide)
set_option maxRecDepth 20000 in
theorem ggX11_box_X11_in : GoodIn wsX11_box wsX11_in := (gk_code 8 rfl (gn))
set_option maxRecDepth 20000 in
theorem gX11_box_X11_in : GoodIn wsX11_box (va_wsS RX11 133 yX11_in wsX11_in) := goodIn_app (gk_methodLink 5 rfl (gk_static 6 rfl (gk_initialized 7 rfl (gn)))) ggX11_box_X11_in
theorem dX11_box_6 : decode cX11_box 6 = .ok (.ifCond .eq 9, 3) := dw153 (n := 0) (i := 6) (a := 0) (b := 9) kc_cX11_box_0 (by decide +kernel) (by decide)
theorem dX11_box_15 : decode cX11_box 15 = .ok (.iconst (-1), 1) := dw2 (n := 0) (i := 15) kc_cX11_box_0 (by decide +kernel)
theorem dX11_box_16 : decode cX11_box 16 = .ok (.ireturn, 1) := dw172 (n := 0) (i := 16) kc_cX11_box_0 (by decide +kernel)
theorem dX11_box_9 : decode cX11_box 9 = .ok (.iload_n 2, 1) := dw28 (n := 0) (i := 9) kc_cX11_box_0 (by decide +kernel)
theorem dX11_box_10 : decode cX11_box 10 = .ok (.bipush 40, 2) := dw16 (n := 0) (i := 10) (a := 40) kc_cX11_box_0 (by decide +kernel) (by decide)
theorem dX11_box_12 : decode cX11_box 12 = .ok (.if_icmp .le 5, 3) := dw164 (n := 0) (i := 12) (a := 0) (b := 5) kc_cX11_box_0 (by decide +kernel) (by decide)
theorem dX11_box_17 : decode cX11_box 17 = .ok (.aload_n 0, 1) := dw42 (n := 0) (i := 17) kc_cX11_box_0 (by decide +kernel)
theorem dX11_box_18 : decode cX11_box 18 = .ok (.getfield 163, 3) := dw180 (n := 0) (i := 18) (a := 0) (b := 163) kc_cX11_box_0 (by decide +kernel) (by decide)
theorem in_X11_box_11 : ∀ w ∈ u_ws RX11 TX11 53, w ∈ wsX11_box := fun _ h => List.mem_cons_of_mem _ (List.mem_append_right _ h)
theorem dX11_box_21 : decode cX11_box 21 = .ok (.bipush 8, 2) := dw16 (n := 0) (i := 21) (a := 8) kc_cX11_box_0 (by decide +kernel) (by decide)
theorem dX11_box_23 : decode cX11_box 23 = .ok (.if_icmp .ne 6, 3) := dw160 (n := 0) (i := 23) (a := 0) (b := 6) kc_cX11_box_0 (by decide +kernel) (by decide)
theorem dX11_box_29 : decode cX11_box 29 = .ok (.iload_n 2, 1) := dw28 (n := 0) (i := 29) kc_cX11_box_0 (by decide +kernel)
theorem dX11_box_30 : decode cX11_box 30 = .ok (.ifCond .ge 9, 3) := dw156 (n := 0) (i := 30) (a := 0) (b := 9) kc_cX11_box_0 (by decide +kernel) (by decide)
theorem dX11_box_39 : decode cX11_box 39 = .ok (.aload_n 0, 1) := dw42 (n := 32) (i := 7) kc_cX11_box_1 (by decide +kernel)
theorem dX11_box_40 : decode cX11_box 40 = .ok (.getfield 28, 3) := dw180 (n := 32) (i := 8) (a := 0) (b := 28) kc_cX11_box_1 (by decide +kernel) (by decide)
theorem dX11_box_43 : decode cX11_box 43 = .ok (.aload_n 0, 1) := dw42 (n := 32) (i := 11) kc_cX11_box_1 (by decide +kernel)
theorem dX11_box_44 : decode cX11_box 44 = .ok (.getfield 163, 3) := dw180 (n := 32) (i := 12) (a := 0) (b := 163) kc_cX11_box_1 (by decide +kernel) (by decide)
theorem dX11_box_47 : decode cX11_box 47 = .ok (.iload_n 1, 1) := dw27 (n := 32) (i := 15) kc_cX11_box_1 (by decide +kernel)
theorem dX11_box_48 : decode cX11_box 48 = .ok (.iastore, 1) := dw79 (n := 32) (i := 16) kc_cX11_box_1 (by decide +kernel)
theorem dX11_box_49 : decode cX11_box 49 = .ok (.aload_n 0, 1) := dw42 (n := 32) (i := 17) kc_cX11_box_1 (by decide +kernel)
theorem dX11_box_50 : decode cX11_box 50 = .ok (.getfield 31, 3) := dw180 (n := 32) (i := 18) (a := 0) (b := 31) kc_cX11_box_1 (by decide +kernel) (by decide)
theorem dX11_box_53 : decode cX11_box 53 = .ok (.aload_n 0, 1) := dw42 (n := 32) (i := 21) kc_cX11_box_1 (by decide +kernel)
theorem dX11_box_54 : decode cX11_box 54 = .ok (.getfield 163, 3) := dw180 (n := 32) (i := 22) (a := 0) (b := 163) kc_cX11_box_1 (by decide +kernel) (by decide)
theorem dX11_box_57 : decode cX11_box 57 = .ok (.iload_n 2, 1) := dw28 (n := 32) (i := 25) kc_cX11_box_1 (by decide +kernel)
theorem dX11_box_58 : decode cX11_box 58 = .ok (.iastore, 1) := dw79 (n := 32) (i := 26) kc_cX11_box_1 (by decide +kernel)
theorem dX11_box_59 : decode cX11_box 59 = .ok (.iconst 0, 1) := dw3 (n := 32) (i := 27) kc_cX11_box_1 (by decide +kernel)
theorem dX11_box_60 : decode cX11_box 60 = .ok (.istore_n 3, 1) := dw62 (n := 32) (i := 28) kc_cX11_box_1 (by decide +kernel)
theorem dX11_box_61 : decode cX11_box 61 = .ok (.iload_n 3, 1) := dw29 (n := 32) (i := 29) kc_cX11_box_1 (by decide +kernel)
theorem dX11_box_62 : decode cX11_box 62 = .ok (.bipush 40, 2) := dw16 (n := 32) (i := 30) (a := 40) kc_cX11_box_1 (by decide +kernel) (by decide)
theorem dX11_box_64 : decode cX11_box 64 = .ok (.if_icmp .ge 25, 3) := dw162 (n := 64) (i := 0) (a := 0) (b := 25) kc_cX11_box_2 (by decide +kernel) (by decide)
theorem dX11_box_89 : decode cX11_box 89 = .ok (.aload_n 0, 1) := dw42 (n := 64) (i := 25) kc_cX11_box_2 (by decide +kernel)
theorem dX11_box_90 : decode cX11_box 90 = .ok (.dup, 1) := dw89 (n := 64) (i := 26) kc_cX11_box_2 (by decide +kernel)
theorem dX11_box_91 : decode cX11_box 91 = .ok (.getfield 163, 3) := dw180 (n := 64) (i := 27) (a := 0) (b := 163) kc_cX11_box_2 (by decide +kernel) (by decide)
theorem dX11_box_94 : decode cX11_box 94 = .ok (.iconst 1, 1) := dw4 (n := 64) (i := 30) kc_cX11_box_2 (by decide +kernel)
theorem dX11_box_95 : decode cX11_box 95 = .ok (.iadd, 1) := dw96 (n := 64) (i := 31) kc_cX11_box_2 (by decide +kernel)
theorem dX11_box_96 : decode cX11_box 96 = .ok (.putfield 163, 3) := dw181 (n := 96) (i := 0) (a := 0) (b := 163) kc_cX11_box_3 (by decide +kernel) (by decide)
theorem dX11_box_99 : decode cX11_box 99 = .ok (.aload_n 0, 1) := dw42 (n := 96) (i := 3) kc_cX11_box_3 (by decide +kernel)
theorem dX11_box_100 : decode cX11_box 100 = .ok (.getfield 163, 3) := dw180 (n := 96) (i := 4) (a := 0) (b := 163) kc_cX11_box_3 (by decide +kernel) (by decide)
theorem dX11_box_103 : decode cX11_box 103 = .ok (.iconst 1, 1) := dw4 (n := 96) (i := 7) kc_cX11_box_3 (by decide +kernel)
theorem dX11_box_104 : decode cX11_box 104 = .ok (.isub, 1) := dw100 (n := 96) (i := 8) kc_cX11_box_3 (by decide +kernel)
theorem dX11_box_105 : decode cX11_box 105 = .ok (.ireturn, 1) := dw172 (n := 96) (i := 9) kc_cX11_box_3 (by decide +kernel)
theorem dX11_box_67 : decode cX11_box 67 = .ok (.aload_n 0, 1) := dw42 (n := 64) (i := 3) kc_cX11_box_2 (by decide +kernel)
theorem dX11_box_68 : decode cX11_box 68 = .ok (.getfield 34, 3) := dw180 (n := 64) (i := 4) (a := 0) (b := 34) kc_cX11_box_2 (by decide +kernel) (by decide)
theorem dX11_box_71 : decode cX11_box 71 = .ok (.bipush 40, 2) := dw16 (n := 64) (i := 7) (a := 40) kc_cX11_box_2 (by decide +kernel) (by decide)
theorem dX11_box_73 : decode cX11_box 73 = .ok (.aload_n 0, 1) := dw42 (n := 64) (i := 9) kc_cX11_box_2 (by decide +kernel)
theorem dX11_box_74 : decode cX11_box 74 = .ok (.getfield 163, 3) := dw180 (n := 64) (i := 10) (a := 0) (b := 163) kc_cX11_box_2 (by decide +kernel) (by decide)
theorem dX11_box_77 : decode cX11_box 77 = .ok (.imul, 1) := dw104 (n := 64) (i := 13) kc_cX11_box_2 (by decide +kernel)
theorem dX11_box_78 : decode cX11_box 78 = .ok (.iload_n 3, 1) := dw29 (n := 64) (i := 14) kc_cX11_box_2 (by decide +kernel)
theorem dX11_box_79 : decode cX11_box 79 = .ok (.iadd, 1) := dw96 (n := 64) (i := 15) kc_cX11_box_2 (by decide +kernel)
theorem dX11_box_80 : decode cX11_box 80 = .ok (.bipush (-9), 2) := dw16 (n := 64) (i := 16) (a := 247) kc_cX11_box_2 (by decide +kernel) (by decide)
theorem dX11_box_82 : decode cX11_box 82 = .ok (.iastore, 1) := dw79 (n := 64) (i := 18) kc_cX11_box_2 (by decide +kernel)
theorem dX11_box_83 : decode cX11_box 83 = .ok (.iinc 3 1, 3) := by decide +kernel
theorem dX11_box_86 : decode cX11_box 86 = .ok (.goto (-25), 3) := dw167 (n := 64) (i := 22) (a := 255) (b := 231) kc_cX11_box_2 (by decide +kernel) (by decide)
theorem dX11_box_33 : decode cX11_box 33 = .ok (.aload_n 0, 1) := dw42 (n := 32) (i := 1) kc_cX11_box_1 (by decide +kernel)
theorem dX11_box_34 : decode cX11_box 34 = .ok (.iconst 5, 1) := dw8 (n := 32) (i := 2) kc_cX11_box_1 (by decide +kernel)
theorem dX11_box_35 : decode cX11_box 35 = .ok (.invokevirtual 155, 3) := dw182 (n := 32) (i := 3) (a := 0) (b := 155) kc_cX11_box_1 (by decide +kernel) (by decide)
set_option maxRecDepth 20000 in
theorem ggX11_box_X11_meets : GoodIn wsX11_box wsX11_meets := (gk_code 12 rfl (gk_fieldLink 13 rfl (gk_fieldLink 14 rfl (gk_lays 15 rfl (gk_laysFinal 16 rfl (gk_lays 17 rfl (gk_laysFinal 18 rfl (gk_lays 19 rfl (gk_laysFinal 20 rfl (gk_laysFinal 21 rfl (gk_laysFinal 22 rfl (gk_laysFinal 23 rfl (gk_lays 24 rfl (gk_laysFinal 25 rfl (gk_laysFinal 26 rfl (gk_laysFinal 27 rfl (gk_laysFinal 28 rfl (gk_lays 29 rfl (gk_laysFinal 30 rfl (gk_laysFinal 31 rfl (gk_laysFinal 32 rfl (gk_laysFinal 33 rfl (gk_laysFinal 34 rfl (gk_laysFinal 35 rfl (gk_laysFinal 36 rfl (gk_laysFinal 37 rfl (gk_lays 38 rfl (gk_lays 39 rfl (gk_lays 40 rfl (gk_lays 41 rfl (gk_lays 42 rfl (gk_lays 43 rfl (gk_lays 44 rfl (gk_laysFinal 45 rfl (gk_lays 46 rfl (gk_laysFinal 47 rfl (gk_laysFinal 48 rfl (gk_laysFinal 49 rfl (gk_laysFinal 50 rfl (gk_laysFinal 51 rfl (gk_laysFinal 52 rfl (gk_laysFinal 53 rfl (gk_laysFinal 54 rfl (gk_laysFinal 55 rfl (gk_laysFinal 56 rfl (gk_lays 57 rfl (gk_laysFinal 58 rfl (gk_lays 59 rfl (gk_laysFinal 60 rfl (gk_laysFinal 61 rfl (gk_laysFinal 62 rfl (gk_laysFinal 63 rfl (gk_laysFinal 64 rfl (gk_laysFinal 65 rfl (gk_laysFinal 66 rfl (gk_laysFinal 67 rfl (gn)))))))))))))))))))))))))))))))))))))))))))))))))))))))))
set_option maxRecDepth 20000 in
theorem gX11_box_X11_meets : GoodIn wsX11_box (wsV RX11 155 RX11 yX11_meets wsX11_meets) := goodIn_app (gk_methodLink 9 rfl (gk_instanceMethod 10 rfl (gk_selects 11 rfl (gk_initialized 7 rfl (gn))))) ggX11_box_X11_meets
theorem dX11_box_38 : decode cX11_box 38 = .ok (.ireturn, 1) := dw172 (n := 32) (i := 6) kc_cX11_box_1 (by decide +kernel)
theorem dX11_box_26 : decode cX11_box 26 = .ok (.bipush (-2), 2) := dw16 (n := 0) (i := 26) (a := 254) kc_cX11_box_0 (by decide +kernel) (by decide)
theorem dX11_box_28 : decode cX11_box 28 = .ok (.ireturn, 1) := dw172 (n := 0) (i := 28) kc_cX11_box_0 (by decide +kernel)
set_option maxHeartbeats 4000000 in
set_option maxRecDepth 100000 in
theorem s_X11_box (l : Launch) (D : va_G) (ad : Nat → Nat) (cs : Nat → ClassId) (M : MI) (L : ML) (x : Int32) (y : Int32) (hI : IR M) : Ci l yX11_box wsX11_box ({ frames := 1, cells := 0, slots := 0, locals := 22 }) D ad cs [.ref (ad 258), .int x, .int y] M L (fun r M1 L1 => (A_box (vR M) x y = (r, vR M1)) ∧ IR M1 ∧ (∀ k i, ¬ (k = 258 ∧ i = 0) ∧ k ≠ 259 ∧ ¬ (k = 258 ∧ i = 9) ∧ k ≠ 265 ∧ k ≠ 266 ∧ k ≠ 267 → M1 k i = M k i) ∧ ∀ k i, True → L1 k i = L k i) := by
  refine enter_i RX11 rfl [(0, .ref (ad 258)), (1, .int x), (2, .int y)] rfl (Nat.le_of_ble_eq_true rfl) (by decide +kernel) rfl ?_
  intro p e s m below meth c C hr
  have hF : ∀ k i, ¬ (k = 258 ∧ i = 0) ∧ k ≠ 259 ∧ ¬ (k = 258 ∧ i = 9) ∧ k ≠ 265 ∧ k ≠ 266 ∧ k ≠ 267 → M k i = M k i := fun _ _ _ => rfl
  have hG : ∀ k i, True → L k i = L k i := fun _ _ _ => rfl
  have w0 : (vR M 0 0).toInt = (M 258 2).toInt := rfl
  have w1 : (vR M 0 1).toInt = (M 258 4).toInt := rfl
  have w2 : (vR M 0 2).toInt = (M 258 9).toInt := rfl
  have w3 : (vR M 0 3).toInt = (M 258 14).toInt := rfl
  obtain ⟨y0a, y0b⟩ := (show rg 0 10 (M 258 2) from hI 258 2)
  obtain ⟨y1a, y1b⟩ := (show rg 0 60 (M 258 4) from hI 258 4)
  obtain ⟨y2a, y2b⟩ := (show rg 0 8 (M 258 9) from hI 258 9)
  obtain ⟨y3a, y3b⟩ := (show rg 0 20 (M 258 14) from hI 258 14)
  have k0 : M 258 0 = vR M 0 4 := rfl
  have k9 : M 258 9 = vR M 0 2 := rfl
  have q259 : M 259 = M 259 := rfl
  have q265 : M 265 = M 265 := rfl
  have q266 : M 266 = M 266 := rfl
  have q267 : M 267 = M 267 := rfl
  have hV : vR M = vR M := rfl
  refine g_iload_n C 1 dX11_box_0 rfl ?_
  refine g_iconst C 0 dX11_box_1 (by decide) ?_
  refine g_iconst C 3 dX11_box_2 (by decide) ?_
  refine g_callSi C (n := 3) (As := [.int x, .int 0, .int 3]) (st := []) (c_X11_in l D ad cs _ _ x 0 3 ) gX11_box_X11_in rfl rfl rfl (by decide +kernel) ⟨Nat.le_of_ble_eq_true rfl, Nat.le_of_ble_eq_true rfl⟩ rfl (Nat.le_of_ble_eq_true rfl) ⟨Nat.zero_le _, Nat.zero_le _⟩ rfl dX11_box_3 (fun r1 M2 L3 hr1 => ?_)
  obtain ⟨hq1, hq2, hr1⟩ := hr1
  obtain rfl := hq1.symm
  obtain rfl := hq2.symm
  have hr1 := zo_in hr1 (by decide : (0 : Int32).toInt = 0) (by decide : (3 : Int32).toInt = 3)
  obtain ⟨bar1, bbr1⟩ := zo_b hr1
  refine g_if_eq C 15 dX11_box_6 (by decide) (fun c4 => ?_) (fun c4 => ?_)
  ·
    have f5 := feq rfl (by decide : (0 : Int32).toInt = 0) c4
    have pr1 := zo_f hr1 c4
    try dsimp only [hasC, hasB, hasX, hasM, ofS, ofK, bt] at pr1
    refine g_iconst C (-1) dX11_box_15 (by decide) ?_
    have zr9 : ((-1) : Int32).toInt = (-1) := by decide
    exact g_iret C hr ⟨(by dsimp only [A_box, hasC, hasB, hasX, hasM, ofS, ofK, bt, ix]; (repeat (first | rw [if_pos (by omega)] | rw [if_neg (by omega)])); first | done | rfl | (simp only [ix]; done) | (simp only [ix]; rfl) | (subst_vars; first | rfl | grind)), hI, hF, hG⟩ dX11_box_16
  ·
    have f6 := fne rfl (by decide : (0 : Int32).toInt = 0) c4
    have pr1 := zo_t hr1 c4
    try dsimp only [hasC, hasB, hasX, hasM, ofS, ofK, bt] at pr1
    refine g_iload_n C 2 dX11_box_9 rfl ?_
    refine g_bipush C 40 dX11_box_10 (by decide) ?_
    refine g_icmp_le C 17 dX11_box_12 (by decide) (fun c7 => ?_) (fun c7 => ?_)
    ·
      have f8 := fle rfl (by decide : (40 : Int32).toInt = 40) c7
      refine g_aload_n C 0 dX11_box_17 rfl ?_
      refine g_get C (.int (M 258 9)) 9 in_X11_box_11 (List.mem_of_getElem? (i := 1) rfl) (by decide) (ce_model ad cs _ _) rfl (by decide) rfl rfl dX11_box_18 ?_
      refine g_ni (fun v9 ev9 => ?_)
      have gv9 : v9 = vR M 0 2 := ev9.trans k9
      have tv9 := congrArg Int32.toInt gv9
      obtain ⟨bv9, dv9⟩ := (show rg 0 8 v9 from (by rw [ev9]; exact hI 258 9))
      refine g_bipush C 8 dX11_box_21 (by decide) ?_
      refine g_icmp_ne C 29 dX11_box_23 (by decide) (fun c10 => ?_) (fun c10 => ?_)
      ·
        have f11 := fne rfl (by decide : (8 : Int32).toInt = 8) c10
        refine g_iload_n C 2 dX11_box_29 rfl ?_
        refine g_if_ge C 39 dX11_box_30 (by decide) (fun c12 => ?_) (fun c12 => ?_)
        ·
          have f13 := fle (by decide : (0 : Int32).toInt = 0) rfl c12
          refine g_aload_n C 0 dX11_box_39 rfl ?_
          refine g_get C (.ref (ad 265)) 10 in_X11_box_11 (List.mem_of_getElem? (i := 2) rfl) (by decide) (ce_model ad cs _ _) rfl (by decide) rfl rfl dX11_box_40 ?_
          refine g_aload_n C 0 dX11_box_43 rfl ?_
          refine g_get C (.int (M 258 9)) 9 in_X11_box_11 (List.mem_of_getElem? (i := 1) rfl) (by decide) (ce_model ad cs _ _) rfl (by decide) rfl rfl dX11_box_44 ?_
          refine g_ni (fun v14 ev14 => ?_)
          have gv14 : v14 = vR M 0 2 := ev14.trans k9
          have tv14 := congrArg Int32.toInt gv14
          obtain ⟨bv14, dv14⟩ := (show rg 0 8 v14 from (by rw [ev14]; exact hI 258 9))
          refine g_iload_n C 1 dX11_box_47 rfl ?_
          refine g_iast C (by decide) (ce_m_boxSort ad cs _ _) (by rw [sI_k]; rfl) (fin' (n := 8) rfl (by omega) (by omega)) dX11_box_48 ?_
          refine g_nm (fun M15 hM15 => ?_)
          have hI : IR M15 := by rw [hM15]; exact hI.st (show bR 265 _ _ from trivial)
          have hF : ∀ k i, ¬ (k = 258 ∧ i = 0) ∧ k ≠ 259 ∧ ¬ (k = 258 ∧ i = 9) ∧ k ≠ 265 ∧ k ≠ 266 ∧ k ≠ 267 → M15 k i = M k i := fun k i hk => by (rw [hM15, sI_at, if_neg (by omega)]; try exact hF k i hk)
          have k0 : M15 258 0 = vR M 0 4 := by rw [hM15, sI_n _ _ _ (by decide)]; try exact k0
          have k9 : M15 258 9 = vR M 0 2 := by rw [hM15, sI_n _ _ _ (by decide)]; try exact k9
          have q259 : M15 259 = M 259 := by rw [hM15, sI_n _ _ _ (by decide)]; try exact q259
          have q266 : M15 266 = M 266 := by rw [hM15, sI_n _ _ _ (by decide)]; try exact q266
          have q267 : M15 267 = M 267 := by rw [hM15, sI_n _ _ _ (by decide)]; try exact q267
          have hV : vR M15 = sI (vR M) 6 v14.toNatClampNeg x := by rw [hM15, vR_a (c := 6) (by decide), hV]
          refine g_aload_n C 0 dX11_box_49 rfl ?_
          refine g_get C (.ref (ad 266)) 11 in_X11_box_11 (List.mem_of_getElem? (i := 3) rfl) (by decide) (ce_model ad cs _ _) rfl (by decide) rfl rfl dX11_box_50 ?_
          refine g_aload_n C 0 dX11_box_53 rfl ?_
          refine g_get C (.int (M15 258 9)) 9 in_X11_box_11 (List.mem_of_getElem? (i := 1) rfl) (by decide) (ce_model ad cs _ _) rfl (by decide) rfl rfl dX11_box_54 ?_
          refine g_ni (fun v16 ev16 => ?_)
          have gv16 : v16 = vR M 0 2 := ev16.trans k9
          have tv16 := congrArg Int32.toInt gv16
          obtain ⟨bv16, dv16⟩ := (show rg 0 8 v16 from (by rw [ev16]; exact hI 258 9))
          refine g_iload_n C 2 dX11_box_57 rfl ?_
          refine g_iast C (by decide) (ce_m_boxSize ad cs _ _) (by rw [sI_k]; rfl) (fin' (n := 8) rfl (by omega) (by omega)) dX11_box_58 ?_
          refine g_nm (fun M17 hM17 => ?_)
          have hI : IR M17 := by rw [hM17]; exact hI.st (show bR 266 _ _ from ⟨by first | omega | decide, by first | omega | decide⟩)
          have hF : ∀ k i, ¬ (k = 258 ∧ i = 0) ∧ k ≠ 259 ∧ ¬ (k = 258 ∧ i = 9) ∧ k ≠ 265 ∧ k ≠ 266 ∧ k ≠ 267 → M17 k i = M k i := fun k i hk => by (rw [hM17, sI_at, if_neg (by omega)]; try exact hF k i hk)
          have k0 : M17 258 0 = vR M 0 4 := by rw [hM17, sI_n _ _ _ (by decide)]; try exact k0
          have k9 : M17 258 9 = vR M 0 2 := by rw [hM17, sI_n _ _ _ (by decide)]; try exact k9
          have q259 : M17 259 = M 259 := by rw [hM17, sI_n _ _ _ (by decide)]; try exact q259
          have q267 : M17 267 = M 267 := by rw [hM17, sI_n _ _ _ (by decide)]; try exact q267
          have hV : vR M17 = sI (sI (vR M) 6 v14.toNatClampNeg x) 7 v16.toNatClampNeg y := by rw [hM17, vR_a (c := 7) (by decide), hV]
          refine g_iconst C 0 dX11_box_59 (by decide) ?_
          refine g_istore_n C [(3, .int 0), (0, .ref (ad 258)), (1, .int x), (2, .int y)] dX11_box_60 (by decide) rfl ?_
          have zy18 : (0 : Int32).toInt = 0 := by decide
          refine g_loop (α := Int32 × MI × ML) (fun a => (41 - a.1.toInt).toNat) (fun a => (0 ≤ a.1.toInt) ∧ (a.1.toInt ≤ 40) ∧ (a.2.1 258 9 = vR M 0 2) ∧ (∀ j : Nat, j < a.1.toNatClampNeg → a.2.1 267 (40 * (vR M 0 2).toNatClampNeg + j) = -9) ∧ (vR a.2.1 = sI (sI (vR M) 6 v14.toNatClampNeg x) 7 v16.toNatClampNeg y) ∧ IR a.2.1 ∧ (∀ k i, ¬ (k = 258 ∧ i = 0) ∧ k ≠ 259 ∧ ¬ (k = 258 ∧ i = 9) ∧ k ≠ 265 ∧ k ≠ 266 ∧ k ≠ 267 → a.2.1 k i = M k i) ∧ (∀ k i, True → a.2.2 k i = L k i)) (fun a => a.2.1) (fun a => a.2.2) (fun a => [(3, .int a.1), (0, .ref (ad 258)), (1, .int x), (2, .int y)]) ((0 : Int32), M17, L) ⟨by show 0 ≤ (0 : Int32).toInt; omega, by show (0 : Int32).toInt ≤ 40; omega, by show M17 258 9 = vR M 0 2; exact k9, by show ∀ j : Nat, j < (0 : Int32).toNatClampNeg → M17 267 (40 * (vR M 0 2).toNatClampNeg + j) = -9; intro j hj; exact absurd hj (by show ¬ j < 0; omega), by show vR M17 = sI (sI (vR M) 6 v14.toNatClampNeg x) 7 v16.toNatClampNeg y; exact hV, hI, hF, hG⟩ rfl rfl rfl ?_
          rintro ⟨x3_61, M_61, L_61⟩ ⟨j61_0, j61_1, j61_2, j61_3, j61_4, hI, hF, hG⟩ ih_61
          dsimp only at j61_0 j61_1 j61_2 j61_3 j61_4 hI hF hG ih_61 ⊢
          have k0 : M_61 258 0 = M_61 258 0 := rfl
          have k9 : M_61 258 9 = M_61 258 9 := rfl
          have hV := j61_4
          have q259 : M_61 259 = M_61 259 := rfl
          have q265 : M_61 265 = M_61 265 := rfl
          have q266 : M_61 266 = M_61 266 := rfl
          have q267 : M_61 267 = M_61 267 := rfl
          have n3 := ixn (x := x3_61) (by omega)
          have k9t := congrArg Int32.toInt j61_2
          have n02 := ixn (x := vR M 0 2) (by omega)
          refine g_iload_n C 0 dX11_box_61 rfl ?_
          refine g_bipush C 40 dX11_box_62 (by decide) ?_
          refine g_icmp_ge C 89 dX11_box_64 (by decide) (fun c19 => ?_) (fun c19 => ?_)
          ·
            have f20 := fle (by decide : (40 : Int32).toInt = 40) rfl c19
            refine g_aload_n C 1 dX11_box_89 rfl ?_
            refine g_dup C dX11_box_90 rfl ?_
            refine g_get C (.int (M_61 258 9)) 9 in_X11_box_11 (List.mem_of_getElem? (i := 1) rfl) (by decide) (ce_model ad cs _ _) rfl (by decide) rfl rfl dX11_box_91 ?_
            refine g_ni (fun v21 ev21 => ?_)
            have gv21 : v21 = M_61 258 9 := ev21.trans k9
            have tv21 := congrArg Int32.toInt gv21
            obtain ⟨bv21, dv21⟩ := (show rg 0 8 v21 from (by rw [ev21]; exact hI 258 9))
            refine g_iconst C 1 dX11_box_94 (by decide) ?_
            refine g_iadd C dX11_box_95 ?_
            refine g_ni (fun v22 ev22 => ?_)
            try have fv22 := fadd rfl (by decide : (1 : Int32).toInt = 1) ev22 (by omega) (by omega)
            refine g_putI C 9 in_X11_box_11 (List.mem_of_getElem? (i := 1) rfl) (by decide) (ce_model ad cs _ _) rfl (by decide) rfl tyX11 tyX11_ok nmX11 rfl rfl rfl rfl (Nat.le_of_ble_eq_true rfl) (by rw [sI_k]; rfl) dX11_box_96 ?_
            refine g_nm (fun M23 hM23 => ?_)
            have hI : IR M23 := by rw [hM23]; exact hI.st (show bR 258 9 _ from ⟨by first | omega | decide, by first | omega | decide⟩)
            have hF : ∀ k i, ¬ (k = 258 ∧ i = 0) ∧ k ≠ 259 ∧ ¬ (k = 258 ∧ i = 9) ∧ k ≠ 265 ∧ k ≠ 266 ∧ k ≠ 267 → M23 k i = M k i := fun k i hk => by (rw [hM23, sI_at, if_neg (by omega)]; try exact hF k i hk)
            have k0 : M23 258 0 = M_61 258 0 := by rw [hM23, sI_at, if_neg (by decide)]; try exact k0
            have k9 : M23 258 9 = v22 := by rw [hM23, sI_at, if_pos (by decide)]
            have q259 : M23 259 = M_61 259 := by rw [hM23, sI_n _ _ _ (by decide)]; try exact q259
            have q265 : M23 265 = M_61 265 := by rw [hM23, sI_n _ _ _ (by decide)]; try exact q265
            have q266 : M23 266 = M_61 266 := by rw [hM23, sI_n _ _ _ (by decide)]; try exact q266
            have q267 : M23 267 = M_61 267 := by rw [hM23, sI_n _ _ _ (by decide)]; try exact q267
            have hV : vR M23 = sI (sI (sI (vR M) 6 v14.toNatClampNeg x) 7 v16.toNatClampNeg y) 0 2 v22 := by rw [hM23, vR_bx (M := M_61) (n := (vR M 0 2).toNatClampNeg) (by omega) (by omega) (fun j hj => j61_3 j (by omega)), hV]
            refine g_aload_n C 1 dX11_box_99 rfl ?_
            refine g_get C (.int (M23 258 9)) 9 in_X11_box_11 (List.mem_of_getElem? (i := 1) rfl) (by decide) (ce_model ad cs _ _) rfl (by decide) rfl rfl dX11_box_100 ?_
            refine g_ni (fun v24 ev24 => ?_)
            have gv24 : v24 = v22 := ev24.trans k9
            have tv24 := congrArg Int32.toInt gv24
            obtain ⟨bv24, dv24⟩ := (show rg 0 8 v24 from (by rw [ev24]; exact hI 258 9))
            refine g_iconst C 1 dX11_box_103 (by decide) ?_
            refine g_isub C dX11_box_104 ?_
            refine g_ni (fun v25 ev25 => ?_)
            try have fv25 := fsub rfl (by decide : (1 : Int32).toInt = 1) ev25 (by omega) (by omega)
            exact g_iret C hr ⟨(by dsimp only [A_box, hasC, hasB, hasX, hasM, ofS, ofK, bt, ix]; (repeat (first | rw [if_pos (by omega)] | rw [if_neg (by omega)])); rw [hV]; first | done | rfl | (simp only [ev25, gv24, ev22, gv21, gv16, gv14, gv9]; done) | (simp only [ev25, gv24, ev22, gv21, gv16, gv14, gv9]; rfl) | (subst_vars; first | rfl | grind)), hI, hF, hG⟩ dX11_box_105
          ·
            have f26 := fnle (by decide : (40 : Int32).toInt = 40) rfl c19
            refine g_aload_n C 1 dX11_box_67 rfl ?_
            refine g_get C (.ref (ad 267)) 12 in_X11_box_11 (List.mem_of_getElem? (i := 4) rfl) (by decide) (ce_model ad cs _ _) rfl (by decide) rfl rfl dX11_box_68 ?_
            refine g_bipush C 40 dX11_box_71 (by decide) ?_
            refine g_aload_n C 1 dX11_box_73 rfl ?_
            refine g_get C (.int (M_61 258 9)) 9 in_X11_box_11 (List.mem_of_getElem? (i := 1) rfl) (by decide) (ce_model ad cs _ _) rfl (by decide) rfl rfl dX11_box_74 ?_
            refine g_ni (fun v27 ev27 => ?_)
            have gv27 : v27 = M_61 258 9 := ev27.trans k9
            have tv27 := congrArg Int32.toInt gv27
            obtain ⟨bv27, dv27⟩ := (show rg 0 8 v27 from (by rw [ev27]; exact hI 258 9))
            refine g_imul C dX11_box_77 ?_
            refine g_ni (fun v28 ev28 => ?_)
            try have fv28 := fmul (by decide : (40 : Int32).toInt = 40) rfl ev28 (by omega) (by omega)
            refine g_iload_n C 0 dX11_box_78 rfl ?_
            refine g_iadd C dX11_box_79 ?_
            refine g_ni (fun v29 ev29 => ?_)
            try have fv29 := fadd rfl rfl ev29 (by omega) (by omega)
            refine g_bipush C (-9) dX11_box_80 (by decide) ?_
            refine g_iast C (by decide) (ce_m_boxed ad cs _ _) (by rw [sI_k]; rfl) (fin' (n := 320) rfl (by omega) (by omega)) dX11_box_82 ?_
            have nv27 := ixn (x := v27) (by omega)
            have nx3_61 := ixn (x := x3_61) (by omega)
            have nv29 := ixn (x := v29) (by omega)
            have iv29 : v29.toNatClampNeg = 40 * v27.toNatClampNeg + x3_61.toNatClampNeg := by omega
            refine g_nm (fun M30 hM30 => ?_)
            have zy31 : ((-9) : Int32).toInt = (-9) := by decide
            have hI : IR M30 := by rw [hM30]; exact hI.st (show bR 267 _ _ from (by show bxd _; unfold bxd; omega))
            have hF : ∀ k i, ¬ (k = 258 ∧ i = 0) ∧ k ≠ 259 ∧ ¬ (k = 258 ∧ i = 9) ∧ k ≠ 265 ∧ k ≠ 266 ∧ k ≠ 267 → M30 k i = M k i := fun k i hk => by (rw [hM30, sI_at, if_neg (by omega)]; try exact hF k i hk)
            have k0 : M30 258 0 = M_61 258 0 := by rw [hM30, sI_n _ _ _ (by decide)]; try exact k0
            have k9 : M30 258 9 = M_61 258 9 := by rw [hM30, sI_n _ _ _ (by decide)]; try exact k9
            have q259 : M30 259 = M_61 259 := by rw [hM30, sI_n _ _ _ (by decide)]; try exact q259
            have q265 : M30 265 = M_61 265 := by rw [hM30, sI_n _ _ _ (by decide)]; try exact q265
            have q266 : M30 266 = M_61 266 := by rw [hM30, sI_n _ _ _ (by decide)]; try exact q266
            have hcM30 : M30 = sI M_61 267 (40 * v27.toNatClampNeg + x3_61.toNatClampNeg) (((-9))) := by rw [hM30, iv29]
            have o9 : M_61 258 9 = M_61 258 9 := by have h9 := k9; rw [hM30, sI_n _ _ _ (by decide)] at h9; first | done | exact h9 | rfl
            have o9t := congrArg Int32.toInt o9
            have hV : vR M30 = sI (sI (vR M) 6 v14.toNatClampNeg x) 7 v16.toNatClampNeg y := by rw [hcM30, vR_bm (by omega), hV]
            obtain ⟨v32, ev32⟩ : ∃ y : Int32, y = x3_61 + 1 := ⟨_, rfl⟩
            try have fv32 := fadd rfl (by decide : (1 : Int32).toInt = 1) ev32 (by omega) (by omega)
            refine g_iinc C 0 v32 [(3, .int v32), (0, .ref (ad 258)), (1, .int x), (2, .int y)] dX11_box_83 rfl (by rw [ev32]; rfl) (by decide) rfl ?_
            refine g_goto C 61 dX11_box_86 (by decide) ?_
            have nv := ixn (x := v32) (by omega)
            have hall : ∀ j : Nat, j < v32.toNatClampNeg → M30 267 (40 * (vR M 0 2).toNatClampNeg + j) = -9 := by
              intro j hj
              rw [hcM30, sI_at]
              by_cases e9 : j = x3_61.toNatClampNeg
              · rw [if_pos ⟨rfl, by omega⟩]
              · rw [if_neg (by omega)]; exact j61_3 j (by omega)
            exact ih_61 (v32, M30, L_61) ⟨by show 0 ≤ v32.toInt; omega, by show v32.toInt ≤ 40; omega, by show M30 258 9 = vR M 0 2; exact k9.trans j61_2, by show ∀ j : Nat, j < v32.toNatClampNeg → M30 267 (40 * (vR M 0 2).toNatClampNeg + j) = -9; exact hall, by show vR M30 = sI (sI (vR M) 6 v14.toNatClampNeg x) 7 v16.toNatClampNeg y; exact hV, hI, hF, hG⟩ (by show (41 - v32.toInt).toNat < (41 - x3_61.toInt).toNat; omega)
        ·
          have f33 := fnle (by decide : (0 : Int32).toInt = 0) rfl c12
          refine g_aload_n C 0 dX11_box_33 rfl ?_
          refine g_iconst C 5 dX11_box_34 (by decide) ?_
          refine g_callVi C (n := 1) (As := [.int 5]) (st := []) (s_X11_meets l D ad cs _ _ 5 hI ⟨by first | omega | decide, by first | omega | decide⟩) gX11_box_X11_meets rfl rfl rfl (by decide +kernel) ⟨Nat.le_of_ble_eq_true rfl, Nat.le_of_ble_eq_true rfl⟩ rfl (Nat.le_of_ble_eq_true rfl) ⟨Nat.zero_le _, Nat.zero_le _⟩ (by decide) (ce_model ad cs _ _) rfl rfl dX11_box_35 (fun r34 M35 L36 hr34 => ?_)
          obtain ⟨hr34, hI, hFr34, hGr34⟩ := hr34
          have hF : ∀ k i, ¬ (k = 258 ∧ i = 0) ∧ k ≠ 259 ∧ ¬ (k = 258 ∧ i = 9) ∧ k ≠ 265 ∧ k ≠ 266 ∧ k ≠ 267 → M35 k i = M k i := fun k i hk => by (rw [hFr34 k i (by omega)]; try exact hF k i hk)
          have hG : ∀ k i, True → L36 k i = L k i := fun k i hk => by (rw [hGr34 k i trivial]; try exact hG k i hk)
          have hV : vR M35 = meetsV (vR M) 5 := by rw [hr34.2, hV]
          have k9 : M35 258 9 = vR M 0 2 := (hFr34 258 9 (by omega)).trans k9
          have k0 : M35 258 0 = M35 258 0 := rfl
          have q259 : M35 259 = M35 259 := rfl
          have q265 : M35 265 = M 265 := (funext (fun i => hFr34 265 i (by omega))).trans q265
          have q266 : M35 266 = M 266 := (funext (fun i => hFr34 266 i (by omega))).trans q266
          have q267 : M35 267 = M 267 := (funext (fun i => hFr34 267 i (by omega))).trans q267
          exact g_iret C hr ⟨(by dsimp only [A_box, hasC, hasB, hasX, hasM, ofS, ofK, bt, ix]; (repeat (first | rw [if_pos (by omega)] | rw [if_neg (by omega)])); rw [hV]; first | done | rfl | (simp only [gv9]; done) | (simp only [gv9]; rfl) | (subst_vars; first | rfl | grind)), hI, hF, hG⟩ dX11_box_38
      ·
        have f37 := feq rfl (by decide : (8 : Int32).toInt = 8) c10
        refine g_bipush C (-2) dX11_box_26 (by decide) ?_
        have zr9 : ((-2) : Int32).toInt = (-2) := by decide
        exact g_iret C hr ⟨(by dsimp only [A_box, hasC, hasB, hasX, hasM, ofS, ofK, bt, ix]; (repeat (first | rw [if_pos (by omega)] | rw [if_neg (by omega)])); first | done | rfl | (simp only [gv9]; done) | (simp only [gv9]; rfl) | (subst_vars; first | rfl | grind)), hI, hF, hG⟩ dX11_box_28
    ·
      have f38 := fnle rfl (by decide : (40 : Int32).toInt = 40) c7
      refine g_iconst C (-1) dX11_box_15 (by decide) ?_
      have zr9 : ((-1) : Int32).toInt = (-1) := by decide
      exact g_iret C hr ⟨(by dsimp only [A_box, hasC, hasB, hasX, hasM, ofS, ofK, bt, ix]; (repeat (first | rw [if_pos (by omega)] | rw [if_neg (by omega)])); first | done | rfl | (simp only [ix]; done) | (simp only [ix]; rfl) | (subst_vars; first | rfl | grind)), hI, hF, hG⟩ dX11_box_16
theorem dX11_pour_0 : decode cX11_pour 0 = .ok (.aload_n 0, 1) := dw42 (n := 0) (i := 0) kc_cX11_pour_0 (by decide +kernel)
theorem dX11_pour_1 : decode cX11_pour 1 = .ok (.iload_n 1, 1) := dw27 (n := 0) (i := 1) kc_cX11_pour_0 (by decide +kernel)
theorem dX11_pour_2 : decode cX11_pour 2 = .ok (.invokevirtual 166, 3) := dw182 (n := 0) (i := 2) (a := 0) (b := 166) kc_cX11_pour_0 (by decide +kernel) (by decide)
set_option maxRecDepth 20000 in
theorem ggX11_pour_X11_isBox : GoodIn wsX11_pour wsX11_isBox := (gk_code 9 rfl (gk_fieldLink 10 rfl (gk_methodLink 11 rfl (gk_static 12 rfl (gk_initialized 8 rfl (gk_code 13 rfl (gk_lays 20 rfl (gk_laysFinal 21 rfl (gk_lays 22 rfl (gk_laysFinal 23 rfl (gk_lays 24 rfl (gk_laysFinal 25 rfl (gk_laysFinal 26 rfl (gk_laysFinal 27 rfl (gk_laysFinal 28 rfl (gk_lays 29 rfl (gk_laysFinal 30 rfl (gk_laysFinal 31 rfl (gk_laysFinal 32 rfl (gk_laysFinal 33 rfl (gk_lays 34 rfl (gk_laysFinal 35 rfl (gk_laysFinal 36 rfl (gk_laysFinal 37 rfl (gk_laysFinal 38 rfl (gk_laysFinal 39 rfl (gk_laysFinal 40 rfl (gk_laysFinal 41 rfl (gk_laysFinal 42 rfl (gk_lays 43 rfl (gk_lays 44 rfl (gk_lays 45 rfl (gk_lays 46 rfl (gk_lays 47 rfl (gk_lays 48 rfl (gk_lays 49 rfl (gk_laysFinal 50 rfl (gk_lays 51 rfl (gk_laysFinal 52 rfl (gk_laysFinal 53 rfl (gk_laysFinal 54 rfl (gk_laysFinal 55 rfl (gk_laysFinal 56 rfl (gk_laysFinal 57 rfl (gk_laysFinal 58 rfl (gk_laysFinal 59 rfl (gk_laysFinal 60 rfl (gk_laysFinal 61 rfl (gk_lays 62 rfl (gk_laysFinal 63 rfl (gk_lays 64 rfl (gk_laysFinal 65 rfl (gk_laysFinal 66 rfl (gk_laysFinal 67 rfl (gk_laysFinal 68 rfl (gk_laysFinal 69 rfl (gk_laysFinal 70 rfl (gk_laysFinal 71 rfl (gk_laysFinal 72 rfl (gn))))))))))))))))))))))))))))))))))))))))))))))))))))))))))))
set_option maxRecDepth 20000 in
theorem gX11_pour_X11_isBox : GoodIn wsX11_pour (wsV RX11 166 RX11 yX11_isBox wsX11_isBox) := goodIn_app (gk_methodLink 5 rfl (gk_instanceMethod 6 rfl (gk_selects 7 rfl (gk_initialized 8 rfl (gn))))) ggX11_pour_X11_isBox
theorem dX11_pour_5 : decode cX11_pour 5 = .ok (.ifCond .eq 11, 3) := dw153 (n := 0) (i := 5) (a := 0) (b := 11) kc_cX11_pour_0 (by decide +kernel) (by decide)
theorem dX11_pour_16 : decode cX11_pour 16 = .ok (.iconst (-1), 1) := dw2 (n := 0) (i := 16) kc_cX11_pour_0 (by decide +kernel)
theorem dX11_pour_17 : decode cX11_pour 17 = .ok (.ireturn, 1) := dw172 (n := 0) (i := 17) kc_cX11_pour_0 (by decide +kernel)
theorem dX11_pour_8 : decode cX11_pour 8 = .ok (.aload_n 0, 1) := dw42 (n := 0) (i := 8) kc_cX11_pour_0 (by decide +kernel)
theorem dX11_pour_9 : decode cX11_pour 9 = .ok (.iload_n 3, 1) := dw29 (n := 0) (i := 9) kc_cX11_pour_0 (by decide +kernel)
theorem dX11_pour_10 : decode cX11_pour 10 = .ok (.invokevirtual 166, 3) := dw182 (n := 0) (i := 10) (a := 0) (b := 166) kc_cX11_pour_0 (by decide +kernel) (by decide)
theorem dX11_pour_13 : decode cX11_pour 13 = .ok (.ifCond .ne 5, 3) := dw154 (n := 0) (i := 13) (a := 0) (b := 5) kc_cX11_pour_0 (by decide +kernel) (by decide)
theorem dX11_pour_18 : decode cX11_pour 18 = .ok (.aload_n 0, 1) := dw42 (n := 0) (i := 18) kc_cX11_pour_0 (by decide +kernel)
theorem dX11_pour_19 : decode cX11_pour 19 = .ok (.getfield 28, 3) := dw180 (n := 0) (i := 19) (a := 0) (b := 28) kc_cX11_pour_0 (by decide +kernel) (by decide)
theorem in_X11_pour_11 : ∀ w ∈ u_ws RX11 TX11 53, w ∈ wsX11_pour := fun _ h => List.mem_cons_of_mem _ (List.mem_append_right _ h)
theorem dX11_pour_22 : decode cX11_pour 22 = .ok (.iload_n 1, 1) := dw27 (n := 0) (i := 22) kc_cX11_pour_0 (by decide +kernel)
theorem dX11_pour_23 : decode cX11_pour 23 = .ok (.iaload, 1) := dw46 (n := 0) (i := 23) kc_cX11_pour_0 (by decide +kernel)
theorem dX11_pour_24 : decode cX11_pour 24 = .ok (.aload_n 0, 1) := dw42 (n := 0) (i := 24) kc_cX11_pour_0 (by decide +kernel)
theorem dX11_pour_25 : decode cX11_pour 25 = .ok (.getfield 28, 3) := dw180 (n := 0) (i := 25) (a := 0) (b := 28) kc_cX11_pour_0 (by decide +kernel) (by decide)
theorem dX11_pour_28 : decode cX11_pour 28 = .ok (.iload_n 3, 1) := dw29 (n := 0) (i := 28) kc_cX11_pour_0 (by decide +kernel)
theorem dX11_pour_29 : decode cX11_pour 29 = .ok (.iaload, 1) := dw46 (n := 0) (i := 29) kc_cX11_pour_0 (by decide +kernel)
theorem dX11_pour_30 : decode cX11_pour 30 = .ok (.if_icmp .eq 10, 3) := dw159 (n := 0) (i := 30) (a := 0) (b := 10) kc_cX11_pour_0 (by decide +kernel) (by decide)
theorem dX11_pour_40 : decode cX11_pour 40 = .ok (.iload_n 2, 1) := dw28 (n := 32) (i := 8) kc_cX11_pour_1 (by decide +kernel)
theorem dX11_pour_41 : decode cX11_pour 41 = .ok (.ifCond .lt 48, 3) := dw155 (n := 32) (i := 9) (a := 0) (b := 48) kc_cX11_pour_1 (by decide +kernel) (by decide)
theorem dX11_pour_89 : decode cX11_pour 89 = .ok (.aload_n 0, 1) := dw42 (n := 64) (i := 25) kc_cX11_pour_2 (by decide +kernel)
theorem dX11_pour_90 : decode cX11_pour 90 = .ok (.iconst 2, 1) := dw5 (n := 64) (i := 26) kc_cX11_pour_2 (by decide +kernel)
theorem dX11_pour_91 : decode cX11_pour 91 = .ok (.invokevirtual 155, 3) := dw182 (n := 64) (i := 27) (a := 0) (b := 155) kc_cX11_pour_2 (by decide +kernel) (by decide)
set_option maxRecDepth 20000 in
theorem ggX11_pour_X11_meets : GoodIn wsX11_pour wsX11_meets := (gk_code 17 rfl (gk_fieldLink 18 rfl (gk_fieldLink 19 rfl (gk_lays 20 rfl (gk_laysFinal 21 rfl (gk_lays 22 rfl (gk_laysFinal 23 rfl (gk_lays 24 rfl (gk_laysFinal 25 rfl (gk_laysFinal 26 rfl (gk_laysFinal 27 rfl (gk_laysFinal 28 rfl (gk_lays 29 rfl (gk_laysFinal 30 rfl (gk_laysFinal 31 rfl (gk_laysFinal 32 rfl (gk_laysFinal 33 rfl (gk_lays 34 rfl (gk_laysFinal 35 rfl (gk_laysFinal 36 rfl (gk_laysFinal 37 rfl (gk_laysFinal 38 rfl (gk_laysFinal 39 rfl (gk_laysFinal 40 rfl (gk_laysFinal 41 rfl (gk_laysFinal 42 rfl (gk_lays 43 rfl (gk_lays 44 rfl (gk_lays 45 rfl (gk_lays 46 rfl (gk_lays 47 rfl (gk_lays 48 rfl (gk_lays 49 rfl (gk_laysFinal 50 rfl (gk_lays 51 rfl (gk_laysFinal 52 rfl (gk_laysFinal 53 rfl (gk_laysFinal 54 rfl (gk_laysFinal 55 rfl (gk_laysFinal 56 rfl (gk_laysFinal 57 rfl (gk_laysFinal 58 rfl (gk_laysFinal 59 rfl (gk_laysFinal 60 rfl (gk_laysFinal 61 rfl (gk_lays 62 rfl (gk_laysFinal 63 rfl (gk_lays 64 rfl (gk_laysFinal 65 rfl (gk_laysFinal 66 rfl (gk_laysFinal 67 rfl (gk_laysFinal 68 rfl (gk_laysFinal 69 rfl (gk_laysFinal 70 rfl (gk_laysFinal 71 rfl (gk_laysFinal 72 rfl (gn)))))))))))))))))))))))))))))))))))))))))))))))))))))))))
set_option maxRecDepth 20000 in
theorem gX11_pour_X11_meets : GoodIn wsX11_pour (wsV RX11 155 RX11 yX11_meets wsX11_meets) := goodIn_app (gk_methodLink 14 rfl (gk_instanceMethod 15 rfl (gk_selects 16 rfl (gk_initialized 8 rfl (gn))))) ggX11_pour_X11_meets
theorem dX11_pour_94 : decode cX11_pour 94 = .ok (.ireturn, 1) := dw172 (n := 64) (i := 30) kc_cX11_pour_2 (by decide +kernel)
theorem dX11_pour_44 : decode cX11_pour 44 = .ok (.iload 4, 2) := dw21 (n := 32) (i := 12) (a := 4) kc_cX11_pour_1 (by decide +kernel) (by decide)
theorem dX11_pour_46 : decode cX11_pour 46 = .ok (.ifCond .lt 43, 3) := dw155 (n := 32) (i := 14) (a := 0) (b := 43) kc_cX11_pour_1 (by decide +kernel) (by decide)
theorem dX11_pour_49 : decode cX11_pour 49 = .ok (.iload 5, 2) := dw21 (n := 32) (i := 17) (a := 5) kc_cX11_pour_1 (by decide +kernel) (by decide)
theorem dX11_pour_51 : decode cX11_pour 51 = .ok (.ifCond .lt 38, 3) := dw155 (n := 32) (i := 19) (a := 0) (b := 38) kc_cX11_pour_1 (by decide +kernel) (by decide)
theorem dX11_pour_54 : decode cX11_pour 54 = .ok (.iload_n 2, 1) := dw28 (n := 32) (i := 22) kc_cX11_pour_1 (by decide +kernel)
theorem dX11_pour_55 : decode cX11_pour 55 = .ok (.i2l, 1) := dw133 (n := 32) (i := 23) kc_cX11_pour_1 (by decide +kernel)
theorem dX11_pour_56 : decode cX11_pour 56 = .ok (.iload 5, 2) := dw21 (n := 32) (i := 24) (a := 5) kc_cX11_pour_1 (by decide +kernel) (by decide)
theorem dX11_pour_58 : decode cX11_pour 58 = .ok (.i2l, 1) := dw133 (n := 32) (i := 26) kc_cX11_pour_1 (by decide +kernel)
theorem dX11_pour_59 : decode cX11_pour 59 = .ok (.ladd, 1) := dw97 (n := 32) (i := 27) kc_cX11_pour_1 (by decide +kernel)
theorem dX11_pour_60 : decode cX11_pour 60 = .ok (.aload_n 0, 1) := dw42 (n := 32) (i := 28) kc_cX11_pour_1 (by decide +kernel)
theorem dX11_pour_61 : decode cX11_pour 61 = .ok (.getfield 31, 3) := dw180 (n := 32) (i := 29) (a := 0) (b := 31) kc_cX11_pour_1 (by decide +kernel) (by decide)
theorem dX11_pour_64 : decode cX11_pour 64 = .ok (.iload_n 1, 1) := dw27 (n := 64) (i := 0) kc_cX11_pour_2 (by decide +kernel)
theorem dX11_pour_65 : decode cX11_pour 65 = .ok (.iaload, 1) := dw46 (n := 64) (i := 1) kc_cX11_pour_2 (by decide +kernel)
theorem dX11_pour_66 : decode cX11_pour 66 = .ok (.i2l, 1) := dw133 (n := 64) (i := 2) kc_cX11_pour_2 (by decide +kernel)
theorem dX11_pour_67 : decode cX11_pour 67 = .ok (.lcmp, 1) := dw148 (n := 64) (i := 3) kc_cX11_pour_2 (by decide +kernel)
theorem dX11_pour_68 : decode cX11_pour 68 = .ok (.ifCond .gt 21, 3) := dw157 (n := 64) (i := 4) (a := 0) (b := 21) kc_cX11_pour_2 (by decide +kernel) (by decide)
theorem dX11_pour_71 : decode cX11_pour 71 = .ok (.iload 4, 2) := dw21 (n := 64) (i := 7) (a := 4) kc_cX11_pour_2 (by decide +kernel) (by decide)
theorem dX11_pour_73 : decode cX11_pour 73 = .ok (.i2l, 1) := dw133 (n := 64) (i := 9) kc_cX11_pour_2 (by decide +kernel)
theorem dX11_pour_74 : decode cX11_pour 74 = .ok (.iload 5, 2) := dw21 (n := 64) (i := 10) (a := 5) kc_cX11_pour_2 (by decide +kernel) (by decide)
theorem dX11_pour_76 : decode cX11_pour 76 = .ok (.i2l, 1) := dw133 (n := 64) (i := 12) kc_cX11_pour_2 (by decide +kernel)
theorem dX11_pour_77 : decode cX11_pour 77 = .ok (.ladd, 1) := dw97 (n := 64) (i := 13) kc_cX11_pour_2 (by decide +kernel)
theorem dX11_pour_78 : decode cX11_pour 78 = .ok (.aload_n 0, 1) := dw42 (n := 64) (i := 14) kc_cX11_pour_2 (by decide +kernel)
theorem dX11_pour_79 : decode cX11_pour 79 = .ok (.getfield 31, 3) := dw180 (n := 64) (i := 15) (a := 0) (b := 31) kc_cX11_pour_2 (by decide +kernel) (by decide)
theorem dX11_pour_82 : decode cX11_pour 82 = .ok (.iload_n 3, 1) := dw29 (n := 64) (i := 18) kc_cX11_pour_2 (by decide +kernel)
theorem dX11_pour_83 : decode cX11_pour 83 = .ok (.iaload, 1) := dw46 (n := 64) (i := 19) kc_cX11_pour_2 (by decide +kernel)
theorem dX11_pour_84 : decode cX11_pour 84 = .ok (.i2l, 1) := dw133 (n := 64) (i := 20) kc_cX11_pour_2 (by decide +kernel)
theorem dX11_pour_85 : decode cX11_pour 85 = .ok (.lcmp, 1) := dw148 (n := 64) (i := 21) kc_cX11_pour_2 (by decide +kernel)
theorem dX11_pour_86 : decode cX11_pour 86 = .ok (.ifCond .le 9, 3) := dw158 (n := 64) (i := 22) (a := 0) (b := 9) kc_cX11_pour_2 (by decide +kernel) (by decide)
theorem dX11_pour_95 : decode cX11_pour 95 = .ok (.iconst 0, 1) := dw3 (n := 64) (i := 31) kc_cX11_pour_2 (by decide +kernel)
theorem dX11_pour_96 : decode cX11_pour 96 = .ok (.istore 6, 2) := dw54 (n := 96) (i := 0) (a := 6) kc_cX11_pour_3 (by decide +kernel) (by decide)
theorem dX11_pour_98 : decode cX11_pour 98 = .ok (.iload 6, 2) := dw21 (n := 96) (i := 2) (a := 6) kc_cX11_pour_3 (by decide +kernel) (by decide)
theorem dX11_pour_100 : decode cX11_pour 100 = .ok (.iload 5, 2) := dw21 (n := 96) (i := 4) (a := 5) kc_cX11_pour_3 (by decide +kernel) (by decide)
theorem dX11_pour_102 : decode cX11_pour 102 = .ok (.if_icmp .ge 30, 3) := dw162 (n := 96) (i := 6) (a := 0) (b := 30) kc_cX11_pour_3 (by decide +kernel) (by decide)
theorem dX11_pour_132 : decode cX11_pour 132 = .ok (.iconst 0, 1) := dw3 (n := 128) (i := 4) kc_cX11_pour_4 (by decide +kernel)
theorem dX11_pour_133 : decode cX11_pour 133 = .ok (.istore 6, 2) := dw54 (n := 128) (i := 5) (a := 6) kc_cX11_pour_4 (by decide +kernel) (by decide)
theorem dX11_pour_135 : decode cX11_pour 135 = .ok (.iload 6, 2) := dw21 (n := 128) (i := 7) (a := 6) kc_cX11_pour_4 (by decide +kernel) (by decide)
theorem dX11_pour_137 : decode cX11_pour 137 = .ok (.iload 5, 2) := dw21 (n := 128) (i := 9) (a := 5) kc_cX11_pour_4 (by decide +kernel) (by decide)
theorem dX11_pour_139 : decode cX11_pour 139 = .ok (.if_icmp .ge 31, 3) := dw162 (n := 128) (i := 11) (a := 0) (b := 31) kc_cX11_pour_4 (by decide +kernel) (by decide)
theorem dX11_pour_170 : decode cX11_pour 170 = .ok (.iconst 1, 1) := dw4 (n := 160) (i := 10) kc_cX11_pour_5 (by decide +kernel)
theorem dX11_pour_171 : decode cX11_pour 171 = .ok (.ireturn, 1) := dw172 (n := 160) (i := 11) kc_cX11_pour_5 (by decide +kernel)
theorem dX11_pour_142 : decode cX11_pour 142 = .ok (.aload_n 0, 1) := dw42 (n := 128) (i := 14) kc_cX11_pour_4 (by decide +kernel)
theorem dX11_pour_143 : decode cX11_pour 143 = .ok (.getfield 34, 3) := dw180 (n := 128) (i := 15) (a := 0) (b := 34) kc_cX11_pour_4 (by decide +kernel) (by decide)
theorem dX11_pour_146 : decode cX11_pour 146 = .ok (.bipush 40, 2) := dw16 (n := 128) (i := 18) (a := 40) kc_cX11_pour_4 (by decide +kernel) (by decide)
theorem dX11_pour_148 : decode cX11_pour 148 = .ok (.iload_n 3, 1) := dw29 (n := 128) (i := 20) kc_cX11_pour_4 (by decide +kernel)
theorem dX11_pour_149 : decode cX11_pour 149 = .ok (.imul, 1) := dw104 (n := 128) (i := 21) kc_cX11_pour_4 (by decide +kernel)
theorem dX11_pour_150 : decode cX11_pour 150 = .ok (.iload 4, 2) := dw21 (n := 128) (i := 22) (a := 4) kc_cX11_pour_4 (by decide +kernel) (by decide)
theorem dX11_pour_152 : decode cX11_pour 152 = .ok (.iadd, 1) := dw96 (n := 128) (i := 24) kc_cX11_pour_4 (by decide +kernel)
theorem dX11_pour_153 : decode cX11_pour 153 = .ok (.iload 6, 2) := dw21 (n := 128) (i := 25) (a := 6) kc_cX11_pour_4 (by decide +kernel) (by decide)
theorem dX11_pour_155 : decode cX11_pour 155 = .ok (.iadd, 1) := dw96 (n := 128) (i := 27) kc_cX11_pour_4 (by decide +kernel)
theorem dX11_pour_156 : decode cX11_pour 156 = .ok (.aload_n 0, 1) := dw42 (n := 128) (i := 28) kc_cX11_pour_4 (by decide +kernel)
theorem dX11_pour_157 : decode cX11_pour 157 = .ok (.getfield 37, 3) := dw180 (n := 128) (i := 29) (a := 0) (b := 37) kc_cX11_pour_4 (by decide +kernel) (by decide)
theorem dX11_pour_160 : decode cX11_pour 160 = .ok (.iload 6, 2) := dw21 (n := 160) (i := 0) (a := 6) kc_cX11_pour_5 (by decide +kernel) (by decide)
theorem dX11_pour_162 : decode cX11_pour 162 = .ok (.iaload, 1) := dw46 (n := 160) (i := 2) kc_cX11_pour_5 (by decide +kernel)
theorem dX11_pour_163 : decode cX11_pour 163 = .ok (.iastore, 1) := dw79 (n := 160) (i := 3) kc_cX11_pour_5 (by decide +kernel)
theorem dX11_pour_164 : decode cX11_pour 164 = .ok (.iinc 6 1, 3) := by decide +kernel
theorem dX11_pour_167 : decode cX11_pour 167 = .ok (.goto (-32), 3) := dw167 (n := 160) (i := 7) (a := 255) (b := 224) kc_cX11_pour_5 (by decide +kernel) (by decide)
theorem dX11_pour_105 : decode cX11_pour 105 = .ok (.aload_n 0, 1) := dw42 (n := 96) (i := 9) kc_cX11_pour_3 (by decide +kernel)
theorem dX11_pour_106 : decode cX11_pour 106 = .ok (.getfield 37, 3) := dw180 (n := 96) (i := 10) (a := 0) (b := 37) kc_cX11_pour_3 (by decide +kernel) (by decide)
theorem dX11_pour_109 : decode cX11_pour 109 = .ok (.iload 6, 2) := dw21 (n := 96) (i := 13) (a := 6) kc_cX11_pour_3 (by decide +kernel) (by decide)
theorem dX11_pour_111 : decode cX11_pour 111 = .ok (.aload_n 0, 1) := dw42 (n := 96) (i := 15) kc_cX11_pour_3 (by decide +kernel)
theorem dX11_pour_112 : decode cX11_pour 112 = .ok (.getfield 34, 3) := dw180 (n := 96) (i := 16) (a := 0) (b := 34) kc_cX11_pour_3 (by decide +kernel) (by decide)
theorem dX11_pour_115 : decode cX11_pour 115 = .ok (.bipush 40, 2) := dw16 (n := 96) (i := 19) (a := 40) kc_cX11_pour_3 (by decide +kernel) (by decide)
theorem dX11_pour_117 : decode cX11_pour 117 = .ok (.iload_n 1, 1) := dw27 (n := 96) (i := 21) kc_cX11_pour_3 (by decide +kernel)
theorem dX11_pour_118 : decode cX11_pour 118 = .ok (.imul, 1) := dw104 (n := 96) (i := 22) kc_cX11_pour_3 (by decide +kernel)
theorem dX11_pour_119 : decode cX11_pour 119 = .ok (.iload_n 2, 1) := dw28 (n := 96) (i := 23) kc_cX11_pour_3 (by decide +kernel)
theorem dX11_pour_120 : decode cX11_pour 120 = .ok (.iadd, 1) := dw96 (n := 96) (i := 24) kc_cX11_pour_3 (by decide +kernel)
theorem dX11_pour_121 : decode cX11_pour 121 = .ok (.iload 6, 2) := dw21 (n := 96) (i := 25) (a := 6) kc_cX11_pour_3 (by decide +kernel) (by decide)
theorem dX11_pour_123 : decode cX11_pour 123 = .ok (.iadd, 1) := dw96 (n := 96) (i := 27) kc_cX11_pour_3 (by decide +kernel)
theorem dX11_pour_124 : decode cX11_pour 124 = .ok (.iaload, 1) := dw46 (n := 96) (i := 28) kc_cX11_pour_3 (by decide +kernel)
theorem dX11_pour_125 : decode cX11_pour 125 = .ok (.iastore, 1) := dw79 (n := 96) (i := 29) kc_cX11_pour_3 (by decide +kernel)
theorem dX11_pour_126 : decode cX11_pour 126 = .ok (.iinc 6 1, 3) := by decide +kernel
theorem dX11_pour_129 : decode cX11_pour 129 = .ok (.goto (-31), 3) := dw167 (n := 128) (i := 1) (a := 255) (b := 225) kc_cX11_pour_4 (by decide +kernel) (by decide)
theorem dX11_pour_33 : decode cX11_pour 33 = .ok (.aload_n 0, 1) := dw42 (n := 32) (i := 1) kc_cX11_pour_1 (by decide +kernel)
theorem dX11_pour_34 : decode cX11_pour 34 = .ok (.bipush 6, 2) := dw16 (n := 32) (i := 2) (a := 6) kc_cX11_pour_1 (by decide +kernel) (by decide)
theorem dX11_pour_36 : decode cX11_pour 36 = .ok (.invokevirtual 155, 3) := dw182 (n := 32) (i := 4) (a := 0) (b := 155) kc_cX11_pour_1 (by decide +kernel) (by decide)
theorem dX11_pour_39 : decode cX11_pour 39 = .ok (.ireturn, 1) := dw172 (n := 32) (i := 7) kc_cX11_pour_1 (by decide +kernel)
set_option maxHeartbeats 4000000 in
set_option maxRecDepth 100000 in
theorem s_X11_pour (l : Launch) (D : va_G) (ad : Nat → Nat) (cs : Nat → ClassId) (M : MI) (L : ML) (x : Int32) (y : Int32) (z : Int32) (u : Int32) (w : Int32) (hI : IR M) : Ci l yX11_pour wsX11_pour ({ frames := 2, cells := 0, slots := 0, locals := 43 }) D ad cs [.ref (ad 258), .int x, .int y, .int z, .int u, .int w] M L (fun r M1 L1 => (A_pour (vR M) x y z u w = (r, vR M1)) ∧ IR M1 ∧ (∀ k i, ¬ (k = 258 ∧ i = 0) ∧ k ≠ 259 ∧ k ≠ 267 ∧ k ≠ 268 → M1 k i = M k i) ∧ ∀ k i, True → L1 k i = L k i) := by
  refine enter_i RX11 rfl [(0, .ref (ad 258)), (1, .int x), (2, .int y), (3, .int z), (4, .int u), (5, .int w)] rfl (Nat.le_of_ble_eq_true rfl) (by decide +kernel) rfl ?_
  intro p e s m below meth c C hr
  have hF : ∀ k i, ¬ (k = 258 ∧ i = 0) ∧ k ≠ 259 ∧ k ≠ 267 ∧ k ≠ 268 → M k i = M k i := fun _ _ _ => rfl
  have hG : ∀ k i, True → L k i = L k i := fun _ _ _ => rfl
  have w0 : (vR M 0 0).toInt = (M 258 2).toInt := rfl
  have w1 : (vR M 0 1).toInt = (M 258 4).toInt := rfl
  have w2 : (vR M 0 2).toInt = (M 258 9).toInt := rfl
  have w3 : (vR M 0 3).toInt = (M 258 14).toInt := rfl
  obtain ⟨y0a, y0b⟩ := (show rg 0 10 (M 258 2) from hI 258 2)
  obtain ⟨y1a, y1b⟩ := (show rg 0 60 (M 258 4) from hI 258 4)
  obtain ⟨y2a, y2b⟩ := (show rg 0 8 (M 258 9) from hI 258 9)
  obtain ⟨y3a, y3b⟩ := (show rg 0 20 (M 258 14) from hI 258 14)
  have sz : rg 0 40 (vR M 7 x.toNatClampNeg) := hI 266 _
  obtain ⟨sa, sb⟩ := sz
  have sz : rg 0 40 (vR M 7 z.toNatClampNeg) := hI 266 _
  obtain ⟨sc, sd⟩ := sz
  have qy := Int32.toInt_lt y
  have qu := Int32.toInt_lt u
  have qw := Int32.toInt_lt w
  have hI0 := hI
  have k0 : M 258 0 = vR M 0 4 := rfl
  have q259 : M 259 = M 259 := rfl
  have q267 : M 267 = M 267 := rfl
  have q268 : M 268 = M 268 := rfl
  have hV : vR M = vR M := rfl
  refine g_aload_n C 0 dX11_pour_0 rfl ?_
  refine g_iload_n C 1 dX11_pour_1 rfl ?_
  refine g_callVi C (n := 1) (As := [.int x]) (st := []) (s_X11_isBox l D ad cs _ _ x hI ) gX11_pour_X11_isBox rfl rfl rfl (by decide +kernel) ⟨Nat.le_of_ble_eq_true rfl, Nat.le_of_ble_eq_true rfl⟩ rfl (Nat.le_of_ble_eq_true rfl) ⟨Nat.zero_le _, Nat.zero_le _⟩ (by decide) (ce_model ad cs _ _) rfl rfl dX11_pour_2 (fun r1 M2 L3 hr1 => ?_)
  obtain ⟨hq1, hq2, hr1⟩ := hr1
  obtain rfl := hq1.symm
  obtain rfl := hq2.symm
  obtain ⟨bar1, bbr1⟩ := zo_b hr1
  refine g_if_eq C 16 dX11_pour_5 (by decide) (fun c4 => ?_) (fun c4 => ?_)
  ·
    have f5 := feq rfl (by decide : (0 : Int32).toInt = 0) c4
    have pr1 := zo_f hr1 c4
    try dsimp only [hasC, hasB, hasX, hasM, ofS, ofK, bt] at pr1
    refine g_iconst C (-1) dX11_pour_16 (by decide) ?_
    have zr9 : ((-1) : Int32).toInt = (-1) := by decide
    exact g_iret C hr ⟨(by dsimp only [A_pour, hasC, hasB, hasX, hasM, ofS, ofK, bt, ix]; (repeat (first | rw [if_pos (by omega)] | rw [if_neg (by omega)])); first | done | rfl | (simp only [ix]; done) | (simp only [ix]; rfl) | (subst_vars; first | rfl | grind)), hI, hF, hG⟩ dX11_pour_17
  ·
    have f6 := fne rfl (by decide : (0 : Int32).toInt = 0) c4
    have pr1 := zo_t hr1 c4
    try dsimp only [hasC, hasB, hasX, hasM, ofS, ofK, bt] at pr1
    refine g_aload_n C 0 dX11_pour_8 rfl ?_
    refine g_iload_n C 3 dX11_pour_9 rfl ?_
    refine g_callVi C (n := 1) (As := [.int z]) (st := []) (s_X11_isBox l D ad cs _ _ z hI ) gX11_pour_X11_isBox rfl rfl rfl (by decide +kernel) ⟨Nat.le_of_ble_eq_true rfl, Nat.le_of_ble_eq_true rfl⟩ rfl (Nat.le_of_ble_eq_true rfl) ⟨Nat.zero_le _, Nat.zero_le _⟩ (by decide) (ce_model ad cs _ _) rfl rfl dX11_pour_10 (fun r7 M8 L9 hr7 => ?_)
    obtain ⟨hq1, hq2, hr7⟩ := hr7
    obtain rfl := hq1.symm
    obtain rfl := hq2.symm
    obtain ⟨bar7, bbr7⟩ := zo_b hr7
    refine g_if_ne C 18 dX11_pour_13 (by decide) (fun c10 => ?_) (fun c10 => ?_)
    ·
      have f11 := fne rfl (by decide : (0 : Int32).toInt = 0) c10
      have pr7 := zo_t hr7 c10
      try dsimp only [hasC, hasB, hasX, hasM, ofS, ofK, bt] at pr7
      refine g_aload_n C 0 dX11_pour_18 rfl ?_
      refine g_get C (.ref (ad 265)) 10 in_X11_pour_11 (List.mem_of_getElem? (i := 1) rfl) (by decide) (ce_model ad cs _ _) rfl (by decide) rfl rfl dX11_pour_19 ?_
      refine g_iload_n C 1 dX11_pour_22 rfl ?_
      refine g_iald C (by decide) (ce_m_boxSort ad cs _ _) (fin' (n := 8) rfl (by omega) (by omega)) dX11_pour_23 ?_
      refine g_ni (fun v12 ev12 => ?_)
      have gv12 : v12 = vR M 6 x.toNatClampNeg := ev12
      have tv12 := congrArg Int32.toInt gv12
      refine g_aload_n C 0 dX11_pour_24 rfl ?_
      refine g_get C (.ref (ad 265)) 10 in_X11_pour_11 (List.mem_of_getElem? (i := 1) rfl) (by decide) (ce_model ad cs _ _) rfl (by decide) rfl rfl dX11_pour_25 ?_
      refine g_iload_n C 3 dX11_pour_28 rfl ?_
      refine g_iald C (by decide) (ce_m_boxSort ad cs _ _) (fin' (n := 8) rfl (by omega) (by omega)) dX11_pour_29 ?_
      refine g_ni (fun v13 ev13 => ?_)
      have gv13 : v13 = vR M 6 z.toNatClampNeg := ev13
      have tv13 := congrArg Int32.toInt gv13
      refine g_icmp_eq C 40 dX11_pour_30 (by decide) (fun c14 => ?_) (fun c14 => ?_)
      ·
        have f15 := feq rfl rfl c14
        refine g_iload_n C 2 dX11_pour_40 rfl ?_
        refine g_if_lt C 89 dX11_pour_41 (by decide) (fun c16 => ?_) (fun c16 => ?_)
        ·
          have f17 := fl rfl (by decide : (0 : Int32).toInt = 0) c16
          refine g_aload_n C 0 dX11_pour_89 rfl ?_
          refine g_iconst C 2 dX11_pour_90 (by decide) ?_
          refine g_callVi C (n := 1) (As := [.int 2]) (st := []) (s_X11_meets l D ad cs _ _ 2 hI ⟨by first | omega | decide, by first | omega | decide⟩) gX11_pour_X11_meets rfl rfl rfl (by decide +kernel) ⟨Nat.le_of_ble_eq_true rfl, Nat.le_of_ble_eq_true rfl⟩ rfl (Nat.le_of_ble_eq_true rfl) ⟨Nat.zero_le _, Nat.zero_le _⟩ (by decide) (ce_model ad cs _ _) rfl rfl dX11_pour_91 (fun r18 M19 L20 hr18 => ?_)
          obtain ⟨hr18, hI, hFr18, hGr18⟩ := hr18
          have hF : ∀ k i, ¬ (k = 258 ∧ i = 0) ∧ k ≠ 259 ∧ k ≠ 267 ∧ k ≠ 268 → M19 k i = M k i := fun k i hk => by (rw [hFr18 k i (by omega)]; try exact hF k i hk)
          have hG : ∀ k i, True → L20 k i = L k i := fun k i hk => by (rw [hGr18 k i trivial]; try exact hG k i hk)
          have hV : vR M19 = meetsV (vR M) 2 := by rw [hr18.2, hV]
          have k0 : M19 258 0 = M19 258 0 := rfl
          have q259 : M19 259 = M19 259 := rfl
          have q267 : M19 267 = M 267 := (funext (fun i => hFr18 267 i (by omega))).trans q267
          have q268 : M19 268 = M 268 := (funext (fun i => hFr18 268 i (by omega))).trans q268
          exact g_iret C hr ⟨(by dsimp only [A_pour, hasC, hasB, hasX, hasM, ofS, ofK, bt, ix]; (repeat (first | rw [if_pos (by omega)] | rw [if_neg (by omega)])); rw [hV]; first | done | rfl | (simp only [gv13, gv12]; done) | (simp only [gv13, gv12]; rfl) | (subst_vars; first | rfl | grind)), hI, hF, hG⟩ dX11_pour_94
        ·
          have f21 := fnl rfl (by decide : (0 : Int32).toInt = 0) c16
          refine g_iload C 4 dX11_pour_44 rfl ?_
          refine g_if_lt C 89 dX11_pour_46 (by decide) (fun c22 => ?_) (fun c22 => ?_)
          ·
            have f23 := fl rfl (by decide : (0 : Int32).toInt = 0) c22
            refine g_aload_n C 0 dX11_pour_89 rfl ?_
            refine g_iconst C 2 dX11_pour_90 (by decide) ?_
            refine g_callVi C (n := 1) (As := [.int 2]) (st := []) (s_X11_meets l D ad cs _ _ 2 hI ⟨by first | omega | decide, by first | omega | decide⟩) gX11_pour_X11_meets rfl rfl rfl (by decide +kernel) ⟨Nat.le_of_ble_eq_true rfl, Nat.le_of_ble_eq_true rfl⟩ rfl (Nat.le_of_ble_eq_true rfl) ⟨Nat.zero_le _, Nat.zero_le _⟩ (by decide) (ce_model ad cs _ _) rfl rfl dX11_pour_91 (fun r24 M25 L26 hr24 => ?_)
            obtain ⟨hr24, hI, hFr24, hGr24⟩ := hr24
            have hF : ∀ k i, ¬ (k = 258 ∧ i = 0) ∧ k ≠ 259 ∧ k ≠ 267 ∧ k ≠ 268 → M25 k i = M k i := fun k i hk => by (rw [hFr24 k i (by omega)]; try exact hF k i hk)
            have hG : ∀ k i, True → L26 k i = L k i := fun k i hk => by (rw [hGr24 k i trivial]; try exact hG k i hk)
            have hV : vR M25 = meetsV (vR M) 2 := by rw [hr24.2, hV]
            have k0 : M25 258 0 = M25 258 0 := rfl
            have q259 : M25 259 = M25 259 := rfl
            have q267 : M25 267 = M 267 := (funext (fun i => hFr24 267 i (by omega))).trans q267
            have q268 : M25 268 = M 268 := (funext (fun i => hFr24 268 i (by omega))).trans q268
            exact g_iret C hr ⟨(by dsimp only [A_pour, hasC, hasB, hasX, hasM, ofS, ofK, bt, ix]; (repeat (first | rw [if_pos (by omega)] | rw [if_neg (by omega)])); rw [hV]; first | done | rfl | (simp only [gv13, gv12]; done) | (simp only [gv13, gv12]; rfl) | (subst_vars; first | rfl | grind)), hI, hF, hG⟩ dX11_pour_94
          ·
            have f27 := fnl rfl (by decide : (0 : Int32).toInt = 0) c22
            refine g_iload C 5 dX11_pour_49 rfl ?_
            refine g_if_lt C 89 dX11_pour_51 (by decide) (fun c28 => ?_) (fun c28 => ?_)
            ·
              have f29 := fl rfl (by decide : (0 : Int32).toInt = 0) c28
              refine g_aload_n C 0 dX11_pour_89 rfl ?_
              refine g_iconst C 2 dX11_pour_90 (by decide) ?_
              refine g_callVi C (n := 1) (As := [.int 2]) (st := []) (s_X11_meets l D ad cs _ _ 2 hI ⟨by first | omega | decide, by first | omega | decide⟩) gX11_pour_X11_meets rfl rfl rfl (by decide +kernel) ⟨Nat.le_of_ble_eq_true rfl, Nat.le_of_ble_eq_true rfl⟩ rfl (Nat.le_of_ble_eq_true rfl) ⟨Nat.zero_le _, Nat.zero_le _⟩ (by decide) (ce_model ad cs _ _) rfl rfl dX11_pour_91 (fun r30 M31 L32 hr30 => ?_)
              obtain ⟨hr30, hI, hFr30, hGr30⟩ := hr30
              have hF : ∀ k i, ¬ (k = 258 ∧ i = 0) ∧ k ≠ 259 ∧ k ≠ 267 ∧ k ≠ 268 → M31 k i = M k i := fun k i hk => by (rw [hFr30 k i (by omega)]; try exact hF k i hk)
              have hG : ∀ k i, True → L32 k i = L k i := fun k i hk => by (rw [hGr30 k i trivial]; try exact hG k i hk)
              have hV : vR M31 = meetsV (vR M) 2 := by rw [hr30.2, hV]
              have k0 : M31 258 0 = M31 258 0 := rfl
              have q259 : M31 259 = M31 259 := rfl
              have q267 : M31 267 = M 267 := (funext (fun i => hFr30 267 i (by omega))).trans q267
              have q268 : M31 268 = M 268 := (funext (fun i => hFr30 268 i (by omega))).trans q268
              exact g_iret C hr ⟨(by dsimp only [A_pour, hasC, hasB, hasX, hasM, ofS, ofK, bt, ix]; (repeat (first | rw [if_pos (by omega)] | rw [if_neg (by omega)])); rw [hV]; first | done | rfl | (simp only [gv13, gv12]; done) | (simp only [gv13, gv12]; rfl) | (subst_vars; first | rfl | grind)), hI, hF, hG⟩ dX11_pour_94
            ·
              have f33 := fnl rfl (by decide : (0 : Int32).toInt = 0) c28
              refine g_iload_n C 2 dX11_pour_54 rfl ?_
              refine g_i2l C dX11_pour_55 ?_
              refine g_nl (fun v34 ev34 => ?_)
              have fv34 := fi2l rfl ev34
              refine g_iload C 5 dX11_pour_56 rfl ?_
              refine g_i2l C dX11_pour_58 ?_
              refine g_nl (fun v35 ev35 => ?_)
              have fv35 := fi2l rfl ev35
              refine g_ladd C dX11_pour_59 ?_
              refine g_nl (fun v36 ev36 => ?_)
              try have fv36 := fladd rfl rfl ev36 (by omega) (by omega)
              refine g_aload_n C 0 dX11_pour_60 rfl ?_
              refine g_get C (.ref (ad 266)) 11 in_X11_pour_11 (List.mem_of_getElem? (i := 2) rfl) (by decide) (ce_model ad cs _ _) rfl (by decide) rfl rfl dX11_pour_61 ?_
              refine g_iload_n C 1 dX11_pour_64 rfl ?_
              refine g_iald C (by decide) (ce_m_boxSize ad cs _ _) (fin' (n := 8) rfl (by omega) (by omega)) dX11_pour_65 ?_
              refine g_ni (fun v37 ev37 => ?_)
              have gv37 : v37 = vR M 7 x.toNatClampNeg := ev37
              have tv37 := congrArg Int32.toInt gv37
              obtain ⟨bv37, dv37⟩ := (show rg 0 40 v37 from (by rw [ev37]; exact hI 266 x.toNatClampNeg))
              refine g_i2l C dX11_pour_66 ?_
              refine g_nl (fun v38 ev38 => ?_)
              have fv38 := fi2l rfl ev38
              refine g_lcmp C dX11_pour_67 ?_
              refine g_ni (fun v39 ev39 => ?_)
              refine g_if_gt C 89 dX11_pour_68 (by decide) (fun c40 => ?_) (fun c40 => ?_)
              ·
                have f41 := cgt rfl rfl ev39 c40
                refine g_aload_n C 0 dX11_pour_89 rfl ?_
                refine g_iconst C 2 dX11_pour_90 (by decide) ?_
                refine g_callVi C (n := 1) (As := [.int 2]) (st := []) (s_X11_meets l D ad cs _ _ 2 hI ⟨by first | omega | decide, by first | omega | decide⟩) gX11_pour_X11_meets rfl rfl rfl (by decide +kernel) ⟨Nat.le_of_ble_eq_true rfl, Nat.le_of_ble_eq_true rfl⟩ rfl (Nat.le_of_ble_eq_true rfl) ⟨Nat.zero_le _, Nat.zero_le _⟩ (by decide) (ce_model ad cs _ _) rfl rfl dX11_pour_91 (fun r42 M43 L44 hr42 => ?_)
                obtain ⟨hr42, hI, hFr42, hGr42⟩ := hr42
                have hF : ∀ k i, ¬ (k = 258 ∧ i = 0) ∧ k ≠ 259 ∧ k ≠ 267 ∧ k ≠ 268 → M43 k i = M k i := fun k i hk => by (rw [hFr42 k i (by omega)]; try exact hF k i hk)
                have hG : ∀ k i, True → L44 k i = L k i := fun k i hk => by (rw [hGr42 k i trivial]; try exact hG k i hk)
                have hV : vR M43 = meetsV (vR M) 2 := by rw [hr42.2, hV]
                have k0 : M43 258 0 = M43 258 0 := rfl
                have q259 : M43 259 = M43 259 := rfl
                have q267 : M43 267 = M 267 := (funext (fun i => hFr42 267 i (by omega))).trans q267
                have q268 : M43 268 = M 268 := (funext (fun i => hFr42 268 i (by omega))).trans q268
                exact g_iret C hr ⟨(by dsimp only [A_pour, hasC, hasB, hasX, hasM, ofS, ofK, bt, ix]; (repeat (first | rw [if_pos (by omega)] | rw [if_neg (by omega)])); rw [hV]; first | done | rfl | (simp only [ev39, ev38, gv37, ev36, ev35, ev34, gv13, gv12]; done) | (simp only [ev39, ev38, gv37, ev36, ev35, ev34, gv13, gv12]; rfl) | (subst_vars; first | rfl | grind)), hI, hF, hG⟩ dX11_pour_94
              ·
                have f45 := cngt rfl rfl ev39 c40
                refine g_iload C 4 dX11_pour_71 rfl ?_
                refine g_i2l C dX11_pour_73 ?_
                refine g_nl (fun v46 ev46 => ?_)
                have fv46 := fi2l rfl ev46
                refine g_iload C 5 dX11_pour_74 rfl ?_
                refine g_i2l C dX11_pour_76 ?_
                refine g_nl (fun v47 ev47 => ?_)
                have fv47 := fi2l rfl ev47
                refine g_ladd C dX11_pour_77 ?_
                refine g_nl (fun v48 ev48 => ?_)
                try have fv48 := fladd rfl rfl ev48 (by omega) (by omega)
                refine g_aload_n C 0 dX11_pour_78 rfl ?_
                refine g_get C (.ref (ad 266)) 11 in_X11_pour_11 (List.mem_of_getElem? (i := 2) rfl) (by decide) (ce_model ad cs _ _) rfl (by decide) rfl rfl dX11_pour_79 ?_
                refine g_iload_n C 3 dX11_pour_82 rfl ?_
                refine g_iald C (by decide) (ce_m_boxSize ad cs _ _) (fin' (n := 8) rfl (by omega) (by omega)) dX11_pour_83 ?_
                refine g_ni (fun v49 ev49 => ?_)
                have gv49 : v49 = vR M 7 z.toNatClampNeg := ev49
                have tv49 := congrArg Int32.toInt gv49
                obtain ⟨bv49, dv49⟩ := (show rg 0 40 v49 from (by rw [ev49]; exact hI 266 z.toNatClampNeg))
                refine g_i2l C dX11_pour_84 ?_
                refine g_nl (fun v50 ev50 => ?_)
                have fv50 := fi2l rfl ev50
                refine g_lcmp C dX11_pour_85 ?_
                refine g_ni (fun v51 ev51 => ?_)
                refine g_if_le C 95 dX11_pour_86 (by decide) (fun c52 => ?_) (fun c52 => ?_)
                ·
                  have f53 := cle rfl rfl ev51 c52
                  have nx := ixn (x := x) (by omega)
                  have ny := ixn (x := y) (by omega)
                  have nz := ixn (x := z) (by omega)
                  have nu := ixn (x := u) (by omega)
                  have nw := ixn (x := w) (by omega)
                  refine g_iconst C 0 dX11_pour_95 (by decide) ?_
                  refine g_istore C [(6, .int 0), (0, .ref (ad 258)), (1, .int x), (2, .int y), (3, .int z), (4, .int u), (5, .int w)] dX11_pour_96 (by decide) rfl ?_
                  have zy54 : (0 : Int32).toInt = 0 := by decide
                  refine g_loop (α := Int32 × MI × ML) (fun a => (41 - a.1.toInt).toNat) (fun a => (0 ≤ a.1.toInt) ∧ (a.1.toInt ≤ w.toInt) ∧ (vR a.2.1 = vR M) ∧ (a.2.1 267 = M 267) ∧ (∀ j : Nat, j < a.1.toNatClampNeg → a.2.1 268 j = vR M 8 (40 * x.toNatClampNeg + y.toNatClampNeg + j)) ∧ IR a.2.1 ∧ (∀ k i, ¬ (k = 258 ∧ i = 0) ∧ k ≠ 259 ∧ k ≠ 267 ∧ k ≠ 268 → a.2.1 k i = M k i) ∧ (∀ k i, True → a.2.2 k i = L k i)) (fun a => a.2.1) (fun a => a.2.2) (fun a => [(6, .int a.1), (0, .ref (ad 258)), (1, .int x), (2, .int y), (3, .int z), (4, .int u), (5, .int w)]) ((0 : Int32), M, L) ⟨by show 0 ≤ (0 : Int32).toInt; omega, by show (0 : Int32).toInt ≤ w.toInt; omega, by show vR M = vR M; rfl, by show M 267 = M 267; exact q267, by show ∀ j : Nat, j < (0 : Int32).toNatClampNeg → M 268 j = vR M 8 (40 * x.toNatClampNeg + y.toNatClampNeg + j); intro j hj; exact absurd hj (by show ¬ j < 0; omega), hI, hF, hG⟩ rfl rfl rfl ?_
                  rintro ⟨x6_98, M_98, L_98⟩ ⟨j98_0, j98_1, j98_2, j98_3, j98_4, hI, hF, hG⟩ ih_98
                  dsimp only at j98_0 j98_1 j98_2 j98_3 j98_4 hI hF hG ih_98 ⊢
                  have k0 : M_98 258 0 = M_98 258 0 := rfl
                  have hV : vR M_98 = vR M_98 := rfl
                  have q259 : M_98 259 = M_98 259 := rfl
                  have q267 : M_98 267 = M_98 267 := rfl
                  have q268 : M_98 268 = M_98 268 := rfl
                  have n6 := ixn (x := x6_98) (by omega)
                  refine g_iload C 0 dX11_pour_98 rfl ?_
                  refine g_iload C 6 dX11_pour_100 rfl ?_
                  refine g_icmp_ge C 132 dX11_pour_102 (by decide) (fun c55 => ?_) (fun c55 => ?_)
                  ·
                    have f56 := fle rfl rfl c55
                    refine g_iconst C 0 dX11_pour_132 (by decide) ?_
                    refine g_istore C [(6, .int 0), (0, .ref (ad 258)), (1, .int x), (2, .int y), (3, .int z), (4, .int u), (5, .int w)] dX11_pour_133 (by decide) rfl ?_
                    have zy57 : (0 : Int32).toInt = 0 := by decide
                    refine g_loop (α := Int32 × MI × ML) (fun a => (41 - a.1.toInt).toNat) (fun a => (0 ≤ a.1.toInt) ∧ (a.1.toInt ≤ w.toInt) ∧ (∀ j : Nat, j < w.toNatClampNeg → a.2.1 268 j = vR M 8 (40 * x.toNatClampNeg + y.toNatClampNeg + j)) ∧ (vR a.2.1 = pourV (vR M) (40 * x.toNatClampNeg + y.toNatClampNeg) (40 * z.toNatClampNeg + u.toNatClampNeg) a.1.toNatClampNeg) ∧ IR a.2.1 ∧ (∀ k i, ¬ (k = 258 ∧ i = 0) ∧ k ≠ 259 ∧ k ≠ 267 ∧ k ≠ 268 → a.2.1 k i = M k i) ∧ (∀ k i, True → a.2.2 k i = L k i)) (fun a => a.2.1) (fun a => a.2.2) (fun a => [(6, .int a.1), (0, .ref (ad 258)), (1, .int x), (2, .int y), (3, .int z), (4, .int u), (5, .int w)]) ((0 : Int32), M_98, L_98) ⟨by show 0 ≤ (0 : Int32).toInt; omega, by show (0 : Int32).toInt ≤ w.toInt; omega, by show ∀ j : Nat, j < w.toNatClampNeg → M_98 268 j = vR M 8 (40 * x.toNatClampNeg + y.toNatClampNeg + j); intro j hj; exact j98_4 j (by omega), by show vR M_98 = pourV (vR M) (40 * x.toNatClampNeg + y.toNatClampNeg) (40 * z.toNatClampNeg + u.toNatClampNeg) (0 : Int32).toNatClampNeg; rw [j98_2]; exact (pourV_0 _ _ _).symm, hI, hF, hG⟩ rfl rfl rfl ?_
                    rintro ⟨x6_135, M_135, L_135⟩ ⟨j135_0, j135_1, j135_2, j135_3, hI, hF, hG⟩ ih_135
                    dsimp only at j135_0 j135_1 j135_2 j135_3 hI hF hG ih_135 ⊢
                    have k0 : M_135 258 0 = M_135 258 0 := rfl
                    have hV : vR M_135 = vR M_135 := rfl
                    have q259 : M_135 259 = M_135 259 := rfl
                    have q267 : M_135 267 = M_135 267 := rfl
                    have q268 : M_135 268 = M_135 268 := rfl
                    have n6 := ixn (x := x6_135) (by omega)
                    refine g_iload C 0 dX11_pour_135 rfl ?_
                    refine g_iload C 6 dX11_pour_137 rfl ?_
                    refine g_icmp_ge C 170 dX11_pour_139 (by decide) (fun c58 => ?_) (fun c58 => ?_)
                    ·
                      have f59 := fle rfl rfl c58
                      refine g_iconst C 1 dX11_pour_170 (by decide) ?_
                      have zr9 : (1 : Int32).toInt = 1 := by decide
                      exact g_iret C hr ⟨(by dsimp only [A_pour, hasC, hasB, hasX, hasM, ofS, ofK, bt, ix]; (repeat (first | rw [if_pos (by omega)] | rw [if_neg (by omega)])); rw [j135_3, show x6_135.toNatClampNeg = w.toNatClampNeg by omega]), hI, hF, hG⟩ dX11_pour_171
                    ·
                      have f60 := fnle rfl rfl c58
                      refine g_aload_n C 1 dX11_pour_142 rfl ?_
                      refine g_get C (.ref (ad 267)) 12 in_X11_pour_11 (List.mem_of_getElem? (i := 4) rfl) (by decide) (ce_model ad cs _ _) rfl (by decide) rfl rfl dX11_pour_143 ?_
                      refine g_bipush C 40 dX11_pour_146 (by decide) ?_
                      refine g_iload_n C 4 dX11_pour_148 rfl ?_
                      refine g_imul C dX11_pour_149 ?_
                      refine g_ni (fun v61 ev61 => ?_)
                      try have fv61 := fmul (by decide : (40 : Int32).toInt = 40) rfl ev61 (by omega) (by omega)
                      refine g_iload C 5 dX11_pour_150 rfl ?_
                      refine g_iadd C dX11_pour_152 ?_
                      refine g_ni (fun v62 ev62 => ?_)
                      try have fv62 := fadd rfl rfl ev62 (by omega) (by omega)
                      refine g_iload C 0 dX11_pour_153 rfl ?_
                      refine g_iadd C dX11_pour_155 ?_
                      refine g_ni (fun v63 ev63 => ?_)
                      try have fv63 := fadd rfl rfl ev63 (by omega) (by omega)
                      refine g_aload_n C 1 dX11_pour_156 rfl ?_
                      refine g_get C (.ref (ad 268)) 13 in_X11_pour_11 (List.mem_of_getElem? (i := 3) rfl) (by decide) (ce_model ad cs _ _) rfl (by decide) rfl rfl dX11_pour_157 ?_
                      refine g_iload C 0 dX11_pour_160 rfl ?_
                      refine g_iald C (by decide) (ce_m_poured ad cs _ _) (fin' (n := 40) rfl (by omega) (by omega)) dX11_pour_162 ?_
                      refine g_ni (fun v64 ev64 => ?_)
                      have gv64 : v64 = M_135 268 x6_135.toNatClampNeg := ev64.trans (congrFun q268 _)
                      have tv64 := congrArg Int32.toInt gv64
                      have bx9 : bxd (M_135 268 x6_135.toNatClampNeg) := by rw [j135_2 _ (by omega), vR8 (by omega)]; exact hI0 267 _
                      unfold bxd at bx9
                      refine g_iast C (by decide) (ce_m_boxed ad cs _ _) (by rw [sI_k]; rfl) (fin' (n := 320) rfl (by omega) (by omega)) dX11_pour_163 ?_
                      have nz := ixn (x := z) (by omega)
                      have nu := ixn (x := u) (by omega)
                      have nx6_135 := ixn (x := x6_135) (by omega)
                      have nv63 := ixn (x := v63) (by omega)
                      have iv63 : v63.toNatClampNeg = 40 * z.toNatClampNeg + u.toNatClampNeg + x6_135.toNatClampNeg := by omega
                      refine g_nm (fun M65 hM65 => ?_)
                      have hI : IR M65 := by rw [hM65]; exact hI.st (show bR 267 _ _ from (by show bxd _; unfold bxd; omega))
                      have hF : ∀ k i, ¬ (k = 258 ∧ i = 0) ∧ k ≠ 259 ∧ k ≠ 267 ∧ k ≠ 268 → M65 k i = M k i := fun k i hk => by (rw [hM65, sI_at, if_neg (by omega)]; try exact hF k i hk)
                      have k0 : M65 258 0 = M_135 258 0 := by rw [hM65, sI_n _ _ _ (by decide)]; try exact k0
                      have q259 : M65 259 = M_135 259 := by rw [hM65, sI_n _ _ _ (by decide)]; try exact q259
                      have q268 : M65 268 = M_135 268 := by rw [hM65, sI_n _ _ _ (by decide)]; try exact q268
                      have hcM65 : M65 = sI M_135 267 (40 * z.toNatClampNeg + u.toNatClampNeg + x6_135.toNatClampNeg) v64 := by rw [hM65, iv63]
                      have o9 : M_135 258 9 = M 258 9 := by have h9 := hF 258 9 (by omega); rw [hM65, sI_n _ _ _ (by decide)] at h9; first | done | exact h9 | rfl
                      have o9t := congrArg Int32.toInt o9
                      have hV : vR M65 = sI (vR M_135) 8 (40 * z.toNatClampNeg + u.toNatClampNeg + x6_135.toNatClampNeg) v64 := by rw [hcM65, vR_b (by omega), hV]
                      obtain ⟨v66, ev66⟩ : ∃ y : Int32, y = x6_135 + 1 := ⟨_, rfl⟩
                      try have fv66 := fadd rfl (by decide : (1 : Int32).toInt = 1) ev66 (by omega) (by omega)
                      refine g_iinc C 0 v66 [(6, .int v66), (0, .ref (ad 258)), (1, .int x), (2, .int y), (3, .int z), (4, .int u), (5, .int w)] dX11_pour_164 rfl (by rw [ev66]; rfl) (by decide) rfl ?_
                      refine g_goto C 135 dX11_pour_167 (by decide) ?_
                      have nv := ixn (x := v66) (by omega)
                      have iv : v66.toNatClampNeg = x6_135.toNatClampNeg + 1 := by omega
                      exact ih_135 (v66, M65, L_135) ⟨by show 0 ≤ v66.toInt; omega, by show v66.toInt ≤ w.toInt; omega, by show ∀ j : Nat, j < w.toNatClampNeg → M65 268 j = vR M 8 (40 * x.toNatClampNeg + y.toNatClampNeg + j); intro j hj; rw [q268]; exact j135_2 j hj, by show vR M65 = pourV (vR M) (40 * x.toNatClampNeg + y.toNatClampNeg) (40 * z.toNatClampNeg + u.toNatClampNeg) v66.toNatClampNeg; rw [hV, j135_3, iv, ← pourV_s, ← j135_2 _ (by omega)]; first | done | (simp only [gv64, ev63, ev62, ev61, ev51, ev50, gv49, ev48, ev47, ev46, ev39, ev38, gv37, ev36, ev35, ev34, gv13, gv12]; done) | (simp only [gv64, ev63, ev62, ev61, ev51, ev50, gv49, ev48, ev47, ev46, ev39, ev38, gv37, ev36, ev35, ev34, gv13, gv12]; rfl), hI, hF, hG⟩ (by show (41 - v66.toInt).toNat < (41 - x6_135.toInt).toNat; omega)
                  ·
                    have f67 := fnle rfl rfl c55
                    refine g_aload_n C 1 dX11_pour_105 rfl ?_
                    refine g_get C (.ref (ad 268)) 13 in_X11_pour_11 (List.mem_of_getElem? (i := 3) rfl) (by decide) (ce_model ad cs _ _) rfl (by decide) rfl rfl dX11_pour_106 ?_
                    refine g_iload C 0 dX11_pour_109 rfl ?_
                    refine g_aload_n C 1 dX11_pour_111 rfl ?_
                    refine g_get C (.ref (ad 267)) 12 in_X11_pour_11 (List.mem_of_getElem? (i := 4) rfl) (by decide) (ce_model ad cs _ _) rfl (by decide) rfl rfl dX11_pour_112 ?_
                    refine g_bipush C 40 dX11_pour_115 (by decide) ?_
                    refine g_iload_n C 2 dX11_pour_117 rfl ?_
                    refine g_imul C dX11_pour_118 ?_
                    refine g_ni (fun v68 ev68 => ?_)
                    try have fv68 := fmul (by decide : (40 : Int32).toInt = 40) rfl ev68 (by omega) (by omega)
                    refine g_iload_n C 3 dX11_pour_119 rfl ?_
                    refine g_iadd C dX11_pour_120 ?_
                    refine g_ni (fun v69 ev69 => ?_)
                    try have fv69 := fadd rfl rfl ev69 (by omega) (by omega)
                    refine g_iload C 0 dX11_pour_121 rfl ?_
                    refine g_iadd C dX11_pour_123 ?_
                    refine g_ni (fun v70 ev70 => ?_)
                    try have fv70 := fadd rfl rfl ev70 (by omega) (by omega)
                    refine g_iald C (by decide) (ce_m_boxed ad cs _ _) (fin' (n := 320) rfl (by omega) (by omega)) dX11_pour_124 ?_
                    have nx := ixn (x := x) (by omega)
                    have ny := ixn (x := y) (by omega)
                    have nx6_98 := ixn (x := x6_98) (by omega)
                    have nv70 := ixn (x := v70) (by omega)
                    have iv70 : v70.toNatClampNeg = 40 * x.toNatClampNeg + y.toNatClampNeg + x6_98.toNatClampNeg := by omega
                    refine g_ni (fun v71 ev71 => ?_)
                    have gv71 : v71 = M_98 267 v70.toNatClampNeg := ev71.trans (congrFun q267 _)
                    have gv71 := cg1 (f := M_98 267) gv71 iv70
                    have tv71 := congrArg Int32.toInt gv71
                    have bv71 : bxd v71 := (by rw [ev71]; exact hI 267 v70.toNatClampNeg)
                    unfold bxd at bv71
                    refine g_iast C (by decide) (ce_m_poured ad cs _ _) (by rw [sI_k]; rfl) (fin' (n := 40) rfl (by omega) (by omega)) dX11_pour_125 ?_
                    refine g_nm (fun M72 hM72 => ?_)
                    have hI : IR M72 := by rw [hM72]; exact hI.st (show bR 268 _ _ from trivial)
                    have hF : ∀ k i, ¬ (k = 258 ∧ i = 0) ∧ k ≠ 259 ∧ k ≠ 267 ∧ k ≠ 268 → M72 k i = M k i := fun k i hk => by (rw [hM72, sI_at, if_neg (by omega)]; try exact hF k i hk)
                    have k0 : M72 258 0 = M_98 258 0 := by rw [hM72, sI_n _ _ _ (by decide)]; try exact k0
                    have q259 : M72 259 = M_98 259 := by rw [hM72, sI_n _ _ _ (by decide)]; try exact q259
                    have q267 : M72 267 = M_98 267 := by rw [hM72, sI_n _ _ _ (by decide)]; try exact q267
                    have hV : vR M72 = vR M_98 := by rw [hM72, vR_z (by decide), hV]
                    obtain ⟨v73, ev73⟩ : ∃ y : Int32, y = x6_98 + 1 := ⟨_, rfl⟩
                    try have fv73 := fadd rfl (by decide : (1 : Int32).toInt = 1) ev73 (by omega) (by omega)
                    refine g_iinc C 0 v73 [(6, .int v73), (0, .ref (ad 258)), (1, .int x), (2, .int y), (3, .int z), (4, .int u), (5, .int w)] dX11_pour_126 rfl (by rw [ev73]; rfl) (by decide) rfl ?_
                    refine g_goto C 98 dX11_pour_129 (by decide) ?_
                    have nv := ixn (x := v73) (by omega)
                    have hall : ∀ j : Nat, j < v73.toNatClampNeg → M72 268 j = vR M 8 (40 * x.toNatClampNeg + y.toNatClampNeg + j) := by
                      intro j hj
                      rw [hM72, sI_at]
                      by_cases e9 : j = x6_98.toNatClampNeg
                      · rw [if_pos ⟨rfl, e9⟩, e9, vR8 (by omega), ← j98_3]; exact gv71
                      · rw [if_neg (by omega)]; exact j98_4 j (by omega)
                    exact ih_98 (v73, M72, L_98) ⟨by show 0 ≤ v73.toInt; omega, by show v73.toInt ≤ w.toInt; omega, by show vR M72 = vR M; rw [hV, j98_2], by show M72 267 = M 267; exact q267.trans j98_3, by show ∀ j : Nat, j < v73.toNatClampNeg → M72 268 j = vR M 8 (40 * x.toNatClampNeg + y.toNatClampNeg + j); exact hall, hI, hF, hG⟩ (by show (41 - v73.toInt).toNat < (41 - x6_98.toInt).toNat; omega)
                ·
                  have f74 := cnle rfl rfl ev51 c52
                  refine g_aload_n C 0 dX11_pour_89 rfl ?_
                  refine g_iconst C 2 dX11_pour_90 (by decide) ?_
                  refine g_callVi C (n := 1) (As := [.int 2]) (st := []) (s_X11_meets l D ad cs _ _ 2 hI ⟨by first | omega | decide, by first | omega | decide⟩) gX11_pour_X11_meets rfl rfl rfl (by decide +kernel) ⟨Nat.le_of_ble_eq_true rfl, Nat.le_of_ble_eq_true rfl⟩ rfl (Nat.le_of_ble_eq_true rfl) ⟨Nat.zero_le _, Nat.zero_le _⟩ (by decide) (ce_model ad cs _ _) rfl rfl dX11_pour_91 (fun r75 M76 L77 hr75 => ?_)
                  obtain ⟨hr75, hI, hFr75, hGr75⟩ := hr75
                  have hF : ∀ k i, ¬ (k = 258 ∧ i = 0) ∧ k ≠ 259 ∧ k ≠ 267 ∧ k ≠ 268 → M76 k i = M k i := fun k i hk => by (rw [hFr75 k i (by omega)]; try exact hF k i hk)
                  have hG : ∀ k i, True → L77 k i = L k i := fun k i hk => by (rw [hGr75 k i trivial]; try exact hG k i hk)
                  have hV : vR M76 = meetsV (vR M) 2 := by rw [hr75.2, hV]
                  have k0 : M76 258 0 = M76 258 0 := rfl
                  have q259 : M76 259 = M76 259 := rfl
                  have q267 : M76 267 = M 267 := (funext (fun i => hFr75 267 i (by omega))).trans q267
                  have q268 : M76 268 = M 268 := (funext (fun i => hFr75 268 i (by omega))).trans q268
                  exact g_iret C hr ⟨(by dsimp only [A_pour, hasC, hasB, hasX, hasM, ofS, ofK, bt, ix]; (repeat (first | rw [if_pos (by omega)] | rw [if_neg (by omega)])); rw [hV]; first | done | rfl | (simp only [ev51, ev50, gv49, ev48, ev47, ev46, ev39, ev38, gv37, ev36, ev35, ev34, gv13, gv12]; done) | (simp only [ev51, ev50, gv49, ev48, ev47, ev46, ev39, ev38, gv37, ev36, ev35, ev34, gv13, gv12]; rfl) | (subst_vars; first | rfl | grind)), hI, hF, hG⟩ dX11_pour_94
      ·
        have f78 := fne rfl rfl c14
        refine g_aload_n C 0 dX11_pour_33 rfl ?_
        refine g_bipush C 6 dX11_pour_34 (by decide) ?_
        refine g_callVi C (n := 1) (As := [.int 6]) (st := []) (s_X11_meets l D ad cs _ _ 6 hI ⟨by first | omega | decide, by first | omega | decide⟩) gX11_pour_X11_meets rfl rfl rfl (by decide +kernel) ⟨Nat.le_of_ble_eq_true rfl, Nat.le_of_ble_eq_true rfl⟩ rfl (Nat.le_of_ble_eq_true rfl) ⟨Nat.zero_le _, Nat.zero_le _⟩ (by decide) (ce_model ad cs _ _) rfl rfl dX11_pour_36 (fun r79 M80 L81 hr79 => ?_)
        obtain ⟨hr79, hI, hFr79, hGr79⟩ := hr79
        have hF : ∀ k i, ¬ (k = 258 ∧ i = 0) ∧ k ≠ 259 ∧ k ≠ 267 ∧ k ≠ 268 → M80 k i = M k i := fun k i hk => by (rw [hFr79 k i (by omega)]; try exact hF k i hk)
        have hG : ∀ k i, True → L81 k i = L k i := fun k i hk => by (rw [hGr79 k i trivial]; try exact hG k i hk)
        have hV : vR M80 = meetsV (vR M) 6 := by rw [hr79.2, hV]
        have k0 : M80 258 0 = M80 258 0 := rfl
        have q259 : M80 259 = M80 259 := rfl
        have q267 : M80 267 = M 267 := (funext (fun i => hFr79 267 i (by omega))).trans q267
        have q268 : M80 268 = M 268 := (funext (fun i => hFr79 268 i (by omega))).trans q268
        exact g_iret C hr ⟨(by dsimp only [A_pour, hasC, hasB, hasX, hasM, ofS, ofK, bt, ix]; (repeat (first | rw [if_pos (by omega)] | rw [if_neg (by omega)])); rw [hV]; first | done | rfl | (simp only [gv13, gv12]; done) | (simp only [gv13, gv12]; rfl) | (subst_vars; first | rfl | grind)), hI, hF, hG⟩ dX11_pour_39
    ·
      have f82 := feq rfl (by decide : (0 : Int32).toInt = 0) c10
      have pr7 := zo_f hr7 c10
      try dsimp only [hasC, hasB, hasX, hasM, ofS, ofK, bt] at pr7
      refine g_iconst C (-1) dX11_pour_16 (by decide) ?_
      have zr9 : ((-1) : Int32).toInt = (-1) := by decide
      exact g_iret C hr ⟨(by dsimp only [A_pour, hasC, hasB, hasX, hasM, ofS, ofK, bt, ix]; (repeat (first | rw [if_pos (by omega)] | rw [if_neg (by omega)])); first | done | rfl | (simp only [ix]; done) | (simp only [ix]; rfl) | (subst_vars; first | rfl | grind)), hI, hF, hG⟩ dX11_pour_17
theorem dX11_digest_0 : decode cX11_digest 0 = .ok (.ldc2_w 312, 3) := dw20 (n := 0) (i := 0) (a := 1) (b := 56) kc_cX11_digest_0 (by decide +kernel) (by decide)
theorem dX11_digest_3 : decode cX11_digest 3 = .ok (.lstore_n 1, 1) := dw64 (n := 0) (i := 3) kc_cX11_digest_0 (by decide +kernel)
theorem dX11_digest_4 : decode cX11_digest 4 = .ok (.iconst 0, 1) := dw3 (n := 0) (i := 4) kc_cX11_digest_0 (by decide +kernel)
theorem dX11_digest_5 : decode cX11_digest 5 = .ok (.istore_n 3, 1) := dw62 (n := 0) (i := 5) kc_cX11_digest_0 (by decide +kernel)
theorem dX11_digest_6 : decode cX11_digest 6 = .ok (.iload_n 3, 1) := dw29 (n := 0) (i := 6) kc_cX11_digest_0 (by decide +kernel)
theorem dX11_digest_7 : decode cX11_digest 7 = .ok (.aload_n 0, 1) := dw42 (n := 0) (i := 7) kc_cX11_digest_0 (by decide +kernel)
theorem dX11_digest_8 : decode cX11_digest 8 = .ok (.getfield 137, 3) := dw180 (n := 0) (i := 8) (a := 0) (b := 137) kc_cX11_digest_0 (by decide +kernel) (by decide)
theorem in_X11_digest_11 : ∀ w ∈ u_ws RX11 TX11 53, w ∈ wsX11_digest := fun _ h => List.mem_cons_of_mem _ (List.mem_append_right _ h)
theorem dX11_digest_11 : decode cX11_digest 11 = .ok (.if_icmp .ge 23, 3) := dw162 (n := 0) (i := 11) (a := 0) (b := 23) kc_cX11_digest_0 (by decide +kernel) (by decide)
theorem dX11_digest_34 : decode cX11_digest 34 = .ok (.iconst 0, 1) := dw3 (n := 32) (i := 2) kc_cX11_digest_1 (by decide +kernel)
theorem dX11_digest_35 : decode cX11_digest 35 = .ok (.istore_n 3, 1) := dw62 (n := 32) (i := 3) kc_cX11_digest_1 (by decide +kernel)
theorem dX11_digest_36 : decode cX11_digest 36 = .ok (.iload_n 3, 1) := dw29 (n := 32) (i := 4) kc_cX11_digest_1 (by decide +kernel)
theorem dX11_digest_37 : decode cX11_digest 37 = .ok (.aload_n 0, 1) := dw42 (n := 32) (i := 5) kc_cX11_digest_1 (by decide +kernel)
theorem dX11_digest_38 : decode cX11_digest 38 = .ok (.getfield 144, 3) := dw180 (n := 32) (i := 6) (a := 0) (b := 144) kc_cX11_digest_1 (by decide +kernel) (by decide)
theorem dX11_digest_41 : decode cX11_digest 41 = .ok (.if_icmp .ge 108, 3) := dw162 (n := 32) (i := 9) (a := 0) (b := 108) kc_cX11_digest_1 (by decide +kernel) (by decide)
theorem dX11_digest_149 : decode cX11_digest 149 = .ok (.iconst 0, 1) := dw3 (n := 128) (i := 21) kc_cX11_digest_4 (by decide +kernel)
theorem dX11_digest_150 : decode cX11_digest 150 = .ok (.istore_n 3, 1) := dw62 (n := 128) (i := 22) kc_cX11_digest_4 (by decide +kernel)
theorem dX11_digest_151 : decode cX11_digest 151 = .ok (.iload_n 3, 1) := dw29 (n := 128) (i := 23) kc_cX11_digest_4 (by decide +kernel)
theorem dX11_digest_152 : decode cX11_digest 152 = .ok (.aload_n 0, 1) := dw42 (n := 128) (i := 24) kc_cX11_digest_4 (by decide +kernel)
theorem dX11_digest_153 : decode cX11_digest 153 = .ok (.getfield 163, 3) := dw180 (n := 128) (i := 25) (a := 0) (b := 163) kc_cX11_digest_4 (by decide +kernel) (by decide)
theorem dX11_digest_156 : decode cX11_digest 156 = .ok (.if_icmp .ge 49, 3) := dw162 (n := 128) (i := 28) (a := 0) (b := 49) kc_cX11_digest_4 (by decide +kernel) (by decide)
theorem dX11_digest_205 : decode cX11_digest 205 = .ok (.iconst 0, 1) := dw3 (n := 192) (i := 13) kc_cX11_digest_6 (by decide +kernel)
theorem dX11_digest_206 : decode cX11_digest 206 = .ok (.istore_n 3, 1) := dw62 (n := 192) (i := 14) kc_cX11_digest_6 (by decide +kernel)
theorem dX11_digest_207 : decode cX11_digest 207 = .ok (.iload_n 3, 1) := dw29 (n := 192) (i := 15) kc_cX11_digest_6 (by decide +kernel)
theorem dX11_digest_208 : decode cX11_digest 208 = .ok (.aload_n 0, 1) := dw42 (n := 192) (i := 16) kc_cX11_digest_6 (by decide +kernel)
theorem dX11_digest_209 : decode cX11_digest 209 = .ok (.getfield 175, 3) := dw180 (n := 192) (i := 17) (a := 0) (b := 175) kc_cX11_digest_6 (by decide +kernel) (by decide)
theorem dX11_digest_212 : decode cX11_digest 212 = .ok (.if_icmp .ge 39, 3) := dw162 (n := 192) (i := 20) (a := 0) (b := 39) kc_cX11_digest_6 (by decide +kernel) (by decide)
theorem dX11_digest_251 : decode cX11_digest 251 = .ok (.lload_n 1, 1) := dw31 (n := 224) (i := 27) kc_cX11_digest_7 (by decide +kernel)
theorem dX11_digest_252 : decode cX11_digest 252 = .ok (.lreturn, 1) := dw173 (n := 224) (i := 28) kc_cX11_digest_7 (by decide +kernel)
theorem dX11_digest_215 : decode cX11_digest 215 = .ok (.iconst 0, 1) := dw3 (n := 192) (i := 23) kc_cX11_digest_6 (by decide +kernel)
theorem dX11_digest_216 : decode cX11_digest 216 = .ok (.istore 4, 2) := dw54 (n := 192) (i := 24) (a := 4) kc_cX11_digest_6 (by decide +kernel) (by decide)
theorem dX11_digest_218 : decode cX11_digest 218 = .ok (.iload 4, 2) := dw21 (n := 192) (i := 26) (a := 4) kc_cX11_digest_6 (by decide +kernel) (by decide)
theorem dX11_digest_220 : decode cX11_digest 220 = .ok (.iconst 4, 1) := dw7 (n := 192) (i := 28) kc_cX11_digest_6 (by decide +kernel)
theorem dX11_digest_221 : decode cX11_digest 221 = .ok (.if_icmp .ge 24, 3) := dw162 (n := 192) (i := 29) (a := 0) (b := 24) kc_cX11_digest_6 (by decide +kernel) (by decide)
theorem dX11_digest_245 : decode cX11_digest 245 = .ok (.iinc 3 1, 3) := by decide +kernel
theorem dX11_digest_248 : decode cX11_digest 248 = .ok (.goto (-41), 3) := dw167 (n := 224) (i := 24) (a := 255) (b := 215) kc_cX11_digest_7 (by decide +kernel) (by decide)
theorem dX11_digest_224 : decode cX11_digest 224 = .ok (.ldc2_w 314, 3) := dw20 (n := 224) (i := 0) (a := 1) (b := 58) kc_cX11_digest_7 (by decide +kernel) (by decide)
theorem dX11_digest_227 : decode cX11_digest 227 = .ok (.lload_n 1, 1) := dw31 (n := 224) (i := 3) kc_cX11_digest_7 (by decide +kernel)
theorem dX11_digest_228 : decode cX11_digest 228 = .ok (.lmul, 1) := dw105 (n := 224) (i := 4) kc_cX11_digest_7 (by decide +kernel)
theorem dX11_digest_229 : decode cX11_digest 229 = .ok (.aload_n 0, 1) := dw42 (n := 224) (i := 5) kc_cX11_digest_7 (by decide +kernel)
theorem dX11_digest_230 : decode cX11_digest 230 = .ok (.iload_n 3, 1) := dw29 (n := 224) (i := 6) kc_cX11_digest_7 (by decide +kernel)
theorem dX11_digest_231 : decode cX11_digest 231 = .ok (.iload 4, 2) := dw21 (n := 224) (i := 7) (a := 4) kc_cX11_digest_7 (by decide +kernel) (by decide)
theorem dX11_digest_233 : decode cX11_digest 233 = .ok (.invokevirtual 316, 3) := dw182 (n := 224) (i := 9) (a := 1) (b := 60) kc_cX11_digest_7 (by decide +kernel) (by decide)
set_option maxRecDepth 20000 in
theorem ggX11_digest_X11_methodOf : GoodIn wsX11_digest wsX11_methodOf := (gk_code 18 rfl (gk_fieldLink 19 rfl (gk_fieldLink 20 rfl (gk_fieldLink 21 rfl (gk_fieldLink 22 rfl (gk_methodLink 23 rfl (gk_instanceMethod 24 rfl (gk_selects 25 rfl (gk_initialized 17 rfl (gk_code 26 rfl (gk_fieldLink 13 rfl (gk_methodLink 27 rfl (gk_static 28 rfl (gk_code 29 rfl (gk_lays 30 rfl (gk_laysFinal 31 rfl (gk_lays 32 rfl (gk_laysFinal 33 rfl (gk_lays 34 rfl (gk_laysFinal 35 rfl (gk_laysFinal 36 rfl (gk_laysFinal 37 rfl (gk_laysFinal 38 rfl (gk_lays 39 rfl (gk_laysFinal 40 rfl (gk_laysFinal 41 rfl (gk_laysFinal 42 rfl (gk_laysFinal 43 rfl (gk_lays 44 rfl (gk_laysFinal 45 rfl (gk_laysFinal 46 rfl (gk_laysFinal 47 rfl (gk_laysFinal 48 rfl (gk_laysFinal 49 rfl (gk_laysFinal 50 rfl (gk_laysFinal 51 rfl (gk_laysFinal 52 rfl (gk_lays 53 rfl (gk_lays 54 rfl (gk_lays 55 rfl (gk_lays 56 rfl (gk_lays 57 rfl (gk_lays 58 rfl (gk_lays 59 rfl (gk_laysFinal 60 rfl (gk_lays 61 rfl (gk_laysFinal 62 rfl (gk_laysFinal 63 rfl (gk_laysFinal 64 rfl (gk_laysFinal 65 rfl (gk_laysFinal 66 rfl (gk_laysFinal 67 rfl (gk_laysFinal 68 rfl (gk_laysFinal 69 rfl (gk_laysFinal 70 rfl (gk_laysFinal 71 rfl (gk_lays 72 rfl (gk_laysFinal 73 rfl (gk_lays 74 rfl (gk_laysFinal 75 rfl (gk_laysFinal 76 rfl (gk_laysFinal 77 rfl (gk_laysFinal 78 rfl (gk_laysFinal 79 rfl (gk_laysFinal 80 rfl (gk_laysFinal 81 rfl (gk_laysFinal 82 rfl (gn))))))))))))))))))))))))))))))))))))))))))))))))))))))))))))))))))))
set_option maxRecDepth 20000 in
theorem gX11_digest_X11_methodOf : GoodIn wsX11_digest (wsV RX11 316 RX11 yX11_methodOf wsX11_methodOf) := goodIn_app (gk_methodLink 14 rfl (gk_instanceMethod 15 rfl (gk_selects 16 rfl (gk_initialized 17 rfl (gn))))) ggX11_digest_X11_methodOf
theorem dX11_digest_236 : decode cX11_digest 236 = .ok (.i2l, 1) := dw133 (n := 224) (i := 12) kc_cX11_digest_7 (by decide +kernel)
theorem dX11_digest_237 : decode cX11_digest 237 = .ok (.ladd, 1) := dw97 (n := 224) (i := 13) kc_cX11_digest_7 (by decide +kernel)
theorem dX11_digest_238 : decode cX11_digest 238 = .ok (.lstore_n 1, 1) := dw64 (n := 224) (i := 14) kc_cX11_digest_7 (by decide +kernel)
theorem dX11_digest_239 : decode cX11_digest 239 = .ok (.iinc 4 1, 3) := by decide +kernel
theorem dX11_digest_242 : decode cX11_digest 242 = .ok (.goto (-24), 3) := dw167 (n := 224) (i := 18) (a := 255) (b := 232) kc_cX11_digest_7 (by decide +kernel) (by decide)
theorem dX11_digest_159 : decode cX11_digest 159 = .ok (.iconst 0, 1) := dw3 (n := 128) (i := 31) kc_cX11_digest_4 (by decide +kernel)
theorem dX11_digest_160 : decode cX11_digest 160 = .ok (.istore 4, 2) := dw54 (n := 160) (i := 0) (a := 4) kc_cX11_digest_5 (by decide +kernel) (by decide)
theorem dX11_digest_162 : decode cX11_digest 162 = .ok (.iload 4, 2) := dw21 (n := 160) (i := 2) (a := 4) kc_cX11_digest_5 (by decide +kernel) (by decide)
theorem dX11_digest_164 : decode cX11_digest 164 = .ok (.aload_n 0, 1) := dw42 (n := 160) (i := 4) kc_cX11_digest_5 (by decide +kernel)
theorem dX11_digest_165 : decode cX11_digest 165 = .ok (.getfield 31, 3) := dw180 (n := 160) (i := 5) (a := 0) (b := 31) kc_cX11_digest_5 (by decide +kernel) (by decide)
theorem dX11_digest_168 : decode cX11_digest 168 = .ok (.iload_n 3, 1) := dw29 (n := 160) (i := 8) kc_cX11_digest_5 (by decide +kernel)
theorem dX11_digest_169 : decode cX11_digest 169 = .ok (.iaload, 1) := dw46 (n := 160) (i := 9) kc_cX11_digest_5 (by decide +kernel)
theorem dX11_digest_170 : decode cX11_digest 170 = .ok (.if_icmp .ge 29, 3) := dw162 (n := 160) (i := 10) (a := 0) (b := 29) kc_cX11_digest_5 (by decide +kernel) (by decide)
theorem dX11_digest_199 : decode cX11_digest 199 = .ok (.iinc 3 1, 3) := by decide +kernel
theorem dX11_digest_202 : decode cX11_digest 202 = .ok (.goto (-51), 3) := dw167 (n := 192) (i := 10) (a := 255) (b := 205) kc_cX11_digest_6 (by decide +kernel) (by decide)
theorem dX11_digest_173 : decode cX11_digest 173 = .ok (.ldc2_w 314, 3) := dw20 (n := 160) (i := 13) (a := 1) (b := 58) kc_cX11_digest_5 (by decide +kernel) (by decide)
theorem dX11_digest_176 : decode cX11_digest 176 = .ok (.lload_n 1, 1) := dw31 (n := 160) (i := 16) kc_cX11_digest_5 (by decide +kernel)
theorem dX11_digest_177 : decode cX11_digest 177 = .ok (.lmul, 1) := dw105 (n := 160) (i := 17) kc_cX11_digest_5 (by decide +kernel)
theorem dX11_digest_178 : decode cX11_digest 178 = .ok (.aload_n 0, 1) := dw42 (n := 160) (i := 18) kc_cX11_digest_5 (by decide +kernel)
theorem dX11_digest_179 : decode cX11_digest 179 = .ok (.getfield 34, 3) := dw180 (n := 160) (i := 19) (a := 0) (b := 34) kc_cX11_digest_5 (by decide +kernel) (by decide)
theorem dX11_digest_182 : decode cX11_digest 182 = .ok (.bipush 40, 2) := dw16 (n := 160) (i := 22) (a := 40) kc_cX11_digest_5 (by decide +kernel) (by decide)
theorem dX11_digest_184 : decode cX11_digest 184 = .ok (.iload_n 3, 1) := dw29 (n := 160) (i := 24) kc_cX11_digest_5 (by decide +kernel)
theorem dX11_digest_185 : decode cX11_digest 185 = .ok (.imul, 1) := dw104 (n := 160) (i := 25) kc_cX11_digest_5 (by decide +kernel)
theorem dX11_digest_186 : decode cX11_digest 186 = .ok (.iload 4, 2) := dw21 (n := 160) (i := 26) (a := 4) kc_cX11_digest_5 (by decide +kernel) (by decide)
theorem dX11_digest_188 : decode cX11_digest 188 = .ok (.iadd, 1) := dw96 (n := 160) (i := 28) kc_cX11_digest_5 (by decide +kernel)
theorem dX11_digest_189 : decode cX11_digest 189 = .ok (.iaload, 1) := dw46 (n := 160) (i := 29) kc_cX11_digest_5 (by decide +kernel)
theorem dX11_digest_190 : decode cX11_digest 190 = .ok (.i2l, 1) := dw133 (n := 160) (i := 30) kc_cX11_digest_5 (by decide +kernel)
theorem dX11_digest_191 : decode cX11_digest 191 = .ok (.ladd, 1) := dw97 (n := 160) (i := 31) kc_cX11_digest_5 (by decide +kernel)
theorem dX11_digest_192 : decode cX11_digest 192 = .ok (.lstore_n 1, 1) := dw64 (n := 192) (i := 0) kc_cX11_digest_6 (by decide +kernel)
theorem dX11_digest_193 : decode cX11_digest 193 = .ok (.iinc 4 1, 3) := by decide +kernel
theorem dX11_digest_196 : decode cX11_digest 196 = .ok (.goto (-34), 3) := dw167 (n := 192) (i := 4) (a := 255) (b := 222) kc_cX11_digest_6 (by decide +kernel) (by decide)
theorem dX11_digest_44 : decode cX11_digest 44 = .ok (.ldc2_w 314, 3) := dw20 (n := 32) (i := 12) (a := 1) (b := 58) kc_cX11_digest_1 (by decide +kernel) (by decide)
theorem dX11_digest_47 : decode cX11_digest 47 = .ok (.ldc2_w 314, 3) := dw20 (n := 32) (i := 15) (a := 1) (b := 58) kc_cX11_digest_1 (by decide +kernel) (by decide)
theorem dX11_digest_50 : decode cX11_digest 50 = .ok (.ldc2_w 314, 3) := dw20 (n := 32) (i := 18) (a := 1) (b := 58) kc_cX11_digest_1 (by decide +kernel) (by decide)
theorem dX11_digest_53 : decode cX11_digest 53 = .ok (.lload_n 1, 1) := dw31 (n := 32) (i := 21) kc_cX11_digest_1 (by decide +kernel)
theorem dX11_digest_54 : decode cX11_digest 54 = .ok (.lmul, 1) := dw105 (n := 32) (i := 22) kc_cX11_digest_1 (by decide +kernel)
theorem dX11_digest_55 : decode cX11_digest 55 = .ok (.aload_n 0, 1) := dw42 (n := 32) (i := 23) kc_cX11_digest_1 (by decide +kernel)
theorem dX11_digest_56 : decode cX11_digest 56 = .ok (.getfield 16, 3) := dw180 (n := 32) (i := 24) (a := 0) (b := 16) kc_cX11_digest_1 (by decide +kernel) (by decide)
theorem dX11_digest_59 : decode cX11_digest 59 = .ok (.iload_n 3, 1) := dw29 (n := 32) (i := 27) kc_cX11_digest_1 (by decide +kernel)
theorem dX11_digest_60 : decode cX11_digest 60 = .ok (.iaload, 1) := dw46 (n := 32) (i := 28) kc_cX11_digest_1 (by decide +kernel)
theorem dX11_digest_61 : decode cX11_digest 61 = .ok (.i2l, 1) := dw133 (n := 32) (i := 29) kc_cX11_digest_1 (by decide +kernel)
theorem dX11_digest_62 : decode cX11_digest 62 = .ok (.ladd, 1) := dw97 (n := 32) (i := 30) kc_cX11_digest_1 (by decide +kernel)
theorem dX11_digest_63 : decode cX11_digest 63 = .ok (.lmul, 1) := dw105 (n := 32) (i := 31) kc_cX11_digest_1 (by decide +kernel)
theorem dX11_digest_64 : decode cX11_digest 64 = .ok (.aload_n 0, 1) := dw42 (n := 64) (i := 0) kc_cX11_digest_2 (by decide +kernel)
theorem dX11_digest_65 : decode cX11_digest 65 = .ok (.getfield 19, 3) := dw180 (n := 64) (i := 1) (a := 0) (b := 19) kc_cX11_digest_2 (by decide +kernel) (by decide)
theorem dX11_digest_68 : decode cX11_digest 68 = .ok (.iload_n 3, 1) := dw29 (n := 64) (i := 4) kc_cX11_digest_2 (by decide +kernel)
theorem dX11_digest_69 : decode cX11_digest 69 = .ok (.iaload, 1) := dw46 (n := 64) (i := 5) kc_cX11_digest_2 (by decide +kernel)
theorem dX11_digest_70 : decode cX11_digest 70 = .ok (.i2l, 1) := dw133 (n := 64) (i := 6) kc_cX11_digest_2 (by decide +kernel)
theorem dX11_digest_71 : decode cX11_digest 71 = .ok (.ladd, 1) := dw97 (n := 64) (i := 7) kc_cX11_digest_2 (by decide +kernel)
theorem dX11_digest_72 : decode cX11_digest 72 = .ok (.lmul, 1) := dw105 (n := 64) (i := 8) kc_cX11_digest_2 (by decide +kernel)
theorem dX11_digest_73 : decode cX11_digest 73 = .ok (.aload_n 0, 1) := dw42 (n := 64) (i := 9) kc_cX11_digest_2 (by decide +kernel)
theorem dX11_digest_74 : decode cX11_digest 74 = .ok (.getfield 22, 3) := dw180 (n := 64) (i := 10) (a := 0) (b := 22) kc_cX11_digest_2 (by decide +kernel) (by decide)
theorem dX11_digest_77 : decode cX11_digest 77 = .ok (.iload_n 3, 1) := dw29 (n := 64) (i := 13) kc_cX11_digest_2 (by decide +kernel)
theorem dX11_digest_78 : decode cX11_digest 78 = .ok (.iaload, 1) := dw46 (n := 64) (i := 14) kc_cX11_digest_2 (by decide +kernel)
theorem dX11_digest_79 : decode cX11_digest 79 = .ok (.i2l, 1) := dw133 (n := 64) (i := 15) kc_cX11_digest_2 (by decide +kernel)
theorem dX11_digest_80 : decode cX11_digest 80 = .ok (.ladd, 1) := dw97 (n := 64) (i := 16) kc_cX11_digest_2 (by decide +kernel)
theorem dX11_digest_81 : decode cX11_digest 81 = .ok (.lstore_n 1, 1) := dw64 (n := 64) (i := 17) kc_cX11_digest_2 (by decide +kernel)
theorem dX11_digest_82 : decode cX11_digest 82 = .ok (.aload_n 0, 1) := dw42 (n := 64) (i := 18) kc_cX11_digest_2 (by decide +kernel)
theorem dX11_digest_83 : decode cX11_digest 83 = .ok (.getfield 16, 3) := dw180 (n := 64) (i := 19) (a := 0) (b := 16) kc_cX11_digest_2 (by decide +kernel) (by decide)
theorem dX11_digest_86 : decode cX11_digest 86 = .ok (.iload_n 3, 1) := dw29 (n := 64) (i := 22) kc_cX11_digest_2 (by decide +kernel)
theorem dX11_digest_87 : decode cX11_digest 87 = .ok (.iaload, 1) := dw46 (n := 64) (i := 23) kc_cX11_digest_2 (by decide +kernel)
theorem dX11_digest_88 : decode cX11_digest 88 = .ok (.iconst 3, 1) := dw6 (n := 64) (i := 24) kc_cX11_digest_2 (by decide +kernel)
theorem dX11_digest_89 : decode cX11_digest 89 = .ok (.if_icmp .ne 10, 3) := dw160 (n := 64) (i := 25) (a := 0) (b := 10) kc_cX11_digest_2 (by decide +kernel) (by decide)
theorem dX11_digest_99 : decode cX11_digest 99 = .ok (.aload_n 0, 1) := dw42 (n := 96) (i := 3) kc_cX11_digest_3 (by decide +kernel)
theorem dX11_digest_100 : decode cX11_digest 100 = .ok (.getfield 22, 3) := dw180 (n := 96) (i := 4) (a := 0) (b := 22) kc_cX11_digest_3 (by decide +kernel) (by decide)
theorem dX11_digest_103 : decode cX11_digest 103 = .ok (.iload_n 3, 1) := dw29 (n := 96) (i := 7) kc_cX11_digest_3 (by decide +kernel)
theorem dX11_digest_104 : decode cX11_digest 104 = .ok (.iaload, 1) := dw46 (n := 96) (i := 8) kc_cX11_digest_3 (by decide +kernel)
theorem dX11_digest_105 : decode cX11_digest 105 = .ok (.istore 4, 2) := dw54 (n := 96) (i := 9) (a := 4) kc_cX11_digest_3 (by decide +kernel) (by decide)
theorem dX11_digest_107 : decode cX11_digest 107 = .ok (.iconst 0, 1) := dw3 (n := 96) (i := 11) kc_cX11_digest_3 (by decide +kernel)
theorem dX11_digest_108 : decode cX11_digest 108 = .ok (.istore 5, 2) := dw54 (n := 96) (i := 12) (a := 5) kc_cX11_digest_3 (by decide +kernel) (by decide)
theorem dX11_digest_110 : decode cX11_digest 110 = .ok (.iload 5, 2) := dw21 (n := 96) (i := 14) (a := 5) kc_cX11_digest_3 (by decide +kernel) (by decide)
theorem dX11_digest_112 : decode cX11_digest 112 = .ok (.iload 4, 2) := dw21 (n := 96) (i := 16) (a := 4) kc_cX11_digest_3 (by decide +kernel) (by decide)
theorem dX11_digest_114 : decode cX11_digest 114 = .ok (.if_icmp .ge 29, 3) := dw162 (n := 96) (i := 18) (a := 0) (b := 29) kc_cX11_digest_3 (by decide +kernel) (by decide)
theorem dX11_digest_143 : decode cX11_digest 143 = .ok (.iinc 3 1, 3) := by decide +kernel
theorem dX11_digest_146 : decode cX11_digest 146 = .ok (.goto (-110), 3) := dw167 (n := 128) (i := 18) (a := 255) (b := 146) kc_cX11_digest_4 (by decide +kernel) (by decide)
theorem dX11_digest_117 : decode cX11_digest 117 = .ok (.ldc2_w 314, 3) := dw20 (n := 96) (i := 21) (a := 1) (b := 58) kc_cX11_digest_3 (by decide +kernel) (by decide)
theorem dX11_digest_120 : decode cX11_digest 120 = .ok (.lload_n 1, 1) := dw31 (n := 96) (i := 24) kc_cX11_digest_3 (by decide +kernel)
theorem dX11_digest_121 : decode cX11_digest 121 = .ok (.lmul, 1) := dw105 (n := 96) (i := 25) kc_cX11_digest_3 (by decide +kernel)
theorem dX11_digest_122 : decode cX11_digest 122 = .ok (.aload_n 0, 1) := dw42 (n := 96) (i := 26) kc_cX11_digest_3 (by decide +kernel)
theorem dX11_digest_123 : decode cX11_digest 123 = .ok (.getfield 25, 3) := dw180 (n := 96) (i := 27) (a := 0) (b := 25) kc_cX11_digest_3 (by decide +kernel) (by decide)
theorem dX11_digest_126 : decode cX11_digest 126 = .ok (.bipush 10, 2) := dw16 (n := 96) (i := 30) (a := 10) kc_cX11_digest_3 (by decide +kernel) (by decide)
theorem dX11_digest_128 : decode cX11_digest 128 = .ok (.iload_n 3, 1) := dw29 (n := 128) (i := 0) kc_cX11_digest_4 (by decide +kernel)
theorem dX11_digest_129 : decode cX11_digest 129 = .ok (.imul, 1) := dw104 (n := 128) (i := 1) kc_cX11_digest_4 (by decide +kernel)
theorem dX11_digest_130 : decode cX11_digest 130 = .ok (.iload 5, 2) := dw21 (n := 128) (i := 2) (a := 5) kc_cX11_digest_4 (by decide +kernel) (by decide)
theorem dX11_digest_132 : decode cX11_digest 132 = .ok (.iadd, 1) := dw96 (n := 128) (i := 4) kc_cX11_digest_4 (by decide +kernel)
theorem dX11_digest_133 : decode cX11_digest 133 = .ok (.iaload, 1) := dw46 (n := 128) (i := 5) kc_cX11_digest_4 (by decide +kernel)
theorem dX11_digest_134 : decode cX11_digest 134 = .ok (.i2l, 1) := dw133 (n := 128) (i := 6) kc_cX11_digest_4 (by decide +kernel)
theorem dX11_digest_135 : decode cX11_digest 135 = .ok (.ladd, 1) := dw97 (n := 128) (i := 7) kc_cX11_digest_4 (by decide +kernel)
theorem dX11_digest_136 : decode cX11_digest 136 = .ok (.lstore_n 1, 1) := dw64 (n := 128) (i := 8) kc_cX11_digest_4 (by decide +kernel)
theorem dX11_digest_137 : decode cX11_digest 137 = .ok (.iinc 5 1, 3) := by decide +kernel
theorem dX11_digest_140 : decode cX11_digest 140 = .ok (.goto (-30), 3) := dw167 (n := 128) (i := 12) (a := 255) (b := 226) kc_cX11_digest_4 (by decide +kernel) (by decide)
theorem dX11_digest_92 : decode cX11_digest 92 = .ok (.aload_n 0, 1) := dw42 (n := 64) (i := 28) kc_cX11_digest_2 (by decide +kernel)
theorem dX11_digest_93 : decode cX11_digest 93 = .ok (.getfield 137, 3) := dw180 (n := 64) (i := 29) (a := 0) (b := 137) kc_cX11_digest_2 (by decide +kernel) (by decide)
theorem dX11_digest_96 : decode cX11_digest 96 = .ok (.goto 9, 3) := dw167 (n := 96) (i := 0) (a := 0) (b := 9) kc_cX11_digest_3 (by decide +kernel) (by decide)
theorem dX11_digest_14 : decode cX11_digest 14 = .ok (.ldc2_w 314, 3) := dw20 (n := 0) (i := 14) (a := 1) (b := 58) kc_cX11_digest_0 (by decide +kernel) (by decide)
theorem dX11_digest_17 : decode cX11_digest 17 = .ok (.lload_n 1, 1) := dw31 (n := 0) (i := 17) kc_cX11_digest_0 (by decide +kernel)
theorem dX11_digest_18 : decode cX11_digest 18 = .ok (.lmul, 1) := dw105 (n := 0) (i := 18) kc_cX11_digest_0 (by decide +kernel)
theorem dX11_digest_19 : decode cX11_digest 19 = .ok (.aload_n 0, 1) := dw42 (n := 0) (i := 19) kc_cX11_digest_0 (by decide +kernel)
theorem dX11_digest_20 : decode cX11_digest 20 = .ok (.getfield 13, 3) := dw180 (n := 0) (i := 20) (a := 0) (b := 13) kc_cX11_digest_0 (by decide +kernel) (by decide)
theorem dX11_digest_23 : decode cX11_digest 23 = .ok (.iload_n 3, 1) := dw29 (n := 0) (i := 23) kc_cX11_digest_0 (by decide +kernel)
theorem dX11_digest_24 : decode cX11_digest 24 = .ok (.iaload, 1) := dw46 (n := 0) (i := 24) kc_cX11_digest_0 (by decide +kernel)
theorem dX11_digest_25 : decode cX11_digest 25 = .ok (.i2l, 1) := dw133 (n := 0) (i := 25) kc_cX11_digest_0 (by decide +kernel)
theorem dX11_digest_26 : decode cX11_digest 26 = .ok (.ladd, 1) := dw97 (n := 0) (i := 26) kc_cX11_digest_0 (by decide +kernel)
theorem dX11_digest_27 : decode cX11_digest 27 = .ok (.lstore_n 1, 1) := dw64 (n := 0) (i := 27) kc_cX11_digest_0 (by decide +kernel)
theorem dX11_digest_28 : decode cX11_digest 28 = .ok (.iinc 3 1, 3) := by decide +kernel
theorem dX11_digest_31 : decode cX11_digest 31 = .ok (.goto (-25), 3) := dw167 (n := 0) (i := 31) (a := 255) (b := 231) kc_cX11_digest_0 (by decide +kernel) (by decide)
set_option maxHeartbeats 4000000 in
set_option maxRecDepth 100000 in
theorem s_X11_digest (l : Launch) (D : va_G) (ad : Nat → Nat) (cs : Nat → ClassId) (M : MI) (L : ML)  (hI : IR M) (hT : ∀ i, M 274 i = if (vR M 13 i).toInt = 0 then 0 else 1) : Cl l yX11_digest wsX11_digest ({ frames := 3, cells := 0, slots := 0, locals := 65 }) D ad cs [.ref (ad 258)] M L (fun r M1 L1 => M1 = M ∧ L1 = L ∧ (True)) := by
  refine enter_l RX11 rfl [(0, .ref (ad 258))] rfl (Nat.le_of_ble_eq_true rfl) (by decide +kernel) rfl ?_
  intro p e s m below meth c C hr
  have hF : ∀ k i, True → M k i = M k i := fun _ _ _ => rfl
  have hG : ∀ k i, True → L k i = L k i := fun _ _ _ => rfl
  have w0 : (vR M 0 0).toInt = (M 258 2).toInt := rfl
  have w1 : (vR M 0 1).toInt = (M 258 4).toInt := rfl
  have w2 : (vR M 0 2).toInt = (M 258 9).toInt := rfl
  have w3 : (vR M 0 3).toInt = (M 258 14).toInt := rfl
  obtain ⟨y0a, y0b⟩ := (show rg 0 10 (M 258 2) from hI 258 2)
  obtain ⟨y1a, y1b⟩ := (show rg 0 60 (M 258 4) from hI 258 4)
  obtain ⟨y2a, y2b⟩ := (show rg 0 8 (M 258 9) from hI 258 9)
  obtain ⟨y3a, y3b⟩ := (show rg 0 20 (M 258 14) from hI 258 14)
  refine g_ldc2 C 17 (List.mem_of_getElem? (i := 1) rfl) dX11_digest_0 ?_
  refine g_lstore_n C [(1, .long 17), (0, .ref (ad 258))] dX11_digest_3 (by decide) rfl ?_
  refine g_iconst C 0 dX11_digest_4 (by decide) ?_
  refine g_istore_n C [(3, .int 0), (1, .long 17), (0, .ref (ad 258))] dX11_digest_5 (by decide) rfl ?_
  have zy1 : (0 : Int32).toInt = 0 := by decide
  have zy2 : (17 : Int64).toInt = 17 := by decide
  refine g_loop (α := Int32 × Int64 × MI × ML) (fun a => (11 - a.1.toInt).toNat) (fun a => (0 ≤ a.1.toInt) ∧ (a.1.toInt ≤ 10) ∧ IR a.2.2.1 ∧ (∀ k i, True → a.2.2.1 k i = M k i) ∧ (∀ k i, True → a.2.2.2 k i = L k i)) (fun a => a.2.2.1) (fun a => a.2.2.2) (fun a => [(3, .int a.1), (1, .long a.2.1), (0, .ref (ad 258))]) ((0 : Int32), (17 : Int64), M, L) ⟨by show 0 ≤ (0 : Int32).toInt; omega, by show (0 : Int32).toInt ≤ 10; omega, hI, hF, hG⟩ rfl rfl rfl ?_
  rintro ⟨x3_6, x1_6, M_6, L_6⟩ ⟨j6_0, j6_1, hI, hF, hG⟩ ih_6
  dsimp only at j6_0 j6_1 hI hF hG ih_6 ⊢
  refine g_iload_n C 0 dX11_digest_6 rfl ?_
  refine g_aload_n C 2 dX11_digest_7 rfl ?_
  refine g_get C (.int (M_6 258 2)) 2 in_X11_digest_11 (List.mem_of_getElem? (i := 2) rfl) (by decide) (ce_model ad cs _ _) rfl (by decide) rfl rfl dX11_digest_8 ?_
  refine g_ni (fun v3 ev3 => ?_)
  have gv3 : v3 = vR M 0 0 := ev3.trans (hF 258 2 trivial)
  have tv3 := congrArg Int32.toInt gv3
  obtain ⟨bv3, dv3⟩ := (show rg 0 10 v3 from (by rw [ev3]; exact hI 258 2))
  refine g_icmp_ge C 34 dX11_digest_11 (by decide) (fun c4 => ?_) (fun c4 => ?_)
  ·
    have f5 := fle rfl rfl c4
    refine g_iconst C 0 dX11_digest_34 (by decide) ?_
    refine g_istore_n C [(3, .int 0), (1, .long x1_6), (0, .ref (ad 258))] dX11_digest_35 (by decide) rfl ?_
    have zy6 : (0 : Int32).toInt = 0 := by decide
    refine g_loop (α := Int32 × Int64 × MI × ML) (fun a => (61 - a.1.toInt).toNat) (fun a => (0 ≤ a.1.toInt) ∧ (a.1.toInt ≤ 60) ∧ IR a.2.2.1 ∧ (∀ k i, True → a.2.2.1 k i = M k i) ∧ (∀ k i, True → a.2.2.2 k i = L k i)) (fun a => a.2.2.1) (fun a => a.2.2.2) (fun a => [(3, .int a.1), (1, .long a.2.1), (0, .ref (ad 258))]) ((0 : Int32), x1_6, M_6, L_6) ⟨by show 0 ≤ (0 : Int32).toInt; omega, by show (0 : Int32).toInt ≤ 60; omega, hI, hF, hG⟩ rfl rfl rfl ?_
    rintro ⟨x3_36, x1_36, M_36, L_36⟩ ⟨j36_0, j36_1, hI, hF, hG⟩ ih_36
    dsimp only at j36_0 j36_1 hI hF hG ih_36 ⊢
    refine g_iload_n C 0 dX11_digest_36 rfl ?_
    refine g_aload_n C 2 dX11_digest_37 rfl ?_
    refine g_get C (.int (M_36 258 4)) 4 in_X11_digest_11 (List.mem_of_getElem? (i := 5) rfl) (by decide) (ce_model ad cs _ _) rfl (by decide) rfl rfl dX11_digest_38 ?_
    refine g_ni (fun v7 ev7 => ?_)
    have gv7 : v7 = vR M 0 1 := ev7.trans (hF 258 4 trivial)
    have tv7 := congrArg Int32.toInt gv7
    obtain ⟨bv7, dv7⟩ := (show rg 0 60 v7 from (by rw [ev7]; exact hI 258 4))
    refine g_icmp_ge C 149 dX11_digest_41 (by decide) (fun c8 => ?_) (fun c8 => ?_)
    ·
      have f9 := fle rfl rfl c8
      refine g_iconst C 0 dX11_digest_149 (by decide) ?_
      refine g_istore_n C [(3, .int 0), (1, .long x1_36), (0, .ref (ad 258))] dX11_digest_150 (by decide) rfl ?_
      have zy10 : (0 : Int32).toInt = 0 := by decide
      refine g_loop (α := Int32 × Int64 × MI × ML) (fun a => (9 - a.1.toInt).toNat) (fun a => (0 ≤ a.1.toInt) ∧ (a.1.toInt ≤ 8) ∧ IR a.2.2.1 ∧ (∀ k i, True → a.2.2.1 k i = M k i) ∧ (∀ k i, True → a.2.2.2 k i = L k i)) (fun a => a.2.2.1) (fun a => a.2.2.2) (fun a => [(3, .int a.1), (1, .long a.2.1), (0, .ref (ad 258))]) ((0 : Int32), x1_36, M_36, L_36) ⟨by show 0 ≤ (0 : Int32).toInt; omega, by show (0 : Int32).toInt ≤ 8; omega, hI, hF, hG⟩ rfl rfl rfl ?_
      rintro ⟨x3_151, x1_151, M_151, L_151⟩ ⟨j151_0, j151_1, hI, hF, hG⟩ ih_151
      dsimp only at j151_0 j151_1 hI hF hG ih_151 ⊢
      refine g_iload_n C 0 dX11_digest_151 rfl ?_
      refine g_aload_n C 2 dX11_digest_152 rfl ?_
      refine g_get C (.int (M_151 258 9)) 9 in_X11_digest_11 (List.mem_of_getElem? (i := 10) rfl) (by decide) (ce_model ad cs _ _) rfl (by decide) rfl rfl dX11_digest_153 ?_
      refine g_ni (fun v11 ev11 => ?_)
      have gv11 : v11 = vR M 0 2 := ev11.trans (hF 258 9 trivial)
      have tv11 := congrArg Int32.toInt gv11
      obtain ⟨bv11, dv11⟩ := (show rg 0 8 v11 from (by rw [ev11]; exact hI 258 9))
      refine g_icmp_ge C 205 dX11_digest_156 (by decide) (fun c12 => ?_) (fun c12 => ?_)
      ·
        have f13 := fle rfl rfl c12
        refine g_iconst C 0 dX11_digest_205 (by decide) ?_
        refine g_istore_n C [(3, .int 0), (1, .long x1_151), (0, .ref (ad 258))] dX11_digest_206 (by decide) rfl ?_
        have zy14 : (0 : Int32).toInt = 0 := by decide
        refine g_loop (α := Int32 × Int64 × MI × ML) (fun a => (21 - a.1.toInt).toNat) (fun a => (0 ≤ a.1.toInt) ∧ (a.1.toInt ≤ 20) ∧ IR a.2.2.1 ∧ (∀ k i, True → a.2.2.1 k i = M k i) ∧ (∀ k i, True → a.2.2.2 k i = L k i)) (fun a => a.2.2.1) (fun a => a.2.2.2) (fun a => [(3, .int a.1), (1, .long a.2.1), (0, .ref (ad 258))]) ((0 : Int32), x1_151, M_151, L_151) ⟨by show 0 ≤ (0 : Int32).toInt; omega, by show (0 : Int32).toInt ≤ 20; omega, hI, hF, hG⟩ rfl rfl rfl ?_
        rintro ⟨x3_207, x1_207, M_207, L_207⟩ ⟨j207_0, j207_1, hI, hF, hG⟩ ih_207
        dsimp only at j207_0 j207_1 hI hF hG ih_207 ⊢
        refine g_iload_n C 0 dX11_digest_207 rfl ?_
        refine g_aload_n C 2 dX11_digest_208 rfl ?_
        refine g_get C (.int (M_207 258 14)) 14 in_X11_digest_11 (List.mem_of_getElem? (i := 13) rfl) (by decide) (ce_model ad cs _ _) rfl (by decide) rfl rfl dX11_digest_209 ?_
        refine g_ni (fun v15 ev15 => ?_)
        have gv15 : v15 = vR M 0 3 := ev15.trans (hF 258 14 trivial)
        have tv15 := congrArg Int32.toInt gv15
        obtain ⟨bv15, dv15⟩ := (show rg 0 20 v15 from (by rw [ev15]; exact hI 258 14))
        refine g_icmp_ge C 251 dX11_digest_212 (by decide) (fun c16 => ?_) (fun c16 => ?_)
        ·
          have f17 := fle rfl rfl c16
          refine g_lload_n C 1 dX11_digest_251 rfl ?_
          exact g_lret C hr ⟨funext (fun k => funext (fun i => hF k i trivial)), funext (fun k => funext (fun i => hG k i trivial)), trivial⟩ dX11_digest_252
        ·
          have f18 := fnle rfl rfl c16
          refine g_iconst C 0 dX11_digest_215 (by decide) ?_
          refine g_istore C [(4, .int 0), (3, .int x3_207), (1, .long x1_207), (0, .ref (ad 258))] dX11_digest_216 (by decide) rfl ?_
          have zy19 : (0 : Int32).toInt = 0 := by decide
          refine g_loop (α := Int32 × Int64 × MI × ML) (fun a => (5 - a.1.toInt).toNat) (fun a => (0 ≤ a.1.toInt) ∧ (a.1.toInt ≤ 4) ∧ IR a.2.2.1 ∧ (∀ k i, True → a.2.2.1 k i = M k i) ∧ (∀ k i, True → a.2.2.2 k i = L k i)) (fun a => a.2.2.1) (fun a => a.2.2.2) (fun a => [(4, .int a.1), (3, .int x3_207), (1, .long a.2.1), (0, .ref (ad 258))]) ((0 : Int32), x1_207, M_207, L_207) ⟨by show 0 ≤ (0 : Int32).toInt; omega, by show (0 : Int32).toInt ≤ 4; omega, hI, hF, hG⟩ rfl rfl rfl ?_
          rintro ⟨x4_218, x1_218, M_218, L_218⟩ ⟨j218_0, j218_1, hI, hF, hG⟩ ih_218
          dsimp only at j218_0 j218_1 hI hF hG ih_218 ⊢
          refine g_iload C 0 dX11_digest_218 rfl ?_
          refine g_iconst C 4 dX11_digest_220 (by decide) ?_
          refine g_icmp_ge C 245 dX11_digest_221 (by decide) (fun c20 => ?_) (fun c20 => ?_)
          ·
            have f21 := fle (by decide : (4 : Int32).toInt = 4) rfl c20
            obtain ⟨v22, ev22⟩ : ∃ y : Int32, y = x3_207 + 1 := ⟨_, rfl⟩
            try have fv22 := fadd rfl (by decide : (1 : Int32).toInt = 1) ev22 (by omega) (by omega)
            refine g_iinc C 1 v22 [(3, .int v22), (4, .int x4_218), (1, .long x1_218), (0, .ref (ad 258))] dX11_digest_245 rfl (by rw [ev22]; rfl) (by decide) rfl ?_
            refine g_goto C 207 dX11_digest_248 (by decide) ?_
            refine g_lv [0, 2, 3] [(3, .int v22), (1, .long x1_218), (0, .ref (ad 258))] rfl ?_
            exact ih_207 (v22, x1_218, M_218, L_218) ⟨by show 0 ≤ v22.toInt; omega, by show v22.toInt ≤ 20; omega, hI, hF, hG⟩ (by show (21 - v22.toInt).toNat < (21 - x3_207.toInt).toNat; omega)
          ·
            have f23 := fnle (by decide : (4 : Int32).toInt = 4) rfl c20
            refine g_ldc2 C 31 (List.mem_of_getElem? (i := 3) rfl) dX11_digest_224 ?_
            refine g_lload_n C 2 dX11_digest_227 rfl ?_
            refine g_lmul C dX11_digest_228 ?_
            refine g_nl (fun v24 ev24 => ?_)
            try have fv24 := prodI ev24
            refine g_aload_n C 3 dX11_digest_229 rfl ?_
            refine g_iload_n C 1 dX11_digest_230 rfl ?_
            refine g_iload C 0 dX11_digest_231 rfl ?_
            refine g_callVi C (n := 2) (As := [.int x3_207, .int x4_218]) (st := [.long v24]) (s_X11_methodOf l D ad cs _ _ x3_207 x4_218 hI (by intro i; rw [hF 274 i trivial]; have e : M_218 = M := funext (fun k => funext (fun i => hF k i trivial)); rw [e]; exact hT i)) gX11_digest_X11_methodOf rfl rfl rfl (by decide +kernel) ⟨Nat.le_of_ble_eq_true rfl, Nat.le_of_ble_eq_true rfl⟩ rfl (Nat.le_of_ble_eq_true rfl) ⟨Nat.zero_le _, Nat.zero_le _⟩ (by decide) (ce_model ad cs _ _) rfl rfl dX11_digest_233 (fun r25 M26 L27 hr25 => ?_)
            obtain ⟨hq1, hq2, hr25⟩ := hr25
            obtain rfl := hq1.symm
            obtain rfl := hq2.symm
            refine g_i2l C dX11_digest_236 ?_
            refine g_nl (fun v28 ev28 => ?_)
            have fv28 := fi2l rfl ev28
            refine g_ladd C dX11_digest_237 ?_
            refine g_nl (fun v29 ev29 => ?_)
            try have fv29 := fladd rfl rfl ev29 (by omega) (by omega)
            refine g_lstore_n C [(1, .long v29), (4, .int x4_218), (3, .int x3_207), (0, .ref (ad 258))] dX11_digest_238 (by decide) rfl ?_
            obtain ⟨v30, ev30⟩ : ∃ y : Int32, y = x4_218 + 1 := ⟨_, rfl⟩
            try have fv30 := fadd rfl (by decide : (1 : Int32).toInt = 1) ev30 (by omega) (by omega)
            refine g_iinc C 1 v30 [(4, .int v30), (1, .long v29), (3, .int x3_207), (0, .ref (ad 258))] dX11_digest_239 rfl (by rw [ev30]; rfl) (by decide) rfl ?_
            refine g_goto C 218 dX11_digest_242 (by decide) ?_
            refine g_lv [0, 2, 1, 3] [(4, .int v30), (3, .int x3_207), (1, .long v29), (0, .ref (ad 258))] rfl ?_
            exact ih_218 (v30, v29, M_218, L_218) ⟨by show 0 ≤ v30.toInt; omega, by show v30.toInt ≤ 4; omega, hI, hF, hG⟩ (by show (5 - v30.toInt).toNat < (5 - x4_218.toInt).toNat; omega)
      ·
        have f31 := fnle rfl rfl c12
        refine g_iconst C 0 dX11_digest_159 (by decide) ?_
        refine g_istore C [(4, .int 0), (3, .int x3_151), (1, .long x1_151), (0, .ref (ad 258))] dX11_digest_160 (by decide) rfl ?_
        have zy32 : (0 : Int32).toInt = 0 := by decide
        refine g_loop (α := Int32 × Int64 × MI × ML) (fun a => (41 - a.1.toInt).toNat) (fun a => (0 ≤ a.1.toInt) ∧ (a.1.toInt ≤ 40) ∧ IR a.2.2.1 ∧ (∀ k i, True → a.2.2.1 k i = M k i) ∧ (∀ k i, True → a.2.2.2 k i = L k i)) (fun a => a.2.2.1) (fun a => a.2.2.2) (fun a => [(4, .int a.1), (3, .int x3_151), (1, .long a.2.1), (0, .ref (ad 258))]) ((0 : Int32), x1_151, M_151, L_151) ⟨by show 0 ≤ (0 : Int32).toInt; omega, by show (0 : Int32).toInt ≤ 40; omega, hI, hF, hG⟩ rfl rfl rfl ?_
        rintro ⟨x4_162, x1_162, M_162, L_162⟩ ⟨j162_0, j162_1, hI, hF, hG⟩ ih_162
        dsimp only at j162_0 j162_1 hI hF hG ih_162 ⊢
        refine g_iload C 0 dX11_digest_162 rfl ?_
        refine g_aload_n C 3 dX11_digest_164 rfl ?_
        refine g_get C (.ref (ad 266)) 11 in_X11_digest_11 (List.mem_of_getElem? (i := 11) rfl) (by decide) (ce_model ad cs _ _) rfl (by decide) rfl rfl dX11_digest_165 ?_
        refine g_iload_n C 1 dX11_digest_168 rfl ?_
        refine g_iald C (by decide) (ce_m_boxSize ad cs _ _) (fin' (n := 8) rfl (by omega) (by omega)) dX11_digest_169 ?_
        refine g_ni (fun v33 ev33 => ?_)
        have gv33 : v33 = vR M 7 x3_151.toNatClampNeg := ev33.trans (hF 266 x3_151.toNatClampNeg trivial)
        have tv33 := congrArg Int32.toInt gv33
        obtain ⟨bv33, dv33⟩ := (show rg 0 40 v33 from (by rw [ev33]; exact hI 266 x3_151.toNatClampNeg))
        refine g_icmp_ge C 199 dX11_digest_170 (by decide) (fun c34 => ?_) (fun c34 => ?_)
        ·
          have f35 := fle rfl rfl c34
          obtain ⟨v36, ev36⟩ : ∃ y : Int32, y = x3_151 + 1 := ⟨_, rfl⟩
          try have fv36 := fadd rfl (by decide : (1 : Int32).toInt = 1) ev36 (by omega) (by omega)
          refine g_iinc C 1 v36 [(3, .int v36), (4, .int x4_162), (1, .long x1_162), (0, .ref (ad 258))] dX11_digest_199 rfl (by rw [ev36]; rfl) (by decide) rfl ?_
          refine g_goto C 151 dX11_digest_202 (by decide) ?_
          refine g_lv [0, 2, 3] [(3, .int v36), (1, .long x1_162), (0, .ref (ad 258))] rfl ?_
          exact ih_151 (v36, x1_162, M_162, L_162) ⟨by show 0 ≤ v36.toInt; omega, by show v36.toInt ≤ 8; omega, hI, hF, hG⟩ (by show (9 - v36.toInt).toNat < (9 - x3_151.toInt).toNat; omega)
        ·
          have f37 := fnle rfl rfl c34
          refine g_ldc2 C 31 (List.mem_of_getElem? (i := 3) rfl) dX11_digest_173 ?_
          refine g_lload_n C 2 dX11_digest_176 rfl ?_
          refine g_lmul C dX11_digest_177 ?_
          refine g_nl (fun v38 ev38 => ?_)
          try have fv38 := prodI ev38
          refine g_aload_n C 3 dX11_digest_178 rfl ?_
          refine g_get C (.ref (ad 267)) 12 in_X11_digest_11 (List.mem_of_getElem? (i := 12) rfl) (by decide) (ce_model ad cs _ _) rfl (by decide) rfl rfl dX11_digest_179 ?_
          refine g_bipush C 40 dX11_digest_182 (by decide) ?_
          refine g_iload_n C 1 dX11_digest_184 rfl ?_
          refine g_imul C dX11_digest_185 ?_
          refine g_ni (fun v39 ev39 => ?_)
          try have fv39 := fmul (by decide : (40 : Int32).toInt = 40) rfl ev39 (by omega) (by omega)
          refine g_iload C 0 dX11_digest_186 rfl ?_
          refine g_iadd C dX11_digest_188 ?_
          refine g_ni (fun v40 ev40 => ?_)
          try have fv40 := fadd rfl rfl ev40 (by omega) (by omega)
          refine g_iald C (by decide) (ce_m_boxed ad cs _ _) (fin' (n := 320) rfl (by omega) (by omega)) dX11_digest_189 ?_
          have nx3_151 := ixn (x := x3_151) (by omega)
          have nx4_162 := ixn (x := x4_162) (by omega)
          have nv40 := ixn (x := v40) (by omega)
          have iv40 : v40.toNatClampNeg = 40 * x3_151.toNatClampNeg + x4_162.toNatClampNeg := by omega
          refine g_ni (fun v41 ev41 => ?_)
          have gv41 : v41 = M 267 v40.toNatClampNeg := ev41.trans (hF 267 v40.toNatClampNeg trivial)
          have gv41 := cg1 (f := M 267) gv41 iv40
          have gv41 := gv41.trans (vR8 (M := M) (by omega)).symm
          have tv41 := congrArg Int32.toInt gv41
          have bv41 : bxd v41 := (by rw [ev41]; exact hI 267 v40.toNatClampNeg)
          unfold bxd at bv41
          refine g_i2l C dX11_digest_190 ?_
          refine g_nl (fun v42 ev42 => ?_)
          have fv42 := fi2l rfl ev42
          refine g_ladd C dX11_digest_191 ?_
          refine g_nl (fun v43 ev43 => ?_)
          try have fv43 := fladd rfl rfl ev43 (by omega) (by omega)
          refine g_lstore_n C [(1, .long v43), (4, .int x4_162), (3, .int x3_151), (0, .ref (ad 258))] dX11_digest_192 (by decide) rfl ?_
          obtain ⟨v44, ev44⟩ : ∃ y : Int32, y = x4_162 + 1 := ⟨_, rfl⟩
          try have fv44 := fadd rfl (by decide : (1 : Int32).toInt = 1) ev44 (by omega) (by omega)
          refine g_iinc C 1 v44 [(4, .int v44), (1, .long v43), (3, .int x3_151), (0, .ref (ad 258))] dX11_digest_193 rfl (by rw [ev44]; rfl) (by decide) rfl ?_
          refine g_goto C 162 dX11_digest_196 (by decide) ?_
          refine g_lv [0, 2, 1, 3] [(4, .int v44), (3, .int x3_151), (1, .long v43), (0, .ref (ad 258))] rfl ?_
          exact ih_162 (v44, v43, M_162, L_162) ⟨by show 0 ≤ v44.toInt; omega, by show v44.toInt ≤ 40; omega, hI, hF, hG⟩ (by show (41 - v44.toInt).toNat < (41 - x4_162.toInt).toNat; omega)
    ·
      have f45 := fnle rfl rfl c8
      refine g_ldc2 C 31 (List.mem_of_getElem? (i := 3) rfl) dX11_digest_44 ?_
      refine g_ldc2 C 31 (List.mem_of_getElem? (i := 3) rfl) dX11_digest_47 ?_
      refine g_ldc2 C 31 (List.mem_of_getElem? (i := 3) rfl) dX11_digest_50 ?_
      refine g_lload_n C 1 dX11_digest_53 rfl ?_
      refine g_lmul C dX11_digest_54 ?_
      refine g_nl (fun v46 ev46 => ?_)
      try have fv46 := prodI ev46
      refine g_aload_n C 2 dX11_digest_55 rfl ?_
      refine g_get C (.ref (ad 261)) 5 in_X11_digest_11 (List.mem_of_getElem? (i := 6) rfl) (by decide) (ce_model ad cs _ _) rfl (by decide) rfl rfl dX11_digest_56 ?_
      refine g_iload_n C 0 dX11_digest_59 rfl ?_
      refine g_iald C (by decide) (ce_m_sortOf ad cs _ _) (fin' (n := 60) rfl (by omega) (by omega)) dX11_digest_60 ?_
      refine g_ni (fun v47 ev47 => ?_)
      have gv47 : v47 = vR M 2 x3_36.toNatClampNeg := ev47.trans (hF 261 x3_36.toNatClampNeg trivial)
      have tv47 := congrArg Int32.toInt gv47
      refine g_i2l C dX11_digest_61 ?_
      refine g_nl (fun v48 ev48 => ?_)
      have fv48 := fi2l rfl ev48
      refine g_ladd C dX11_digest_62 ?_
      refine g_nl (fun v49 ev49 => ?_)
      try have fv49 := fladd rfl rfl ev49 (by omega) (by omega)
      refine g_lmul C dX11_digest_63 ?_
      refine g_nl (fun v50 ev50 => ?_)
      try have fv50 := prodI ev50
      refine g_aload_n C 2 dX11_digest_64 rfl ?_
      refine g_get C (.ref (ad 262)) 6 in_X11_digest_11 (List.mem_of_getElem? (i := 7) rfl) (by decide) (ce_model ad cs _ _) rfl (by decide) rfl rfl dX11_digest_65 ?_
      refine g_iload_n C 0 dX11_digest_68 rfl ?_
      refine g_iald C (by decide) (ce_m_papersOf ad cs _ _) (fin' (n := 60) rfl (by omega) (by omega)) dX11_digest_69 ?_
      refine g_ni (fun v51 ev51 => ?_)
      have gv51 : v51 = vR M 3 x3_36.toNatClampNeg := ev51.trans (hF 262 x3_36.toNatClampNeg trivial)
      have tv51 := congrArg Int32.toInt gv51
      obtain ⟨bv51, dv51⟩ := (show rg 0 100000 v51 from (by rw [ev51]; exact hI 262 x3_36.toNatClampNeg))
      refine g_i2l C dX11_digest_70 ?_
      refine g_nl (fun v52 ev52 => ?_)
      have fv52 := fi2l rfl ev52
      refine g_ladd C dX11_digest_71 ?_
      refine g_nl (fun v53 ev53 => ?_)
      try have fv53 := fladd rfl rfl ev53 (by omega) (by omega)
      refine g_lmul C dX11_digest_72 ?_
      refine g_nl (fun v54 ev54 => ?_)
      try have fv54 := prodI ev54
      refine g_aload_n C 2 dX11_digest_73 rfl ?_
      refine g_get C (.ref (ad 263)) 7 in_X11_digest_11 (List.mem_of_getElem? (i := 8) rfl) (by decide) (ce_model ad cs _ _) rfl (by decide) rfl rfl dX11_digest_74 ?_
      refine g_iload_n C 0 dX11_digest_77 rfl ?_
      refine g_iald C (by decide) (ce_m_onIt ad cs _ _) (fin' (n := 60) rfl (by omega) (by omega)) dX11_digest_78 ?_
      refine g_ni (fun v55 ev55 => ?_)
      have gv55 : v55 = vR M 4 x3_36.toNatClampNeg := ev55.trans (hF 263 x3_36.toNatClampNeg trivial)
      have tv55 := congrArg Int32.toInt gv55
      obtain ⟨bv55, dv55⟩ := (show rg 0 10 v55 from (by rw [ev55]; exact hI 263 x3_36.toNatClampNeg))
      refine g_i2l C dX11_digest_79 ?_
      refine g_nl (fun v56 ev56 => ?_)
      have fv56 := fi2l rfl ev56
      refine g_ladd C dX11_digest_80 ?_
      refine g_nl (fun v57 ev57 => ?_)
      try have fv57 := fladd rfl rfl ev57 (by omega) (by omega)
      refine g_lstore_n C [(1, .long v57), (3, .int x3_36), (0, .ref (ad 258))] dX11_digest_81 (by decide) rfl ?_
      refine g_aload_n C 2 dX11_digest_82 rfl ?_
      refine g_get C (.ref (ad 261)) 5 in_X11_digest_11 (List.mem_of_getElem? (i := 6) rfl) (by decide) (ce_model ad cs _ _) rfl (by decide) rfl rfl dX11_digest_83 ?_
      refine g_iload_n C 1 dX11_digest_86 rfl ?_
      refine g_iald C (by decide) (ce_m_sortOf ad cs _ _) (fin' (n := 60) rfl (by omega) (by omega)) dX11_digest_87 ?_
      refine g_ni (fun v58 ev58 => ?_)
      have gv58 : v58 = vR M 2 x3_36.toNatClampNeg := ev58.trans (hF 261 x3_36.toNatClampNeg trivial)
      have tv58 := congrArg Int32.toInt gv58
      refine g_iconst C 3 dX11_digest_88 (by decide) ?_
      refine g_icmp_ne C 99 dX11_digest_89 (by decide) (fun c59 => ?_) (fun c59 => ?_)
      ·
        have f60 := fne rfl (by decide : (3 : Int32).toInt = 3) c59
        refine g_aload_n C 2 dX11_digest_99 rfl ?_
        refine g_get C (.ref (ad 263)) 7 in_X11_digest_11 (List.mem_of_getElem? (i := 8) rfl) (by decide) (ce_model ad cs _ _) rfl (by decide) rfl rfl dX11_digest_100 ?_
        refine g_iload_n C 1 dX11_digest_103 rfl ?_
        refine g_iald C (by decide) (ce_m_onIt ad cs _ _) (fin' (n := 60) rfl (by omega) (by omega)) dX11_digest_104 ?_
        refine g_ni (fun v61 ev61 => ?_)
        have gv61 : v61 = vR M 4 x3_36.toNatClampNeg := ev61.trans (hF 263 x3_36.toNatClampNeg trivial)
        have tv61 := congrArg Int32.toInt gv61
        obtain ⟨bv61, dv61⟩ := (show rg 0 10 v61 from (by rw [ev61]; exact hI 263 x3_36.toNatClampNeg))
        refine g_istore C [(4, .int v61), (1, .long v57), (3, .int x3_36), (0, .ref (ad 258))] dX11_digest_105 (by decide) rfl ?_
        refine g_iconst C 0 dX11_digest_107 (by decide) ?_
        refine g_istore C [(5, .int 0), (4, .int v61), (1, .long v57), (3, .int x3_36), (0, .ref (ad 258))] dX11_digest_108 (by decide) rfl ?_
        have zy62 : (0 : Int32).toInt = 0 := by decide
        refine g_loop (α := Int32 × Int64 × MI × ML) (fun a => (11 - a.1.toInt).toNat) (fun a => (0 ≤ a.1.toInt) ∧ (a.1.toInt ≤ 10) ∧ IR a.2.2.1 ∧ (∀ k i, True → a.2.2.1 k i = M k i) ∧ (∀ k i, True → a.2.2.2 k i = L k i)) (fun a => a.2.2.1) (fun a => a.2.2.2) (fun a => [(5, .int a.1), (4, .int v61), (1, .long a.2.1), (3, .int x3_36), (0, .ref (ad 258))]) ((0 : Int32), v57, M_36, L_36) ⟨by show 0 ≤ (0 : Int32).toInt; omega, by show (0 : Int32).toInt ≤ 10; omega, hI, hF, hG⟩ rfl rfl rfl ?_
        rintro ⟨x5_110, x1_110, M_110, L_110⟩ ⟨j110_0, j110_1, hI, hF, hG⟩ ih_110
        dsimp only at j110_0 j110_1 hI hF hG ih_110 ⊢
        refine g_iload C 0 dX11_digest_110 rfl ?_
        refine g_iload C 1 dX11_digest_112 rfl ?_
        refine g_icmp_ge C 143 dX11_digest_114 (by decide) (fun c63 => ?_) (fun c63 => ?_)
        ·
          have f64 := fle rfl rfl c63
          obtain ⟨v65, ev65⟩ : ∃ y : Int32, y = x3_36 + 1 := ⟨_, rfl⟩
          try have fv65 := fadd rfl (by decide : (1 : Int32).toInt = 1) ev65 (by omega) (by omega)
          refine g_iinc C 3 v65 [(3, .int v65), (5, .int x5_110), (4, .int v61), (1, .long x1_110), (0, .ref (ad 258))] dX11_digest_143 rfl (by rw [ev65]; rfl) (by decide) rfl ?_
          refine g_goto C 36 dX11_digest_146 (by decide) ?_
          refine g_lv [0, 3, 4] [(3, .int v65), (1, .long x1_110), (0, .ref (ad 258))] rfl ?_
          exact ih_36 (v65, x1_110, M_110, L_110) ⟨by show 0 ≤ v65.toInt; omega, by show v65.toInt ≤ 60; omega, hI, hF, hG⟩ (by show (61 - v65.toInt).toNat < (61 - x3_36.toInt).toNat; omega)
        ·
          have f66 := fnle rfl rfl c63
          refine g_ldc2 C 31 (List.mem_of_getElem? (i := 3) rfl) dX11_digest_117 ?_
          refine g_lload_n C 2 dX11_digest_120 rfl ?_
          refine g_lmul C dX11_digest_121 ?_
          refine g_nl (fun v67 ev67 => ?_)
          try have fv67 := prodI ev67
          refine g_aload_n C 4 dX11_digest_122 rfl ?_
          refine g_get C (.ref (ad 264)) 8 in_X11_digest_11 (List.mem_of_getElem? (i := 9) rfl) (by decide) (ce_model ad cs _ _) rfl (by decide) rfl rfl dX11_digest_123 ?_
          refine g_bipush C 10 dX11_digest_126 (by decide) ?_
          refine g_iload_n C 3 dX11_digest_128 rfl ?_
          refine g_imul C dX11_digest_129 ?_
          refine g_ni (fun v68 ev68 => ?_)
          try have fv68 := fmul (by decide : (10 : Int32).toInt = 10) rfl ev68 (by omega) (by omega)
          refine g_iload C 0 dX11_digest_130 rfl ?_
          refine g_iadd C dX11_digest_132 ?_
          refine g_ni (fun v69 ev69 => ?_)
          try have fv69 := fadd rfl rfl ev69 (by omega) (by omega)
          refine g_iald C (by decide) (ce_m_marks ad cs _ _) (fin' (n := 600) rfl (by omega) (by omega)) dX11_digest_133 ?_
          have nx3_36 := ixn (x := x3_36) (by omega)
          have nx5_110 := ixn (x := x5_110) (by omega)
          have nv69 := ixn (x := v69) (by omega)
          have iv69 : v69.toNatClampNeg = 10 * x3_36.toNatClampNeg + x5_110.toNatClampNeg := by omega
          refine g_ni (fun v70 ev70 => ?_)
          have gv70 : v70 = vR M 5 v69.toNatClampNeg := ev70.trans (hF 264 v69.toNatClampNeg trivial)
          have gv70 := cg1 (f := vR M 5) gv70 iv69
          have tv70 := congrArg Int32.toInt gv70
          obtain ⟨bv70, dv70⟩ := (show rg 0 9 v70 from (by rw [ev70]; exact hI 264 v69.toNatClampNeg))
          refine g_i2l C dX11_digest_134 ?_
          refine g_nl (fun v71 ev71 => ?_)
          have fv71 := fi2l rfl ev71
          refine g_ladd C dX11_digest_135 ?_
          refine g_nl (fun v72 ev72 => ?_)
          try have fv72 := fladd rfl rfl ev72 (by omega) (by omega)
          refine g_lstore_n C [(1, .long v72), (5, .int x5_110), (4, .int v61), (3, .int x3_36), (0, .ref (ad 258))] dX11_digest_136 (by decide) rfl ?_
          obtain ⟨v73, ev73⟩ : ∃ y : Int32, y = x5_110 + 1 := ⟨_, rfl⟩
          try have fv73 := fadd rfl (by decide : (1 : Int32).toInt = 1) ev73 (by omega) (by omega)
          refine g_iinc C 1 v73 [(5, .int v73), (1, .long v72), (4, .int v61), (3, .int x3_36), (0, .ref (ad 258))] dX11_digest_137 rfl (by rw [ev73]; rfl) (by decide) rfl ?_
          refine g_goto C 110 dX11_digest_140 (by decide) ?_
          refine g_lv [0, 2, 1, 3, 4] [(5, .int v73), (4, .int v61), (1, .long v72), (3, .int x3_36), (0, .ref (ad 258))] rfl ?_
          exact ih_110 (v73, v72, M_110, L_110) ⟨by show 0 ≤ v73.toInt; omega, by show v73.toInt ≤ 10; omega, hI, hF, hG⟩ (by show (11 - v73.toInt).toNat < (11 - x5_110.toInt).toNat; omega)
      ·
        have f74 := feq rfl (by decide : (3 : Int32).toInt = 3) c59
        refine g_aload_n C 2 dX11_digest_92 rfl ?_
        refine g_get C (.int (M_36 258 2)) 2 in_X11_digest_11 (List.mem_of_getElem? (i := 2) rfl) (by decide) (ce_model ad cs _ _) rfl (by decide) rfl rfl dX11_digest_93 ?_
        refine g_ni (fun v75 ev75 => ?_)
        have gv75 : v75 = vR M 0 0 := ev75.trans (hF 258 2 trivial)
        have tv75 := congrArg Int32.toInt gv75
        obtain ⟨bv75, dv75⟩ := (show rg 0 10 v75 from (by rw [ev75]; exact hI 258 2))
        refine g_goto C 105 dX11_digest_96 (by decide) ?_
        refine g_istore C [(4, .int v75), (1, .long v57), (3, .int x3_36), (0, .ref (ad 258))] dX11_digest_105 (by decide) rfl ?_
        refine g_iconst C 0 dX11_digest_107 (by decide) ?_
        refine g_istore C [(5, .int 0), (4, .int v75), (1, .long v57), (3, .int x3_36), (0, .ref (ad 258))] dX11_digest_108 (by decide) rfl ?_
        have zy76 : (0 : Int32).toInt = 0 := by decide
        refine g_loop (α := Int32 × Int64 × MI × ML) (fun a => (11 - a.1.toInt).toNat) (fun a => (0 ≤ a.1.toInt) ∧ (a.1.toInt ≤ 10) ∧ IR a.2.2.1 ∧ (∀ k i, True → a.2.2.1 k i = M k i) ∧ (∀ k i, True → a.2.2.2 k i = L k i)) (fun a => a.2.2.1) (fun a => a.2.2.2) (fun a => [(5, .int a.1), (4, .int v75), (1, .long a.2.1), (3, .int x3_36), (0, .ref (ad 258))]) ((0 : Int32), v57, M_36, L_36) ⟨by show 0 ≤ (0 : Int32).toInt; omega, by show (0 : Int32).toInt ≤ 10; omega, hI, hF, hG⟩ rfl rfl rfl ?_
        rintro ⟨x5_110, x1_110, M_110, L_110⟩ ⟨j110_0, j110_1, hI, hF, hG⟩ ih_110
        dsimp only at j110_0 j110_1 hI hF hG ih_110 ⊢
        refine g_iload C 0 dX11_digest_110 rfl ?_
        refine g_iload C 1 dX11_digest_112 rfl ?_
        refine g_icmp_ge C 143 dX11_digest_114 (by decide) (fun c77 => ?_) (fun c77 => ?_)
        ·
          have f78 := fle rfl rfl c77
          obtain ⟨v79, ev79⟩ : ∃ y : Int32, y = x3_36 + 1 := ⟨_, rfl⟩
          try have fv79 := fadd rfl (by decide : (1 : Int32).toInt = 1) ev79 (by omega) (by omega)
          refine g_iinc C 3 v79 [(3, .int v79), (5, .int x5_110), (4, .int v75), (1, .long x1_110), (0, .ref (ad 258))] dX11_digest_143 rfl (by rw [ev79]; rfl) (by decide) rfl ?_
          refine g_goto C 36 dX11_digest_146 (by decide) ?_
          refine g_lv [0, 3, 4] [(3, .int v79), (1, .long x1_110), (0, .ref (ad 258))] rfl ?_
          exact ih_36 (v79, x1_110, M_110, L_110) ⟨by show 0 ≤ v79.toInt; omega, by show v79.toInt ≤ 60; omega, hI, hF, hG⟩ (by show (61 - v79.toInt).toNat < (61 - x3_36.toInt).toNat; omega)
        ·
          have f80 := fnle rfl rfl c77
          refine g_ldc2 C 31 (List.mem_of_getElem? (i := 3) rfl) dX11_digest_117 ?_
          refine g_lload_n C 2 dX11_digest_120 rfl ?_
          refine g_lmul C dX11_digest_121 ?_
          refine g_nl (fun v81 ev81 => ?_)
          try have fv81 := prodI ev81
          refine g_aload_n C 4 dX11_digest_122 rfl ?_
          refine g_get C (.ref (ad 264)) 8 in_X11_digest_11 (List.mem_of_getElem? (i := 9) rfl) (by decide) (ce_model ad cs _ _) rfl (by decide) rfl rfl dX11_digest_123 ?_
          refine g_bipush C 10 dX11_digest_126 (by decide) ?_
          refine g_iload_n C 3 dX11_digest_128 rfl ?_
          refine g_imul C dX11_digest_129 ?_
          refine g_ni (fun v82 ev82 => ?_)
          try have fv82 := fmul (by decide : (10 : Int32).toInt = 10) rfl ev82 (by omega) (by omega)
          refine g_iload C 0 dX11_digest_130 rfl ?_
          refine g_iadd C dX11_digest_132 ?_
          refine g_ni (fun v83 ev83 => ?_)
          try have fv83 := fadd rfl rfl ev83 (by omega) (by omega)
          refine g_iald C (by decide) (ce_m_marks ad cs _ _) (fin' (n := 600) rfl (by omega) (by omega)) dX11_digest_133 ?_
          have nx3_36 := ixn (x := x3_36) (by omega)
          have nx5_110 := ixn (x := x5_110) (by omega)
          have nv83 := ixn (x := v83) (by omega)
          have iv83 : v83.toNatClampNeg = 10 * x3_36.toNatClampNeg + x5_110.toNatClampNeg := by omega
          refine g_ni (fun v84 ev84 => ?_)
          have gv84 : v84 = vR M 5 v83.toNatClampNeg := ev84.trans (hF 264 v83.toNatClampNeg trivial)
          have gv84 := cg1 (f := vR M 5) gv84 iv83
          have tv84 := congrArg Int32.toInt gv84
          obtain ⟨bv84, dv84⟩ := (show rg 0 9 v84 from (by rw [ev84]; exact hI 264 v83.toNatClampNeg))
          refine g_i2l C dX11_digest_134 ?_
          refine g_nl (fun v85 ev85 => ?_)
          have fv85 := fi2l rfl ev85
          refine g_ladd C dX11_digest_135 ?_
          refine g_nl (fun v86 ev86 => ?_)
          try have fv86 := fladd rfl rfl ev86 (by omega) (by omega)
          refine g_lstore_n C [(1, .long v86), (5, .int x5_110), (4, .int v75), (3, .int x3_36), (0, .ref (ad 258))] dX11_digest_136 (by decide) rfl ?_
          obtain ⟨v87, ev87⟩ : ∃ y : Int32, y = x5_110 + 1 := ⟨_, rfl⟩
          try have fv87 := fadd rfl (by decide : (1 : Int32).toInt = 1) ev87 (by omega) (by omega)
          refine g_iinc C 1 v87 [(5, .int v87), (1, .long v86), (4, .int v75), (3, .int x3_36), (0, .ref (ad 258))] dX11_digest_137 rfl (by rw [ev87]; rfl) (by decide) rfl ?_
          refine g_goto C 110 dX11_digest_140 (by decide) ?_
          refine g_lv [0, 2, 1, 3, 4] [(5, .int v87), (4, .int v75), (1, .long v86), (3, .int x3_36), (0, .ref (ad 258))] rfl ?_
          exact ih_110 (v87, v86, M_110, L_110) ⟨by show 0 ≤ v87.toInt; omega, by show v87.toInt ≤ 10; omega, hI, hF, hG⟩ (by show (11 - v87.toInt).toNat < (11 - x5_110.toInt).toNat; omega)
  ·
    have f88 := fnle rfl rfl c4
    refine g_ldc2 C 31 (List.mem_of_getElem? (i := 3) rfl) dX11_digest_14 ?_
    refine g_lload_n C 1 dX11_digest_17 rfl ?_
    refine g_lmul C dX11_digest_18 ?_
    refine g_nl (fun v89 ev89 => ?_)
    try have fv89 := prodI ev89
    refine g_aload_n C 2 dX11_digest_19 rfl ?_
    refine g_get C (.ref (ad 260)) 3 in_X11_digest_11 (List.mem_of_getElem? (i := 4) rfl) (by decide) (ce_model ad cs _ _) rfl (by decide) rfl rfl dX11_digest_20 ?_
    refine g_iload_n C 0 dX11_digest_23 rfl ?_
    refine g_iald C (by decide) (ce_m_draw ad cs _ _) (fin' (n := 10) rfl (by omega) (by omega)) dX11_digest_24 ?_
    refine g_ni (fun v90 ev90 => ?_)
    have gv90 : v90 = vR M 1 x3_6.toNatClampNeg := ev90.trans (hF 260 x3_6.toNatClampNeg trivial)
    have tv90 := congrArg Int32.toInt gv90
    obtain ⟨bv90, dv90⟩ := (show rg 0 9 v90 from (by rw [ev90]; exact hI 260 x3_6.toNatClampNeg))
    refine g_i2l C dX11_digest_25 ?_
    refine g_nl (fun v91 ev91 => ?_)
    have fv91 := fi2l rfl ev91
    refine g_ladd C dX11_digest_26 ?_
    refine g_nl (fun v92 ev92 => ?_)
    try have fv92 := fladd rfl rfl ev92 (by omega) (by omega)
    refine g_lstore_n C [(1, .long v92), (3, .int x3_6), (0, .ref (ad 258))] dX11_digest_27 (by decide) rfl ?_
    obtain ⟨v93, ev93⟩ : ∃ y : Int32, y = x3_6 + 1 := ⟨_, rfl⟩
    try have fv93 := fadd rfl (by decide : (1 : Int32).toInt = 1) ev93 (by omega) (by omega)
    refine g_iinc C 1 v93 [(3, .int v93), (1, .long v92), (0, .ref (ad 258))] dX11_digest_28 rfl (by rw [ev93]; rfl) (by decide) rfl ?_
    refine g_goto C 6 dX11_digest_31 (by decide) ?_
    exact ih_6 (v93, v92, M_6, L_6) ⟨by show 0 ≤ v93.toInt; omega, by show v93.toInt ≤ 10; omega, hI, hF, hG⟩ (by show (11 - v93.toInt).toNat < (11 - x3_6.toInt).toNat; omega)
