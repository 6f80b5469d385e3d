theorem dX11_placeOn_0 : decode cX11_placeOn 0 = .ok (.iconst 0, 1) := dw3 (n := 0) (i := 0) kc_cX11_placeOn_0 (by decide +kernel)
theorem dX11_placeOn_1 : decode cX11_placeOn 1 = .ok (.istore_n 3, 1) := dw62 (n := 0) (i := 1) kc_cX11_placeOn_0 (by decide +kernel)
theorem dX11_placeOn_2 : decode cX11_placeOn 2 = .ok (.iload_n 3, 1) := dw29 (n := 0) (i := 2) kc_cX11_placeOn_0 (by decide +kernel)
theorem dX11_placeOn_3 : decode cX11_placeOn 3 = .ok (.aload_n 0, 1) := dw42 (n := 0) (i := 3) kc_cX11_placeOn_0 (by decide +kernel)
theorem dX11_placeOn_4 : decode cX11_placeOn 4 = .ok (.getfield 22, 3) := dw180 (n := 0) (i := 4) (a := 0) (b := 22) kc_cX11_placeOn_0 (by decide +kernel) (by decide)
theorem in_X11_placeOn_11 : ∀ w ∈ u_ws RX11 TX11 53, w ∈ wsX11_placeOn := fun _ h => List.mem_cons_of_mem _ (List.mem_append_right _ h)
theorem dX11_placeOn_7 : decode cX11_placeOn 7 = .ok (.iload_n 1, 1) := dw27 (n := 0) (i := 7) kc_cX11_placeOn_0 (by decide +kernel)
theorem dX11_placeOn_8 : decode cX11_placeOn 8 = .ok (.iaload, 1) := dw46 (n := 0) (i := 8) kc_cX11_placeOn_0 (by decide +kernel)
theorem dX11_placeOn_9 : decode cX11_placeOn 9 = .ok (.if_icmp .ge 26, 3) := dw162 (n := 0) (i := 9) (a := 0) (b := 26) kc_cX11_placeOn_0 (by decide +kernel) (by decide)
theorem dX11_placeOn_35 : decode cX11_placeOn 35 = .ok (.bipush (-9), 2) := dw16 (n := 32) (i := 3) (a := 247) kc_cX11_placeOn_1 (by decide +kernel) (by decide)
theorem dX11_placeOn_37 : decode cX11_placeOn 37 = .ok (.ireturn, 1) := dw172 (n := 32) (i := 5) kc_cX11_placeOn_1 (by decide +kernel)
theorem dX11_placeOn_12 : decode cX11_placeOn 12 = .ok (.aload_n 0, 1) := dw42 (n := 0) (i := 12) kc_cX11_placeOn_0 (by decide +kernel)
theorem dX11_placeOn_13 : decode cX11_placeOn 13 = .ok (.getfield 25, 3) := dw180 (n := 0) (i := 13) (a := 0) (b := 25) kc_cX11_placeOn_0 (by decide +kernel) (by decide)
theorem dX11_placeOn_16 : decode cX11_placeOn 16 = .ok (.bipush 10, 2) := dw16 (n := 0) (i := 16) (a := 10) kc_cX11_placeOn_0 (by decide +kernel) (by decide)
theorem dX11_placeOn_18 : decode cX11_placeOn 18 = .ok (.iload_n 1, 1) := dw27 (n := 0) (i := 18) kc_cX11_placeOn_0 (by decide +kernel)
theorem dX11_placeOn_19 : decode cX11_placeOn 19 = .ok (.imul, 1) := dw104 (n := 0) (i := 19) kc_cX11_placeOn_0 (by decide +kernel)
theorem dX11_placeOn_20 : decode cX11_placeOn 20 = .ok (.iload_n 3, 1) := dw29 (n := 0) (i := 20) kc_cX11_placeOn_0 (by decide +kernel)
theorem dX11_placeOn_21 : decode cX11_placeOn 21 = .ok (.iadd, 1) := dw96 (n := 0) (i := 21) kc_cX11_placeOn_0 (by decide +kernel)
theorem dX11_placeOn_22 : decode cX11_placeOn 22 = .ok (.iaload, 1) := dw46 (n := 0) (i := 22) kc_cX11_placeOn_0 (by decide +kernel)
theorem dX11_placeOn_23 : decode cX11_placeOn 23 = .ok (.iload_n 2, 1) := dw28 (n := 0) (i := 23) kc_cX11_placeOn_0 (by decide +kernel)
theorem dX11_placeOn_24 : decode cX11_placeOn 24 = .ok (.if_icmp .ne 5, 3) := dw160 (n := 0) (i := 24) (a := 0) (b := 5) kc_cX11_placeOn_0 (by decide +kernel) (by decide)
theorem dX11_placeOn_29 : decode cX11_placeOn 29 = .ok (.iinc 3 1, 3) := by decide +kernel
theorem dX11_placeOn_32 : decode cX11_placeOn 32 = .ok (.goto (-30), 3) := dw167 (n := 32) (i := 0) (a := 255) (b := 226) kc_cX11_placeOn_1 (by decide +kernel) (by decide)
theorem dX11_placeOn_27 : decode cX11_placeOn 27 = .ok (.iload_n 3, 1) := dw29 (n := 0) (i := 27) kc_cX11_placeOn_0 (by decide +kernel)
theorem dX11_placeOn_28 : decode cX11_placeOn 28 = .ok (.ireturn, 1) := dw172 (n := 0) (i := 28) kc_cX11_placeOn_0 (by decide +kernel)
set_option maxHeartbeats 4000000 in
set_option maxRecDepth 100000 in
theorem s_X11_placeOn (l : Launch) (D : va_G) (ad : Nat → Nat) (cs : Nat → ClassId) (M : MI) (L : ML) (b : Int32) (x : Int32) (hI : IR M) (hb : 0 ≤ b.toInt ∧ b.toInt < 60) : Ci l yX11_placeOn wsX11_placeOn ({ frames := 0, cells := 0, slots := 0, locals := 0 }) D ad cs [.ref (ad 258), .int b, .int x] M L (fun r M1 L1 => M1 = M ∧ L1 = L ∧ (r = placeV (vR M) b x ∧ (r.toInt = -9 ∨ (0 ≤ r.toInt ∧ r.toInt < (vR M 4 (b.toNatClampNeg)).toInt)))) := by
  refine enter_i RX11 rfl [(0, .ref (ad 258)), (1, .int b), (2, .int x)] rfl (Nat.le_of_ble_eq_true rfl) (by decide +kernel) rfl ?_
  intro p e s m below meth c C hr
  have hF : ∀ k i, True → M k i = M k i := fun _ _ _ => rfl
  have hG : ∀ k i, True → L k i = L k i := fun _ _ _ => rfl
  have w0 : (vR M 0 0).toInt = (M 258 2).toInt := rfl
  have w1 : (vR M 0 1).toInt = (M 258 4).toInt := rfl
  have w2 : (vR M 0 2).toInt = (M 258 9).toInt := rfl
  have w3 : (vR M 0 3).toInt = (M 258 14).toInt := rfl
  obtain ⟨y0a, y0b⟩ := (show rg 0 10 (M 258 2) from hI 258 2)
  obtain ⟨y1a, y1b⟩ := (show rg 0 60 (M 258 4) from hI 258 4)
  obtain ⟨y2a, y2b⟩ := (show rg 0 8 (M 258 9) from hI 258 9)
  obtain ⟨y3a, y3b⟩ := (show rg 0 20 (M 258 14) from hI 258 14)
  obtain ⟨hb1, hb2⟩ := hb
  obtain ⟨oa, ob⟩ := (show rg 0 10 (vR M 4 b.toNatClampNeg) from hI 263 _)
  have no := ixn (x := vR M 4 b.toNatClampNeg) oa
  have nb := ixn (x := b) (by omega)
  refine g_iconst C 0 dX11_placeOn_0 (by decide) ?_
  refine g_istore_n C [(3, .int 0), (0, .ref (ad 258)), (1, .int b), (2, .int x)] dX11_placeOn_1 (by decide) rfl ?_
  have zy1 : (0 : Int32).toInt = 0 := by decide
  refine g_loop (α := Int32 × MI × ML) (fun a => (11 - a.1.toInt).toNat) (fun a => (0 ≤ a.1.toInt) ∧ (a.1.toInt ≤ 10) ∧ (pF (mk (vR M) b.toNatClampNeg) x ((vR M 4 b.toNatClampNeg).toNatClampNeg - a.1.toNatClampNeg) a.1.toNatClampNeg = placeV (vR M) b x) ∧ IR a.2.1 ∧ (∀ k i, True → a.2.1 k i = M k i) ∧ (∀ k i, True → a.2.2 k i = L k i)) (fun a => a.2.1) (fun a => a.2.2) (fun a => [(3, .int a.1), (0, .ref (ad 258)), (1, .int b), (2, .int x)]) ((0 : Int32), M, L) ⟨by show 0 ≤ (0 : Int32).toInt; omega, by show (0 : Int32).toInt ≤ 10; omega, by show pF (mk (vR M) b.toNatClampNeg) x ((vR M 4 b.toNatClampNeg).toNatClampNeg - (0 : Int32).toNatClampNeg) (0 : Int32).toNatClampNeg = placeV (vR M) b x; rfl, hI, hF, hG⟩ rfl rfl rfl ?_
  rintro ⟨x3_2, M_2, L_2⟩ ⟨j2_0, j2_1, j2_2, hI, hF, hG⟩ ih_2
  dsimp only at j2_0 j2_1 j2_2 hI hF hG ih_2 ⊢
  have nx := ixn (x := x3_2) (by omega)
  refine g_iload_n C 0 dX11_placeOn_2 rfl ?_
  refine g_aload_n C 1 dX11_placeOn_3 rfl ?_
  refine g_get C (.ref (ad 263)) 7 in_X11_placeOn_11 (List.mem_of_getElem? (i := 1) rfl) (by decide) (ce_model ad cs _ _) rfl (by decide) rfl rfl dX11_placeOn_4 ?_
  refine g_iload_n C 2 dX11_placeOn_7 rfl ?_
  refine g_iald C (by decide) (ce_m_onIt ad cs _ _) (fin' (n := 60) rfl (by omega) (by omega)) dX11_placeOn_8 ?_
  refine g_ni (fun v2 ev2 => ?_)
  have gv2 : v2 = vR M 4 b.toNatClampNeg := ev2.trans (hF 263 b.toNatClampNeg trivial)
  have tv2 := congrArg Int32.toInt gv2
  obtain ⟨bv2, dv2⟩ := (show rg 0 10 v2 from (by rw [ev2]; exact hI 263 b.toNatClampNeg))
  refine g_icmp_ge C 35 dX11_placeOn_9 (by decide) (fun c3 => ?_) (fun c3 => ?_)
  ·
    have f4 := fle rfl rfl c3
    refine g_bipush C (-9) dX11_placeOn_35 (by decide) ?_
    have zr9 : ((-9) : Int32).toInt = (-9) := by decide
    exact g_iret C hr ⟨funext (fun k => funext (fun i => hF k i trivial)), funext (fun k => funext (fun i => hG k i trivial)), ⟨by rw [← j2_2, pF_end (by omega)], Or.inl (by decide)⟩⟩ dX11_placeOn_37
  ·
    have f5 := fnle rfl rfl c3
    refine g_aload_n C 1 dX11_placeOn_12 rfl ?_
    refine g_get C (.ref (ad 264)) 8 in_X11_placeOn_11 (List.mem_of_getElem? (i := 2) rfl) (by decide) (ce_model ad cs _ _) rfl (by decide) rfl rfl dX11_placeOn_13 ?_
    refine g_bipush C 10 dX11_placeOn_16 (by decide) ?_
    refine g_iload_n C 2 dX11_placeOn_18 rfl ?_
    refine g_imul C dX11_placeOn_19 ?_
    refine g_ni (fun v6 ev6 => ?_)
    try have fv6 := fmul (by decide : (10 : Int32).toInt = 10) rfl ev6 (by omega) (by omega)
    refine g_iload_n C 0 dX11_placeOn_20 rfl ?_
    refine g_iadd C dX11_placeOn_21 ?_
    refine g_ni (fun v7 ev7 => ?_)
    try have fv7 := fadd rfl rfl ev7 (by omega) (by omega)
    refine g_iald C (by decide) (ce_m_marks ad cs _ _) (fin' (n := 600) rfl (by omega) (by omega)) dX11_placeOn_22 ?_
    have nb := ixn (x := b) (by omega)
    have nx3_2 := ixn (x := x3_2) (by omega)
    have nv7 := ixn (x := v7) (by omega)
    have iv7 : v7.toNatClampNeg = 10 * b.toNatClampNeg + x3_2.toNatClampNeg := by omega
    refine g_ni (fun v8 ev8 => ?_)
    have gv8 : v8 = vR M 5 v7.toNatClampNeg := ev8.trans (hF 264 v7.toNatClampNeg trivial)
    have gv8 := cg1 (f := vR M 5) gv8 iv7
    have tv8 := congrArg Int32.toInt gv8
    obtain ⟨bv8, dv8⟩ := (show rg 0 9 v8 from (by rw [ev8]; exact hI 264 v7.toNatClampNeg))
    refine g_iload_n C 3 dX11_placeOn_23 rfl ?_
    refine g_icmp_ne C 29 dX11_placeOn_24 (by decide) (fun c9 => ?_) (fun c9 => ?_)
    ·
      have f10 := fne rfl rfl c9
      obtain ⟨v11, ev11⟩ : ∃ y : Int32, y = x3_2 + 1 := ⟨_, rfl⟩
      try have fv11 := fadd rfl (by decide : (1 : Int32).toInt = 1) ev11 (by omega) (by omega)
      refine g_iinc C 0 v11 [(3, .int v11), (0, .ref (ad 258)), (1, .int b), (2, .int x)] dX11_placeOn_29 rfl (by rw [ev11]; rfl) (by decide) rfl ?_
      refine g_goto C 2 dX11_placeOn_32 (by decide) ?_
      have nv := ixn (x := v11) (by omega)
      exact ih_2 (v11, M_2, L_2) ⟨by show 0 ≤ v11.toInt; omega, by show v11.toInt ≤ 10; omega, by show pF (mk (vR M) b.toNatClampNeg) x ((vR M 4 b.toNatClampNeg).toNatClampNeg - v11.toNatClampNeg) v11.toNatClampNeg = placeV (vR M) b x; rw [← j2_2, pF_go (k := x3_2.toNatClampNeg) (by omega) (by show ¬ (vR M 5 (10 * b.toNatClampNeg + x3_2.toNatClampNeg)).toInt = x.toInt; omega)]; congr 1 <;> omega, hI, hF, hG⟩ (by show (11 - v11.toInt).toNat < (11 - x3_2.toInt).toNat; omega)
    ·
      have f12 := feq rfl rfl c9
      refine g_iload_n C 0 dX11_placeOn_27 rfl ?_
      exact g_iret C hr ⟨funext (fun k => funext (fun i => hF k i trivial)), funext (fun k => funext (fun i => hG k i trivial)), ⟨by rw [← j2_2, pF_hit (by omega) (by show (vR M 5 (10 * b.toNatClampNeg + x3_2.toNatClampNeg)).toInt = x.toInt; omega), of_ix (by omega)], Or.inr ⟨by omega, by omega⟩⟩⟩ dX11_placeOn_28
theorem dX11_rank_0 : decode cX11_rank 0 = .ok (.aload_n 0, 1) := dw42 (n := 0) (i := 0) kc_cX11_rank_0 (by decide +kernel)
theorem dX11_rank_1 : decode cX11_rank 1 = .ok (.iload_n 1, 1) := dw27 (n := 0) (i := 1) kc_cX11_rank_0 (by decide +kernel)
theorem dX11_rank_2 : decode cX11_rank 2 = .ok (.invokevirtual 148, 3) := dw182 (n := 0) (i := 2) (a := 0) (b := 148) kc_cX11_rank_0 (by decide +kernel) (by decide)
set_option maxRecDepth 20000 in
theorem ggX11_rank_X11_isBallot : GoodIn wsX11_rank wsX11_isBallot := (gk_code 8 rfl (gk_fieldLink 9 rfl (gk_methodLink 10 rfl (gk_static 11 rfl (gk_initialized 7 rfl (gk_code 12 rfl (gk_lays 31 rfl (gk_laysFinal 32 rfl (gk_lays 33 rfl (gk_laysFinal 34 rfl (gk_lays 35 rfl (gk_laysFinal 36 rfl (gk_laysFinal 37 rfl (gk_laysFinal 38 rfl (gk_laysFinal 39 rfl (gk_lays 40 rfl (gk_laysFinal 41 rfl (gk_laysFinal 42 rfl (gk_laysFinal 43 rfl (gk_laysFinal 44 rfl (gk_lays 45 rfl (gk_laysFinal 46 rfl (gk_laysFinal 47 rfl (gk_laysFinal 48 rfl (gk_laysFinal 49 rfl (gk_laysFinal 50 rfl (gk_laysFinal 51 rfl (gk_laysFinal 52 rfl (gk_laysFinal 53 rfl (gk_lays 54 rfl (gk_lays 55 rfl (gk_lays 56 rfl (gk_lays 57 rfl (gk_lays 58 rfl (gk_lays 59 rfl (gk_lays 60 rfl (gk_laysFinal 61 rfl (gk_lays 62 rfl (gk_laysFinal 63 rfl (gk_laysFinal 64 rfl (gk_laysFinal 65 rfl (gk_laysFinal 66 rfl (gk_laysFinal 67 rfl (gk_laysFinal 68 rfl (gk_laysFinal 69 rfl (gk_laysFinal 70 rfl (gk_laysFinal 71 rfl (gk_laysFinal 72 rfl (gk_lays 73 rfl (gk_laysFinal 74 rfl (gk_lays 75 rfl (gk_laysFinal 76 rfl (gk_laysFinal 77 rfl (gk_laysFinal 78 rfl (gk_laysFinal 79 rfl (gk_laysFinal 80 rfl (gk_laysFinal 81 rfl (gk_laysFinal 82 rfl (gk_laysFinal 83 rfl (gn))))))))))))))))))))))))))))))))))))))))))))))))))))))))))))
set_option maxRecDepth 20000 in
theorem gX11_rank_X11_isBallot : GoodIn wsX11_rank (wsV RX11 148 RX11 yX11_isBallot wsX11_isBallot) := goodIn_app (gk_methodLink 4 rfl (gk_instanceMethod 5 rfl (gk_selects 6 rfl (gk_initialized 7 rfl (gn))))) ggX11_rank_X11_isBallot
theorem dX11_rank_5 : decode cX11_rank 5 = .ok (.ifCond .eq 11, 3) := dw153 (n := 0) (i := 5) (a := 0) (b := 11) kc_cX11_rank_0 (by decide +kernel) (by decide)
theorem dX11_rank_16 : decode cX11_rank 16 = .ok (.iconst (-1), 1) := dw2 (n := 0) (i := 16) kc_cX11_rank_0 (by decide +kernel)
theorem dX11_rank_17 : decode cX11_rank 17 = .ok (.ireturn, 1) := dw172 (n := 0) (i := 17) kc_cX11_rank_0 (by decide +kernel)
theorem dX11_rank_8 : decode cX11_rank 8 = .ok (.aload_n 0, 1) := dw42 (n := 0) (i := 8) kc_cX11_rank_0 (by decide +kernel)
theorem dX11_rank_9 : decode cX11_rank 9 = .ok (.iload_n 2, 1) := dw28 (n := 0) (i := 9) kc_cX11_rank_0 (by decide +kernel)
theorem dX11_rank_10 : decode cX11_rank 10 = .ok (.invokevirtual 140, 3) := dw182 (n := 0) (i := 10) (a := 0) (b := 140) kc_cX11_rank_0 (by decide +kernel) (by decide)
set_option maxRecDepth 20000 in
theorem ggX11_rank_X11_isCandidate : GoodIn wsX11_rank wsX11_isCandidate := (gk_code 16 rfl (gk_fieldLink 17 rfl (gk_methodLink 10 rfl (gk_static 11 rfl (gk_initialized 7 rfl (gk_code 12 rfl (gk_lays 31 rfl (gk_laysFinal 32 rfl (gk_lays 33 rfl (gk_laysFinal 34 rfl (gk_lays 35 rfl (gk_laysFinal 36 rfl (gk_laysFinal 37 rfl (gk_laysFinal 38 rfl (gk_laysFinal 39 rfl (gk_lays 40 rfl (gk_laysFinal 41 rfl (gk_laysFinal 42 rfl (gk_laysFinal 43 rfl (gk_laysFinal 44 rfl (gk_lays 45 rfl (gk_laysFinal 46 rfl (gk_laysFinal 47 rfl (gk_laysFinal 48 rfl (gk_laysFinal 49 rfl (gk_laysFinal 50 rfl (gk_laysFinal 51 rfl (gk_laysFinal 52 rfl (gk_laysFinal 53 rfl (gk_lays 54 rfl (gk_lays 55 rfl (gk_lays 56 rfl (gk_lays 57 rfl (gk_lays 58 rfl (gk_lays 59 rfl (gk_lays 60 rfl (gk_laysFinal 61 rfl (gk_lays 62 rfl (gk_laysFinal 63 rfl (gk_laysFinal 64 rfl (gk_laysFinal 65 rfl (gk_laysFinal 66 rfl (gk_laysFinal 67 rfl (gk_laysFinal 68 rfl (gk_laysFinal 69 rfl (gk_laysFinal 70 rfl (gk_laysFinal 71 rfl (gk_laysFinal 72 rfl (gk_lays 73 rfl (gk_laysFinal 74 rfl (gk_lays 75 rfl (gk_laysFinal 76 rfl (gk_laysFinal 77 rfl (gk_laysFinal 78 rfl (gk_laysFinal 79 rfl (gk_laysFinal 80 rfl (gk_laysFinal 81 rfl (gk_laysFinal 82 rfl (gk_laysFinal 83 rfl (gn))))))))))))))))))))))))))))))))))))))))))))))))))))))))))))
set_option maxRecDepth 20000 in
theorem gX11_rank_X11_isCandidate : GoodIn wsX11_rank (wsV RX11 140 RX11 yX11_isCandidate wsX11_isCandidate) := goodIn_app (gk_methodLink 13 rfl (gk_instanceMethod 14 rfl (gk_selects 15 rfl (gk_initialized 7 rfl (gn))))) ggX11_rank_X11_isCandidate
theorem dX11_rank_13 : decode cX11_rank 13 = .ok (.ifCond .ne 5, 3) := dw154 (n := 0) (i := 13) (a := 0) (b := 5) kc_cX11_rank_0 (by decide +kernel) (by decide)
theorem dX11_rank_18 : decode cX11_rank 18 = .ok (.aload_n 0, 1) := dw42 (n := 0) (i := 18) kc_cX11_rank_0 (by decide +kernel)
theorem dX11_rank_19 : decode cX11_rank 19 = .ok (.getfield 16, 3) := dw180 (n := 0) (i := 19) (a := 0) (b := 16) kc_cX11_rank_0 (by decide +kernel) (by decide)
theorem in_X11_rank_11 : ∀ w ∈ u_ws RX11 TX11 53, w ∈ wsX11_rank := fun _ h => List.mem_cons_of_mem _ (List.mem_append_right _ h)
theorem dX11_rank_22 : decode cX11_rank 22 = .ok (.iload_n 1, 1) := dw27 (n := 0) (i := 22) kc_cX11_rank_0 (by decide +kernel)
theorem dX11_rank_23 : decode cX11_rank 23 = .ok (.iaload, 1) := dw46 (n := 0) (i := 23) kc_cX11_rank_0 (by decide +kernel)
theorem dX11_rank_24 : decode cX11_rank 24 = .ok (.iconst 1, 1) := dw4 (n := 0) (i := 24) kc_cX11_rank_0 (by decide +kernel)
theorem dX11_rank_25 : decode cX11_rank 25 = .ok (.invokestatic 151, 3) := dw184 (n := 0) (i := 25) (a := 0) (b := 151) kc_cX11_rank_0 (by decide +kernel) (by decide)
set_option maxRecDepth 20000 in
theorem ggX11_rank_X11_isOf : GoodIn wsX11_rank wsX11_isOf := (gk_code 20 rfl (gn))
set_option maxRecDepth 20000 in
theorem gX11_rank_X11_isOf : GoodIn wsX11_rank (va_wsS RX11 151 yX11_isOf wsX11_isOf) := goodIn_app (gk_methodLink 18 rfl (gk_static 19 rfl (gk_initialized 7 rfl (gn)))) ggX11_rank_X11_isOf
theorem dX11_rank_28 : decode cX11_rank 28 = .ok (.ifCond .ne 9, 3) := dw154 (n := 0) (i := 28) (a := 0) (b := 9) kc_cX11_rank_0 (by decide +kernel) (by decide)
theorem dX11_rank_37 : decode cX11_rank 37 = .ok (.aload_n 0, 1) := dw42 (n := 32) (i := 5) kc_cX11_rank_1 (by decide +kernel)
theorem dX11_rank_38 : decode cX11_rank 38 = .ok (.iload_n 1, 1) := dw27 (n := 32) (i := 6) kc_cX11_rank_1 (by decide +kernel)
theorem dX11_rank_39 : decode cX11_rank 39 = .ok (.iload_n 2, 1) := dw28 (n := 32) (i := 7) kc_cX11_rank_1 (by decide +kernel)
theorem dX11_rank_40 : decode cX11_rank 40 = .ok (.invokevirtual 159, 3) := dw182 (n := 32) (i := 8) (a := 0) (b := 159) kc_cX11_rank_1 (by decide +kernel) (by decide)
set_option maxRecDepth 20000 in
theorem ggX11_rank_X11_placeOn : GoodIn wsX11_rank wsX11_placeOn := (gk_code 30 rfl (gk_fieldLink 2 rfl (gk_fieldLink 3 rfl (gk_lays 31 rfl (gk_laysFinal 32 rfl (gk_lays 33 rfl (gk_laysFinal 34 rfl (gk_lays 35 rfl (gk_laysFinal 36 rfl (gk_laysFinal 37 rfl (gk_laysFinal 38 rfl (gk_laysFinal 39 rfl (gk_lays 40 rfl (gk_laysFinal 41 rfl (gk_laysFinal 42 rfl (gk_laysFinal 43 rfl (gk_laysFinal 44 rfl (gk_lays 45 rfl (gk_laysFinal 46 rfl (gk_laysFinal 47 rfl (gk_laysFinal 48 rfl (gk_laysFinal 49 rfl (gk_laysFinal 50 rfl (gk_laysFinal 51 rfl (gk_laysFinal 52 rfl (gk_laysFinal 53 rfl (gk_lays 54 rfl (gk_lays 55 rfl (gk_lays 56 rfl (gk_lays 57 rfl (gk_lays 58 rfl (gk_lays 59 rfl (gk_lays 60 rfl (gk_laysFinal 61 rfl (gk_lays 62 rfl (gk_laysFinal 63 rfl (gk_laysFinal 64 rfl (gk_laysFinal 65 rfl (gk_laysFinal 66 rfl (gk_laysFinal 67 rfl (gk_laysFinal 68 rfl (gk_laysFinal 69 rfl (gk_laysFinal 70 rfl (gk_laysFinal 71 rfl (gk_laysFinal 72 rfl (gk_lays 73 rfl (gk_laysFinal 74 rfl (gk_lays 75 rfl (gk_laysFinal 76 rfl (gk_laysFinal 77 rfl (gk_laysFinal 78 rfl (gk_laysFinal 79 rfl (gk_laysFinal 80 rfl (gk_laysFinal 81 rfl (gk_laysFinal 82 rfl (gk_laysFinal 83 rfl (gn)))))))))))))))))))))))))))))))))))))))))))))))))))))))))
set_option maxRecDepth 20000 in
theorem gX11_rank_X11_placeOn : GoodIn wsX11_rank (wsV RX11 159 RX11 yX11_placeOn wsX11_placeOn) := goodIn_app (gk_methodLink 27 rfl (gk_instanceMethod 28 rfl (gk_selects 29 rfl (gk_initialized 7 rfl (gn))))) ggX11_rank_X11_placeOn
theorem dX11_rank_43 : decode cX11_rank 43 = .ok (.bipush (-9), 2) := dw16 (n := 32) (i := 11) (a := 247) kc_cX11_rank_1 (by decide +kernel) (by decide)
theorem dX11_rank_45 : decode cX11_rank 45 = .ok (.if_icmp .ne 23, 3) := dw160 (n := 32) (i := 13) (a := 0) (b := 23) kc_cX11_rank_1 (by decide +kernel) (by decide)
theorem dX11_rank_68 : decode cX11_rank 68 = .ok (.bipush (-4), 2) := dw16 (n := 64) (i := 4) (a := 252) kc_cX11_rank_2 (by decide +kernel) (by decide)
theorem dX11_rank_70 : decode cX11_rank 70 = .ok (.ireturn, 1) := dw172 (n := 64) (i := 6) kc_cX11_rank_2 (by decide +kernel)
theorem dX11_rank_48 : decode cX11_rank 48 = .ok (.aload_n 0, 1) := dw42 (n := 32) (i := 16) kc_cX11_rank_1 (by decide +kernel)
theorem dX11_rank_49 : decode cX11_rank 49 = .ok (.getfield 16, 3) := dw180 (n := 32) (i := 17) (a := 0) (b := 16) kc_cX11_rank_1 (by decide +kernel) (by decide)
theorem dX11_rank_52 : decode cX11_rank 52 = .ok (.iload_n 1, 1) := dw27 (n := 32) (i := 20) kc_cX11_rank_1 (by decide +kernel)
theorem dX11_rank_53 : decode cX11_rank 53 = .ok (.iaload, 1) := dw46 (n := 32) (i := 21) kc_cX11_rank_1 (by decide +kernel)
theorem dX11_rank_54 : decode cX11_rank 54 = .ok (.iconst 2, 1) := dw5 (n := 32) (i := 22) kc_cX11_rank_1 (by decide +kernel)
theorem dX11_rank_55 : decode cX11_rank 55 = .ok (.if_icmp .ne 16, 3) := dw160 (n := 32) (i := 23) (a := 0) (b := 16) kc_cX11_rank_1 (by decide +kernel) (by decide)
theorem dX11_rank_71 : decode cX11_rank 71 = .ok (.aload_n 0, 1) := dw42 (n := 64) (i := 7) kc_cX11_rank_2 (by decide +kernel)
theorem dX11_rank_72 : decode cX11_rank 72 = .ok (.getfield 25, 3) := dw180 (n := 64) (i := 8) (a := 0) (b := 25) kc_cX11_rank_2 (by decide +kernel) (by decide)
theorem dX11_rank_75 : decode cX11_rank 75 = .ok (.bipush 10, 2) := dw16 (n := 64) (i := 11) (a := 10) kc_cX11_rank_2 (by decide +kernel) (by decide)
theorem dX11_rank_77 : decode cX11_rank 77 = .ok (.iload_n 1, 1) := dw27 (n := 64) (i := 13) kc_cX11_rank_2 (by decide +kernel)
theorem dX11_rank_78 : decode cX11_rank 78 = .ok (.imul, 1) := dw104 (n := 64) (i := 14) kc_cX11_rank_2 (by decide +kernel)
theorem dX11_rank_79 : decode cX11_rank 79 = .ok (.aload_n 0, 1) := dw42 (n := 64) (i := 15) kc_cX11_rank_2 (by decide +kernel)
theorem dX11_rank_80 : decode cX11_rank 80 = .ok (.getfield 22, 3) := dw180 (n := 64) (i := 16) (a := 0) (b := 22) kc_cX11_rank_2 (by decide +kernel) (by decide)
theorem dX11_rank_83 : decode cX11_rank 83 = .ok (.iload_n 1, 1) := dw27 (n := 64) (i := 19) kc_cX11_rank_2 (by decide +kernel)
theorem dX11_rank_84 : decode cX11_rank 84 = .ok (.iaload, 1) := dw46 (n := 64) (i := 20) kc_cX11_rank_2 (by decide +kernel)
theorem dX11_rank_85 : decode cX11_rank 85 = .ok (.iadd, 1) := dw96 (n := 64) (i := 21) kc_cX11_rank_2 (by decide +kernel)
theorem dX11_rank_86 : decode cX11_rank 86 = .ok (.iload_n 2, 1) := dw28 (n := 64) (i := 22) kc_cX11_rank_2 (by decide +kernel)
theorem dX11_rank_87 : decode cX11_rank 87 = .ok (.iastore, 1) := dw79 (n := 64) (i := 23) kc_cX11_rank_2 (by decide +kernel)
theorem dX11_rank_88 : decode cX11_rank 88 = .ok (.aload_n 0, 1) := dw42 (n := 64) (i := 24) kc_cX11_rank_2 (by decide +kernel)
theorem dX11_rank_89 : decode cX11_rank 89 = .ok (.getfield 22, 3) := dw180 (n := 64) (i := 25) (a := 0) (b := 22) kc_cX11_rank_2 (by decide +kernel) (by decide)
theorem dX11_rank_92 : decode cX11_rank 92 = .ok (.iload_n 1, 1) := dw27 (n := 64) (i := 28) kc_cX11_rank_2 (by decide +kernel)
theorem dX11_rank_93 : decode cX11_rank 93 = .ok (.dup2, 1) := dw92 (n := 64) (i := 29) kc_cX11_rank_2 (by decide +kernel)
theorem dX11_rank_94 : decode cX11_rank 94 = .ok (.iaload, 1) := dw46 (n := 64) (i := 30) kc_cX11_rank_2 (by decide +kernel)
theorem dX11_rank_95 : decode cX11_rank 95 = .ok (.iconst 1, 1) := dw4 (n := 64) (i := 31) kc_cX11_rank_2 (by decide +kernel)
theorem dX11_rank_96 : decode cX11_rank 96 = .ok (.iadd, 1) := dw96 (n := 96) (i := 0) kc_cX11_rank_3 (by decide +kernel)
theorem dX11_rank_97 : decode cX11_rank 97 = .ok (.iastore, 1) := dw79 (n := 96) (i := 1) kc_cX11_rank_3 (by decide +kernel)
theorem dX11_rank_98 : decode cX11_rank 98 = .ok (.aload_n 0, 1) := dw42 (n := 96) (i := 2) kc_cX11_rank_3 (by decide +kernel)
theorem dX11_rank_99 : decode cX11_rank 99 = .ok (.getfield 22, 3) := dw180 (n := 96) (i := 3) (a := 0) (b := 22) kc_cX11_rank_3 (by decide +kernel) (by decide)
theorem dX11_rank_102 : decode cX11_rank 102 = .ok (.iload_n 1, 1) := dw27 (n := 96) (i := 6) kc_cX11_rank_3 (by decide +kernel)
theorem dX11_rank_103 : decode cX11_rank 103 = .ok (.iaload, 1) := dw46 (n := 96) (i := 7) kc_cX11_rank_3 (by decide +kernel)
theorem dX11_rank_104 : decode cX11_rank 104 = .ok (.ireturn, 1) := dw172 (n := 96) (i := 8) kc_cX11_rank_3 (by decide +kernel)
theorem dX11_rank_58 : decode cX11_rank 58 = .ok (.aload_n 0, 1) := dw42 (n := 32) (i := 26) kc_cX11_rank_1 (by decide +kernel)
theorem dX11_rank_59 : decode cX11_rank 59 = .ok (.getfield 22, 3) := dw180 (n := 32) (i := 27) (a := 0) (b := 22) kc_cX11_rank_1 (by decide +kernel) (by decide)
theorem dX11_rank_62 : decode cX11_rank 62 = .ok (.iload_n 1, 1) := dw27 (n := 32) (i := 30) kc_cX11_rank_1 (by decide +kernel)
theorem dX11_rank_63 : decode cX11_rank 63 = .ok (.iaload, 1) := dw46 (n := 32) (i := 31) kc_cX11_rank_1 (by decide +kernel)
theorem dX11_rank_64 : decode cX11_rank 64 = .ok (.iconst 1, 1) := dw4 (n := 64) (i := 0) kc_cX11_rank_2 (by decide +kernel)
theorem dX11_rank_65 : decode cX11_rank 65 = .ok (.if_icmp .ne 6, 3) := dw160 (n := 64) (i := 1) (a := 0) (b := 6) kc_cX11_rank_2 (by decide +kernel) (by decide)
theorem dX11_rank_31 : decode cX11_rank 31 = .ok (.aload_n 0, 1) := dw42 (n := 0) (i := 31) kc_cX11_rank_0 (by decide +kernel)
theorem dX11_rank_32 : decode cX11_rank 32 = .ok (.iconst 3, 1) := dw6 (n := 32) (i := 0) kc_cX11_rank_1 (by decide +kernel)
theorem dX11_rank_33 : decode cX11_rank 33 = .ok (.invokevirtual 155, 3) := dw182 (n := 32) (i := 1) (a := 0) (b := 155) kc_cX11_rank_1 (by decide +kernel) (by decide)
set_option maxRecDepth 20000 in
theorem ggX11_rank_X11_meets : GoodIn wsX11_rank wsX11_meets := (gk_code 24 rfl (gk_fieldLink 25 rfl (gk_fieldLink 26 rfl (gk_lays 31 rfl (gk_laysFinal 32 rfl (gk_lays 33 rfl (gk_laysFinal 34 rfl (gk_lays 35 rfl (gk_laysFinal 36 rfl (gk_laysFinal 37 rfl (gk_laysFinal 38 rfl (gk_laysFinal 39 rfl (gk_lays 40 rfl (gk_laysFinal 41 rfl (gk_laysFinal 42 rfl (gk_laysFinal 43 rfl (gk_laysFinal 44 rfl (gk_lays 45 rfl (gk_laysFinal 46 rfl (gk_laysFinal 47 rfl (gk_laysFinal 48 rfl (gk_laysFinal 49 rfl (gk_laysFinal 50 rfl (gk_laysFinal 51 rfl (gk_laysFinal 52 rfl (gk_laysFinal 53 rfl (gk_lays 54 rfl (gk_lays 55 rfl (gk_lays 56 rfl (gk_lays 57 rfl (gk_lays 58 rfl (gk_lays 59 rfl (gk_lays 60 rfl (gk_laysFinal 61 rfl (gk_lays 62 rfl (gk_laysFinal 63 rfl (gk_laysFinal 64 rfl (gk_laysFinal 65 rfl (gk_laysFinal 66 rfl (gk_laysFinal 67 rfl (gk_laysFinal 68 rfl (gk_laysFinal 69 rfl (gk_laysFinal 70 rfl (gk_laysFinal 71 rfl (gk_laysFinal 72 rfl (gk_lays 73 rfl (gk_laysFinal 74 rfl (gk_lays 75 rfl (gk_laysFinal 76 rfl (gk_laysFinal 77 rfl (gk_laysFinal 78 rfl (gk_laysFinal 79 rfl (gk_laysFinal 80 rfl (gk_laysFinal 81 rfl (gk_laysFinal 82 rfl (gk_laysFinal 83 rfl (gn)))))))))))))))))))))))))))))))))))))))))))))))))))))))))
set_option maxRecDepth 20000 in
theorem gX11_rank_X11_meets : GoodIn wsX11_rank (wsV RX11 155 RX11 yX11_meets wsX11_meets) := goodIn_app (gk_methodLink 21 rfl (gk_instanceMethod 22 rfl (gk_selects 23 rfl (gk_initialized 7 rfl (gn))))) ggX11_rank_X11_meets
theorem dX11_rank_36 : decode cX11_rank 36 = .ok (.ireturn, 1) := dw172 (n := 32) (i := 4) kc_cX11_rank_1 (by decide +kernel)
theorem dX11_method_0 : decode cX11_method 0 = .ok (.iload_n 1, 1) := dw27 (n := 0) (i := 0) kc_cX11_method_0 (by decide +kernel)
theorem dX11_method_1 : decode cX11_method 1 = .ok (.iconst 0, 1) := dw3 (n := 0) (i := 1) kc_cX11_method_0 (by decide +kernel)
theorem dX11_method_2 : decode cX11_method 2 = .ok (.bipush 8, 2) := dw16 (n := 0) (i := 2) (a := 8) kc_cX11_method_0 (by decide +kernel) (by decide)
theorem dX11_method_4 : decode cX11_method 4 = .ok (.invokestatic 133, 3) := dw184 (n := 0) (i := 4) (a := 0) (b := 133) kc_cX11_method_0 (by decide +kernel) (by decide)
set_option maxRecDepth 20000 in
theorem ggX11_method_X11_in : GoodIn wsX11_method wsX11_in := (gk_code 9 rfl (gn))
set_option maxRecDepth 20000 in
theorem gX11_method_X11_in : GoodIn wsX11_method (va_wsS RX11 133 yX11_in wsX11_in) := goodIn_app (gk_methodLink 6 rfl (gk_static 7 rfl (gk_initialized 8 rfl (gn)))) ggX11_method_X11_in
theorem dX11_method_7 : decode cX11_method 7 = .ok (.ifCond .eq 30, 3) := dw153 (n := 0) (i := 7) (a := 0) (b := 30) kc_cX11_method_0 (by decide +kernel) (by decide)
theorem dX11_method_37 : decode cX11_method 37 = .ok (.iconst (-1), 1) := dw2 (n := 32) (i := 5) kc_cX11_method_1 (by decide +kernel)
theorem dX11_method_38 : decode cX11_method 38 = .ok (.ireturn, 1) := dw172 (n := 32) (i := 6) kc_cX11_method_1 (by decide +kernel)
theorem dX11_method_10 : decode cX11_method 10 = .ok (.iload_n 3, 1) := dw29 (n := 0) (i := 10) kc_cX11_method_0 (by decide +kernel)
theorem dX11_method_11 : decode cX11_method 11 = .ok (.iconst 0, 1) := dw3 (n := 0) (i := 11) kc_cX11_method_0 (by decide +kernel)
theorem dX11_method_12 : decode cX11_method 12 = .ok (.sipush 255, 3) := dw17 (n := 0) (i := 12) (a := 0) (b := 255) kc_cX11_method_0 (by decide +kernel) (by decide)
theorem dX11_method_15 : decode cX11_method 15 = .ok (.invokestatic 133, 3) := dw184 (n := 0) (i := 15) (a := 0) (b := 133) kc_cX11_method_0 (by decide +kernel) (by decide)
theorem dX11_method_18 : decode cX11_method 18 = .ok (.ifCond .eq 19, 3) := dw153 (n := 0) (i := 18) (a := 0) (b := 19) kc_cX11_method_0 (by decide +kernel) (by decide)
theorem dX11_method_21 : decode cX11_method 21 = .ok (.iload 4, 2) := dw21 (n := 0) (i := 21) (a := 4) kc_cX11_method_0 (by decide +kernel) (by decide)
theorem dX11_method_23 : decode cX11_method 23 = .ok (.bipush (-9), 2) := dw16 (n := 0) (i := 23) (a := 247) kc_cX11_method_0 (by decide +kernel) (by decide)
theorem dX11_method_25 : decode cX11_method 25 = .ok (.if_icmp .eq 14, 3) := dw159 (n := 0) (i := 25) (a := 0) (b := 14) kc_cX11_method_0 (by decide +kernel) (by decide)
theorem dX11_method_39 : decode cX11_method 39 = .ok (.aload_n 0, 1) := dw42 (n := 32) (i := 7) kc_cX11_method_1 (by decide +kernel)
theorem dX11_method_40 : decode cX11_method 40 = .ok (.getfield 175, 3) := dw180 (n := 32) (i := 8) (a := 0) (b := 175) kc_cX11_method_1 (by decide +kernel) (by decide)
theorem in_X11_method_11 : ∀ w ∈ u_ws RX11 TX11 53, w ∈ wsX11_method := fun _ h => List.mem_cons_of_mem _ (List.mem_append_right _ h)
theorem dX11_method_43 : decode cX11_method 43 = .ok (.bipush 20, 2) := dw16 (n := 32) (i := 11) (a := 20) kc_cX11_method_1 (by decide +kernel) (by decide)
theorem dX11_method_45 : decode cX11_method 45 = .ok (.if_icmp .ne 6, 3) := dw160 (n := 32) (i := 13) (a := 0) (b := 6) kc_cX11_method_1 (by decide +kernel) (by decide)
theorem dX11_method_51 : decode cX11_method 51 = .ok (.aload_n 0, 1) := dw42 (n := 32) (i := 19) kc_cX11_method_1 (by decide +kernel)
theorem dX11_method_52 : decode cX11_method 52 = .ok (.getfield 40, 3) := dw180 (n := 32) (i := 20) (a := 0) (b := 40) kc_cX11_method_1 (by decide +kernel) (by decide)
theorem dX11_method_55 : decode cX11_method 55 = .ok (.aload_n 0, 1) := dw42 (n := 32) (i := 23) kc_cX11_method_1 (by decide +kernel)
theorem dX11_method_56 : decode cX11_method 56 = .ok (.getfield 175, 3) := dw180 (n := 32) (i := 24) (a := 0) (b := 175) kc_cX11_method_1 (by decide +kernel) (by decide)
theorem dX11_method_59 : decode cX11_method 59 = .ok (.iload_n 1, 1) := dw27 (n := 32) (i := 27) kc_cX11_method_1 (by decide +kernel)
theorem dX11_method_60 : decode cX11_method 60 = .ok (.iastore, 1) := dw79 (n := 32) (i := 28) kc_cX11_method_1 (by decide +kernel)
theorem dX11_method_61 : decode cX11_method 61 = .ok (.aload_n 0, 1) := dw42 (n := 32) (i := 29) kc_cX11_method_1 (by decide +kernel)
theorem dX11_method_62 : decode cX11_method 62 = .ok (.getfield 43, 3) := dw180 (n := 32) (i := 30) (a := 0) (b := 43) kc_cX11_method_1 (by decide +kernel) (by decide)
theorem dX11_method_65 : decode cX11_method 65 = .ok (.aload_n 0, 1) := dw42 (n := 64) (i := 1) kc_cX11_method_2 (by decide +kernel)
theorem dX11_method_66 : decode cX11_method 66 = .ok (.getfield 175, 3) := dw180 (n := 64) (i := 2) (a := 0) (b := 175) kc_cX11_method_2 (by decide +kernel) (by decide)
theorem dX11_method_69 : decode cX11_method 69 = .ok (.iload_n 2, 1) := dw28 (n := 64) (i := 5) kc_cX11_method_2 (by decide +kernel)
theorem dX11_method_70 : decode cX11_method 70 = .ok (.iastore, 1) := dw79 (n := 64) (i := 6) kc_cX11_method_2 (by decide +kernel)
theorem dX11_method_71 : decode cX11_method 71 = .ok (.aload_n 0, 1) := dw42 (n := 64) (i := 7) kc_cX11_method_2 (by decide +kernel)
theorem dX11_method_72 : decode cX11_method 72 = .ok (.getfield 46, 3) := dw180 (n := 64) (i := 8) (a := 0) (b := 46) kc_cX11_method_2 (by decide +kernel) (by decide)
theorem dX11_method_75 : decode cX11_method 75 = .ok (.aload_n 0, 1) := dw42 (n := 64) (i := 11) kc_cX11_method_2 (by decide +kernel)
theorem dX11_method_76 : decode cX11_method 76 = .ok (.getfield 175, 3) := dw180 (n := 64) (i := 12) (a := 0) (b := 175) kc_cX11_method_2 (by decide +kernel) (by decide)
theorem dX11_method_79 : decode cX11_method 79 = .ok (.iload_n 3, 1) := dw29 (n := 64) (i := 15) kc_cX11_method_2 (by decide +kernel)
theorem dX11_method_80 : decode cX11_method 80 = .ok (.iastore, 1) := dw79 (n := 64) (i := 16) kc_cX11_method_2 (by decide +kernel)
theorem dX11_method_81 : decode cX11_method 81 = .ok (.aload_n 0, 1) := dw42 (n := 64) (i := 17) kc_cX11_method_2 (by decide +kernel)
theorem dX11_method_82 : decode cX11_method 82 = .ok (.getfield 49, 3) := dw180 (n := 64) (i := 18) (a := 0) (b := 49) kc_cX11_method_2 (by decide +kernel) (by decide)
theorem dX11_method_85 : decode cX11_method 85 = .ok (.aload_n 0, 1) := dw42 (n := 64) (i := 21) kc_cX11_method_2 (by decide +kernel)
theorem dX11_method_86 : decode cX11_method 86 = .ok (.getfield 175, 3) := dw180 (n := 64) (i := 22) (a := 0) (b := 175) kc_cX11_method_2 (by decide +kernel) (by decide)
theorem dX11_method_89 : decode cX11_method 89 = .ok (.iload 4, 2) := dw21 (n := 64) (i := 25) (a := 4) kc_cX11_method_2 (by decide +kernel) (by decide)
theorem dX11_method_91 : decode cX11_method 91 = .ok (.iastore, 1) := dw79 (n := 64) (i := 27) kc_cX11_method_2 (by decide +kernel)
theorem dX11_method_92 : decode cX11_method 92 = .ok (.aload_n 0, 1) := dw42 (n := 64) (i := 28) kc_cX11_method_2 (by decide +kernel)
theorem dX11_method_93 : decode cX11_method 93 = .ok (.dup, 1) := dw89 (n := 64) (i := 29) kc_cX11_method_2 (by decide +kernel)
theorem dX11_method_94 : decode cX11_method 94 = .ok (.getfield 175, 3) := dw180 (n := 64) (i := 30) (a := 0) (b := 175) kc_cX11_method_2 (by decide +kernel) (by decide)
theorem dX11_method_97 : decode cX11_method 97 = .ok (.iconst 1, 1) := dw4 (n := 96) (i := 1) kc_cX11_method_3 (by decide +kernel)
theorem dX11_method_98 : decode cX11_method 98 = .ok (.iadd, 1) := dw96 (n := 96) (i := 2) kc_cX11_method_3 (by decide +kernel)
theorem dX11_method_99 : decode cX11_method 99 = .ok (.putfield 175, 3) := dw181 (n := 96) (i := 3) (a := 0) (b := 175) kc_cX11_method_3 (by decide +kernel) (by decide)
theorem dX11_method_102 : decode cX11_method 102 = .ok (.aload_n 0, 1) := dw42 (n := 96) (i := 6) kc_cX11_method_3 (by decide +kernel)
theorem dX11_method_103 : decode cX11_method 103 = .ok (.getfield 175, 3) := dw180 (n := 96) (i := 7) (a := 0) (b := 175) kc_cX11_method_3 (by decide +kernel) (by decide)
theorem dX11_method_106 : decode cX11_method 106 = .ok (.iconst 1, 1) := dw4 (n := 96) (i := 10) kc_cX11_method_3 (by decide +kernel)
theorem dX11_method_107 : decode cX11_method 107 = .ok (.isub, 1) := dw100 (n := 96) (i := 11) kc_cX11_method_3 (by decide +kernel)
theorem dX11_method_108 : decode cX11_method 108 = .ok (.ireturn, 1) := dw172 (n := 96) (i := 12) kc_cX11_method_3 (by decide +kernel)
theorem dX11_method_48 : decode cX11_method 48 = .ok (.bipush (-2), 2) := dw16 (n := 32) (i := 16) (a := 254) kc_cX11_method_1 (by decide +kernel) (by decide)
theorem dX11_method_50 : decode cX11_method 50 = .ok (.ireturn, 1) := dw172 (n := 32) (i := 18) kc_cX11_method_1 (by decide +kernel)
theorem dX11_method_28 : decode cX11_method 28 = .ok (.aload_n 0, 1) := dw42 (n := 0) (i := 28) kc_cX11_method_0 (by decide +kernel)
theorem dX11_method_29 : decode cX11_method 29 = .ok (.iload 4, 2) := dw21 (n := 0) (i := 29) (a := 4) kc_cX11_method_0 (by decide +kernel) (by decide)
theorem dX11_method_31 : decode cX11_method 31 = .ok (.invokevirtual 178, 3) := dw182 (n := 0) (i := 31) (a := 0) (b := 178) kc_cX11_method_0 (by decide +kernel) (by decide)
set_option maxRecDepth 20000 in
theorem ggX11_method_X11_isMethod : GoodIn wsX11_method wsX11_isMethod := (gk_code 13 rfl (gk_fieldLink 1 rfl (gk_methodLink 6 rfl (gk_static 7 rfl (gk_initialized 8 rfl (gk_code 9 rfl (gk_lays 14 rfl (gk_laysFinal 15 rfl (gk_lays 16 rfl (gk_laysFinal 17 rfl (gk_lays 18 rfl (gk_laysFinal 19 rfl (gk_laysFinal 20 rfl (gk_laysFinal 21 rfl (gk_laysFinal 22 rfl (gk_lays 23 rfl (gk_laysFinal 24 rfl (gk_laysFinal 25 rfl (gk_laysFinal 26 rfl (gk_laysFinal 27 rfl (gk_lays 28 rfl (gk_laysFinal 29 rfl (gk_laysFinal 30 rfl (gk_laysFinal 31 rfl (gk_laysFinal 32 rfl (gk_laysFinal 33 rfl (gk_laysFinal 34 rfl (gk_laysFinal 35 rfl (gk_laysFinal 36 rfl (gk_lays 37 rfl (gk_lays 38 rfl (gk_lays 39 rfl (gk_lays 40 rfl (gk_lays 41 rfl (gk_lays 42 rfl (gk_lays 43 rfl (gk_laysFinal 44 rfl (gk_lays 45 rfl (gk_laysFinal 46 rfl (gk_laysFinal 47 rfl (gk_laysFinal 48 rfl (gk_laysFinal 49 rfl (gk_laysFinal 50 rfl (gk_laysFinal 51 rfl (gk_laysFinal 52 rfl (gk_laysFinal 53 rfl (gk_laysFinal 54 rfl (gk_laysFinal 55 rfl (gk_lays 56 rfl (gk_laysFinal 57 rfl (gk_lays 58 rfl (gk_laysFinal 59 rfl (gk_laysFinal 60 rfl (gk_laysFinal 61 rfl (gk_laysFinal 62 rfl (gk_laysFinal 63 rfl (gk_laysFinal 64 rfl (gk_laysFinal 65 rfl (gk_laysFinal 66 rfl (gn))))))))))))))))))))))))))))))))))))))))))))))))))))))))))))
set_option maxRecDepth 20000 in
theorem gX11_method_X11_isMethod : GoodIn wsX11_method (wsV RX11 178 RX11 yX11_isMethod wsX11_isMethod) := goodIn_app (gk_methodLink 10 rfl (gk_instanceMethod 11 rfl (gk_selects 12 rfl (gk_initialized 8 rfl (gn))))) ggX11_method_X11_isMethod
theorem dX11_method_34 : decode cX11_method 34 = .ok (.ifCond .ne 5, 3) := dw154 (n := 32) (i := 2) (a := 0) (b := 5) kc_cX11_method_1 (by decide +kernel) (by decide)
set_option maxHeartbeats 4000000 in
set_option maxRecDepth 100000 in
theorem s_X11_method (l : Launch) (D : va_G) (ad : Nat → Nat) (cs : Nat → ClassId) (M : MI) (L : ML) (x : Int32) (y : Int32) (z : Int32) (u : Int32) (hI : IR M) : Ci l yX11_method wsX11_method ({ frames := 2, cells := 0, slots := 0, locals := 43 }) D ad cs [.ref (ad 258), .int x, .int y, .int z, .int u] M L (fun r M1 L1 => (A_method (vR M) x y z u = (r, vR M1)) ∧ IR M1 ∧ (∀ k i, ¬ (k = 258 ∧ i = 14) ∧ k ≠ 269 ∧ k ≠ 270 ∧ k ≠ 271 ∧ k ≠ 272 → M1 k i = M k i) ∧ ∀ k i, True → L1 k i = L k i) := by
  refine enter_i RX11 rfl [(0, .ref (ad 258)), (1, .int x), (2, .int y), (3, .int z), (4, .int u)] rfl (Nat.le_of_ble_eq_true rfl) (by decide +kernel) rfl ?_
  intro p e s m below meth c C hr
  have hF : ∀ k i, ¬ (k = 258 ∧ i = 14) ∧ k ≠ 269 ∧ k ≠ 270 ∧ k ≠ 271 ∧ k ≠ 272 → M k i = M k i := fun _ _ _ => rfl
  have hG : ∀ k i, True → L k i = L k i := fun _ _ _ => rfl
  have w0 : (vR M 0 0).toInt = (M 258 2).toInt := rfl
  have w1 : (vR M 0 1).toInt = (M 258 4).toInt := rfl
  have w2 : (vR M 0 2).toInt = (M 258 9).toInt := rfl
  have w3 : (vR M 0 3).toInt = (M 258 14).toInt := rfl
  obtain ⟨y0a, y0b⟩ := (show rg 0 10 (M 258 2) from hI 258 2)
  obtain ⟨y1a, y1b⟩ := (show rg 0 60 (M 258 4) from hI 258 4)
  obtain ⟨y2a, y2b⟩ := (show rg 0 8 (M 258 9) from hI 258 9)
  obtain ⟨y3a, y3b⟩ := (show rg 0 20 (M 258 14) from hI 258 14)
  have k14 : M 258 14 = vR M 0 3 := rfl
  have q269 : M 269 = M 269 := rfl
  have q270 : M 270 = M 270 := rfl
  have q271 : M 271 = M 271 := rfl
  have q272 : M 272 = M 272 := rfl
  have hV : vR M = vR M := rfl
  refine g_iload_n C 1 dX11_method_0 rfl ?_
  refine g_iconst C 0 dX11_method_1 (by decide) ?_
  refine g_bipush C 8 dX11_method_2 (by decide) ?_
  refine g_callSi C (n := 3) (As := [.int x, .int 0, .int 8]) (st := []) (c_X11_in l D ad cs _ _ x 0 8 ) gX11_method_X11_in rfl rfl rfl (by decide +kernel) ⟨Nat.le_of_ble_eq_true rfl, Nat.le_of_ble_eq_true rfl⟩ rfl (Nat.le_of_ble_eq_true rfl) ⟨Nat.zero_le _, Nat.zero_le _⟩ rfl dX11_method_4 (fun r1 M2 L3 hr1 => ?_)
  obtain ⟨hq1, hq2, hr1⟩ := hr1
  obtain rfl := hq1.symm
  obtain rfl := hq2.symm
  have hr1 := zo_in hr1 (by decide : (0 : Int32).toInt = 0) (by decide : (8 : Int32).toInt = 8)
  obtain ⟨bar1, bbr1⟩ := zo_b hr1
  refine g_if_eq C 37 dX11_method_7 (by decide) (fun c4 => ?_) (fun c4 => ?_)
  ·
    have f5 := feq rfl (by decide : (0 : Int32).toInt = 0) c4
    have pr1 := zo_f hr1 c4
    try dsimp only [hasC, hasB, hasX, hasM, ofS, ofK, bt] at pr1
    refine g_iconst C (-1) dX11_method_37 (by decide) ?_
    have zr9 : ((-1) : Int32).toInt = (-1) := by decide
    exact g_iret C hr ⟨(by dsimp only [A_method, hasC, hasB, hasX, hasM, ofS, ofK, bt, ix]; (repeat (first | rw [if_pos (by omega)] | rw [if_neg (by omega)])); first | done | rfl | (simp only [ix]; done) | (simp only [ix]; rfl) | (subst_vars; first | rfl | grind)), hI, hF, hG⟩ dX11_method_38
  ·
    have f6 := fne rfl (by decide : (0 : Int32).toInt = 0) c4
    have pr1 := zo_t hr1 c4
    try dsimp only [hasC, hasB, hasX, hasM, ofS, ofK, bt] at pr1
    refine g_iload_n C 3 dX11_method_10 rfl ?_
    refine g_iconst C 0 dX11_method_11 (by decide) ?_
    refine g_sipush C 255 dX11_method_12 (by decide) ?_
    refine g_callSi C (n := 3) (As := [.int z, .int 0, .int 255]) (st := []) (c_X11_in l D ad cs _ _ z 0 255 ) gX11_method_X11_in rfl rfl rfl (by decide +kernel) ⟨Nat.le_of_ble_eq_true rfl, Nat.le_of_ble_eq_true rfl⟩ rfl (Nat.le_of_ble_eq_true rfl) ⟨Nat.zero_le _, Nat.zero_le _⟩ rfl dX11_method_15 (fun r7 M8 L9 hr7 => ?_)
    obtain ⟨hq1, hq2, hr7⟩ := hr7
    obtain rfl := hq1.symm
    obtain rfl := hq2.symm
    have hr7 := zo_in hr7 (by decide : (0 : Int32).toInt = 0) (by decide : (255 : Int32).toInt = 255)
    obtain ⟨bar7, bbr7⟩ := zo_b hr7
    refine g_if_eq C 37 dX11_method_18 (by decide) (fun c10 => ?_) (fun c10 => ?_)
    ·
      have f11 := feq rfl (by decide : (0 : Int32).toInt = 0) c10
      have pr7 := zo_f hr7 c10
      try dsimp only [hasC, hasB, hasX, hasM, ofS, ofK, bt] at pr7
      refine g_iconst C (-1) dX11_method_37 (by decide) ?_
      have zr9 : ((-1) : Int32).toInt = (-1) := by decide
      exact g_iret C hr ⟨(by dsimp only [A_method, hasC, hasB, hasX, hasM, ofS, ofK, bt, ix]; (repeat (first | rw [if_pos (by omega)] | rw [if_neg (by omega)])); first | done | rfl | (simp only [ix]; done) | (simp only [ix]; rfl) | (subst_vars; first | rfl | grind)), hI, hF, hG⟩ dX11_method_38
    ·
      have f12 := fne rfl (by decide : (0 : Int32).toInt = 0) c10
      have pr7 := zo_t hr7 c10
      try dsimp only [hasC, hasB, hasX, hasM, ofS, ofK, bt] at pr7
      refine g_iload C 4 dX11_method_21 rfl ?_
      refine g_bipush C (-9) dX11_method_23 (by decide) ?_
      refine g_icmp_eq C 39 dX11_method_25 (by decide) (fun c13 => ?_) (fun c13 => ?_)
      ·
        have f14 := feq rfl (by decide : ((-9) : Int32).toInt = (-9)) c13
        refine g_aload_n C 0 dX11_method_39 rfl ?_
        refine g_get C (.int (M 258 14)) 14 in_X11_method_11 (List.mem_of_getElem? (i := 1) rfl) (by decide) (ce_model ad cs _ _) rfl (by decide) rfl rfl dX11_method_40 ?_
        refine g_ni (fun v15 ev15 => ?_)
        have gv15 : v15 = vR M 0 3 := ev15.trans k14
        have tv15 := congrArg Int32.toInt gv15
        obtain ⟨bv15, dv15⟩ := (show rg 0 20 v15 from (by rw [ev15]; exact hI 258 14))
        refine g_bipush C 20 dX11_method_43 (by decide) ?_
        refine g_icmp_ne C 51 dX11_method_45 (by decide) (fun c16 => ?_) (fun c16 => ?_)
        ·
          have f17 := fne rfl (by decide : (20 : Int32).toInt = 20) c16
          refine g_aload_n C 0 dX11_method_51 rfl ?_
          refine g_get C (.ref (ad 269)) 15 in_X11_method_11 (List.mem_of_getElem? (i := 2) rfl) (by decide) (ce_model ad cs _ _) rfl (by decide) rfl rfl dX11_method_52 ?_
          refine g_aload_n C 0 dX11_method_55 rfl ?_
          refine g_get C (.int (M 258 14)) 14 in_X11_method_11 (List.mem_of_getElem? (i := 1) rfl) (by decide) (ce_model ad cs _ _) rfl (by decide) rfl rfl dX11_method_56 ?_
          refine g_ni (fun v18 ev18 => ?_)
          have gv18 : v18 = vR M 0 3 := ev18.trans k14
          have tv18 := congrArg Int32.toInt gv18
          obtain ⟨bv18, dv18⟩ := (show rg 0 20 v18 from (by rw [ev18]; exact hI 258 14))
          refine g_iload_n C 1 dX11_method_59 rfl ?_
          refine g_iast C (by decide) (ce_m_kindOf ad cs _ _) (by rw [sI_k]; rfl) (fin' (n := 20) rfl (by omega) (by omega)) dX11_method_60 ?_
          refine g_nm (fun M19 hM19 => ?_)
          have hI : IR M19 := by rw [hM19]; exact hI.st (show bR 269 _ _ from trivial)
          have hF : ∀ k i, ¬ (k = 258 ∧ i = 14) ∧ k ≠ 269 ∧ k ≠ 270 ∧ k ≠ 271 ∧ k ≠ 272 → M19 k i = M k i := fun k i hk => by (rw [hM19, sI_at, if_neg (by omega)]; try exact hF k i hk)
          have k14 : M19 258 14 = vR M 0 3 := by rw [hM19, sI_n _ _ _ (by decide)]; try exact k14
          have q270 : M19 270 = M 270 := by rw [hM19, sI_n _ _ _ (by decide)]; try exact q270
          have q271 : M19 271 = M 271 := by rw [hM19, sI_n _ _ _ (by decide)]; try exact q271
          have q272 : M19 272 = M 272 := by rw [hM19, sI_n _ _ _ (by decide)]; try exact q272
          have hV : vR M19 = sI (vR M) 9 v18.toNatClampNeg x := by rw [hM19, vR_a (c := 9) (by decide), hV]
          refine g_aload_n C 0 dX11_method_61 rfl ?_
          refine g_get C (.ref (ad 270)) 16 in_X11_method_11 (List.mem_of_getElem? (i := 3) rfl) (by decide) (ce_model ad cs _ _) rfl (by decide) rfl rfl dX11_method_62 ?_
          refine g_aload_n C 0 dX11_method_65 rfl ?_
          refine g_get C (.int (M19 258 14)) 14 in_X11_method_11 (List.mem_of_getElem? (i := 1) rfl) (by decide) (ce_model ad cs _ _) rfl (by decide) rfl rfl dX11_method_66 ?_
          refine g_ni (fun v20 ev20 => ?_)
          have gv20 : v20 = vR M 0 3 := ev20.trans k14
          have tv20 := congrArg Int32.toInt gv20
          obtain ⟨bv20, dv20⟩ := (show rg 0 20 v20 from (by rw [ev20]; exact hI 258 14))
          refine g_iload_n C 2 dX11_method_69 rfl ?_
          refine g_iast C (by decide) (ce_m_rankOf ad cs _ _) (by rw [sI_k]; rfl) (fin' (n := 20) rfl (by omega) (by omega)) dX11_method_70 ?_
          refine g_nm (fun M21 hM21 => ?_)
          have hI : IR M21 := by rw [hM21]; exact hI.st (show bR 270 _ _ from trivial)
          have hF : ∀ k i, ¬ (k = 258 ∧ i = 14) ∧ k ≠ 269 ∧ k ≠ 270 ∧ k ≠ 271 ∧ k ≠ 272 → M21 k i = M k i := fun k i hk => by (rw [hM21, sI_at, if_neg (by omega)]; try exact hF k i hk)
          have k14 : M21 258 14 = vR M 0 3 := by rw [hM21, sI_n _ _ _ (by decide)]; try exact k14
          have q271 : M21 271 = M 271 := by rw [hM21, sI_n _ _ _ (by decide)]; try exact q271
          have q272 : M21 272 = M 272 := by rw [hM21, sI_n _ _ _ (by decide)]; try exact q272
          have hV : vR M21 = sI (sI (vR M) 9 v18.toNatClampNeg x) 10 v20.toNatClampNeg y := by rw [hM21, vR_a (c := 10) (by decide), hV]
          refine g_aload_n C 0 dX11_method_71 rfl ?_
          refine g_get C (.ref (ad 271)) 17 in_X11_method_11 (List.mem_of_getElem? (i := 4) rfl) (by decide) (ce_model ad cs _ _) rfl (by decide) rfl rfl dX11_method_72 ?_
          refine g_aload_n C 0 dX11_method_75 rfl ?_
          refine g_get C (.int (M21 258 14)) 14 in_X11_method_11 (List.mem_of_getElem? (i := 1) rfl) (by decide) (ce_model ad cs _ _) rfl (by decide) rfl rfl dX11_method_76 ?_
          refine g_ni (fun v22 ev22 => ?_)
          have gv22 : v22 = vR M 0 3 := ev22.trans k14
          have tv22 := congrArg Int32.toInt gv22
          obtain ⟨bv22, dv22⟩ := (show rg 0 20 v22 from (by rw [ev22]; exact hI 258 14))
          refine g_iload_n C 3 dX11_method_79 rfl ?_
          refine g_iast C (by decide) (ce_m_marksOf ad cs _ _) (by rw [sI_k]; rfl) (fin' (n := 20) rfl (by omega) (by omega)) dX11_method_80 ?_
          refine g_nm (fun M23 hM23 => ?_)
          have hI : IR M23 := by rw [hM23]; exact hI.st (show bR 271 _ _ from trivial)
          have hF : ∀ k i, ¬ (k = 258 ∧ i = 14) ∧ k ≠ 269 ∧ k ≠ 270 ∧ k ≠ 271 ∧ k ≠ 272 → M23 k i = M k i := fun k i hk => by (rw [hM23, sI_at, if_neg (by omega)]; try exact hF k i hk)
          have k14 : M23 258 14 = vR M 0 3 := by rw [hM23, sI_n _ _ _ (by decide)]; try exact k14
          have q272 : M23 272 = M 272 := by rw [hM23, sI_n _ _ _ (by decide)]; try exact q272
          have hV : vR M23 = sI (sI (sI (vR M) 9 v18.toNatClampNeg x) 10 v20.toNatClampNeg y) 11 v22.toNatClampNeg z := by rw [hM23, vR_a (c := 11) (by decide), hV]
          refine g_aload_n C 0 dX11_method_81 rfl ?_
          refine g_get C (.ref (ad 272)) 18 in_X11_method_11 (List.mem_of_getElem? (i := 5) rfl) (by decide) (ce_model ad cs _ _) rfl (by decide) rfl rfl dX11_method_82 ?_
          refine g_aload_n C 0 dX11_method_85 rfl ?_
          refine g_get C (.int (M23 258 14)) 14 in_X11_method_11 (List.mem_of_getElem? (i := 1) rfl) (by decide) (ce_model ad cs _ _) rfl (by decide) rfl rfl dX11_method_86 ?_
          refine g_ni (fun v24 ev24 => ?_)
          have gv24 : v24 = vR M 0 3 := ev24.trans k14
          have tv24 := congrArg Int32.toInt gv24
          obtain ⟨bv24, dv24⟩ := (show rg 0 20 v24 from (by rw [ev24]; exact hI 258 14))
          refine g_iload C 4 dX11_method_89 rfl ?_
          refine g_iast C (by decide) (ce_m_needOf ad cs _ _) (by rw [sI_k]; rfl) (fin' (n := 20) rfl (by omega) (by omega)) dX11_method_91 ?_
          refine g_nm (fun M25 hM25 => ?_)
          have hI : IR M25 := by rw [hM25]; exact hI.st (show bR 272 _ _ from trivial)
          have hF : ∀ k i, ¬ (k = 258 ∧ i = 14) ∧ k ≠ 269 ∧ k ≠ 270 ∧ k ≠ 271 ∧ k ≠ 272 → M25 k i = M k i := fun k i hk => by (rw [hM25, sI_at, if_neg (by omega)]; try exact hF k i hk)
          have k14 : M25 258 14 = vR M 0 3 := by rw [hM25, sI_n _ _ _ (by decide)]; try exact k14
          have hV : vR M25 = sI (sI (sI (sI (vR M) 9 v18.toNatClampNeg x) 10 v20.toNatClampNeg y) 11 v22.toNatClampNeg z) 12 v24.toNatClampNeg u := by rw [hM25, vR_a (c := 12) (by decide), hV]
          refine g_aload_n C 0 dX11_method_92 rfl ?_
          refine g_dup C dX11_method_93 rfl ?_
          refine g_get C (.int (M25 258 14)) 14 in_X11_method_11 (List.mem_of_getElem? (i := 1) rfl) (by decide) (ce_model ad cs _ _) rfl (by decide) rfl rfl dX11_method_94 ?_
          refine g_ni (fun v26 ev26 => ?_)
          have gv26 : v26 = vR M 0 3 := ev26.trans k14
          have tv26 := congrArg Int32.toInt gv26
          obtain ⟨bv26, dv26⟩ := (show rg 0 20 v26 from (by rw [ev26]; exact hI 258 14))
          refine g_iconst C 1 dX11_method_97 (by decide) ?_
          refine g_iadd C dX11_method_98 ?_
          refine g_ni (fun v27 ev27 => ?_)
          try have fv27 := fadd rfl (by decide : (1 : Int32).toInt = 1) ev27 (by omega) (by omega)
          refine g_putI C 14 in_X11_method_11 (List.mem_of_getElem? (i := 1) rfl) (by decide) (ce_model ad cs _ _) rfl (by decide) rfl tyX11 tyX11_ok nmX11 rfl rfl rfl rfl (Nat.le_of_ble_eq_true rfl) (by rw [sI_k]; rfl) dX11_method_99 ?_
          refine g_nm (fun M28 hM28 => ?_)
          have hI : IR M28 := by rw [hM28]; exact hI.st (show bR 258 14 _ from ⟨by first | omega | decide, by first | omega | decide⟩)
          have hF : ∀ k i, ¬ (k = 258 ∧ i = 14) ∧ k ≠ 269 ∧ k ≠ 270 ∧ k ≠ 271 ∧ k ≠ 272 → M28 k i = M k i := fun k i hk => by (rw [hM28, sI_at, if_neg (by omega)]; try exact hF k i hk)
          have k14 : M28 258 14 = v27 := by rw [hM28, sI_at, if_pos (by decide)]
          have hV : vR M28 = sI (sI (sI (sI (sI (vR M) 9 v18.toNatClampNeg x) 10 v20.toNatClampNeg y) 11 v22.toNatClampNeg z) 12 v24.toNatClampNeg u) 0 3 v27 := by rw [hM28, vR_s (c := 3) (by decide), hV]
          refine g_aload_n C 0 dX11_method_102 rfl ?_
          refine g_get C (.int (M28 258 14)) 14 in_X11_method_11 (List.mem_of_getElem? (i := 1) rfl) (by decide) (ce_model ad cs _ _) rfl (by decide) rfl rfl dX11_method_103 ?_
          refine g_ni (fun v29 ev29 => ?_)
          have gv29 : v29 = v27 := ev29.trans k14
          have tv29 := congrArg Int32.toInt gv29
          obtain ⟨bv29, dv29⟩ := (show rg 0 20 v29 from (by rw [ev29]; exact hI 258 14))
          refine g_iconst C 1 dX11_method_106 (by decide) ?_
          refine g_isub C dX11_method_107 ?_
          refine g_ni (fun v30 ev30 => ?_)
          try have fv30 := fsub rfl (by decide : (1 : Int32).toInt = 1) ev30 (by omega) (by omega)
          exact g_iret C hr ⟨(by dsimp only [A_method, hasC, hasB, hasX, hasM, ofS, ofK, bt, ix]; (repeat (first | rw [if_pos (by omega)] | rw [if_neg (by omega)])); rw [hV]; first | done | rfl | (simp only [ev30, gv29, ev27, gv26, gv24, gv22, gv20, gv18, gv15]; done) | (simp only [ev30, gv29, ev27, gv26, gv24, gv22, gv20, gv18, gv15]; rfl) | (subst_vars; first | rfl | grind)), hI, hF, hG⟩ dX11_method_108
        ·
          have f31 := feq rfl (by decide : (20 : Int32).toInt = 20) c16
          refine g_bipush C (-2) dX11_method_48 (by decide) ?_
          have zr9 : ((-2) : Int32).toInt = (-2) := by decide
          exact g_iret C hr ⟨(by dsimp only [A_method, hasC, hasB, hasX, hasM, ofS, ofK, bt, ix]; (repeat (first | rw [if_pos (by omega)] | rw [if_neg (by omega)])); first | done | rfl | (simp only [gv15]; done) | (simp only [gv15]; rfl) | (subst_vars; first | rfl | grind)), hI, hF, hG⟩ dX11_method_50
      ·
        have f32 := fne rfl (by decide : ((-9) : Int32).toInt = (-9)) c13
        refine g_aload_n C 0 dX11_method_28 rfl ?_
        refine g_iload C 4 dX11_method_29 rfl ?_
        refine g_callVi C (n := 1) (As := [.int u]) (st := []) (s_X11_isMethod l D ad cs _ _ u hI ) gX11_method_X11_isMethod rfl rfl rfl (by decide +kernel) ⟨Nat.le_of_ble_eq_true rfl, Nat.le_of_ble_eq_true rfl⟩ rfl (Nat.le_of_ble_eq_true rfl) ⟨Nat.zero_le _, Nat.zero_le _⟩ (by decide) (ce_model ad cs _ _) rfl rfl dX11_method_31 (fun r33 M34 L35 hr33 => ?_)
        obtain ⟨hq1, hq2, hr33⟩ := hr33
        obtain rfl := hq1.symm
        obtain rfl := hq2.symm
        obtain ⟨bar33, bbr33⟩ := zo_b hr33
        refine g_if_ne C 39 dX11_method_34 (by decide) (fun c36 => ?_) (fun c36 => ?_)
        ·
          have f37 := fne rfl (by decide : (0 : Int32).toInt = 0) c36
          have pr33 := zo_t hr33 c36
          try dsimp only [hasC, hasB, hasX, hasM, ofS, ofK, bt] at pr33
          refine g_aload_n C 0 dX11_method_39 rfl ?_
          refine g_get C (.int (M 258 14)) 14 in_X11_method_11 (List.mem_of_getElem? (i := 1) rfl) (by decide) (ce_model ad cs _ _) rfl (by decide) rfl rfl dX11_method_40 ?_
          refine g_ni (fun v38 ev38 => ?_)
          have gv38 : v38 = vR M 0 3 := ev38.trans k14
          have tv38 := congrArg Int32.toInt gv38
          obtain ⟨bv38, dv38⟩ := (show rg 0 20 v38 from (by rw [ev38]; exact hI 258 14))
          refine g_bipush C 20 dX11_method_43 (by decide) ?_
          refine g_icmp_ne C 51 dX11_method_45 (by decide) (fun c39 => ?_) (fun c39 => ?_)
          ·
            have f40 := fne rfl (by decide : (20 : Int32).toInt = 20) c39
            refine g_aload_n C 0 dX11_method_51 rfl ?_
            refine g_get C (.ref (ad 269)) 15 in_X11_method_11 (List.mem_of_getElem? (i := 2) rfl) (by decide) (ce_model ad cs _ _) rfl (by decide) rfl rfl dX11_method_52 ?_
            refine g_aload_n C 0 dX11_method_55 rfl ?_
            refine g_get C (.int (M 258 14)) 14 in_X11_method_11 (List.mem_of_getElem? (i := 1) rfl) (by decide) (ce_model ad cs _ _) rfl (by decide) rfl rfl dX11_method_56 ?_
            refine g_ni (fun v41 ev41 => ?_)
            have gv41 : v41 = vR M 0 3 := ev41.trans k14
            have tv41 := congrArg Int32.toInt gv41
            obtain ⟨bv41, dv41⟩ := (show rg 0 20 v41 from (by rw [ev41]; exact hI 258 14))
            refine g_iload_n C 1 dX11_method_59 rfl ?_
            refine g_iast C (by decide) (ce_m_kindOf ad cs _ _) (by rw [sI_k]; rfl) (fin' (n := 20) rfl (by omega) (by omega)) dX11_method_60 ?_
            refine g_nm (fun M42 hM42 => ?_)
            have hI : IR M42 := by rw [hM42]; exact hI.st (show bR 269 _ _ from trivial)
            have hF : ∀ k i, ¬ (k = 258 ∧ i = 14) ∧ k ≠ 269 ∧ k ≠ 270 ∧ k ≠ 271 ∧ k ≠ 272 → M42 k i = M k i := fun k i hk => by (rw [hM42, sI_at, if_neg (by omega)]; try exact hF k i hk)
            have k14 : M42 258 14 = vR M 0 3 := by rw [hM42, sI_n _ _ _ (by decide)]; try exact k14
            have q270 : M42 270 = M 270 := by rw [hM42, sI_n _ _ _ (by decide)]; try exact q270
            have q271 : M42 271 = M 271 := by rw [hM42, sI_n _ _ _ (by decide)]; try exact q271
            have q272 : M42 272 = M 272 := by rw [hM42, sI_n _ _ _ (by decide)]; try exact q272
            have hV : vR M42 = sI (vR M) 9 v41.toNatClampNeg x := by rw [hM42, vR_a (c := 9) (by decide), hV]
            refine g_aload_n C 0 dX11_method_61 rfl ?_
            refine g_get C (.ref (ad 270)) 16 in_X11_method_11 (List.mem_of_getElem? (i := 3) rfl) (by decide) (ce_model ad cs _ _) rfl (by decide) rfl rfl dX11_method_62 ?_
            refine g_aload_n C 0 dX11_method_65 rfl ?_
            refine g_get C (.int (M42 258 14)) 14 in_X11_method_11 (List.mem_of_getElem? (i := 1) rfl) (by decide) (ce_model ad cs _ _) rfl (by decide) rfl rfl dX11_method_66 ?_
            refine g_ni (fun v43 ev43 => ?_)
            have gv43 : v43 = vR M 0 3 := ev43.trans k14
            have tv43 := congrArg Int32.toInt gv43
            obtain ⟨bv43, dv43⟩ := (show rg 0 20 v43 from (by rw [ev43]; exact hI 258 14))
            refine g_iload_n C 2 dX11_method_69 rfl ?_
            refine g_iast C (by decide) (ce_m_rankOf ad cs _ _) (by rw [sI_k]; rfl) (fin' (n := 20) rfl (by omega) (by omega)) dX11_method_70 ?_
            refine g_nm (fun M44 hM44 => ?_)
            have hI : IR M44 := by rw [hM44]; exact hI.st (show bR 270 _ _ from trivial)
            have hF : ∀ k i, ¬ (k = 258 ∧ i = 14) ∧ k ≠ 269 ∧ k ≠ 270 ∧ k ≠ 271 ∧ k ≠ 272 → M44 k i = M k i := fun k i hk => by (rw [hM44, sI_at, if_neg (by omega)]; try exact hF k i hk)
            have k14 : M44 258 14 = vR M 0 3 := by rw [hM44, sI_n _ _ _ (by decide)]; try exact k14
            have q271 : M44 271 = M 271 := by rw [hM44, sI_n _ _ _ (by decide)]; try exact q271
            have q272 : M44 272 = M 272 := by rw [hM44, sI_n _ _ _ (by decide)]; try exact q272
            have hV : vR M44 = sI (sI (vR M) 9 v41.toNatClampNeg x) 10 v43.toNatClampNeg y := by rw [hM44, vR_a (c := 10) (by decide), hV]
            refine g_aload_n C 0 dX11_method_71 rfl ?_
            refine g_get C (.ref (ad 271)) 17 in_X11_method_11 (List.mem_of_getElem? (i := 4) rfl) (by decide) (ce_model ad cs _ _) rfl (by decide) rfl rfl dX11_method_72 ?_
            refine g_aload_n C 0 dX11_method_75 rfl ?_
            refine g_get C (.int (M44 258 14)) 14 in_X11_method_11 (List.mem_of_getElem? (i := 1) rfl) (by decide) (ce_model ad cs _ _) rfl (by decide) rfl rfl dX11_method_76 ?_
            refine g_ni (fun v45 ev45 => ?_)
            have gv45 : v45 = vR M 0 3 := ev45.trans k14
            have tv45 := congrArg Int32.toInt gv45
            obtain ⟨bv45, dv45⟩ := (show rg 0 20 v45 from (by rw [ev45]; exact hI 258 14))
            refine g_iload_n C 3 dX11_method_79 rfl ?_
            refine g_iast C (by decide) (ce_m_marksOf ad cs _ _) (by rw [sI_k]; rfl) (fin' (n := 20) rfl (by omega) (by omega)) dX11_method_80 ?_
            refine g_nm (fun M46 hM46 => ?_)
            have hI : IR M46 := by rw [hM46]; exact hI.st (show bR 271 _ _ from trivial)
            have hF : ∀ k i, ¬ (k = 258 ∧ i = 14) ∧ k ≠ 269 ∧ k ≠ 270 ∧ k ≠ 271 ∧ k ≠ 272 → M46 k i = M k i := fun k i hk => by (rw [hM46, sI_at, if_neg (by omega)]; try exact hF k i hk)
            have k14 : M46 258 14 = vR M 0 3 := by rw [hM46, sI_n _ _ _ (by decide)]; try exact k14
            have q272 : M46 272 = M 272 := by rw [hM46, sI_n _ _ _ (by decide)]; try exact q272
            have hV : vR M46 = sI (sI (sI (vR M) 9 v41.toNatClampNeg x) 10 v43.toNatClampNeg y) 11 v45.toNatClampNeg z := by rw [hM46, vR_a (c := 11) (by decide), hV]
            refine g_aload_n C 0 dX11_method_81 rfl ?_
            refine g_get C (.ref (ad 272)) 18 in_X11_method_11 (List.mem_of_getElem? (i := 5) rfl) (by decide) (ce_model ad cs _ _) rfl (by decide) rfl rfl dX11_method_82 ?_
            refine g_aload_n C 0 dX11_method_85 rfl ?_
            refine g_get C (.int (M46 258 14)) 14 in_X11_method_11 (List.mem_of_getElem? (i := 1) rfl) (by decide) (ce_model ad cs _ _) rfl (by decide) rfl rfl dX11_method_86 ?_
            refine g_ni (fun v47 ev47 => ?_)
            have gv47 : v47 = vR M 0 3 := ev47.trans k14
            have tv47 := congrArg Int32.toInt gv47
            obtain ⟨bv47, dv47⟩ := (show rg 0 20 v47 from (by rw [ev47]; exact hI 258 14))
            refine g_iload C 4 dX11_method_89 rfl ?_
            refine g_iast C (by decide) (ce_m_needOf ad cs _ _) (by rw [sI_k]; rfl) (fin' (n := 20) rfl (by omega) (by omega)) dX11_method_91 ?_
            refine g_nm (fun M48 hM48 => ?_)
            have hI : IR M48 := by rw [hM48]; exact hI.st (show bR 272 _ _ from trivial)
            have hF : ∀ k i, ¬ (k = 258 ∧ i = 14) ∧ k ≠ 269 ∧ k ≠ 270 ∧ k ≠ 271 ∧ k ≠ 272 → M48 k i = M k i := fun k i hk => by (rw [hM48, sI_at, if_neg (by omega)]; try exact hF k i hk)
            have k14 : M48 258 14 = vR M 0 3 := by rw [hM48, sI_n _ _ _ (by decide)]; try exact k14
            have hV : vR M48 = sI (sI (sI (sI (vR M) 9 v41.toNatClampNeg x) 10 v43.toNatClampNeg y) 11 v45.toNatClampNeg z) 12 v47.toNatClampNeg u := by rw [hM48, vR_a (c := 12) (by decide), hV]
            refine g_aload_n C 0 dX11_method_92 rfl ?_
            refine g_dup C dX11_method_93 rfl ?_
            refine g_get C (.int (M48 258 14)) 14 in_X11_method_11 (List.mem_of_getElem? (i := 1) rfl) (by decide) (ce_model ad cs _ _) rfl (by decide) rfl rfl dX11_method_94 ?_
            refine g_ni (fun v49 ev49 => ?_)
            have gv49 : v49 = vR M 0 3 := ev49.trans k14
            have tv49 := congrArg Int32.toInt gv49
            obtain ⟨bv49, dv49⟩ := (show rg 0 20 v49 from (by rw [ev49]; exact hI 258 14))
            refine g_iconst C 1 dX11_method_97 (by decide) ?_
            refine g_iadd C dX11_method_98 ?_
            refine g_ni (fun v50 ev50 => ?_)
            try have fv50 := fadd rfl (by decide : (1 : Int32).toInt = 1) ev50 (by omega) (by omega)
            refine g_putI C 14 in_X11_method_11 (List.mem_of_getElem? (i := 1) rfl) (by decide) (ce_model ad cs _ _) rfl (by decide) rfl tyX11 tyX11_ok nmX11 rfl rfl rfl rfl (Nat.le_of_ble_eq_true rfl) (by rw [sI_k]; rfl) dX11_method_99 ?_
            refine g_nm (fun M51 hM51 => ?_)
            have hI : IR M51 := by rw [hM51]; exact hI.st (show bR 258 14 _ from ⟨by first | omega | decide, by first | omega | decide⟩)
            have hF : ∀ k i, ¬ (k = 258 ∧ i = 14) ∧ k ≠ 269 ∧ k ≠ 270 ∧ k ≠ 271 ∧ k ≠ 272 → M51 k i = M k i := fun k i hk => by (rw [hM51, sI_at, if_neg (by omega)]; try exact hF k i hk)
            have k14 : M51 258 14 = v50 := by rw [hM51, sI_at, if_pos (by decide)]
            have hV : vR M51 = sI (sI (sI (sI (sI (vR M) 9 v41.toNatClampNeg x) 10 v43.toNatClampNeg y) 11 v45.toNatClampNeg z) 12 v47.toNatClampNeg u) 0 3 v50 := by rw [hM51, vR_s (c := 3) (by decide), hV]
            refine g_aload_n C 0 dX11_method_102 rfl ?_
            refine g_get C (.int (M51 258 14)) 14 in_X11_method_11 (List.mem_of_getElem? (i := 1) rfl) (by decide) (ce_model ad cs _ _) rfl (by decide) rfl rfl dX11_method_103 ?_
            refine g_ni (fun v52 ev52 => ?_)
            have gv52 : v52 = v50 := ev52.trans k14
            have tv52 := congrArg Int32.toInt gv52
            obtain ⟨bv52, dv52⟩ := (show rg 0 20 v52 from (by rw [ev52]; exact hI 258 14))
            refine g_iconst C 1 dX11_method_106 (by decide) ?_
            refine g_isub C dX11_method_107 ?_
            refine g_ni (fun v53 ev53 => ?_)
            try have fv53 := fsub rfl (by decide : (1 : Int32).toInt = 1) ev53 (by omega) (by omega)
            exact g_iret C hr ⟨(by dsimp only [A_method, hasC, hasB, hasX, hasM, ofS, ofK, bt, ix]; (repeat (first | rw [if_pos (by omega)] | rw [if_neg (by omega)])); rw [hV]; first | done | rfl | (simp only [ev53, gv52, ev50, gv49, gv47, gv45, gv43, gv41, gv38]; done) | (simp only [ev53, gv52, ev50, gv49, gv47, gv45, gv43, gv41, gv38]; rfl) | (subst_vars; first | rfl | grind)), hI, hF, hG⟩ dX11_method_108
          ·
            have f54 := feq rfl (by decide : (20 : Int32).toInt = 20) c39
            refine g_bipush C (-2) dX11_method_48 (by decide) ?_
            have zr9 : ((-2) : Int32).toInt = (-2) := by decide
            exact g_iret C hr ⟨(by dsimp only [A_method, hasC, hasB, hasX, hasM, ofS, ofK, bt, ix]; (repeat (first | rw [if_pos (by omega)] | rw [if_neg (by omega)])); first | done | rfl | (simp only [gv38]; done) | (simp only [gv38]; rfl) | (subst_vars; first | rfl | grind)), hI, hF, hG⟩ dX11_method_50
        ·
          have f55 := feq rfl (by decide : (0 : Int32).toInt = 0) c36
          have pr33 := zo_f hr33 c36
          try dsimp only [hasC, hasB, hasX, hasM, ofS, ofK, bt] at pr33
          refine g_iconst C (-1) dX11_method_37 (by decide) ?_
          have zr9 : ((-1) : Int32).toInt = (-1) := by decide
          exact g_iret C hr ⟨(by dsimp only [A_method, hasC, hasB, hasX, hasM, ofS, ofK, bt, ix]; (repeat (first | rw [if_pos (by omega)] | rw [if_neg (by omega)])); first | done | rfl | (simp only [ix]; done) | (simp only [ix]; rfl) | (subst_vars; first | rfl | grind)), hI, hF, hG⟩ dX11_method_38
theorem dX11_methodOf_0 : decode cX11_methodOf 0 = .ok (.aload_n 0, 1) := dw42 (n := 0) (i := 0) kc_cX11_methodOf_0 (by decide +kernel)
theorem dX11_methodOf_1 : decode cX11_methodOf 1 = .ok (.iload_n 1, 1) := dw27 (n := 0) (i := 1) kc_cX11_methodOf_0 (by decide +kernel)
theorem dX11_methodOf_2 : decode cX11_methodOf 2 = .ok (.invokevirtual 178, 3) := dw182 (n := 0) (i := 2) (a := 0) (b := 178) kc_cX11_methodOf_0 (by decide +kernel) (by decide)
set_option maxRecDepth 20000 in
theorem ggX11_methodOf_X11_isMethod : GoodIn wsX11_methodOf wsX11_isMethod := (gk_code 9 rfl (gk_fieldLink 10 rfl (gk_methodLink 11 rfl (gk_static 12 rfl (gk_initialized 8 rfl (gk_code 13 rfl (gk_lays 14 rfl (gk_laysFinal 15 rfl (gk_lays 16 rfl (gk_laysFinal 17 rfl (gk_lays 18 rfl (gk_laysFinal 19 rfl (gk_laysFinal 20 rfl (gk_laysFinal 21 rfl (gk_laysFinal 22 rfl (gk_lays 23 rfl (gk_laysFinal 24 rfl (gk_laysFinal 25 rfl (gk_laysFinal 26 rfl (gk_laysFinal 27 rfl (gk_lays 28 rfl (gk_laysFinal 29 rfl (gk_laysFinal 30 rfl (gk_laysFinal 31 rfl (gk_laysFinal 32 rfl (gk_laysFinal 33 rfl (gk_laysFinal 34 rfl (gk_laysFinal 35 rfl (gk_laysFinal 36 rfl (gk_lays 37 rfl (gk_lays 38 rfl (gk_lays 39 rfl (gk_lays 40 rfl (gk_lays 41 rfl (gk_lays 42 rfl (gk_lays 43 rfl (gk_laysFinal 44 rfl (gk_lays 45 rfl (gk_laysFinal 46 rfl (gk_laysFinal 47 rfl (gk_laysFinal 48 rfl (gk_laysFinal 49 rfl (gk_laysFinal 50 rfl (gk_laysFinal 51 rfl (gk_laysFinal 52 rfl (gk_laysFinal 53 rfl (gk_laysFinal 54 rfl (gk_laysFinal 55 rfl (gk_lays 56 rfl (gk_laysFinal 57 rfl (gk_lays 58 rfl (gk_laysFinal 59 rfl (gk_laysFinal 60 rfl (gk_laysFinal 61 rfl (gk_laysFinal 62 rfl (gk_laysFinal 63 rfl (gk_laysFinal 64 rfl (gk_laysFinal 65 rfl (gk_laysFinal 66 rfl (gn))))))))))))))))))))))))))))))))))))))))))))))))))))))))))))
set_option maxRecDepth 20000 in
theorem gX11_methodOf_X11_isMethod : GoodIn wsX11_methodOf (wsV RX11 178 RX11 yX11_isMethod wsX11_isMethod) := goodIn_app (gk_methodLink 5 rfl (gk_instanceMethod 6 rfl (gk_selects 7 rfl (gk_initialized 8 rfl (gn))))) ggX11_methodOf_X11_isMethod
theorem dX11_methodOf_5 : decode cX11_methodOf 5 = .ok (.ifCond .eq 12, 3) := dw153 (n := 0) (i := 5) (a := 0) (b := 12) kc_cX11_methodOf_0 (by decide +kernel) (by decide)
theorem dX11_methodOf_17 : decode cX11_methodOf 17 = .ok (.iconst (-1), 1) := dw2 (n := 0) (i := 17) kc_cX11_methodOf_0 (by decide +kernel)
theorem dX11_methodOf_18 : decode cX11_methodOf 18 = .ok (.ireturn, 1) := dw172 (n := 0) (i := 18) kc_cX11_methodOf_0 (by decide +kernel)
theorem dX11_methodOf_8 : decode cX11_methodOf 8 = .ok (.iload_n 2, 1) := dw28 (n := 0) (i := 8) kc_cX11_methodOf_0 (by decide +kernel)
theorem dX11_methodOf_9 : decode cX11_methodOf 9 = .ok (.iconst 0, 1) := dw3 (n := 0) (i := 9) kc_cX11_methodOf_0 (by decide +kernel)
theorem dX11_methodOf_10 : decode cX11_methodOf 10 = .ok (.iconst 3, 1) := dw6 (n := 0) (i := 10) kc_cX11_methodOf_0 (by decide +kernel)
theorem dX11_methodOf_11 : decode cX11_methodOf 11 = .ok (.invokestatic 133, 3) := dw184 (n := 0) (i := 11) (a := 0) (b := 133) kc_cX11_methodOf_0 (by decide +kernel) (by decide)
set_option maxRecDepth 20000 in
theorem ggX11_methodOf_X11_in : GoodIn wsX11_methodOf wsX11_in := (gk_code 13 rfl (gn))
set_option maxRecDepth 20000 in
theorem gX11_methodOf_X11_in : GoodIn wsX11_methodOf (va_wsS RX11 133 yX11_in wsX11_in) := goodIn_app (gk_methodLink 11 rfl (gk_static 12 rfl (gk_initialized 8 rfl (gn)))) ggX11_methodOf_X11_in
theorem dX11_methodOf_14 : decode cX11_methodOf 14 = .ok (.ifCond .ne 5, 3) := dw154 (n := 0) (i := 14) (a := 0) (b := 5) kc_cX11_methodOf_0 (by decide +kernel) (by decide)
theorem dX11_methodOf_19 : decode cX11_methodOf 19 = .ok (.iload_n 2, 1) := dw28 (n := 0) (i := 19) kc_cX11_methodOf_0 (by decide +kernel)
theorem dX11_methodOf_20 : decode cX11_methodOf 20 = .ok (.ifCond .ne 12, 3) := dw154 (n := 0) (i := 20) (a := 0) (b := 12) kc_cX11_methodOf_0 (by decide +kernel) (by decide)
theorem dX11_methodOf_32 : decode cX11_methodOf 32 = .ok (.iload_n 2, 1) := dw28 (n := 32) (i := 0) kc_cX11_methodOf_1 (by decide +kernel)
theorem dX11_methodOf_33 : decode cX11_methodOf 33 = .ok (.iconst 1, 1) := dw4 (n := 32) (i := 1) kc_cX11_methodOf_1 (by decide +kernel)
theorem dX11_methodOf_34 : decode cX11_methodOf 34 = .ok (.if_icmp .ne 12, 3) := dw160 (n := 32) (i := 2) (a := 0) (b := 12) kc_cX11_methodOf_1 (by decide +kernel) (by decide)
theorem dX11_methodOf_46 : decode cX11_methodOf 46 = .ok (.iload_n 2, 1) := dw28 (n := 32) (i := 14) kc_cX11_methodOf_1 (by decide +kernel)
theorem dX11_methodOf_47 : decode cX11_methodOf 47 = .ok (.iconst 2, 1) := dw5 (n := 32) (i := 15) kc_cX11_methodOf_1 (by decide +kernel)
theorem dX11_methodOf_48 : decode cX11_methodOf 48 = .ok (.if_icmp .ne 12, 3) := dw160 (n := 32) (i := 16) (a := 0) (b := 12) kc_cX11_methodOf_1 (by decide +kernel) (by decide)
theorem dX11_methodOf_60 : decode cX11_methodOf 60 = .ok (.aload_n 0, 1) := dw42 (n := 32) (i := 28) kc_cX11_methodOf_1 (by decide +kernel)
theorem dX11_methodOf_61 : decode cX11_methodOf 61 = .ok (.getfield 49, 3) := dw180 (n := 32) (i := 29) (a := 0) (b := 49) kc_cX11_methodOf_1 (by decide +kernel) (by decide)
theorem in_X11_methodOf_11 : ∀ w ∈ u_ws RX11 TX11 53, w ∈ wsX11_methodOf := fun _ h => List.mem_cons_of_mem _ (List.mem_append_right _ h)
theorem dX11_methodOf_64 : decode cX11_methodOf 64 = .ok (.iload_n 1, 1) := dw27 (n := 64) (i := 0) kc_cX11_methodOf_2 (by decide +kernel)
theorem dX11_methodOf_65 : decode cX11_methodOf 65 = .ok (.iaload, 1) := dw46 (n := 64) (i := 1) kc_cX11_methodOf_2 (by decide +kernel)
theorem dX11_methodOf_66 : decode cX11_methodOf 66 = .ok (.ireturn, 1) := dw172 (n := 64) (i := 2) kc_cX11_methodOf_2 (by decide +kernel)
theorem dX11_methodOf_51 : decode cX11_methodOf 51 = .ok (.aload_n 0, 1) := dw42 (n := 32) (i := 19) kc_cX11_methodOf_1 (by decide +kernel)
theorem dX11_methodOf_52 : decode cX11_methodOf 52 = .ok (.getfield 55, 3) := dw180 (n := 32) (i := 20) (a := 0) (b := 55) kc_cX11_methodOf_1 (by decide +kernel) (by decide)
theorem dX11_methodOf_55 : decode cX11_methodOf 55 = .ok (.iload_n 1, 1) := dw27 (n := 32) (i := 23) kc_cX11_methodOf_1 (by decide +kernel)
theorem dX11_methodOf_56 : decode cX11_methodOf 56 = .ok (.iaload, 1) := dw46 (n := 32) (i := 24) kc_cX11_methodOf_1 (by decide +kernel)
theorem dX11_methodOf_57 : decode cX11_methodOf 57 = .ok (.goto 9, 3) := dw167 (n := 32) (i := 25) (a := 0) (b := 9) kc_cX11_methodOf_1 (by decide +kernel) (by decide)
theorem dX11_methodOf_37 : decode cX11_methodOf 37 = .ok (.aload_n 0, 1) := dw42 (n := 32) (i := 5) kc_cX11_methodOf_1 (by decide +kernel)
theorem dX11_methodOf_38 : decode cX11_methodOf 38 = .ok (.getfield 52, 3) := dw180 (n := 32) (i := 6) (a := 0) (b := 52) kc_cX11_methodOf_1 (by decide +kernel) (by decide)
theorem dX11_methodOf_41 : decode cX11_methodOf 41 = .ok (.iload_n 1, 1) := dw27 (n := 32) (i := 9) kc_cX11_methodOf_1 (by decide +kernel)
theorem dX11_methodOf_42 : decode cX11_methodOf 42 = .ok (.iaload, 1) := dw46 (n := 32) (i := 10) kc_cX11_methodOf_1 (by decide +kernel)
theorem dX11_methodOf_43 : decode cX11_methodOf 43 = .ok (.goto 23, 3) := dw167 (n := 32) (i := 11) (a := 0) (b := 23) kc_cX11_methodOf_1 (by decide +kernel) (by decide)
theorem dX11_methodOf_23 : decode cX11_methodOf 23 = .ok (.aload_n 0, 1) := dw42 (n := 0) (i := 23) kc_cX11_methodOf_0 (by decide +kernel)
theorem dX11_methodOf_24 : decode cX11_methodOf 24 = .ok (.getfield 40, 3) := dw180 (n := 0) (i := 24) (a := 0) (b := 40) kc_cX11_methodOf_0 (by decide +kernel) (by decide)
theorem dX11_methodOf_27 : decode cX11_methodOf 27 = .ok (.iload_n 1, 1) := dw27 (n := 0) (i := 27) kc_cX11_methodOf_0 (by decide +kernel)
theorem dX11_methodOf_28 : decode cX11_methodOf 28 = .ok (.iaload, 1) := dw46 (n := 0) (i := 28) kc_cX11_methodOf_0 (by decide +kernel)
theorem dX11_methodOf_29 : decode cX11_methodOf 29 = .ok (.goto 37, 3) := dw167 (n := 0) (i := 29) (a := 0) (b := 37) kc_cX11_methodOf_0 (by decide +kernel) (by decide)
set_option maxHeartbeats 4000000 in
set_option maxRecDepth 100000 in
theorem s_X11_methodOf (l : Launch) (D : va_G) (ad : Nat → Nat) (cs : Nat → ClassId) (M : MI) (L : ML) (x : Int32) (y : Int32) (hI : IR M) (hT : ∀ i, M 274 i = if (vR M 13 i).toInt = 0 then 0 else 1) : Ci l yX11_methodOf wsX11_methodOf ({ frames := 2, cells := 0, slots := 0, locals := 43 }) D ad cs [.ref (ad 258), .int x, .int y] M L (fun r M1 L1 => M1 = M ∧ L1 = L ∧ (r = A_methodOf (vR M) x y)) := by
  refine enter_i RX11 rfl [(0, .ref (ad 258)), (1, .int x), (2, .int y)] rfl (Nat.le_of_ble_eq_true rfl) (by decide +kernel) rfl ?_
  intro p e s m below meth c C hr
  have hF : ∀ k i, True → M k i = M k i := fun _ _ _ => rfl
  have hG : ∀ k i, True → L k i = L k i := fun _ _ _ => rfl
  have w0 : (vR M 0 0).toInt = (M 258 2).toInt := rfl
  have w1 : (vR M 0 1).toInt = (M 258 4).toInt := rfl
  have w2 : (vR M 0 2).toInt = (M 258 9).toInt := rfl
  have w3 : (vR M 0 3).toInt = (M 258 14).toInt := rfl
  obtain ⟨y0a, y0b⟩ := (show rg 0 10 (M 258 2) from hI 258 2)
  obtain ⟨y1a, y1b⟩ := (show rg 0 60 (M 258 4) from hI 258 4)
  obtain ⟨y2a, y2b⟩ := (show rg 0 8 (M 258 9) from hI 258 9)
  obtain ⟨y3a, y3b⟩ := (show rg 0 20 (M 258 14) from hI 258 14)
  refine g_aload_n C 0 dX11_methodOf_0 rfl ?_
  refine g_iload_n C 1 dX11_methodOf_1 rfl ?_
  refine g_callVi C (n := 1) (As := [.int x]) (st := []) (s_X11_isMethod l D ad cs _ _ x hI ) gX11_methodOf_X11_isMethod rfl rfl rfl (by decide +kernel) ⟨Nat.le_of_ble_eq_true rfl, Nat.le_of_ble_eq_true rfl⟩ rfl (Nat.le_of_ble_eq_true rfl) ⟨Nat.zero_le _, Nat.zero_le _⟩ (by decide) (ce_model ad cs _ _) rfl rfl dX11_methodOf_2 (fun r1 M2 L3 hr1 => ?_)
  obtain ⟨hq1, hq2, hr1⟩ := hr1
  obtain rfl := hq1.symm
  obtain rfl := hq2.symm
  obtain ⟨bar1, bbr1⟩ := zo_b hr1
  refine g_if_eq C 17 dX11_methodOf_5 (by decide) (fun c4 => ?_) (fun c4 => ?_)
  ·
    have f5 := feq rfl (by decide : (0 : Int32).toInt = 0) c4
    have pr1 := zo_f hr1 c4
    try dsimp only [hasC, hasB, hasX, hasM, ofS, ofK, bt] at pr1
    refine g_iconst C (-1) dX11_methodOf_17 (by decide) ?_
    have zr9 : ((-1) : Int32).toInt = (-1) := by decide
    exact g_iret C hr ⟨rfl, rfl, (by dsimp only [A_methodOf, hasC, hasB, hasX, hasM, ofS, ofK, bt, ix]; (repeat (first | rw [if_pos (by omega)] | rw [if_neg (by omega)])); first | done | rfl | (simp only [ix]; done) | (simp only [ix]; rfl) | (simp only [ix]; exact hT _))⟩ dX11_methodOf_18
  ·
    have f6 := fne rfl (by decide : (0 : Int32).toInt = 0) c4
    have pr1 := zo_t hr1 c4
    try dsimp only [hasC, hasB, hasX, hasM, ofS, ofK, bt] at pr1
    refine g_iload_n C 2 dX11_methodOf_8 rfl ?_
    refine g_iconst C 0 dX11_methodOf_9 (by decide) ?_
    refine g_iconst C 3 dX11_methodOf_10 (by decide) ?_
    refine g_callSi C (n := 3) (As := [.int y, .int 0, .int 3]) (st := []) (c_X11_in l D ad cs _ _ y 0 3 ) gX11_methodOf_X11_in rfl rfl rfl (by decide +kernel) ⟨Nat.le_of_ble_eq_true rfl, Nat.le_of_ble_eq_true rfl⟩ rfl (Nat.le_of_ble_eq_true rfl) ⟨Nat.zero_le _, Nat.zero_le _⟩ rfl dX11_methodOf_11 (fun r7 M8 L9 hr7 => ?_)
    obtain ⟨hq1, hq2, hr7⟩ := hr7
    obtain rfl := hq1.symm
    obtain rfl := hq2.symm
    have hr7 := zo_in hr7 (by decide : (0 : Int32).toInt = 0) (by decide : (3 : Int32).toInt = 3)
    obtain ⟨bar7, bbr7⟩ := zo_b hr7
    refine g_if_ne C 19 dX11_methodOf_14 (by decide) (fun c10 => ?_) (fun c10 => ?_)
    ·
      have f11 := fne rfl (by decide : (0 : Int32).toInt = 0) c10
      have pr7 := zo_t hr7 c10
      try dsimp only [hasC, hasB, hasX, hasM, ofS, ofK, bt] at pr7
      refine g_iload_n C 2 dX11_methodOf_19 rfl ?_
      refine g_if_ne C 32 dX11_methodOf_20 (by decide) (fun c12 => ?_) (fun c12 => ?_)
      ·
        have f13 := fne rfl (by decide : (0 : Int32).toInt = 0) c12
        refine g_iload_n C 2 dX11_methodOf_32 rfl ?_
        refine g_iconst C 1 dX11_methodOf_33 (by decide) ?_
        refine g_icmp_ne C 46 dX11_methodOf_34 (by decide) (fun c14 => ?_) (fun c14 => ?_)
        ·
          have f15 := fne rfl (by decide : (1 : Int32).toInt = 1) c14
          refine g_iload_n C 2 dX11_methodOf_46 rfl ?_
          refine g_iconst C 2 dX11_methodOf_47 (by decide) ?_
          refine g_icmp_ne C 60 dX11_methodOf_48 (by decide) (fun c16 => ?_) (fun c16 => ?_)
          ·
            have f17 := fne rfl (by decide : (2 : Int32).toInt = 2) c16
            refine g_aload_n C 0 dX11_methodOf_60 rfl ?_
            refine g_get C (.ref (ad 272)) 18 in_X11_methodOf_11 (List.mem_of_getElem? (i := 4) rfl) (by decide) (ce_model ad cs _ _) rfl (by decide) rfl rfl dX11_methodOf_61 ?_
            refine g_iload_n C 1 dX11_methodOf_64 rfl ?_
            refine g_iald C (by decide) (ce_m_needOf ad cs _ _) (fin' (n := 20) rfl (by omega) (by omega)) dX11_methodOf_65 ?_
            refine g_ni (fun v18 ev18 => ?_)
            have gv18 : v18 = vR M 12 x.toNatClampNeg := ev18
            have tv18 := congrArg Int32.toInt gv18
            exact g_iret C hr ⟨rfl, rfl, (by dsimp only [A_methodOf, hasC, hasB, hasX, hasM, ofS, ofK, bt, ix]; (repeat (first | rw [if_pos (by omega)] | rw [if_neg (by omega)])); first | done | rfl | (simp only [gv18]; done) | (simp only [gv18]; rfl) | (simp only [gv18]; exact hT _))⟩ dX11_methodOf_66
          ·
            have f19 := feq rfl (by decide : (2 : Int32).toInt = 2) c16
            refine g_aload_n C 0 dX11_methodOf_51 rfl ?_
            refine g_get C (.ref (ad 274)) 20 in_X11_methodOf_11 (List.mem_of_getElem? (i := 3) rfl) (by decide) (ce_model ad cs _ _) rfl (by decide) rfl rfl dX11_methodOf_52 ?_
            refine g_iload_n C 1 dX11_methodOf_55 rfl ?_
            refine g_iald C (by decide) (ce_m_trials ad cs _ _) (fin' (n := 20) rfl (by omega) (by omega)) dX11_methodOf_56 ?_
            refine g_ni (fun v20 ev20 => ?_)
            have gv20 : v20 = M 274 x.toNatClampNeg := ev20
            have tv20 := congrArg Int32.toInt gv20
            refine g_goto C 66 dX11_methodOf_57 (by decide) ?_
            exact g_iret C hr ⟨rfl, rfl, (by dsimp only [A_methodOf, hasC, hasB, hasX, hasM, ofS, ofK, bt, ix]; (repeat (first | rw [if_pos (by omega)] | rw [if_neg (by omega)])); first | done | rfl | (simp only [gv20]; done) | (simp only [gv20]; rfl) | (simp only [gv20]; exact hT _))⟩ dX11_methodOf_66
        ·
          have f21 := feq rfl (by decide : (1 : Int32).toInt = 1) c14
          refine g_aload_n C 0 dX11_methodOf_37 rfl ?_
          refine g_get C (.ref (ad 273)) 19 in_X11_methodOf_11 (List.mem_of_getElem? (i := 2) rfl) (by decide) (ce_model ad cs _ _) rfl (by decide) rfl rfl dX11_methodOf_38 ?_
          refine g_iload_n C 1 dX11_methodOf_41 rfl ?_
          refine g_iald C (by decide) (ce_m_begun ad cs _ _) (fin' (n := 20) rfl (by omega) (by omega)) dX11_methodOf_42 ?_
          refine g_ni (fun v22 ev22 => ?_)
          have gv22 : v22 = vR M 13 x.toNatClampNeg := ev22
          have tv22 := congrArg Int32.toInt gv22
          refine g_goto C 66 dX11_methodOf_43 (by decide) ?_
          exact g_iret C hr ⟨rfl, rfl, (by dsimp only [A_methodOf, hasC, hasB, hasX, hasM, ofS, ofK, bt, ix]; (repeat (first | rw [if_pos (by omega)] | rw [if_neg (by omega)])); first | done | rfl | (simp only [gv22]; done) | (simp only [gv22]; rfl) | (simp only [gv22]; exact hT _))⟩ dX11_methodOf_66
      ·
        have f23 := feq rfl (by decide : (0 : Int32).toInt = 0) c12
        refine g_aload_n C 0 dX11_methodOf_23 rfl ?_
        refine g_get C (.ref (ad 269)) 15 in_X11_methodOf_11 (List.mem_of_getElem? (i := 1) rfl) (by decide) (ce_model ad cs _ _) rfl (by decide) rfl rfl dX11_methodOf_24 ?_
        refine g_iload_n C 1 dX11_methodOf_27 rfl ?_
        refine g_iald C (by decide) (ce_m_kindOf ad cs _ _) (fin' (n := 20) rfl (by omega) (by omega)) dX11_methodOf_28 ?_
        refine g_ni (fun v24 ev24 => ?_)
        have gv24 : v24 = vR M 9 x.toNatClampNeg := ev24
        have tv24 := congrArg Int32.toInt gv24
        refine g_goto C 66 dX11_methodOf_29 (by decide) ?_
        exact g_iret C hr ⟨rfl, rfl, (by dsimp only [A_methodOf, hasC, hasB, hasX, hasM, ofS, ofK, bt, ix]; (repeat (first | rw [if_pos (by omega)] | rw [if_neg (by omega)])); first | done | rfl | (simp only [gv24]; done) | (simp only [gv24]; rfl) | (simp only [gv24]; exact hT _))⟩ dX11_methodOf_66
    ·
      have f25 := feq rfl (by decide : (0 : Int32).toInt = 0) c10
      have pr7 := zo_f hr7 c10
      try dsimp only [hasC, hasB, hasX, hasM, ofS, ofK, bt] at pr7
      refine g_iconst C (-1) dX11_methodOf_17 (by decide) ?_
      have zr9 : ((-1) : Int32).toInt = (-1) := by decide
      exact g_iret C hr ⟨rfl, rfl, (by dsimp only [A_methodOf, hasC, hasB, hasX, hasM, ofS, ofK, bt, ix]; (repeat (first | rw [if_pos (by omega)] | rw [if_neg (by omega)])); first | done | rfl | (simp only [ix]; done) | (simp only [ix]; rfl) | (simp only [ix]; exact hT _))⟩ dX11_methodOf_18
theorem dX11_under_0 : decode cX11_under 0 = .ok (.aload_n 0, 1) := dw42 (n := 0) (i := 0) kc_cX11_under_0 (by decide +kernel)
theorem dX11_under_1 : decode cX11_under 1 = .ok (.iload_n 1, 1) := dw27 (n := 0) (i := 1) kc_cX11_under_0 (by decide +kernel)
theorem dX11_under_2 : decode cX11_under 2 = .ok (.invokevirtual 178, 3) := dw182 (n := 0) (i := 2) (a := 0) (b := 178) kc_cX11_under_0 (by decide +kernel) (by decide)
set_option maxRecDepth 20000 in
theorem ggX11_under_X11_isMethod : GoodIn wsX11_under wsX11_isMethod := (gk_code 6 rfl (gk_fieldLink 7 rfl (gk_methodLink 8 rfl (gk_static 9 rfl (gk_initialized 5 rfl (gk_code 10 rfl (gk_lays 11 rfl (gk_laysFinal 12 rfl (gk_lays 13 rfl (gk_laysFinal 14 rfl (gk_lays 15 rfl (gk_laysFinal 16 rfl (gk_laysFinal 17 rfl (gk_laysFinal 18 rfl (gk_laysFinal 19 rfl (gk_lays 20 rfl (gk_laysFinal 21 rfl (gk_laysFinal 22 rfl (gk_laysFinal 23 rfl (gk_laysFinal 24 rfl (gk_lays 25 rfl (gk_laysFinal 26 rfl (gk_laysFinal 27 rfl (gk_laysFinal 28 rfl (gk_laysFinal 29 rfl (gk_laysFinal 30 rfl (gk_laysFinal 31 rfl (gk_laysFinal 32 rfl (gk_laysFinal 33 rfl (gk_lays 34 rfl (gk_lays 35 rfl (gk_lays 36 rfl (gk_lays 37 rfl (gk_lays 38 rfl (gk_lays 39 rfl (gk_lays 40 rfl (gk_laysFinal 41 rfl (gk_lays 42 rfl (gk_laysFinal 43 rfl (gk_laysFinal 44 rfl (gk_laysFinal 45 rfl (gk_laysFinal 46 rfl (gk_laysFinal 47 rfl (gk_laysFinal 48 rfl (gk_laysFinal 49 rfl (gk_laysFinal 50 rfl (gk_laysFinal 51 rfl (gk_laysFinal 52 rfl (gk_lays 53 rfl (gk_laysFinal 54 rfl (gk_lays 55 rfl (gk_laysFinal 56 rfl (gk_laysFinal 57 rfl (gk_laysFinal 58 rfl (gk_laysFinal 59 rfl (gk_laysFinal 60 rfl (gk_laysFinal 61 rfl (gk_laysFinal 62 rfl (gk_laysFinal 63 rfl (gn))))))))))))))))))))))))))))))))))))))))))))))))))))))))))))
set_option maxRecDepth 20000 in
theorem gX11_under_X11_isMethod : GoodIn wsX11_under (wsV RX11 178 RX11 yX11_isMethod wsX11_isMethod) := goodIn_app (gk_methodLink 2 rfl (gk_instanceMethod 3 rfl (gk_selects 4 rfl (gk_initialized 5 rfl (gn))))) ggX11_under_X11_isMethod
theorem dX11_under_5 : decode cX11_under 5 = .ok (.ifCond .eq 13, 3) := dw153 (n := 0) (i := 5) (a := 0) (b := 13) kc_cX11_under_0 (by decide +kernel) (by decide)
theorem dX11_under_18 : decode cX11_under 18 = .ok (.iconst (-1), 1) := dw2 (n := 0) (i := 18) kc_cX11_under_0 (by decide +kernel)
theorem dX11_under_19 : decode cX11_under 19 = .ok (.ireturn, 1) := dw172 (n := 0) (i := 19) kc_cX11_under_0 (by decide +kernel)
theorem dX11_under_8 : decode cX11_under 8 = .ok (.iload_n 2, 1) := dw28 (n := 0) (i := 8) kc_cX11_under_0 (by decide +kernel)
theorem dX11_under_9 : decode cX11_under 9 = .ok (.iconst 0, 1) := dw3 (n := 0) (i := 9) kc_cX11_under_0 (by decide +kernel)
theorem dX11_under_10 : decode cX11_under 10 = .ok (.bipush 8, 2) := dw16 (n := 0) (i := 10) (a := 8) kc_cX11_under_0 (by decide +kernel) (by decide)
theorem dX11_under_12 : decode cX11_under 12 = .ok (.invokestatic 133, 3) := dw184 (n := 0) (i := 12) (a := 0) (b := 133) kc_cX11_under_0 (by decide +kernel) (by decide)
set_option maxRecDepth 20000 in
theorem ggX11_under_X11_in : GoodIn wsX11_under wsX11_in := (gk_code 10 rfl (gn))
set_option maxRecDepth 20000 in
theorem gX11_under_X11_in : GoodIn wsX11_under (va_wsS RX11 133 yX11_in wsX11_in) := goodIn_app (gk_methodLink 8 rfl (gk_static 9 rfl (gk_initialized 5 rfl (gn)))) ggX11_under_X11_in
theorem dX11_under_15 : decode cX11_under 15 = .ok (.ifCond .ne 5, 3) := dw154 (n := 0) (i := 15) (a := 0) (b := 5) kc_cX11_under_0 (by decide +kernel) (by decide)
theorem dX11_under_20 : decode cX11_under 20 = .ok (.aload_n 0, 1) := dw42 (n := 0) (i := 20) kc_cX11_under_0 (by decide +kernel)
theorem dX11_under_21 : decode cX11_under 21 = .ok (.getfield 40, 3) := dw180 (n := 0) (i := 21) (a := 0) (b := 40) kc_cX11_under_0 (by decide +kernel) (by decide)
theorem in_X11_under_11 : ∀ w ∈ u_ws RX11 TX11 53, w ∈ wsX11_under := fun _ h => List.mem_cons_of_mem _ (List.mem_append_right _ h)
theorem dX11_under_24 : decode cX11_under 24 = .ok (.iload_n 1, 1) := dw27 (n := 0) (i := 24) kc_cX11_under_0 (by decide +kernel)
theorem dX11_under_25 : decode cX11_under 25 = .ok (.iaload, 1) := dw46 (n := 0) (i := 25) kc_cX11_under_0 (by decide +kernel)
theorem dX11_under_26 : decode cX11_under 26 = .ok (.istore_n 3, 1) := dw62 (n := 0) (i := 26) kc_cX11_under_0 (by decide +kernel)
theorem dX11_under_27 : decode cX11_under 27 = .ok (.iload_n 3, 1) := dw29 (n := 0) (i := 27) kc_cX11_under_0 (by decide +kernel)
theorem dX11_under_28 : decode cX11_under 28 = .ok (.iload_n 2, 1) := dw28 (n := 0) (i := 28) kc_cX11_under_0 (by decide +kernel)
theorem dX11_under_29 : decode cX11_under 29 = .ok (.if_icmp .eq 41, 3) := dw159 (n := 0) (i := 29) (a := 0) (b := 41) kc_cX11_under_0 (by decide +kernel) (by decide)
theorem dX11_under_70 : decode cX11_under 70 = .ok (.iconst 1, 1) := dw4 (n := 64) (i := 6) kc_cX11_under_2 (by decide +kernel)
theorem dX11_under_71 : decode cX11_under 71 = .ok (.goto 4, 3) := dw167 (n := 64) (i := 7) (a := 0) (b := 4) kc_cX11_under_2 (by decide +kernel) (by decide)
theorem dX11_under_75 : decode cX11_under 75 = .ok (.istore 4, 2) := dw54 (n := 64) (i := 11) (a := 4) kc_cX11_under_2 (by decide +kernel) (by decide)
theorem dX11_under_77 : decode cX11_under 77 = .ok (.iload 4, 2) := dw21 (n := 64) (i := 13) (a := 4) kc_cX11_under_2 (by decide +kernel) (by decide)
theorem dX11_under_79 : decode cX11_under 79 = .ok (.ifCond .eq 7, 3) := dw153 (n := 64) (i := 15) (a := 0) (b := 7) kc_cX11_under_2 (by decide +kernel) (by decide)
theorem dX11_under_82 : decode cX11_under 82 = .ok (.iconst 1, 1) := dw4 (n := 64) (i := 18) kc_cX11_under_2 (by decide +kernel)
theorem dX11_under_83 : decode cX11_under 83 = .ok (.goto 4, 3) := dw167 (n := 64) (i := 19) (a := 0) (b := 4) kc_cX11_under_2 (by decide +kernel) (by decide)
theorem dX11_under_87 : decode cX11_under 87 = .ok (.ireturn, 1) := dw172 (n := 64) (i := 23) kc_cX11_under_2 (by decide +kernel)
theorem dX11_under_32 : decode cX11_under 32 = .ok (.iload_n 2, 1) := dw28 (n := 32) (i := 0) kc_cX11_under_1 (by decide +kernel)
theorem dX11_under_33 : decode cX11_under 33 = .ok (.iconst 1, 1) := dw4 (n := 32) (i := 1) kc_cX11_under_1 (by decide +kernel)
theorem dX11_under_34 : decode cX11_under 34 = .ok (.if_icmp .ne 8, 3) := dw160 (n := 32) (i := 2) (a := 0) (b := 8) kc_cX11_under_1 (by decide +kernel) (by decide)
theorem dX11_under_42 : decode cX11_under 42 = .ok (.iload_n 2, 1) := dw28 (n := 32) (i := 10) kc_cX11_under_1 (by decide +kernel)
theorem dX11_under_43 : decode cX11_under 43 = .ok (.ifCond .ne 15, 3) := dw154 (n := 32) (i := 11) (a := 0) (b := 15) kc_cX11_under_1 (by decide +kernel) (by decide)
theorem dX11_under_58 : decode cX11_under 58 = .ok (.iload_n 2, 1) := dw28 (n := 32) (i := 26) kc_cX11_under_1 (by decide +kernel)
theorem dX11_under_59 : decode cX11_under 59 = .ok (.bipush 6, 2) := dw16 (n := 32) (i := 27) (a := 6) kc_cX11_under_1 (by decide +kernel) (by decide)
theorem dX11_under_61 : decode cX11_under 61 = .ok (.if_icmp .ne 13, 3) := dw160 (n := 32) (i := 29) (a := 0) (b := 13) kc_cX11_under_1 (by decide +kernel) (by decide)
theorem dX11_under_74 : decode cX11_under 74 = .ok (.iconst 0, 1) := dw3 (n := 64) (i := 10) kc_cX11_under_2 (by decide +kernel)
theorem dX11_under_86 : decode cX11_under 86 = .ok (.iconst 0, 1) := dw3 (n := 64) (i := 22) kc_cX11_under_2 (by decide +kernel)
theorem dX11_under_64 : decode cX11_under 64 = .ok (.iload_n 3, 1) := dw29 (n := 64) (i := 0) kc_cX11_under_2 (by decide +kernel)
theorem dX11_under_65 : decode cX11_under 65 = .ok (.bipush 7, 2) := dw16 (n := 64) (i := 1) (a := 7) kc_cX11_under_2 (by decide +kernel) (by decide)
theorem dX11_under_67 : decode cX11_under 67 = .ok (.if_icmp .ne 7, 3) := dw160 (n := 64) (i := 3) (a := 0) (b := 7) kc_cX11_under_2 (by decide +kernel) (by decide)
theorem dX11_under_46 : decode cX11_under 46 = .ok (.iload_n 3, 1) := dw29 (n := 32) (i := 14) kc_cX11_under_1 (by decide +kernel)
theorem dX11_under_47 : decode cX11_under 47 = .ok (.bipush 6, 2) := dw16 (n := 32) (i := 15) (a := 6) kc_cX11_under_1 (by decide +kernel) (by decide)
theorem dX11_under_49 : decode cX11_under 49 = .ok (.if_icmp .eq 21, 3) := dw159 (n := 32) (i := 17) (a := 0) (b := 21) kc_cX11_under_1 (by decide +kernel) (by decide)
theorem dX11_under_52 : decode cX11_under 52 = .ok (.iload_n 3, 1) := dw29 (n := 32) (i := 20) kc_cX11_under_1 (by decide +kernel)
theorem dX11_under_53 : decode cX11_under 53 = .ok (.bipush 7, 2) := dw16 (n := 32) (i := 21) (a := 7) kc_cX11_under_1 (by decide +kernel) (by decide)
theorem dX11_under_55 : decode cX11_under 55 = .ok (.if_icmp .eq 15, 3) := dw159 (n := 32) (i := 23) (a := 0) (b := 15) kc_cX11_under_1 (by decide +kernel) (by decide)
theorem dX11_under_37 : decode cX11_under 37 = .ok (.iload_n 3, 1) := dw29 (n := 32) (i := 5) kc_cX11_under_1 (by decide +kernel)
theorem dX11_under_38 : decode cX11_under 38 = .ok (.iconst 2, 1) := dw5 (n := 32) (i := 6) kc_cX11_under_1 (by decide +kernel)
theorem dX11_under_39 : decode cX11_under 39 = .ok (.if_icmp .eq 31, 3) := dw159 (n := 32) (i := 7) (a := 0) (b := 31) kc_cX11_under_1 (by decide +kernel) (by decide)
set_option maxHeartbeats 4000000 in
set_option maxRecDepth 100000 in
theorem s_X11_under (l : Launch) (D : va_G) (ad : Nat → Nat) (cs : Nat → ClassId) (M : MI) (L : ML) (x : Int32) (y : Int32) (hI : IR M) : Ci l yX11_under wsX11_under ({ frames := 2, cells := 0, slots := 0, locals := 43 }) D ad cs [.ref (ad 258), .int x, .int y] M L (fun r M1 L1 => M1 = M ∧ L1 = L ∧ (r = A_under (vR M) x y)) := by
  refine enter_i RX11 rfl [(0, .ref (ad 258)), (1, .int x), (2, .int y)] rfl (Nat.le_of_ble_eq_true rfl) (by decide +kernel) rfl ?_
  intro p e s m below meth c C hr
  have hF : ∀ k i, True → M k i = M k i := fun _ _ _ => rfl
  have hG : ∀ k i, True → L k i = L k i := fun _ _ _ => rfl
  have w0 : (vR M 0 0).toInt = (M 258 2).toInt := rfl
  have w1 : (vR M 0 1).toInt = (M 258 4).toInt := rfl
  have w2 : (vR M 0 2).toInt = (M 258 9).toInt := rfl
  have w3 : (vR M 0 3).toInt = (M 258 14).toInt := rfl
  obtain ⟨y0a, y0b⟩ := (show rg 0 10 (M 258 2) from hI 258 2)
  obtain ⟨y1a, y1b⟩ := (show rg 0 60 (M 258 4) from hI 258 4)
  obtain ⟨y2a, y2b⟩ := (show rg 0 8 (M 258 9) from hI 258 9)
  obtain ⟨y3a, y3b⟩ := (show rg 0 20 (M 258 14) from hI 258 14)
  refine g_aload_n C 0 dX11_under_0 rfl ?_
  refine g_iload_n C 1 dX11_under_1 rfl ?_
  refine g_callVi C (n := 1) (As := [.int x]) (st := []) (s_X11_isMethod l D ad cs _ _ x hI ) gX11_under_X11_isMethod rfl rfl rfl (by decide +kernel) ⟨Nat.le_of_ble_eq_true rfl, Nat.le_of_ble_eq_true rfl⟩ rfl (Nat.le_of_ble_eq_true rfl) ⟨Nat.zero_le _, Nat.zero_le _⟩ (by decide) (ce_model ad cs _ _) rfl rfl dX11_under_2 (fun r1 M2 L3 hr1 => ?_)
  obtain ⟨hq1, hq2, hr1⟩ := hr1
  obtain rfl := hq1.symm
  obtain rfl := hq2.symm
  obtain ⟨bar1, bbr1⟩ := zo_b hr1
  refine g_if_eq C 18 dX11_under_5 (by decide) (fun c4 => ?_) (fun c4 => ?_)
  ·
    have f5 := feq rfl (by decide : (0 : Int32).toInt = 0) c4
    have pr1 := zo_f hr1 c4
    try dsimp only [hasC, hasB, hasX, hasM, ofS, ofK, bt] at pr1
    refine g_iconst C (-1) dX11_under_18 (by decide) ?_
    have zr9 : ((-1) : Int32).toInt = (-1) := by decide
    exact g_iret C hr ⟨rfl, rfl, (by dsimp only [A_under, hasC, hasB, hasX, hasM, ofS, ofK, bt, ix]; (repeat (first | rw [if_pos (by omega)] | rw [if_neg (by omega)])); first | done | rfl | (simp only [ix]; done) | (simp only [ix]; rfl) | (subst_vars; first | rfl | grind))⟩ dX11_under_19
  ·
    have f6 := fne rfl (by decide : (0 : Int32).toInt = 0) c4
    have pr1 := zo_t hr1 c4
    try dsimp only [hasC, hasB, hasX, hasM, ofS, ofK, bt] at pr1
    refine g_iload_n C 2 dX11_under_8 rfl ?_
    refine g_iconst C 0 dX11_under_9 (by decide) ?_
    refine g_bipush C 8 dX11_under_10 (by decide) ?_
    refine g_callSi C (n := 3) (As := [.int y, .int 0, .int 8]) (st := []) (c_X11_in l D ad cs _ _ y 0 8 ) gX11_under_X11_in rfl rfl rfl (by decide +kernel) ⟨Nat.le_of_ble_eq_true rfl, Nat.le_of_ble_eq_true rfl⟩ rfl (Nat.le_of_ble_eq_true rfl) ⟨Nat.zero_le _, Nat.zero_le _⟩ rfl dX11_under_12 (fun r7 M8 L9 hr7 => ?_)
    obtain ⟨hq1, hq2, hr7⟩ := hr7
    obtain rfl := hq1.symm
    obtain rfl := hq2.symm
    have hr7 := zo_in hr7 (by decide : (0 : Int32).toInt = 0) (by decide : (8 : Int32).toInt = 8)
    obtain ⟨bar7, bbr7⟩ := zo_b hr7
    refine g_if_ne C 20 dX11_under_15 (by decide) (fun c10 => ?_) (fun c10 => ?_)
    ·
      have f11 := fne rfl (by decide : (0 : Int32).toInt = 0) c10
      have pr7 := zo_t hr7 c10
      try dsimp only [hasC, hasB, hasX, hasM, ofS, ofK, bt] at pr7
      refine g_aload_n C 0 dX11_under_20 rfl ?_
      refine g_get C (.ref (ad 269)) 15 in_X11_under_11 (List.mem_of_getElem? (i := 1) rfl) (by decide) (ce_model ad cs _ _) rfl (by decide) rfl rfl dX11_under_21 ?_
      refine g_iload_n C 1 dX11_under_24 rfl ?_
      refine g_iald C (by decide) (ce_m_kindOf ad cs _ _) (fin' (n := 20) rfl (by omega) (by omega)) dX11_under_25 ?_
      refine g_ni (fun v12 ev12 => ?_)
      have gv12 : v12 = vR M 9 x.toNatClampNeg := ev12
      have tv12 := congrArg Int32.toInt gv12
      refine g_istore_n C [(3, .int v12), (0, .ref (ad 258)), (1, .int x), (2, .int y)] dX11_under_26 (by decide) rfl ?_
      refine g_iload_n C 0 dX11_under_27 rfl ?_
      refine g_iload_n C 3 dX11_under_28 rfl ?_
      refine g_icmp_eq C 70 dX11_under_29 (by decide) (fun c13 => ?_) (fun c13 => ?_)
      ·
        have f14 := feq rfl rfl c13
        refine g_iconst C 1 dX11_under_70 (by decide) ?_
        refine g_goto C 75 dX11_under_71 (by decide) ?_
        refine g_istore C [(4, .int 1), (3, .int v12), (0, .ref (ad 258)), (1, .int x), (2, .int y)] dX11_under_75 (by decide) rfl ?_
        refine g_iload C 0 dX11_under_77 rfl ?_
        refine g_if_eq C 86 dX11_under_79 (by decide) (fun c15 => absurd c15 (by decide)) (fun _ => ?_)
        refine g_iconst C 1 dX11_under_82 (by decide) ?_
        refine g_goto C 87 dX11_under_83 (by decide) ?_
        have zr9 : (1 : Int32).toInt = 1 := by decide
        exact g_iret C hr ⟨rfl, rfl, (by dsimp only [A_under, hasC, hasB, hasX, hasM, ofS, ofK, bt, ix]; (repeat (first | rw [if_pos (by omega)] | rw [if_neg (by omega)])); first | done | rfl | (simp only [gv12]; done) | (simp only [gv12]; rfl) | (subst_vars; first | rfl | grind))⟩ dX11_under_87
      ·
        have f16 := fne rfl rfl c13
        refine g_iload_n C 3 dX11_under_32 rfl ?_
        refine g_iconst C 1 dX11_under_33 (by decide) ?_
        refine g_icmp_ne C 42 dX11_under_34 (by decide) (fun c17 => ?_) (fun c17 => ?_)
        ·
          have f18 := fne rfl (by decide : (1 : Int32).toInt = 1) c17
          refine g_iload_n C 3 dX11_under_42 rfl ?_
          refine g_if_ne C 58 dX11_under_43 (by decide) (fun c19 => ?_) (fun c19 => ?_)
          ·
            have f20 := fne rfl (by decide : (0 : Int32).toInt = 0) c19
            refine g_iload_n C 3 dX11_under_58 rfl ?_
            refine g_bipush C 6 dX11_under_59 (by decide) ?_
            refine g_icmp_ne C 74 dX11_under_61 (by decide) (fun c21 => ?_) (fun c21 => ?_)
            ·
              have f22 := fne rfl (by decide : (6 : Int32).toInt = 6) c21
              refine g_iconst C 0 dX11_under_74 (by decide) ?_
              refine g_istore C [(4, .int 0), (3, .int v12), (0, .ref (ad 258)), (1, .int x), (2, .int y)] dX11_under_75 (by decide) rfl ?_
              refine g_iload C 0 dX11_under_77 rfl ?_
              refine g_if_eq C 86 dX11_under_79 (by decide) (fun _ => ?_) (fun c23 => absurd c23 (by decide))
              refine g_iconst C 0 dX11_under_86 (by decide) ?_
              have zr9 : (0 : Int32).toInt = 0 := by decide
              exact g_iret C hr ⟨rfl, rfl, (by dsimp only [A_under, hasC, hasB, hasX, hasM, ofS, ofK, bt, ix]; (repeat (first | rw [if_pos (by omega)] | rw [if_neg (by omega)])); first | done | rfl | (simp only [gv12]; done) | (simp only [gv12]; rfl) | (subst_vars; first | rfl | grind))⟩ dX11_under_87
            ·
              have f24 := feq rfl (by decide : (6 : Int32).toInt = 6) c21
              refine g_iload_n C 0 dX11_under_64 rfl ?_
              refine g_bipush C 7 dX11_under_65 (by decide) ?_
              refine g_icmp_ne C 74 dX11_under_67 (by decide) (fun c25 => ?_) (fun c25 => ?_)
              ·
                have f26 := fne rfl (by decide : (7 : Int32).toInt = 7) c25
                refine g_iconst C 0 dX11_under_74 (by decide) ?_
                refine g_istore C [(4, .int 0), (3, .int v12), (0, .ref (ad 258)), (1, .int x), (2, .int y)] dX11_under_75 (by decide) rfl ?_
                refine g_iload C 0 dX11_under_77 rfl ?_
                refine g_if_eq C 86 dX11_under_79 (by decide) (fun _ => ?_) (fun c27 => absurd c27 (by decide))
                refine g_iconst C 0 dX11_under_86 (by decide) ?_
                have zr9 : (0 : Int32).toInt = 0 := by decide
                exact g_iret C hr ⟨rfl, rfl, (by dsimp only [A_under, hasC, hasB, hasX, hasM, ofS, ofK, bt, ix]; (repeat (first | rw [if_pos (by omega)] | rw [if_neg (by omega)])); first | done | rfl | (simp only [gv12]; done) | (simp only [gv12]; rfl) | (subst_vars; first | rfl | grind))⟩ dX11_under_87
              ·
                have f28 := feq rfl (by decide : (7 : Int32).toInt = 7) c25
                refine g_iconst C 1 dX11_under_70 (by decide) ?_
                refine g_goto C 75 dX11_under_71 (by decide) ?_
                refine g_istore C [(4, .int 1), (3, .int v12), (0, .ref (ad 258)), (1, .int x), (2, .int y)] dX11_under_75 (by decide) rfl ?_
                refine g_iload C 0 dX11_under_77 rfl ?_
                refine g_if_eq C 86 dX11_under_79 (by decide) (fun c29 => absurd c29 (by decide)) (fun _ => ?_)
                refine g_iconst C 1 dX11_under_82 (by decide) ?_
                refine g_goto C 87 dX11_under_83 (by decide) ?_
                have zr9 : (1 : Int32).toInt = 1 := by decide
                exact g_iret C hr ⟨rfl, rfl, (by dsimp only [A_under, hasC, hasB, hasX, hasM, ofS, ofK, bt, ix]; (repeat (first | rw [if_pos (by omega)] | rw [if_neg (by omega)])); first | done | rfl | (simp only [gv12]; done) | (simp only [gv12]; rfl) | (subst_vars; first | rfl | grind))⟩ dX11_under_87
          ·
            have f30 := feq rfl (by decide : (0 : Int32).toInt = 0) c19
            refine g_iload_n C 0 dX11_under_46 rfl ?_
            refine g_bipush C 6 dX11_under_47 (by decide) ?_
            refine g_icmp_eq C 70 dX11_under_49 (by decide) (fun c31 => ?_) (fun c31 => ?_)
            ·
              have f32 := feq rfl (by decide : (6 : Int32).toInt = 6) c31
              refine g_iconst C 1 dX11_under_70 (by decide) ?_
              refine g_goto C 75 dX11_under_71 (by decide) ?_
              refine g_istore C [(4, .int 1), (3, .int v12), (0, .ref (ad 258)), (1, .int x), (2, .int y)] dX11_under_75 (by decide) rfl ?_
              refine g_iload C 0 dX11_under_77 rfl ?_
              refine g_if_eq C 86 dX11_under_79 (by decide) (fun c33 => absurd c33 (by decide)) (fun _ => ?_)
              refine g_iconst C 1 dX11_under_82 (by decide) ?_
              refine g_goto C 87 dX11_under_83 (by decide) ?_
              have zr9 : (1 : Int32).toInt = 1 := by decide
              exact g_iret C hr ⟨rfl, rfl, (by dsimp only [A_under, hasC, hasB, hasX, hasM, ofS, ofK, bt, ix]; (repeat (first | rw [if_pos (by omega)] | rw [if_neg (by omega)])); first | done | rfl | (simp only [gv12]; done) | (simp only [gv12]; rfl) | (subst_vars; first | rfl | grind))⟩ dX11_under_87
            ·
              have f34 := fne rfl (by decide : (6 : Int32).toInt = 6) c31
              refine g_iload_n C 0 dX11_under_52 rfl ?_
              refine g_bipush C 7 dX11_under_53 (by decide) ?_
              refine g_icmp_eq C 70 dX11_under_55 (by decide) (fun c35 => ?_) (fun c35 => ?_)
              ·
                have f36 := feq rfl (by decide : (7 : Int32).toInt = 7) c35
                refine g_iconst C 1 dX11_under_70 (by decide) ?_
                refine g_goto C 75 dX11_under_71 (by decide) ?_
                refine g_istore C [(4, .int 1), (3, .int v12), (0, .ref (ad 258)), (1, .int x), (2, .int y)] dX11_under_75 (by decide) rfl ?_
                refine g_iload C 0 dX11_under_77 rfl ?_
                refine g_if_eq C 86 dX11_under_79 (by decide) (fun c37 => absurd c37 (by decide)) (fun _ => ?_)
                refine g_iconst C 1 dX11_under_82 (by decide) ?_
                refine g_goto C 87 dX11_under_83 (by decide) ?_
                have zr9 : (1 : Int32).toInt = 1 := by decide
                exact g_iret C hr ⟨rfl, rfl, (by dsimp only [A_under, hasC, hasB, hasX, hasM, ofS, ofK, bt, ix]; (repeat (first | rw [if_pos (by omega)] | rw [if_neg (by omega)])); first | done | rfl | (simp only [gv12]; done) | (simp only [gv12]; rfl) | (subst_vars; first | rfl | grind))⟩ dX11_under_87
              ·
                have f38 := fne rfl (by decide : (7 : Int32).toInt = 7) c35
                refine g_iload_n C 3 dX11_under_58 rfl ?_
                refine g_bipush C 6 dX11_under_59 (by decide) ?_
                refine g_icmp_ne C 74 dX11_under_61 (by decide) (fun c39 => ?_) (fun c39 => ?_)
                ·
                  have f40 := fne rfl (by decide : (6 : Int32).toInt = 6) c39
                  refine g_iconst C 0 dX11_under_74 (by decide) ?_
                  refine g_istore C [(4, .int 0), (3, .int v12), (0, .ref (ad 258)), (1, .int x), (2, .int y)] dX11_under_75 (by decide) rfl ?_
                  refine g_iload C 0 dX11_under_77 rfl ?_
                  refine g_if_eq C 86 dX11_under_79 (by decide) (fun _ => ?_) (fun c41 => absurd c41 (by decide))
                  refine g_iconst C 0 dX11_under_86 (by decide) ?_
                  have zr9 : (0 : Int32).toInt = 0 := by decide
                  exact g_iret C hr ⟨rfl, rfl, (by dsimp only [A_under, hasC, hasB, hasX, hasM, ofS, ofK, bt, ix]; (repeat (first | rw [if_pos (by omega)] | rw [if_neg (by omega)])); first | done | rfl | (simp only [gv12]; done) | (simp only [gv12]; rfl) | (subst_vars; first | rfl | grind))⟩ dX11_under_87
                ·
                  have f42 := feq rfl (by decide : (6 : Int32).toInt = 6) c39
                  refine g_iload_n C 0 dX11_under_64 rfl ?_
                  refine g_bipush C 7 dX11_under_65 (by decide) ?_
                  refine g_icmp_ne C 74 dX11_under_67 (by decide) (fun c43 => ?_) (fun c43 => ?_)
                  ·
                    have f44 := fne rfl (by decide : (7 : Int32).toInt = 7) c43
                    refine g_iconst C 0 dX11_under_74 (by decide) ?_
                    refine g_istore C [(4, .int 0), (3, .int v12), (0, .ref (ad 258)), (1, .int x), (2, .int y)] dX11_under_75 (by decide) rfl ?_
                    refine g_iload C 0 dX11_under_77 rfl ?_
                    refine g_if_eq C 86 dX11_under_79 (by decide) (fun _ => ?_) (fun c45 => absurd c45 (by decide))
                    refine g_iconst C 0 dX11_under_86 (by decide) ?_
                    have zr9 : (0 : Int32).toInt = 0 := by decide
                    exact g_iret C hr ⟨rfl, rfl, (by dsimp only [A_under, hasC, hasB, hasX, hasM, ofS, ofK, bt, ix]; (repeat (first | rw [if_pos (by omega)] | rw [if_neg (by omega)])); first | done | rfl | (simp only [gv12]; done) | (simp only [gv12]; rfl) | (subst_vars; first | rfl | grind))⟩ dX11_under_87
                  ·
                    have f46 := feq rfl (by decide : (7 : Int32).toInt = 7) c43
                    refine g_iconst C 1 dX11_under_70 (by decide) ?_
                    refine g_goto C 75 dX11_under_71 (by decide) ?_
                    refine g_istore C [(4, .int 1), (3, .int v12), (0, .ref (ad 258)), (1, .int x), (2, .int y)] dX11_under_75 (by decide) rfl ?_
                    refine g_iload C 0 dX11_under_77 rfl ?_
                    refine g_if_eq C 86 dX11_under_79 (by decide) (fun c47 => absurd c47 (by decide)) (fun _ => ?_)
                    refine g_iconst C 1 dX11_under_82 (by decide) ?_
                    refine g_goto C 87 dX11_under_83 (by decide) ?_
                    have zr9 : (1 : Int32).toInt = 1 := by decide
                    exact g_iret C hr ⟨rfl, rfl, (by dsimp only [A_under, hasC, hasB, hasX, hasM, ofS, ofK, bt, ix]; (repeat (first | rw [if_pos (by omega)] | rw [if_neg (by omega)])); first | done | rfl | (simp only [gv12]; done) | (simp only [gv12]; rfl) | (subst_vars; first | rfl | grind))⟩ dX11_under_87
        ·
          have f48 := feq rfl (by decide : (1 : Int32).toInt = 1) c17
          refine g_iload_n C 0 dX11_under_37 rfl ?_
          refine g_iconst C 2 dX11_under_38 (by decide) ?_
          refine g_icmp_eq C 70 dX11_under_39 (by decide) (fun c49 => ?_) (fun c49 => ?_)
          ·
            have f50 := feq rfl (by decide : (2 : Int32).toInt = 2) c49
            refine g_iconst C 1 dX11_under_70 (by decide) ?_
            refine g_goto C 75 dX11_under_71 (by decide) ?_
            refine g_istore C [(4, .int 1), (3, .int v12), (0, .ref (ad 258)), (1, .int x), (2, .int y)] dX11_under_75 (by decide) rfl ?_
            refine g_iload C 0 dX11_under_77 rfl ?_
            refine g_if_eq C 86 dX11_under_79 (by decide) (fun c51 => absurd c51 (by decide)) (fun _ => ?_)
            refine g_iconst C 1 dX11_under_82 (by decide) ?_
            refine g_goto C 87 dX11_under_83 (by decide) ?_
            have zr9 : (1 : Int32).toInt = 1 := by decide
            exact g_iret C hr ⟨rfl, rfl, (by dsimp only [A_under, hasC, hasB, hasX, hasM, ofS, ofK, bt, ix]; (repeat (first | rw [if_pos (by omega)] | rw [if_neg (by omega)])); first | done | rfl | (simp only [gv12]; done) | (simp only [gv12]; rfl) | (subst_vars; first | rfl | grind))⟩ dX11_under_87
          ·
            have f52 := fne rfl (by decide : (2 : Int32).toInt = 2) c49
            refine g_iload_n C 3 dX11_under_42 rfl ?_
            refine g_if_ne C 58 dX11_under_43 (by decide) (fun c53 => ?_) (fun c53 => ?_)
            ·
              have f54 := fne rfl (by decide : (0 : Int32).toInt = 0) c53
              refine g_iload_n C 3 dX11_under_58 rfl ?_
              refine g_bipush C 6 dX11_under_59 (by decide) ?_
              refine g_icmp_ne C 74 dX11_under_61 (by decide) (fun c55 => ?_) (fun c55 => ?_)
              ·
                have f56 := fne rfl (by decide : (6 : Int32).toInt = 6) c55
                refine g_iconst C 0 dX11_under_74 (by decide) ?_
                refine g_istore C [(4, .int 0), (3, .int v12), (0, .ref (ad 258)), (1, .int x), (2, .int y)] dX11_under_75 (by decide) rfl ?_
                refine g_iload C 0 dX11_under_77 rfl ?_
                refine g_if_eq C 86 dX11_under_79 (by decide) (fun _ => ?_) (fun c57 => absurd c57 (by decide))
                refine g_iconst C 0 dX11_under_86 (by decide) ?_
                have zr9 : (0 : Int32).toInt = 0 := by decide
                exact g_iret C hr ⟨rfl, rfl, (by dsimp only [A_under, hasC, hasB, hasX, hasM, ofS, ofK, bt, ix]; (repeat (first | rw [if_pos (by omega)] | rw [if_neg (by omega)])); first | done | rfl | (simp only [gv12]; done) | (simp only [gv12]; rfl) | (subst_vars; first | rfl | grind))⟩ dX11_under_87
              ·
                have f58 := feq rfl (by decide : (6 : Int32).toInt = 6) c55
                refine g_iload_n C 0 dX11_under_64 rfl ?_
                refine g_bipush C 7 dX11_under_65 (by decide) ?_
                refine g_icmp_ne C 74 dX11_under_67 (by decide) (fun c59 => ?_) (fun c59 => ?_)
                ·
                  have f60 := fne rfl (by decide : (7 : Int32).toInt = 7) c59
                  refine g_iconst C 0 dX11_under_74 (by decide) ?_
                  refine g_istore C [(4, .int 0), (3, .int v12), (0, .ref (ad 258)), (1, .int x), (2, .int y)] dX11_under_75 (by decide) rfl ?_
                  refine g_iload C 0 dX11_under_77 rfl ?_
                  refine g_if_eq C 86 dX11_under_79 (by decide) (fun _ => ?_) (fun c61 => absurd c61 (by decide))
                  refine g_iconst C 0 dX11_under_86 (by decide) ?_
                  have zr9 : (0 : Int32).toInt = 0 := by decide
                  exact g_iret C hr ⟨rfl, rfl, (by dsimp only [A_under, hasC, hasB, hasX, hasM, ofS, ofK, bt, ix]; (repeat (first | rw [if_pos (by omega)] | rw [if_neg (by omega)])); first | done | rfl | (simp only [gv12]; done) | (simp only [gv12]; rfl) | (subst_vars; first | rfl | grind))⟩ dX11_under_87
                ·
                  have f62 := feq rfl (by decide : (7 : Int32).toInt = 7) c59
                  refine g_iconst C 1 dX11_under_70 (by decide) ?_
                  refine g_goto C 75 dX11_under_71 (by decide) ?_
                  refine g_istore C [(4, .int 1), (3, .int v12), (0, .ref (ad 258)), (1, .int x), (2, .int y)] dX11_under_75 (by decide) rfl ?_
                  refine g_iload C 0 dX11_under_77 rfl ?_
                  refine g_if_eq C 86 dX11_under_79 (by decide) (fun c63 => absurd c63 (by decide)) (fun _ => ?_)
                  refine g_iconst C 1 dX11_under_82 (by decide) ?_
                  refine g_goto C 87 dX11_under_83 (by decide) ?_
                  have zr9 : (1 : Int32).toInt = 1 := by decide
                  exact g_iret C hr ⟨rfl, rfl, (by dsimp only [A_under, hasC, hasB, hasX, hasM, ofS, ofK, bt, ix]; (repeat (first | rw [if_pos (by omega)] | rw [if_neg (by omega)])); first | done | rfl | (simp only [gv12]; done) | (simp only [gv12]; rfl) | (subst_vars; first | rfl | grind))⟩ dX11_under_87
            ·
              have f64 := feq rfl (by decide : (0 : Int32).toInt = 0) c53
              refine g_iload_n C 0 dX11_under_46 rfl ?_
              refine g_bipush C 6 dX11_under_47 (by decide) ?_
              refine g_icmp_eq C 70 dX11_under_49 (by decide) (fun c65 => ?_) (fun c65 => ?_)
              ·
                have f66 := feq rfl (by decide : (6 : Int32).toInt = 6) c65
                refine g_iconst C 1 dX11_under_70 (by decide) ?_
                refine g_goto C 75 dX11_under_71 (by decide) ?_
                refine g_istore C [(4, .int 1), (3, .int v12), (0, .ref (ad 258)), (1, .int x), (2, .int y)] dX11_under_75 (by decide) rfl ?_
                refine g_iload C 0 dX11_under_77 rfl ?_
                refine g_if_eq C 86 dX11_under_79 (by decide) (fun c67 => absurd c67 (by decide)) (fun _ => ?_)
                refine g_iconst C 1 dX11_under_82 (by decide) ?_
                refine g_goto C 87 dX11_under_83 (by decide) ?_
                have zr9 : (1 : Int32).toInt = 1 := by decide
                exact g_iret C hr ⟨rfl, rfl, (by dsimp only [A_under, hasC, hasB, hasX, hasM, ofS, ofK, bt, ix]; (repeat (first | rw [if_pos (by omega)] | rw [if_neg (by omega)])); first | done | rfl | (simp only [gv12]; done) | (simp only [gv12]; rfl) | (subst_vars; first | rfl | grind))⟩ dX11_under_87
              ·
                have f68 := fne rfl (by decide : (6 : Int32).toInt = 6) c65
                refine g_iload_n C 0 dX11_under_52 rfl ?_
                refine g_bipush C 7 dX11_under_53 (by decide) ?_
                refine g_icmp_eq C 70 dX11_under_55 (by decide) (fun c69 => ?_) (fun c69 => ?_)
                ·
                  have f70 := feq rfl (by decide : (7 : Int32).toInt = 7) c69
                  refine g_iconst C 1 dX11_under_70 (by decide) ?_
                  refine g_goto C 75 dX11_under_71 (by decide) ?_
                  refine g_istore C [(4, .int 1), (3, .int v12), (0, .ref (ad 258)), (1, .int x), (2, .int y)] dX11_under_75 (by decide) rfl ?_
                  refine g_iload C 0 dX11_under_77 rfl ?_
                  refine g_if_eq C 86 dX11_under_79 (by decide) (fun c71 => absurd c71 (by decide)) (fun _ => ?_)
                  refine g_iconst C 1 dX11_under_82 (by decide) ?_
                  refine g_goto C 87 dX11_under_83 (by decide) ?_
                  have zr9 : (1 : Int32).toInt = 1 := by decide
                  exact g_iret C hr ⟨rfl, rfl, (by dsimp only [A_under, hasC, hasB, hasX, hasM, ofS, ofK, bt, ix]; (repeat (first | rw [if_pos (by omega)] | rw [if_neg (by omega)])); first | done | rfl | (simp only [gv12]; done) | (simp only [gv12]; rfl) | (subst_vars; first | rfl | grind))⟩ dX11_under_87
                ·
                  have f72 := fne rfl (by decide : (7 : Int32).toInt = 7) c69
                  refine g_iload_n C 3 dX11_under_58 rfl ?_
                  refine g_bipush C 6 dX11_under_59 (by decide) ?_
                  refine g_icmp_ne C 74 dX11_under_61 (by decide) (fun c73 => ?_) (fun c73 => ?_)
                  ·
                    have f74 := fne rfl (by decide : (6 : Int32).toInt = 6) c73
                    refine g_iconst C 0 dX11_under_74 (by decide) ?_
                    refine g_istore C [(4, .int 0), (3, .int v12), (0, .ref (ad 258)), (1, .int x), (2, .int y)] dX11_under_75 (by decide) rfl ?_
                    refine g_iload C 0 dX11_under_77 rfl ?_
                    refine g_if_eq C 86 dX11_under_79 (by decide) (fun _ => ?_) (fun c75 => absurd c75 (by decide))
                    refine g_iconst C 0 dX11_under_86 (by decide) ?_
                    have zr9 : (0 : Int32).toInt = 0 := by decide
                    exact g_iret C hr ⟨rfl, rfl, (by dsimp only [A_under, hasC, hasB, hasX, hasM, ofS, ofK, bt, ix]; (repeat (first | rw [if_pos (by omega)] | rw [if_neg (by omega)])); first | done | rfl | (simp only [gv12]; done) | (simp only [gv12]; rfl) | (subst_vars; first | rfl | grind))⟩ dX11_under_87
                  ·
                    have f76 := feq rfl (by decide : (6 : Int32).toInt = 6) c73
                    refine g_iload_n C 0 dX11_under_64 rfl ?_
                    refine g_bipush C 7 dX11_under_65 (by decide) ?_
                    refine g_icmp_ne C 74 dX11_under_67 (by decide) (fun c77 => ?_) (fun c77 => ?_)
                    ·
                      have f78 := fne rfl (by decide : (7 : Int32).toInt = 7) c77
                      refine g_iconst C 0 dX11_under_74 (by decide) ?_
                      refine g_istore C [(4, .int 0), (3, .int v12), (0, .ref (ad 258)), (1, .int x), (2, .int y)] dX11_under_75 (by decide) rfl ?_
                      refine g_iload C 0 dX11_under_77 rfl ?_
                      refine g_if_eq C 86 dX11_under_79 (by decide) (fun _ => ?_) (fun c79 => absurd c79 (by decide))
                      refine g_iconst C 0 dX11_under_86 (by decide) ?_
                      have zr9 : (0 : Int32).toInt = 0 := by decide
                      exact g_iret C hr ⟨rfl, rfl, (by dsimp only [A_under, hasC, hasB, hasX, hasM, ofS, ofK, bt, ix]; (repeat (first | rw [if_pos (by omega)] | rw [if_neg (by omega)])); first | done | rfl | (simp only [gv12]; done) | (simp only [gv12]; rfl) | (subst_vars; first | rfl | grind))⟩ dX11_under_87
                    ·
                      have f80 := feq rfl (by decide : (7 : Int32).toInt = 7) c77
                      refine g_iconst C 1 dX11_under_70 (by decide) ?_
                      refine g_goto C 75 dX11_under_71 (by decide) ?_
                      refine g_istore C [(4, .int 1), (3, .int v12), (0, .ref (ad 258)), (1, .int x), (2, .int y)] dX11_under_75 (by decide) rfl ?_
                      refine g_iload C 0 dX11_under_77 rfl ?_
                      refine g_if_eq C 86 dX11_under_79 (by decide) (fun c81 => absurd c81 (by decide)) (fun _ => ?_)
                      refine g_iconst C 1 dX11_under_82 (by decide) ?_
                      refine g_goto C 87 dX11_under_83 (by decide) ?_
                      have zr9 : (1 : Int32).toInt = 1 := by decide
                      exact g_iret C hr ⟨rfl, rfl, (by dsimp only [A_under, hasC, hasB, hasX, hasM, ofS, ofK, bt, ix]; (repeat (first | rw [if_pos (by omega)] | rw [if_neg (by omega)])); first | done | rfl | (simp only [gv12]; done) | (simp only [gv12]; rfl) | (subst_vars; first | rfl | grind))⟩ dX11_under_87
    ·
      have f82 := feq rfl (by decide : (0 : Int32).toInt = 0) c10
      have pr7 := zo_f hr7 c10
      try dsimp only [hasC, hasB, hasX, hasM, ofS, ofK, bt] at pr7
      refine g_iconst C (-1) dX11_under_18 (by decide) ?_
      have zr9 : ((-1) : Int32).toInt = (-1) := by decide
      exact g_iret C hr ⟨rfl, rfl, (by dsimp only [A_under, hasC, hasB, hasX, hasM, ofS, ofK, bt, ix]; (repeat (first | rw [if_pos (by omega)] | rw [if_neg (by omega)])); first | done | rfl | (simp only [ix]; done) | (simp only [ix]; rfl) | (subst_vars; first | rfl | grind))⟩ dX11_under_19
theorem dX11_lacks_0 : decode cX11_lacks 0 = .ok (.iload_n 2, 1) := dw28 (n := 0) (i := 0) kc_cX11_lacks_0 (by decide +kernel)
theorem dX11_lacks_1 : decode cX11_lacks 1 = .ok (.iconst 0, 1) := dw3 (n := 0) (i := 1) kc_cX11_lacks_0 (by decide +kernel)
theorem dX11_lacks_2 : decode cX11_lacks 2 = .ok (.aload_n 0, 1) := dw42 (n := 0) (i := 2) kc_cX11_lacks_0 (by decide +kernel)
theorem dX11_lacks_3 : decode cX11_lacks 3 = .ok (.getfield 31, 3) := dw180 (n := 0) (i := 3) (a := 0) (b := 31) kc_cX11_lacks_0 (by decide +kernel) (by decide)
theorem in_X11_lacks_11 : ∀ w ∈ u_ws RX11 TX11 53, w ∈ wsX11_lacks := fun _ h => List.mem_cons_of_mem _ (List.mem_append_right _ h)
theorem dX11_lacks_6 : decode cX11_lacks 6 = .ok (.iload_n 1, 1) := dw27 (n := 0) (i := 6) kc_cX11_lacks_0 (by decide +kernel)
theorem dX11_lacks_7 : decode cX11_lacks 7 = .ok (.iaload, 1) := dw46 (n := 0) (i := 7) kc_cX11_lacks_0 (by decide +kernel)
theorem dX11_lacks_8 : decode cX11_lacks 8 = .ok (.iconst 1, 1) := dw4 (n := 0) (i := 8) kc_cX11_lacks_0 (by decide +kernel)
theorem dX11_lacks_9 : decode cX11_lacks 9 = .ok (.isub, 1) := dw100 (n := 0) (i := 9) kc_cX11_lacks_0 (by decide +kernel)
theorem dX11_lacks_10 : decode cX11_lacks 10 = .ok (.invokestatic 133, 3) := dw184 (n := 0) (i := 10) (a := 0) (b := 133) kc_cX11_lacks_0 (by decide +kernel) (by decide)
set_option maxRecDepth 20000 in
theorem ggX11_lacks_X11_in : GoodIn wsX11_lacks wsX11_in := (gk_code 6 rfl (gn))
set_option maxRecDepth 20000 in
theorem gX11_lacks_X11_in : GoodIn wsX11_lacks (va_wsS RX11 133 yX11_in wsX11_in) := goodIn_app (gk_methodLink 3 rfl (gk_static 4 rfl (gk_initialized 5 rfl (gn)))) ggX11_lacks_X11_in
theorem dX11_lacks_13 : decode cX11_lacks 13 = .ok (.ifCond .ne 7, 3) := dw154 (n := 0) (i := 13) (a := 0) (b := 7) kc_cX11_lacks_0 (by decide +kernel) (by decide)
theorem dX11_lacks_20 : decode cX11_lacks 20 = .ok (.aload_n 0, 1) := dw42 (n := 0) (i := 20) kc_cX11_lacks_0 (by decide +kernel)
theorem dX11_lacks_21 : decode cX11_lacks 21 = .ok (.getfield 34, 3) := dw180 (n := 0) (i := 21) (a := 0) (b := 34) kc_cX11_lacks_0 (by decide +kernel) (by decide)
theorem dX11_lacks_24 : decode cX11_lacks 24 = .ok (.bipush 40, 2) := dw16 (n := 0) (i := 24) (a := 40) kc_cX11_lacks_0 (by decide +kernel) (by decide)
theorem dX11_lacks_26 : decode cX11_lacks 26 = .ok (.iload_n 1, 1) := dw27 (n := 0) (i := 26) kc_cX11_lacks_0 (by decide +kernel)
theorem dX11_lacks_27 : decode cX11_lacks 27 = .ok (.imul, 1) := dw104 (n := 0) (i := 27) kc_cX11_lacks_0 (by decide +kernel)
theorem dX11_lacks_28 : decode cX11_lacks 28 = .ok (.iload_n 2, 1) := dw28 (n := 0) (i := 28) kc_cX11_lacks_0 (by decide +kernel)
theorem dX11_lacks_29 : decode cX11_lacks 29 = .ok (.iadd, 1) := dw96 (n := 0) (i := 29) kc_cX11_lacks_0 (by decide +kernel)
theorem dX11_lacks_30 : decode cX11_lacks 30 = .ok (.iaload, 1) := dw46 (n := 0) (i := 30) kc_cX11_lacks_0 (by decide +kernel)
theorem dX11_lacks_31 : decode cX11_lacks 31 = .ok (.bipush (-9), 2) := dw16 (n := 0) (i := 31) (a := 247) kc_cX11_lacks_0 (by decide +kernel) (by decide)
theorem dX11_lacks_33 : decode cX11_lacks 33 = .ok (.if_icmp .ne 7, 3) := dw160 (n := 32) (i := 1) (a := 0) (b := 7) kc_cX11_lacks_1 (by decide +kernel) (by decide)
theorem dX11_lacks_40 : decode cX11_lacks 40 = .ok (.iconst 0, 1) := dw3 (n := 32) (i := 8) kc_cX11_lacks_1 (by decide +kernel)
theorem dX11_lacks_41 : decode cX11_lacks 41 = .ok (.ireturn, 1) := dw172 (n := 32) (i := 9) kc_cX11_lacks_1 (by decide +kernel)
theorem dX11_lacks_36 : decode cX11_lacks 36 = .ok (.iconst 1, 1) := dw4 (n := 32) (i := 4) kc_cX11_lacks_1 (by decide +kernel)
theorem dX11_lacks_37 : decode cX11_lacks 37 = .ok (.goto 4, 3) := dw167 (n := 32) (i := 5) (a := 0) (b := 4) kc_cX11_lacks_1 (by decide +kernel) (by decide)
theorem dX11_lacks_16 : decode cX11_lacks 16 = .ok (.iconst 2, 1) := dw5 (n := 0) (i := 16) kc_cX11_lacks_0 (by decide +kernel)
theorem dX11_lacks_17 : decode cX11_lacks 17 = .ok (.goto 24, 3) := dw167 (n := 0) (i := 17) (a := 0) (b := 24) kc_cX11_lacks_0 (by decide +kernel) (by decide)
set_option maxHeartbeats 4000000 in
set_option maxRecDepth 100000 in
theorem s_X11_lacks (l : Launch) (D : va_G) (ad : Nat → Nat) (cs : Nat → ClassId) (M : MI) (L : ML) (x : Int32) (y : Int32) (hI : IR M) (hx : hasX (vR M) x) : Ci l yX11_lacks wsX11_lacks ({ frames := 1, cells := 0, slots := 0, locals := 22 }) D ad cs [.ref (ad 258), .int x, .int y] M L (fun r M1 L1 => M1 = M ∧ L1 = L ∧ (r = lacksV (vR M) x y ∧ (0 ≤ r.toInt ∧ r.toInt ≤ 2))) := by
  refine enter_i RX11 rfl [(0, .ref (ad 258)), (1, .int x), (2, .int y)] rfl (Nat.le_of_ble_eq_true rfl) (by decide +kernel) rfl ?_
  intro p e s m below meth c C hr
  have hF : ∀ k i, True → M k i = M k i := fun _ _ _ => rfl
  have hG : ∀ k i, True → L k i = L k i := fun _ _ _ => rfl
  have w0 : (vR M 0 0).toInt = (M 258 2).toInt := rfl
  have w1 : (vR M 0 1).toInt = (M 258 4).toInt := rfl
  have w2 : (vR M 0 2).toInt = (M 258 9).toInt := rfl
  have w3 : (vR M 0 3).toInt = (M 258 14).toInt := rfl
  obtain ⟨y0a, y0b⟩ := (show rg 0 10 (M 258 2) from hI 258 2)
  obtain ⟨y1a, y1b⟩ := (show rg 0 60 (M 258 4) from hI 258 4)
  obtain ⟨y2a, y2b⟩ := (show rg 0 8 (M 258 9) from hI 258 9)
  obtain ⟨y3a, y3b⟩ := (show rg 0 20 (M 258 14) from hI 258 14)
  obtain ⟨hx1, hx2⟩ := hx
  refine g_iload_n C 2 dX11_lacks_0 rfl ?_
  refine g_iconst C 0 dX11_lacks_1 (by decide) ?_
  refine g_aload_n C 0 dX11_lacks_2 rfl ?_
  refine g_get C (.ref (ad 266)) 11 in_X11_lacks_11 (List.mem_of_getElem? (i := 1) rfl) (by decide) (ce_model ad cs _ _) rfl (by decide) rfl rfl dX11_lacks_3 ?_
  refine g_iload_n C 1 dX11_lacks_6 rfl ?_
  refine g_iald C (by decide) (ce_m_boxSize ad cs _ _) (fin' (n := 8) rfl (by omega) (by omega)) dX11_lacks_7 ?_
  refine g_ni (fun v1 ev1 => ?_)
  have gv1 : v1 = vR M 7 x.toNatClampNeg := ev1
  have tv1 := congrArg Int32.toInt gv1
  obtain ⟨bv1, dv1⟩ := (show rg 0 40 v1 from (by rw [ev1]; exact hI 266 x.toNatClampNeg))
  refine g_iconst C 1 dX11_lacks_8 (by decide) ?_
  refine g_isub C dX11_lacks_9 ?_
  refine g_ni (fun v2 ev2 => ?_)
  try have fv2 := fsub rfl (by decide : (1 : Int32).toInt = 1) ev2 (by omega) (by omega)
  refine g_callSi C (n := 3) (As := [.int y, .int 0, .int v2]) (st := []) (c_X11_in l D ad cs _ _ y 0 v2 ) gX11_lacks_X11_in rfl rfl rfl (by decide +kernel) ⟨Nat.le_of_ble_eq_true rfl, Nat.le_of_ble_eq_true rfl⟩ rfl (Nat.le_of_ble_eq_true rfl) ⟨Nat.zero_le _, Nat.zero_le _⟩ rfl dX11_lacks_10 (fun r3 M4 L5 hr3 => ?_)
  obtain ⟨hq1, hq2, hr3⟩ := hr3
  obtain rfl := hq1.symm
  obtain rfl := hq2.symm
  have hr3 := zo_in hr3 (by decide : (0 : Int32).toInt = 0) rfl
  obtain ⟨bar3, bbr3⟩ := zo_b hr3
  refine g_if_ne C 20 dX11_lacks_13 (by decide) (fun c6 => ?_) (fun c6 => ?_)
  ·
    have f7 := fne rfl (by decide : (0 : Int32).toInt = 0) c6
    have pr3 := zo_t hr3 c6
    try dsimp only [hasC, hasB, hasX, hasM, ofS, ofK, bt] at pr3
    refine g_aload_n C 0 dX11_lacks_20 rfl ?_
    refine g_get C (.ref (ad 267)) 12 in_X11_lacks_11 (List.mem_of_getElem? (i := 2) rfl) (by decide) (ce_model ad cs _ _) rfl (by decide) rfl rfl dX11_lacks_21 ?_
    refine g_bipush C 40 dX11_lacks_24 (by decide) ?_
    refine g_iload_n C 1 dX11_lacks_26 rfl ?_
    refine g_imul C dX11_lacks_27 ?_
    refine g_ni (fun v8 ev8 => ?_)
    try have fv8 := fmul (by decide : (40 : Int32).toInt = 40) rfl ev8 (by omega) (by omega)
    refine g_iload_n C 2 dX11_lacks_28 rfl ?_
    refine g_iadd C dX11_lacks_29 ?_
    refine g_ni (fun v9 ev9 => ?_)
    try have fv9 := fadd rfl rfl ev9 (by omega) (by omega)
    refine g_iald C (by decide) (ce_m_boxed ad cs _ _) (fin' (n := 320) rfl (by omega) (by omega)) dX11_lacks_30 ?_
    have nx := ixn (x := x) (by omega)
    have ny := ixn (x := y) (by omega)
    have nv9 := ixn (x := v9) (by omega)
    have iv9 : v9.toNatClampNeg = 40 * x.toNatClampNeg + y.toNatClampNeg := by omega
    refine g_ni (fun v10 ev10 => ?_)
    have gv10 : v10 = M 267 v9.toNatClampNeg := ev10
    have gv10 := cg1 (f := M 267) gv10 iv9
    have gv10 := gv10.trans (vR8 (M := M) (by omega)).symm
    have tv10 := congrArg Int32.toInt gv10
    have bv10 : bxd v10 := (by rw [ev10]; exact hI 267 v9.toNatClampNeg)
    unfold bxd at bv10
    refine g_bipush C (-9) dX11_lacks_31 (by decide) ?_
    refine g_icmp_ne C 40 dX11_lacks_33 (by decide) (fun c11 => ?_) (fun c11 => ?_)
    ·
      have f12 := fne rfl (by decide : ((-9) : Int32).toInt = (-9)) c11
      refine g_iconst C 0 dX11_lacks_40 (by decide) ?_
      have zr9 : (0 : Int32).toInt = 0 := by decide
      exact g_iret C hr ⟨rfl, rfl, ⟨(by dsimp only [lacksV, hasC, hasB, hasX, hasM, ofS, ofK, bt, ix]; (repeat (first | rw [if_pos (by omega)] | rw [if_neg (by omega)])); first | done | rfl | (simp only [gv10, ev9, ev8, ev2, gv1]; done) | (simp only [gv10, ev9, ev8, ev2, gv1]; rfl) | (subst_vars; first | rfl | grind)), by decide, by decide⟩⟩ dX11_lacks_41
    ·
      have f13 := feq rfl (by decide : ((-9) : Int32).toInt = (-9)) c11
      refine g_iconst C 1 dX11_lacks_36 (by decide) ?_
      refine g_goto C 41 dX11_lacks_37 (by decide) ?_
      have zr9 : (1 : Int32).toInt = 1 := by decide
      exact g_iret C hr ⟨rfl, rfl, ⟨(by dsimp only [lacksV, hasC, hasB, hasX, hasM, ofS, ofK, bt, ix]; (repeat (first | rw [if_pos (by omega)] | rw [if_neg (by omega)])); first | done | rfl | (simp only [gv10, ev9, ev8, ev2, gv1]; done) | (simp only [gv10, ev9, ev8, ev2, gv1]; rfl) | (subst_vars; first | rfl | grind)), by decide, by decide⟩⟩ dX11_lacks_41
  ·
    have f14 := feq rfl (by decide : (0 : Int32).toInt = 0) c6
    have pr3 := zo_f hr3 c6
    try dsimp only [hasC, hasB, hasX, hasM, ofS, ofK, bt] at pr3
    refine g_iconst C 2 dX11_lacks_16 (by decide) ?_
    refine g_goto C 41 dX11_lacks_17 (by decide) ?_
    have zr9 : (2 : Int32).toInt = 2 := by decide
    exact g_iret C hr ⟨rfl, rfl, ⟨(by dsimp only [lacksV, hasC, hasB, hasX, hasM, ofS, ofK, bt, ix]; (repeat (first | rw [if_pos (by omega)] | rw [if_neg (by omega)])); first | done | rfl | (simp only [ev2, gv1]; done) | (simp only [ev2, gv1]; rfl) | (subst_vars; first | rfl | grind)), by decide, by decide⟩⟩ dX11_lacks_41
