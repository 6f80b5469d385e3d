theorem dX11_gcd_0 : decode cX11_gcd 0 = .ok (.lload_n 0, 1) := dw30 (n := 0) (i := 0) kc_cX11_gcd_0 (by decide +kernel)
theorem dX11_gcd_1 : decode cX11_gcd 1 = .ok (.lconst 0, 1) := dw9 (n := 0) (i := 1) kc_cX11_gcd_0 (by decide +kernel)
theorem dX11_gcd_2 : decode cX11_gcd 2 = .ok (.lcmp, 1) := dw148 (n := 0) (i := 2) kc_cX11_gcd_0 (by decide +kernel)
theorem dX11_gcd_3 : decode cX11_gcd 3 = .ok (.ifCond .ge 8, 3) := dw156 (n := 0) (i := 3) (a := 0) (b := 8) kc_cX11_gcd_0 (by decide +kernel) (by decide)
theorem dX11_gcd_11 : decode cX11_gcd 11 = .ok (.lload_n 0, 1) := dw30 (n := 0) (i := 11) kc_cX11_gcd_0 (by decide +kernel)
theorem dX11_gcd_12 : decode cX11_gcd 12 = .ok (.lstore 4, 2) := dw55 (n := 0) (i := 12) (a := 4) kc_cX11_gcd_0 (by decide +kernel) (by decide)
theorem dX11_gcd_14 : decode cX11_gcd 14 = .ok (.lload_n 2, 1) := dw32 (n := 0) (i := 14) kc_cX11_gcd_0 (by decide +kernel)
theorem dX11_gcd_15 : decode cX11_gcd 15 = .ok (.lstore 6, 2) := dw55 (n := 0) (i := 15) (a := 6) kc_cX11_gcd_0 (by decide +kernel) (by decide)
theorem dX11_gcd_17 : decode cX11_gcd 17 = .ok (.lload 6, 2) := dw22 (n := 0) (i := 17) (a := 6) kc_cX11_gcd_0 (by decide +kernel) (by decide)
theorem dX11_gcd_19 : decode cX11_gcd 19 = .ok (.lconst 0, 1) := dw9 (n := 0) (i := 19) kc_cX11_gcd_0 (by decide +kernel)
theorem dX11_gcd_20 : decode cX11_gcd 20 = .ok (.lcmp, 1) := dw148 (n := 0) (i := 20) kc_cX11_gcd_0 (by decide +kernel)
theorem dX11_gcd_21 : decode cX11_gcd 21 = .ok (.ifCond .eq 21, 3) := dw153 (n := 0) (i := 21) (a := 0) (b := 21) kc_cX11_gcd_0 (by decide +kernel) (by decide)
theorem dX11_gcd_42 : decode cX11_gcd 42 = .ok (.lload 4, 2) := dw22 (n := 32) (i := 10) (a := 4) kc_cX11_gcd_1 (by decide +kernel) (by decide)
theorem dX11_gcd_44 : decode cX11_gcd 44 = .ok (.lreturn, 1) := dw173 (n := 32) (i := 12) kc_cX11_gcd_1 (by decide +kernel)
theorem dX11_gcd_24 : decode cX11_gcd 24 = .ok (.lload 4, 2) := dw22 (n := 0) (i := 24) (a := 4) kc_cX11_gcd_0 (by decide +kernel) (by decide)
theorem dX11_gcd_26 : decode cX11_gcd 26 = .ok (.lload 6, 2) := dw22 (n := 0) (i := 26) (a := 6) kc_cX11_gcd_0 (by decide +kernel) (by decide)
theorem dX11_gcd_28 : decode cX11_gcd 28 = .ok (.lrem, 1) := dw113 (n := 0) (i := 28) kc_cX11_gcd_0 (by decide +kernel)
theorem dX11_gcd_29 : decode cX11_gcd 29 = .ok (.lstore 8, 2) := dw55 (n := 0) (i := 29) (a := 8) kc_cX11_gcd_0 (by decide +kernel) (by decide)
theorem dX11_gcd_31 : decode cX11_gcd 31 = .ok (.lload 6, 2) := dw22 (n := 0) (i := 31) (a := 6) kc_cX11_gcd_0 (by decide +kernel) (by decide)
theorem dX11_gcd_33 : decode cX11_gcd 33 = .ok (.lstore 4, 2) := dw55 (n := 32) (i := 1) (a := 4) kc_cX11_gcd_1 (by decide +kernel) (by decide)
theorem dX11_gcd_35 : decode cX11_gcd 35 = .ok (.lload 8, 2) := dw22 (n := 32) (i := 3) (a := 8) kc_cX11_gcd_1 (by decide +kernel) (by decide)
theorem dX11_gcd_37 : decode cX11_gcd 37 = .ok (.lstore 6, 2) := dw55 (n := 32) (i := 5) (a := 6) kc_cX11_gcd_1 (by decide +kernel) (by decide)
theorem dX11_gcd_39 : decode cX11_gcd 39 = .ok (.goto (-22), 3) := dw167 (n := 32) (i := 7) (a := 255) (b := 234) kc_cX11_gcd_1 (by decide +kernel) (by decide)
theorem dX11_gcd_6 : decode cX11_gcd 6 = .ok (.lload_n 0, 1) := dw30 (n := 0) (i := 6) kc_cX11_gcd_0 (by decide +kernel)
theorem dX11_gcd_7 : decode cX11_gcd 7 = .ok (.lneg, 1) := dw117 (n := 0) (i := 7) kc_cX11_gcd_0 (by decide +kernel)
theorem dX11_gcd_8 : decode cX11_gcd 8 = .ok (.goto 4, 3) := dw167 (n := 0) (i := 8) (a := 0) (b := 4) kc_cX11_gcd_0 (by decide +kernel) (by decide)
set_option maxHeartbeats 4000000 in
set_option maxRecDepth 100000 in
theorem s_X11_gcd (l : Launch) (D : va_G) (ad : Nat → Nat) (cs : Nat → ClassId) (M : MI) (L : ML) (x : Int64) (y : Int64) (hI : IR M) : Cl l yX11_gcd wsX11_gcd ({ frames := 0, cells := 0, slots := 0, locals := 0 }) D ad cs [.long x, .long y] M L (fun r M1 L1 => M1 = M ∧ L1 = L ∧ (r.toInt ∣ x.toInt ∧ r.toInt ∣ y.toInt ∧ (∀ t : Int, t ∣ x.toInt → t ∣ y.toInt → t ∣ r.toInt) ∧ (-9223372036854775808 < x.toInt → 0 ≤ y.toInt → 0 ≤ r.toInt))) := by
  refine enter_l RX11 rfl [(0, .long x), (2, .long y)] rfl (Nat.le_of_ble_eq_true rfl) (by decide +kernel) rfl ?_
  intro p e s m below meth c C hr
  have hF : ∀ k i, True → M k i = M k i := fun _ _ _ => rfl
  have hG : ∀ k i, True → L k i = L k i := fun _ _ _ => rfl
  refine g_lload_n C 0 dX11_gcd_0 rfl ?_
  refine g_lconst C 0 dX11_gcd_1 (by decide) ?_
  refine g_lcmp C dX11_gcd_2 ?_
  refine g_ni (fun v1 ev1 => ?_)
  refine g_if_ge C 11 dX11_gcd_3 (by decide) (fun c2 => ?_) (fun c2 => ?_)
  ·
    have f3 := cge rfl (by decide : (0 : Int64).toInt = 0) ev1 c2
    refine g_lload_n C 0 dX11_gcd_11 rfl ?_
    have hdn : ∀ t : Int, t ∣ x.toInt ↔ t ∣ x.toInt := fun t => Iff.rfl
    have hsg : -9223372036854775808 < x.toInt → 0 ≤ x.toInt := fun _ => by omega
    refine g_lstore C [(4, .long x), (0, .long x), (2, .long y)] dX11_gcd_12 (by decide) rfl ?_
    refine g_lload_n C 2 dX11_gcd_14 rfl ?_
    refine g_lstore C [(6, .long y), (4, .long x), (0, .long x), (2, .long y)] dX11_gcd_15 (by decide) rfl ?_
    refine g_loop (α := Int64 × Int64 × MI × ML) (fun a => a.2.1.toInt.natAbs) (fun a => (∀ t : Int, (t ∣ a.1.toInt ∧ t ∣ a.2.1.toInt) ↔ (t ∣ x.toInt ∧ t ∣ y.toInt)) ∧ (-9223372036854775808 < x.toInt → 0 ≤ y.toInt → 0 ≤ a.1.toInt ∧ 0 ≤ a.2.1.toInt) ∧ IR a.2.2.1 ∧ (∀ k i, True → a.2.2.1 k i = M k i) ∧ (∀ k i, True → a.2.2.2 k i = L k i)) (fun a => a.2.2.1) (fun a => a.2.2.2) (fun a => [(6, .long a.2.1), (4, .long a.1), (0, .long x), (2, .long y)]) (x, y, M, L) ⟨by show ∀ t : Int, (t ∣ x.toInt ∧ t ∣ y.toInt) ↔ (t ∣ x.toInt ∧ t ∣ y.toInt); intro t; rw [hdn t], by show -9223372036854775808 < x.toInt → 0 ≤ y.toInt → 0 ≤ x.toInt ∧ 0 ≤ y.toInt; exact fun h1 h2 => ⟨hsg h1, h2⟩, hI, hF, hG⟩ rfl rfl rfl ?_
    rintro ⟨x4_17, x6_17, M_17, L_17⟩ ⟨j17_0, j17_1, hI, hF, hG⟩ ih_17
    dsimp only at j17_0 j17_1 hI hF hG ih_17 ⊢
    refine g_lload C 0 dX11_gcd_17 rfl ?_
    refine g_lconst C 0 dX11_gcd_19 (by decide) ?_
    refine g_lcmp C dX11_gcd_20 ?_
    refine g_ni (fun v4 ev4 => ?_)
    refine g_if_eq C 42 dX11_gcd_21 (by decide) (fun c5 => ?_) (fun c5 => ?_)
    ·
      have f6 := ceq rfl (by decide : (0 : Int64).toInt = 0) ev4 c5
      refine g_lload C 1 dX11_gcd_42 rfl ?_
      have hgg := (j17_0 x4_17.toInt).mp ⟨Int.dvd_refl _, by rw [show x6_17.toInt = 0 by omega]; exact Int.dvd_zero _⟩
      exact g_lret C hr ⟨funext (fun k => funext (fun i => hF k i trivial)), funext (fun k => funext (fun i => hG k i trivial)), ⟨hgg.1, hgg.2, fun t h1 h2 => ((j17_0 t).mpr ⟨h1, h2⟩).1, fun h1 h2 => (j17_1 h1 h2).1⟩⟩ dX11_gcd_44
    ·
      have f7 := cne rfl (by decide : (0 : Int64).toInt = 0) ev4 c5
      refine g_lload C 1 dX11_gcd_24 rfl ?_
      refine g_lload C 0 dX11_gcd_26 rfl ?_
      refine g_lrem C dX11_gcd_28 (by intro h9; have h8 := congrArg Int64.toInt h9; have h7 : (0 : Int64).toInt = 0 := (by decide); omega) ?_
      refine g_nl (fun v8 ev8 => ?_)
      have fv8 := lremI ev8
      refine g_lstore C [(8, .long v8), (6, .long x6_17), (4, .long x4_17), (0, .long x), (2, .long y)] dX11_gcd_29 (by decide) rfl ?_
      refine g_lload C 1 dX11_gcd_31 rfl ?_
      refine g_lstore C [(4, .long x6_17), (8, .long v8), (6, .long x6_17), (0, .long x), (2, .long y)] dX11_gcd_33 (by decide) rfl ?_
      refine g_lload C 1 dX11_gcd_35 rfl ?_
      refine g_lstore C [(6, .long v8), (4, .long x6_17), (8, .long v8), (0, .long x), (2, .long y)] dX11_gcd_37 (by decide) rfl ?_
      refine g_goto C 17 dX11_gcd_39 (by decide) ?_
      refine g_lv [0, 1, 3, 4] [(6, .long v8), (4, .long x6_17), (0, .long x), (2, .long y)] rfl ?_
      exact ih_17 (x6_17, v8, M_17, L_17) ⟨by show ∀ t : Int, (t ∣ x6_17.toInt ∧ t ∣ v8.toInt) ↔ (t ∣ x.toInt ∧ t ∣ y.toInt); intro t; rw [fv8]; exact dvd_tmod.trans (j17_0 t), by show -9223372036854775808 < x.toInt → 0 ≤ y.toInt → 0 ≤ x6_17.toInt ∧ 0 ≤ v8.toInt; exact fun h1 h2 => ⟨(j17_1 h1 h2).2, by rw [fv8]; exact Int.tmod_nonneg _ (j17_1 h1 h2).1⟩, hI, hF, hG⟩ (by show v8.toInt.natAbs < x6_17.toInt.natAbs; rw [fv8]; exact tmod_abs (by omega))
  ·
    have f9 := cnge rfl (by decide : (0 : Int64).toInt = 0) ev1 c2
    refine g_lload_n C 0 dX11_gcd_6 rfl ?_
    refine g_lneg C dX11_gcd_7 ?_
    refine g_nl (fun v10 ev10 => ?_)
    have fv10 := lnegI ev10
    refine g_goto C 12 dX11_gcd_8 (by decide) ?_
    have hdn := fv10.1
    have hsg : -9223372036854775808 < x.toInt → 0 ≤ v10.toInt := fun h => by rw [fv10.2 h]; omega
    refine g_lstore C [(4, .long v10), (0, .long x), (2, .long y)] dX11_gcd_12 (by decide) rfl ?_
    refine g_lload_n C 2 dX11_gcd_14 rfl ?_
    refine g_lstore C [(6, .long y), (4, .long v10), (0, .long x), (2, .long y)] dX11_gcd_15 (by decide) rfl ?_
    refine g_loop (α := Int64 × Int64 × MI × ML) (fun a => a.2.1.toInt.natAbs) (fun a => (∀ t : Int, (t ∣ a.1.toInt ∧ t ∣ a.2.1.toInt) ↔ (t ∣ x.toInt ∧ t ∣ y.toInt)) ∧ (-9223372036854775808 < x.toInt → 0 ≤ y.toInt → 0 ≤ a.1.toInt ∧ 0 ≤ a.2.1.toInt) ∧ IR a.2.2.1 ∧ (∀ k i, True → a.2.2.1 k i = M k i) ∧ (∀ k i, True → a.2.2.2 k i = L k i)) (fun a => a.2.2.1) (fun a => a.2.2.2) (fun a => [(6, .long a.2.1), (4, .long a.1), (0, .long x), (2, .long y)]) (v10, y, M, L) ⟨by show ∀ t : Int, (t ∣ v10.toInt ∧ t ∣ y.toInt) ↔ (t ∣ x.toInt ∧ t ∣ y.toInt); intro t; rw [hdn t], by show -9223372036854775808 < x.toInt → 0 ≤ y.toInt → 0 ≤ v10.toInt ∧ 0 ≤ y.toInt; exact fun h1 h2 => ⟨hsg h1, h2⟩, hI, hF, hG⟩ rfl rfl rfl ?_
    rintro ⟨x4_17, x6_17, M_17, L_17⟩ ⟨j17_0, j17_1, hI, hF, hG⟩ ih_17
    dsimp only at j17_0 j17_1 hI hF hG ih_17 ⊢
    refine g_lload C 0 dX11_gcd_17 rfl ?_
    refine g_lconst C 0 dX11_gcd_19 (by decide) ?_
    refine g_lcmp C dX11_gcd_20 ?_
    refine g_ni (fun v11 ev11 => ?_)
    refine g_if_eq C 42 dX11_gcd_21 (by decide) (fun c12 => ?_) (fun c12 => ?_)
    ·
      have f13 := ceq rfl (by decide : (0 : Int64).toInt = 0) ev11 c12
      refine g_lload C 1 dX11_gcd_42 rfl ?_
      have hgg := (j17_0 x4_17.toInt).mp ⟨Int.dvd_refl _, by rw [show x6_17.toInt = 0 by omega]; exact Int.dvd_zero _⟩
      exact g_lret C hr ⟨funext (fun k => funext (fun i => hF k i trivial)), funext (fun k => funext (fun i => hG k i trivial)), ⟨hgg.1, hgg.2, fun t h1 h2 => ((j17_0 t).mpr ⟨h1, h2⟩).1, fun h1 h2 => (j17_1 h1 h2).1⟩⟩ dX11_gcd_44
    ·
      have f14 := cne rfl (by decide : (0 : Int64).toInt = 0) ev11 c12
      refine g_lload C 1 dX11_gcd_24 rfl ?_
      refine g_lload C 0 dX11_gcd_26 rfl ?_
      refine g_lrem C dX11_gcd_28 (by intro h9; have h8 := congrArg Int64.toInt h9; have h7 : (0 : Int64).toInt = 0 := (by decide); omega) ?_
      refine g_nl (fun v15 ev15 => ?_)
      have fv15 := lremI ev15
      refine g_lstore C [(8, .long v15), (6, .long x6_17), (4, .long x4_17), (0, .long x), (2, .long y)] dX11_gcd_29 (by decide) rfl ?_
      refine g_lload C 1 dX11_gcd_31 rfl ?_
      refine g_lstore C [(4, .long x6_17), (8, .long v15), (6, .long x6_17), (0, .long x), (2, .long y)] dX11_gcd_33 (by decide) rfl ?_
      refine g_lload C 1 dX11_gcd_35 rfl ?_
      refine g_lstore C [(6, .long v15), (4, .long x6_17), (8, .long v15), (0, .long x), (2, .long y)] dX11_gcd_37 (by decide) rfl ?_
      refine g_goto C 17 dX11_gcd_39 (by decide) ?_
      refine g_lv [0, 1, 3, 4] [(6, .long v15), (4, .long x6_17), (0, .long x), (2, .long y)] rfl ?_
      exact ih_17 (x6_17, v15, M_17, L_17) ⟨by show ∀ t : Int, (t ∣ x6_17.toInt ∧ t ∣ v15.toInt) ↔ (t ∣ x.toInt ∧ t ∣ y.toInt); intro t; rw [fv15]; exact dvd_tmod.trans (j17_0 t), by show -9223372036854775808 < x.toInt → 0 ≤ y.toInt → 0 ≤ x6_17.toInt ∧ 0 ≤ v15.toInt; exact fun h1 h2 => ⟨(j17_1 h1 h2).2, by rw [fv15]; exact Int.tmod_nonneg _ (j17_1 h1 h2).1⟩, hI, hF, hG⟩ (by show v15.toInt.natAbs < x6_17.toInt.natAbs; rw [fv15]; exact tmod_abs (by omega))
theorem dX11_fraction_0 : decode cX11_fraction 0 = .ok (.lload_n 1, 1) := dw31 (n := 0) (i := 0) kc_cX11_fraction_0 (by decide +kernel)
theorem dX11_fraction_1 : decode cX11_fraction 1 = .ok (.lload_n 3, 1) := dw33 (n := 0) (i := 1) kc_cX11_fraction_0 (by decide +kernel)
theorem dX11_fraction_2 : decode cX11_fraction 2 = .ok (.invokestatic 184, 3) := dw184 (n := 0) (i := 2) (a := 0) (b := 184) kc_cX11_fraction_0 (by decide +kernel) (by decide)
set_option maxRecDepth 20000 in
theorem ggX11_fraction_X11_gcd : GoodIn wsX11_fraction wsX11_gcd := (gk_code 8 rfl (gn))
set_option maxRecDepth 20000 in
theorem gX11_fraction_X11_gcd : GoodIn wsX11_fraction (va_wsS RX11 184 yX11_gcd wsX11_gcd) := goodIn_app (gk_methodLink 5 rfl (gk_static 6 rfl (gk_initialized 7 rfl (gn)))) ggX11_fraction_X11_gcd
theorem dX11_fraction_5 : decode cX11_fraction 5 = .ok (.lstore 5, 2) := dw55 (n := 0) (i := 5) (a := 5) kc_cX11_fraction_0 (by decide +kernel) (by decide)
theorem dX11_fraction_7 : decode cX11_fraction 7 = .ok (.aload_n 0, 1) := dw42 (n := 0) (i := 7) kc_cX11_fraction_0 (by decide +kernel)
theorem dX11_fraction_8 : decode cX11_fraction 8 = .ok (.lload_n 1, 1) := dw31 (n := 0) (i := 8) kc_cX11_fraction_0 (by decide +kernel)
theorem dX11_fraction_9 : decode cX11_fraction 9 = .ok (.lload 5, 2) := dw22 (n := 0) (i := 9) (a := 5) kc_cX11_fraction_0 (by decide +kernel) (by decide)
theorem dX11_fraction_11 : decode cX11_fraction 11 = .ok (.ldiv, 1) := dw109 (n := 0) (i := 11) kc_cX11_fraction_0 (by decide +kernel)
theorem dX11_fraction_12 : decode cX11_fraction 12 = .ok (.putfield 188, 3) := dw181 (n := 0) (i := 12) (a := 0) (b := 188) kc_cX11_fraction_0 (by decide +kernel) (by decide)
theorem in_X11_fraction_11 : ∀ w ∈ u_ws RX11 TX11 53, w ∈ wsX11_fraction := fun _ h => List.mem_cons_of_mem _ (List.mem_append_right _ h)
theorem dX11_fraction_15 : decode cX11_fraction 15 = .ok (.aload_n 0, 1) := dw42 (n := 0) (i := 15) kc_cX11_fraction_0 (by decide +kernel)
theorem dX11_fraction_16 : decode cX11_fraction 16 = .ok (.lload_n 3, 1) := dw33 (n := 0) (i := 16) kc_cX11_fraction_0 (by decide +kernel)
theorem dX11_fraction_17 : decode cX11_fraction 17 = .ok (.lload 5, 2) := dw22 (n := 0) (i := 17) (a := 5) kc_cX11_fraction_0 (by decide +kernel) (by decide)
theorem dX11_fraction_19 : decode cX11_fraction 19 = .ok (.ldiv, 1) := dw109 (n := 0) (i := 19) kc_cX11_fraction_0 (by decide +kernel)
theorem dX11_fraction_20 : decode cX11_fraction 20 = .ok (.putfield 192, 3) := dw181 (n := 0) (i := 20) (a := 0) (b := 192) kc_cX11_fraction_0 (by decide +kernel) (by decide)
theorem dX11_fraction_23 : decode cX11_fraction 23 = .ok (.aload_n 0, 1) := dw42 (n := 0) (i := 23) kc_cX11_fraction_0 (by decide +kernel)
theorem dX11_fraction_24 : decode cX11_fraction 24 = .ok (.aload_n 0, 1) := dw42 (n := 0) (i := 24) kc_cX11_fraction_0 (by decide +kernel)
theorem dX11_fraction_25 : decode cX11_fraction 25 = .ok (.getfield 195, 3) := dw180 (n := 0) (i := 25) (a := 0) (b := 195) kc_cX11_fraction_0 (by decide +kernel) (by decide)
theorem dX11_fraction_28 : decode cX11_fraction 28 = .ok (.ifCond .ne 25, 3) := dw154 (n := 0) (i := 28) (a := 0) (b := 25) kc_cX11_fraction_0 (by decide +kernel) (by decide)
theorem dX11_fraction_53 : decode cX11_fraction 53 = .ok (.iconst 1, 1) := dw4 (n := 32) (i := 21) kc_cX11_fraction_1 (by decide +kernel)
theorem dX11_fraction_54 : decode cX11_fraction 54 = .ok (.goto 4, 3) := dw167 (n := 32) (i := 22) (a := 0) (b := 4) kc_cX11_fraction_1 (by decide +kernel) (by decide)
theorem dX11_fraction_58 : decode cX11_fraction 58 = .ok (.putfield 195, 3) := dw181 (n := 32) (i := 26) (a := 0) (b := 195) kc_cX11_fraction_1 (by decide +kernel) (by decide)
theorem dX11_fraction_61 : decode cX11_fraction 61 = .ok (.return_, 1) := dw177 (n := 32) (i := 29) kc_cX11_fraction_1 (by decide +kernel)
theorem dX11_fraction_31 : decode cX11_fraction 31 = .ok (.aload_n 0, 1) := dw42 (n := 0) (i := 31) kc_cX11_fraction_0 (by decide +kernel)
theorem dX11_fraction_32 : decode cX11_fraction 32 = .ok (.getfield 188, 3) := dw180 (n := 32) (i := 0) (a := 0) (b := 188) kc_cX11_fraction_1 (by decide +kernel) (by decide)
theorem dX11_fraction_35 : decode cX11_fraction 35 = .ok (.ldc2_w 199, 3) := dw20 (n := 32) (i := 3) (a := 0) (b := 199) kc_cX11_fraction_1 (by decide +kernel) (by decide)
theorem dX11_fraction_38 : decode cX11_fraction 38 = .ok (.lcmp, 1) := dw148 (n := 32) (i := 6) kc_cX11_fraction_1 (by decide +kernel)
theorem dX11_fraction_39 : decode cX11_fraction 39 = .ok (.ifCond .gt 14, 3) := dw157 (n := 32) (i := 7) (a := 0) (b := 14) kc_cX11_fraction_1 (by decide +kernel) (by decide)
theorem dX11_fraction_42 : decode cX11_fraction 42 = .ok (.aload_n 0, 1) := dw42 (n := 32) (i := 10) kc_cX11_fraction_1 (by decide +kernel)
theorem dX11_fraction_43 : decode cX11_fraction 43 = .ok (.getfield 192, 3) := dw180 (n := 32) (i := 11) (a := 0) (b := 192) kc_cX11_fraction_1 (by decide +kernel) (by decide)
theorem dX11_fraction_46 : decode cX11_fraction 46 = .ok (.ldc2_w 199, 3) := dw20 (n := 32) (i := 14) (a := 0) (b := 199) kc_cX11_fraction_1 (by decide +kernel) (by decide)
theorem dX11_fraction_49 : decode cX11_fraction 49 = .ok (.lcmp, 1) := dw148 (n := 32) (i := 17) kc_cX11_fraction_1 (by decide +kernel)
theorem dX11_fraction_50 : decode cX11_fraction 50 = .ok (.ifCond .le 7, 3) := dw158 (n := 32) (i := 18) (a := 0) (b := 7) kc_cX11_fraction_1 (by decide +kernel) (by decide)
theorem dX11_fraction_57 : decode cX11_fraction 57 = .ok (.iconst 0, 1) := dw3 (n := 32) (i := 25) kc_cX11_fraction_1 (by decide +kernel)
