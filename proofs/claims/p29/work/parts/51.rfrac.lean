theorem dX11_gcd_0 : decode cX11_gcd 0 = .ok (.lload_n 0, 1) := dw30 (n := 0) (i := 0) kc_cX11_gcd_0 (by decide +kernel)
theorem dX11_gcd_1 : decode cX11_gcd 1 = .ok (.lconst 0, 1) := dw9 (n := 0) (i := 1) kc_cX11_gcd_0 (by decide +kernel)
theorem dX11_gcd_2 : decode cX11_gcd 2 = .ok (.lcmp, 1) := dw148 (n := 0) (i := 2) kc_cX11_gcd_0 (by decide +kernel)
theorem dX11_gcd_3 : decode cX11_gcd 3 = .ok (.ifCond .ge 8, 3) := dw156 (n := 0) (i := 3) (a := 0) (b := 8) kc_cX11_gcd_0 (by decide +kernel) (by decide)
theorem dX11_gcd_11 : decode cX11_gcd 11 = .ok (.lload_n 0, 1) := dw30 (n := 0) (i := 11) kc_cX11_gcd_0 (by decide +kernel)
theorem dX11_gcd_12 : decode cX11_gcd 12 = .ok (.lstore 4, 2) := dw55 (n := 0) (i := 12) (a := 4) kc_cX11_gcd_0 (by decide +kernel) (by decide)
theorem dX11_gcd_14 : decode cX11_gcd 14 = .ok (.lload_n 2, 1) := dw32 (n := 0) (i := 14) kc_cX11_gcd_0 (by decide +kernel)
theorem dX11_gcd_15 : decode cX11_gcd 15 = .ok (.lstore 6, 2) := dw55 (n := 0) (i := 15) (a := 6) kc_cX11_gcd_0 (by decide +kernel) (by decide)
theorem dX11_gcd_17 : decode cX11_gcd 17 = .ok (.lload 6, 2) := dw22 (n := 0) (i := 17) (a := 6) kc_cX11_gcd_0 (by decide +kernel) (by decide)
theorem dX11_gcd_19 : decode cX11_gcd 19 = .ok (.lconst 0, 1) := dw9 (n := 0) (i := 19) kc_cX11_gcd_0 (by decide +kernel)
theorem dX11_gcd_20 : decode cX11_gcd 20 = .ok (.lcmp, 1) := dw148 (n := 0) (i := 20) kc_cX11_gcd_0 (by decide +kernel)
theorem dX11_gcd_21 : decode cX11_gcd 21 = .ok (.ifCond .eq 21, 3) := dw153 (n := 0) (i := 21) (a := 0) (b := 21) kc_cX11_gcd_0 (by decide +kernel) (by decide)
theorem dX11_gcd_42 : decode cX11_gcd 42 = .ok (.lload 4, 2) := dw22 (n := 32) (i := 10) (a := 4) kc_cX11_gcd_1 (by decide +kernel) (by decide)
theorem dX11_gcd_44 : decode cX11_gcd 44 = .ok (.lreturn, 1) := dw173 (n := 32) (i := 12) kc_cX11_gcd_1 (by decide +kernel)
theorem dX11_gcd_24 : decode cX11_gcd 24 = .ok (.lload 4, 2) := dw22 (n := 0) (i := 24) (a := 4) kc_cX11_gcd_0 (by decide +kernel) (by decide)
theorem dX11_gcd_26 : decode cX11_gcd 26 = .ok (.lload 6, 2) := dw22 (n := 0) (i := 26) (a := 6) kc_cX11_gcd_0 (by decide +kernel) (by decide)
theorem dX11_gcd_28 : decode cX11_gcd 28 = .ok (.lrem, 1) := dw113 (n := 0) (i := 28) kc_cX11_gcd_0 (by decide +kernel)
theorem dX11_gcd_29 : decode cX11_gcd 29 = .ok (.lstore 8, 2) := dw55 (n := 0) (i := 29) (a := 8) kc_cX11_gcd_0 (by decide +kernel) (by decide)
theorem dX11_gcd_31 : decode cX11_gcd 31 = .ok (.lload 6, 2) := dw22 (n := 0) (i := 31) (a := 6) kc_cX11_gcd_0 (by decide +kernel) (by decide)
theorem dX11_gcd_33 : decode cX11_gcd 33 = .ok (.lstore 4, 2) := dw55 (n := 32) (i := 1) (a := 4) kc_cX11_gcd_1 (by decide +kernel) (by decide)
theorem dX11_gcd_35 : decode cX11_gcd 35 = .ok (.lload 8, 2) := dw22 (n := 32) (i := 3) (a := 8) kc_cX11_gcd_1 (by decide +kernel) (by decide)
theorem dX11_gcd_37 : decode cX11_gcd 37 = .ok (.lstore 6, 2) := dw55 (n := 32) (i := 5) (a := 6) kc_cX11_gcd_1 (by decide +kernel) (by decide)
theorem dX11_gcd_39 : decode cX11_gcd 39 = .ok (.goto (-22), 3) := dw167 (n := 32) (i := 7) (a := 255) (b := 234) kc_cX11_gcd_1 (by decide +kernel) (by decide)
theorem dX11_gcd_6 : decode cX11_gcd 6 = .ok (.lload_n 0, 1) := dw30 (n := 0) (i := 6) kc_cX11_gcd_0 (by decide +kernel)
theorem dX11_gcd_7 : decode cX11_gcd 7 = .ok (.lneg, 1) := dw117 (n := 0) (i := 7) kc_cX11_gcd_0 (by decide +kernel)
theorem dX11_gcd_8 : decode cX11_gcd 8 = .ok (.goto 4, 3) := dw167 (n := 0) (i := 8) (a := 0) (b := 4) kc_cX11_gcd_0 (by decide +kernel) (by decide)
set_option maxHeartbeats 4000000 in
set_option maxRecDepth 100000 in
theorem s_X11_gcd (l : Launch) (D : va_G) (ad : Nat → Nat) (cs : Nat → ClassId) (M : MI) (L : ML) (x : Int64) (y : Int64) (hI : IR M) : Cl l yX11_gcd wsX11_gcd ({ frames := 0, cells := 0, slots := 0, locals := 0 }) D ad cs [.long x, .long y] M L (fun r M1 L1 => M1 = M ∧ L1 = L ∧ (r.toInt ∣ x.toInt ∧ r.toInt ∣ y.toInt ∧ (∀ t : Int, t ∣ x.toInt → t ∣ y.toInt → t ∣ r.toInt) ∧ (-9223372036854775808 < x.toInt → 0 ≤ y.toInt → 0 ≤ r.toInt))) := by
  refine enter_l RX11 rfl [(0, .long x), (2, .long y)] rfl (Nat.le_of_ble_eq_true rfl) (by decide +kernel) rfl ?_
  intro p e s m below meth c C hr
  have hF : ∀ k i, True → M k i = M k i := fun _ _ _ => rfl
  have hG : ∀ k i, True → L k i = L k i := fun _ _ _ => rfl
  refine g_lload_n C 0 dX11_gcd_0 rfl ?_
  refine g_lconst C 0 dX11_gcd_1 (by decide) ?_
  refine g_lcmp C dX11_gcd_2 ?_
  refine g_ni (fun v1 ev1 => ?_)
  refine g_if_ge C 11 dX11_gcd_3 (by decide) (fun c2 => ?_) (fun c2 => ?_)
  ·
    have f3 := cge rfl (by decide : (0 : Int64).toInt = 0) ev1 c2
    refine g_lload_n C 0 dX11_gcd_11 rfl ?_
    have hdn : ∀ t : Int, t ∣ x.toInt ↔ t ∣ x.toInt := fun t => Iff.rfl
    have hsg : -9223372036854775808 < x.toInt → 0 ≤ x.toInt := fun _ => by omega
    refine g_lstore C [(4, .long x), (0, .long x), (2, .long y)] dX11_gcd_12 (by decide) rfl ?_
    refine g_lload_n C 2 dX11_gcd_14 rfl ?_
    refine g_lstore C [(6, .long y), (4, .long x), (0, .long x), (2, .long y)] dX11_gcd_15 (by decide) rfl ?_
    refine g_loop (α := Int64 × Int64 × MI × ML) (fun a => a.2.1.toInt.natAbs) (fun a => (∀ t : Int, (t ∣ a.1.toInt ∧ t ∣ a.2.1.toInt) ↔ (t ∣ x.toInt ∧ t ∣ y.toInt)) ∧ (-9223372036854775808 < x.toInt → 0 ≤ y.toInt → 0 ≤ a.1.toInt ∧ 0 ≤ a.2.1.toInt) ∧ IR a.2.2.1 ∧ (∀ k i, True → a.2.2.1 k i = M k i) ∧ (∀ k i, True → a.2.2.2 k i = L k i)) (fun a => a.2.2.1) (fun a => a.2.2.2) (fun a => [(6, .long a.2.1), (4, .long a.1), (0, .long x), (2, .long y)]) (x, y, M, L) ⟨by show ∀ t : Int, (t ∣ x.toInt ∧ t ∣ y.toInt) ↔ (t ∣ x.toInt ∧ t ∣ y.toInt); intro t; rw [hdn t], by show -9223372036854775808 < x.toInt → 0 ≤ y.toInt → 0 ≤ x.toInt ∧ 0 ≤ y.toInt; exact fun h1 h2 => ⟨hsg h1, h2⟩, hI, hF, hG⟩ rfl rfl rfl ?_
    rintro ⟨x4_17, x6_17, M_17, L_17⟩ ⟨j17_0, j17_1, hI, hF, hG⟩ ih_17
    dsimp only at j17_0 j17_1 hI hF hG ih_17 ⊢
    refine g_lload C 0 dX11_gcd_17 rfl ?_
    refine g_lconst C 0 dX11_gcd_19 (by decide) ?_
    refine g_lcmp C dX11_gcd_20 ?_
    refine g_ni (fun v4 ev4 => ?_)
    refine g_if_eq C 42 dX11_gcd_21 (by decide) (fun c5 => ?_) (fun c5 => ?_)
    ·
      have f6 := ceq rfl (by decide : (0 : Int64).toInt = 0) ev4 c5
      refine g_lload C 1 dX11_gcd_42 rfl ?_
      have hgg := (j17_0 x4_17.toInt).mp ⟨Int.dvd_refl _, by rw [show x6_17.toInt = 0 by omega]; exact Int.dvd_zero _⟩
      exact g_lret C hr ⟨funext (fun k => funext (fun i => hF k i trivial)), funext (fun k => funext (fun i => hG k i trivial)), ⟨hgg.1, hgg.2, fun t h1 h2 => ((j17_0 t).mpr ⟨h1, h2⟩).1, fun h1 h2 => (j17_1 h1 h2).1⟩⟩ dX11_gcd_44
    ·
      have f7 := cne rfl (by decide : (0 : Int64).toInt = 0) ev4 c5
      refine g_lload C 1 dX11_gcd_24 rfl ?_
      refine g_lload C 0 dX11_gcd_26 rfl ?_
      refine g_lrem C dX11_gcd_28 (by intro h9; have h8 := congrArg Int64.toInt h9; have h7 : (0 : Int64).toInt = 0 := (by decide); omega) ?_
      refine g_nl (fun v8 ev8 => ?_)
      have fv8 := lremI ev8
      refine g_lstore C [(8, .long v8), (6, .long x6_17), (4, .long x4_17), (0, .long x), (2, .long y)] dX11_gcd_29 (by decide) rfl ?_
      refine g_lload C 1 dX11_gcd_31 rfl ?_
      refine g_lstore C [(4, .long x6_17), (8, .long v8), (6, .long x6_17), (0, .long x), (2, .long y)] dX11_gcd_33 (by decide) rfl ?_
      refine g_lload C 1 dX11_gcd_35 rfl ?_
      refine g_lstore C [(6, .long v8), (4, .long x6_17), (8, .long v8), (0, .long x), (2, .long y)] dX11_gcd_37 (by decide) rfl ?_
      refine g_goto C 17 dX11_gcd_39 (by decide) ?_
      refine g_lv [0, 1, 3, 4] [(6, .long v8), (4, .long x6_17), (0, .long x), (2, .long y)] rfl ?_
      exact ih_17 (x6_17, v8, M_17, L_17) ⟨by show ∀ t : Int, (t ∣ x6_17.toInt ∧ t ∣ v8.toInt) ↔ (t ∣ x.toInt ∧ t ∣ y.toInt); intro t; rw [fv8]; exact dvd_tmod.trans (j17_0 t), by show -9223372036854775808 < x.toInt → 0 ≤ y.toInt → 0 ≤ x6_17.toInt ∧ 0 ≤ v8.toInt; exact fun h1 h2 => ⟨(j17_1 h1 h2).2, by rw [fv8]; exact Int.tmod_nonneg _ (j17_1 h1 h2).1⟩, hI, hF, hG⟩ (by show v8.toInt.natAbs < x6_17.toInt.natAbs; rw [fv8]; exact tmod_abs (by omega))
  ·
    have f9 := cnge rfl (by decide : (0 : Int64).toInt = 0) ev1 c2
    refine g_lload_n C 0 dX11_gcd_6 rfl ?_
    refine g_lneg C dX11_gcd_7 ?_
    refine g_nl (fun v10 ev10 => ?_)
    have fv10 := lnegI ev10
    refine g_goto C 12 dX11_gcd_8 (by decide) ?_
    have hdn := fv10.1
    have hsg : -9223372036854775808 < x.toInt → 0 ≤ v10.toInt := fun h => by rw [fv10.2 h]; omega
    refine g_lstore C [(4, .long v10), (0, .long x), (2, .long y)] dX11_gcd_12 (by decide) rfl ?_
    refine g_lload_n C 2 dX11_gcd_14 rfl ?_
    refine g_lstore C [(6, .long y), (4, .long v10), (0, .long x), (2, .long y)] dX11_gcd_15 (by decide) rfl ?_
    refine g_loop (α := Int64 × Int64 × MI × ML) (fun a => a.2.1.toInt.natAbs) (fun a => (∀ t : Int, (t ∣ a.1.toInt ∧ t ∣ a.2.1.toInt) ↔ (t ∣ x.toInt ∧ t ∣ y.toInt)) ∧ (-9223372036854775808 < x.toInt → 0 ≤ y.toInt → 0 ≤ a.1.toInt ∧ 0 ≤ a.2.1.toInt) ∧ IR a.2.2.1 ∧ (∀ k i, True → a.2.2.1 k i = M k i) ∧ (∀ k i, True → a.2.2.2 k i = L k i)) (fun a => a.2.2.1) (fun a => a.2.2.2) (fun a => [(6, .long a.2.1), (4, .long a.1), (0, .long x), (2, .long y)]) (v10, y, M, L) ⟨by show ∀ t : Int, (t ∣ v10.toInt ∧ t ∣ y.toInt) ↔ (t ∣ x.toInt ∧ t ∣ y.toInt); intro t; rw [hdn t], by show -9223372036854775808 < x.toInt → 0 ≤ y.toInt → 0 ≤ v10.toInt ∧ 0 ≤ y.toInt; exact fun h1 h2 => ⟨hsg h1, h2⟩, hI, hF, hG⟩ rfl rfl rfl ?_
    rintro ⟨x4_17, x6_17, M_17, L_17⟩ ⟨j17_0, j17_1, hI, hF, hG⟩ ih_17
    dsimp only at j17_0 j17_1 hI hF hG ih_17 ⊢
    refine g_lload C 0 dX11_gcd_17 rfl ?_
    refine g_lconst C 0 dX11_gcd_19 (by decide) ?_
    refine g_lcmp C dX11_gcd_20 ?_
    refine g_ni (fun v11 ev11 => ?_)
    refine g_if_eq C 42 dX11_gcd_21 (by decide) (fun c12 => ?_) (fun c12 => ?_)
    ·
      have f13 := ceq rfl (by decide : (0 : Int64).toInt = 0) ev11 c12
      refine g_lload C 1 dX11_gcd_42 rfl ?_
      have hgg := (j17_0 x4_17.toInt).mp ⟨Int.dvd_refl _, by rw [show x6_17.toInt = 0 by omega]; exact Int.dvd_zero _⟩
      exact g_lret C hr ⟨funext (fun k => funext (fun i => hF k i trivial)), funext (fun k => funext (fun i => hG k i trivial)), ⟨hgg.1, hgg.2, fun t h1 h2 => ((j17_0 t).mpr ⟨h1, h2⟩).1, fun h1 h2 => (j17_1 h1 h2).1⟩⟩ dX11_gcd_44
    ·
      have f14 := cne rfl (by decide : (0 : Int64).toInt = 0) ev11 c12
      refine g_lload C 1 dX11_gcd_24 rfl ?_
      refine g_lload C 0 dX11_gcd_26 rfl ?_
      refine g_lrem C dX11_gcd_28 (by intro h9; have h8 := congrArg Int64.toInt h9; have h7 : (0 : Int64).toInt = 0 := (by decide); omega) ?_
      refine g_nl (fun v15 ev15 => ?_)
      have fv15 := lremI ev15
      refine g_lstore C [(8, .long v15), (6, .long x6_17), (4, .long x4_17), (0, .long x), (2, .long y)] dX11_gcd_29 (by decide) rfl ?_
      refine g_lload C 1 dX11_gcd_31 rfl ?_
      refine g_lstore C [(4, .long x6_17), (8, .long v15), (6, .long x6_17), (0, .long x), (2, .long y)] dX11_gcd_33 (by decide) rfl ?_
      refine g_lload C 1 dX11_gcd_35 rfl ?_
      refine g_lstore C [(6, .long v15), (4, .long x6_17), (8, .long v15), (0, .long x), (2, .long y)] dX11_gcd_37 (by decide) rfl ?_
      refine g_goto C 17 dX11_gcd_39 (by decide) ?_
      refine g_lv [0, 1, 3, 4] [(6, .long v15), (4, .long x6_17), (0, .long x), (2, .long y)] rfl ?_
      exact ih_17 (x6_17, v15, M_17, L_17) ⟨by show ∀ t : Int, (t ∣ x6_17.toInt ∧ t ∣ v15.toInt) ↔ (t ∣ x.toInt ∧ t ∣ y.toInt); intro t; rw [fv15]; exact dvd_tmod.trans (j17_0 t), by show -9223372036854775808 < x.toInt → 0 ≤ y.toInt → 0 ≤ x6_17.toInt ∧ 0 ≤ v15.toInt; exact fun h1 h2 => ⟨(j17_1 h1 h2).2, by rw [fv15]; exact Int.tmod_nonneg _ (j17_1 h1 h2).1⟩, hI, hF, hG⟩ (by show v15.toInt.natAbs < x6_17.toInt.natAbs; rw [fv15]; exact tmod_abs (by omega))
theorem dX11_fraction_0 : decode cX11_fraction 0 = .ok (.lload_n 1, 1) := dw31 (n := 0) (i := 0) kc_cX11_fraction_0 (by decide +kernel)
theorem dX11_fraction_1 : decode cX11_fraction 1 = .ok (.lload_n 3, 1) := dw33 (n := 0) (i := 1) kc_cX11_fraction_0 (by decide +kernel)
theorem dX11_fraction_2 : decode cX11_fraction 2 = .ok (.invokestatic 184, 3) := dw184 (n := 0) (i := 2) (a := 0) (b := 184) kc_cX11_fraction_0 (by decide +kernel) (by decide)
set_option maxRecDepth 20000 in
theorem ggX11_fraction_X11_gcd : GoodIn wsX11_fraction wsX11_gcd := (gk_code 8 rfl (gn))
set_option maxRecDepth 20000 in
theorem gX11_fraction_X11_gcd : GoodIn wsX11_fraction (va_wsS RX11 184 yX11_gcd wsX11_gcd) := goodIn_app (gk_methodLink 5 rfl (gk_static 6 rfl (gk_initialized 7 rfl (gn)))) ggX11_fraction_X11_gcd
theorem dX11_fraction_5 : decode cX11_fraction 5 = .ok (.lstore 5, 2) := dw55 (n := 0) (i := 5) (a := 5) kc_cX11_fraction_0 (by decide +kernel) (by decide)
theorem dX11_fraction_7 : decode cX11_fraction 7 = .ok (.aload_n 0, 1) := dw42 (n := 0) (i := 7) kc_cX11_fraction_0 (by decide +kernel)
theorem dX11_fraction_8 : decode cX11_fraction 8 = .ok (.lload_n 1, 1) := dw31 (n := 0) (i := 8) kc_cX11_fraction_0 (by decide +kernel)
theorem dX11_fraction_9 : decode cX11_fraction 9 = .ok (.lload 5, 2) := dw22 (n := 0) (i := 9) (a := 5) kc_cX11_fraction_0 (by decide +kernel) (by decide)
theorem dX11_fraction_11 : decode cX11_fraction 11 = .ok (.ldiv, 1) := dw109 (n := 0) (i := 11) kc_cX11_fraction_0 (by decide +kernel)
theorem dX11_fraction_12 : decode cX11_fraction 12 = .ok (.putfield 188, 3) := dw181 (n := 0) (i := 12) (a := 0) (b := 188) kc_cX11_fraction_0 (by decide +kernel) (by decide)
theorem in_X11_fraction_11 : ∀ w ∈ u_ws RX11 TX11 53, w ∈ wsX11_fraction := fun _ h => List.mem_cons_of_mem _ (List.mem_append_right _ h)
theorem dX11_fraction_15 : decode cX11_fraction 15 = .ok (.aload_n 0, 1) := dw42 (n := 0) (i := 15) kc_cX11_fraction_0 (by decide +kernel)
theorem dX11_fraction_16 : decode cX11_fraction 16 = .ok (.lload_n 3, 1) := dw33 (n := 0) (i := 16) kc_cX11_fraction_0 (by decide +kernel)
theorem dX11_fraction_17 : decode cX11_fraction 17 = .ok (.lload 5, 2) := dw22 (n := 0) (i := 17) (a := 5) kc_cX11_fraction_0 (by decide +kernel) (by decide)
theorem dX11_fraction_19 : decode cX11_fraction 19 = .ok (.ldiv, 1) := dw109 (n := 0) (i := 19) kc_cX11_fraction_0 (by decide +kernel)
theorem dX11_fraction_20 : decode cX11_fraction 20 = .ok (.putfield 192, 3) := dw181 (n := 0) (i := 20) (a := 0) (b := 192) kc_cX11_fraction_0 (by decide +kernel) (by decide)
theorem dX11_fraction_23 : decode cX11_fraction 23 = .ok (.aload_n 0, 1) := dw42 (n := 0) (i := 23) kc_cX11_fraction_0 (by decide +kernel)
theorem dX11_fraction_24 : decode cX11_fraction 24 = .ok (.aload_n 0, 1) := dw42 (n := 0) (i := 24) kc_cX11_fraction_0 (by decide +kernel)
theorem dX11_fraction_25 : decode cX11_fraction 25 = .ok (.getfield 195, 3) := dw180 (n := 0) (i := 25) (a := 0) (b := 195) kc_cX11_fraction_0 (by decide +kernel) (by decide)
theorem dX11_fraction_28 : decode cX11_fraction 28 = .ok (.ifCond .ne 25, 3) := dw154 (n := 0) (i := 28) (a := 0) (b := 25) kc_cX11_fraction_0 (by decide +kernel) (by decide)
theorem dX11_fraction_53 : decode cX11_fraction 53 = .ok (.iconst 1, 1) := dw4 (n := 32) (i := 21) kc_cX11_fraction_1 (by decide +kernel)
theorem dX11_fraction_54 : decode cX11_fraction 54 = .ok (.goto 4, 3) := dw167 (n := 32) (i := 22) (a := 0) (b := 4) kc_cX11_fraction_1 (by decide +kernel) (by decide)
theorem dX11_fraction_58 : decode cX11_fraction 58 = .ok (.putfield 195, 3) := dw181 (n := 32) (i := 26) (a := 0) (b := 195) kc_cX11_fraction_1 (by decide +kernel) (by decide)
theorem dX11_fraction_61 : decode cX11_fraction 61 = .ok (.return_, 1) := dw177 (n := 32) (i := 29) kc_cX11_fraction_1 (by decide +kernel)
theorem dX11_fraction_31 : decode cX11_fraction 31 = .ok (.aload_n 0, 1) := dw42 (n := 0) (i := 31) kc_cX11_fraction_0 (by decide +kernel)
theorem dX11_fraction_32 : decode cX11_fraction 32 = .ok (.getfield 188, 3) := dw180 (n := 32) (i := 0) (a := 0) (b := 188) kc_cX11_fraction_1 (by decide +kernel) (by decide)
theorem dX11_fraction_35 : decode cX11_fraction 35 = .ok (.ldc2_w 199, 3) := dw20 (n := 32) (i := 3) (a := 0) (b := 199) kc_cX11_fraction_1 (by decide +kernel) (by decide)
theorem dX11_fraction_38 : decode cX11_fraction 38 = .ok (.lcmp, 1) := dw148 (n := 32) (i := 6) kc_cX11_fraction_1 (by decide +kernel)
theorem dX11_fraction_39 : decode cX11_fraction 39 = .ok (.ifCond .gt 14, 3) := dw157 (n := 32) (i := 7) (a := 0) (b := 14) kc_cX11_fraction_1 (by decide +kernel) (by decide)
theorem dX11_fraction_42 : decode cX11_fraction 42 = .ok (.aload_n 0, 1) := dw42 (n := 32) (i := 10) kc_cX11_fraction_1 (by decide +kernel)
theorem dX11_fraction_43 : decode cX11_fraction 43 = .ok (.getfield 192, 3) := dw180 (n := 32) (i := 11) (a := 0) (b := 192) kc_cX11_fraction_1 (by decide +kernel) (by decide)
theorem dX11_fraction_46 : decode cX11_fraction 46 = .ok (.ldc2_w 199, 3) := dw20 (n := 32) (i := 14) (a := 0) (b := 199) kc_cX11_fraction_1 (by decide +kernel) (by decide)
theorem dX11_fraction_49 : decode cX11_fraction 49 = .ok (.lcmp, 1) := dw148 (n := 32) (i := 17) kc_cX11_fraction_1 (by decide +kernel)
theorem dX11_fraction_50 : decode cX11_fraction 50 = .ok (.ifCond .le 7, 3) := dw158 (n := 32) (i := 18) (a := 0) (b := 7) kc_cX11_fraction_1 (by decide +kernel) (by decide)
theorem dX11_fraction_57 : decode cX11_fraction 57 = .ok (.iconst 0, 1) := dw3 (n := 32) (i := 25) kc_cX11_fraction_1 (by decide +kernel)
set_option maxHeartbeats 4000000 in
set_option maxRecDepth 100000 in
theorem s_X11_fraction (l : Launch) (D : va_G) (ad : Nat → Nat) (cs : Nat → ClassId) (M : MI) (L : ML) (x : Int64) (y : Int64) (hI : IR M) (hne : ¬ (x.toInt = 0 ∧ y.toInt = 0)) : Cv l yX11_fraction wsX11_fraction ({ frames := 1, cells := 0, slots := 0, locals := 29 }) D ad cs [.ref (ad 258), .long x, .long y] M L (fun M1 L1 => (((L1 258 23).toInt % 2 = 1 ∨ (L1 258 24).toInt % 2 = 1) ∧ ((M1 258 25).toInt = 0 → (M 258 25).toInt = 0 ∧ (L1 258 23).toInt ≤ 1000000000 ∧ (L1 258 24).toInt ≤ 1000000000) ∧ (0 ≤ x.toInt → 0 < y.toInt → 0 ≤ (L1 258 23).toInt ∧ 0 < (L1 258 24).toInt)) ∧ IR M1 ∧ (∀ k i, ¬ (k = 258 ∧ i = 25) → M1 k i = M k i) ∧ ∀ k i, ¬ (k = 258 ∧ i = 23) ∧ ¬ (k = 258 ∧ i = 24) → L1 k i = L k i) := by
  refine enter_v RX11 rfl [(0, .ref (ad 258)), (1, .long x), (3, .long y)] rfl (Nat.le_of_ble_eq_true rfl) (by decide +kernel) rfl ?_
  intro p e s m below meth c C hr
  have hF : ∀ k i, ¬ (k = 258 ∧ i = 25) → M k i = M k i := fun _ _ _ => rfl
  have hG : ∀ k i, ¬ (k = 258 ∧ i = 23) ∧ ¬ (k = 258 ∧ i = 24) → L k i = L k i := fun _ _ _ => rfl
  have k25 : M 258 25 = M 258 25 := rfl
  have l23 : L 258 23 = L 258 23 := rfl
  have l24 : L 258 24 = L 258 24 := rfl
  refine g_lload_n C 1 dX11_fraction_0 rfl ?_
  refine g_lload_n C 2 dX11_fraction_1 rfl ?_
  refine g_callSl C (n := 2) (As := [.long x, .long y]) (st := []) (s_X11_gcd l D ad cs _ _ x y hI ) gX11_fraction_X11_gcd rfl rfl rfl (by decide +kernel) ⟨Nat.le_of_ble_eq_true rfl, Nat.le_of_ble_eq_true rfl⟩ rfl (Nat.le_of_ble_eq_true rfl) ⟨Nat.zero_le _, Nat.zero_le _⟩ rfl dX11_fraction_2 (fun r1 M2 L3 hr1 => ?_)
  obtain ⟨hq1, hq2, hr1⟩ := hr1
  obtain rfl := hq1.symm
  obtain rfl := hq2.symm
  obtain ⟨hr1a, hr1b, hr1m, hr1p⟩ := hr1
  have hg0 : r1.toInt ≠ 0 := fun h9 => hne ⟨by have h8 := hr1a; rw [h9] at h8; exact Int.zero_dvd.mp h8, by have h8 := hr1b; rw [h9] at h8; exact Int.zero_dvd.mp h8⟩
  have hlo := low_odd hg0 hr1a hr1b hr1m
  refine g_lstore C [(5, .long r1), (0, .ref (ad 258)), (1, .long x), (3, .long y)] dX11_fraction_5 (by decide) rfl ?_
  refine g_aload_n C 1 dX11_fraction_7 rfl ?_
  refine g_lload_n C 2 dX11_fraction_8 rfl ?_
  refine g_lload C 0 dX11_fraction_9 rfl ?_
  refine g_ldiv C dX11_fraction_11 (by intro h9; have h8 := congrArg Int64.toInt h9; have h7 : (0 : Int64).toInt = 0 := (by decide); omega) ?_
  refine g_nl (fun v4 ev4 => ?_)
  have fv4 := quoI ev4
  refine g_putJ C 23 in_X11_fraction_11 (List.mem_of_getElem? (i := 1) rfl) (by decide) (ce_model ad cs _ _) rfl (by decide) rfl tyX11 tyX11_ok nmX11 rfl rfl rfl rfl (Nat.le_of_ble_eq_true rfl) (by rw [sJ_k]; rfl) dX11_fraction_12 ?_
  refine g_nmL (fun L5 hL5 => ?_)
  have hG : ∀ k i, ¬ (k = 258 ∧ i = 23) ∧ ¬ (k = 258 ∧ i = 24) → L5 k i = L k i := fun k i hk => by (rw [hL5, sJ_at, if_neg (by omega)]; try exact hG k i hk)
  have l23 : L5 258 23 = v4 := by rw [hL5, sJ_at, if_pos (by decide)]
  have l24 : L5 258 24 = L 258 24 := by rw [hL5, sJ_at, if_neg (by decide)]; try exact l24
  refine g_aload_n C 1 dX11_fraction_15 rfl ?_
  refine g_lload_n C 3 dX11_fraction_16 rfl ?_
  refine g_lload C 0 dX11_fraction_17 rfl ?_
  refine g_ldiv C dX11_fraction_19 (by intro h9; have h8 := congrArg Int64.toInt h9; have h7 : (0 : Int64).toInt = 0 := (by decide); omega) ?_
  refine g_nl (fun v6 ev6 => ?_)
  have fv6 := quoI ev6
  refine g_putJ C 24 in_X11_fraction_11 (List.mem_of_getElem? (i := 2) rfl) (by decide) (ce_model ad cs _ _) rfl (by decide) rfl tyX11 tyX11_ok nmX11 rfl rfl rfl rfl (Nat.le_of_ble_eq_true rfl) (by rw [sJ_k]; rfl) dX11_fraction_20 ?_
  refine g_nmL (fun L7 hL7 => ?_)
  have hG : ∀ k i, ¬ (k = 258 ∧ i = 23) ∧ ¬ (k = 258 ∧ i = 24) → L7 k i = L k i := fun k i hk => by (rw [hL7, sJ_at, if_neg (by omega)]; try exact hG k i hk)
  have l23 : L7 258 23 = v4 := by rw [hL7, sJ_at, if_neg (by decide)]; try exact l23
  have l24 : L7 258 24 = v6 := by rw [hL7, sJ_at, if_pos (by decide)]
  refine g_aload_n C 1 dX11_fraction_23 rfl ?_
  refine g_aload_n C 1 dX11_fraction_24 rfl ?_
  refine g_get C (.int (M 258 25)) 25 in_X11_fraction_11 (List.mem_of_getElem? (i := 3) rfl) (by decide) (ce_model ad cs _ _) rfl (by decide) rfl rfl dX11_fraction_25 ?_
  refine g_ni (fun v8 ev8 => ?_)
  have gv8 : v8 = M 258 25 := ev8.trans k25
  have tv8 := congrArg Int32.toInt gv8
  obtain ⟨bv8, dv8⟩ := (show rg 0 1 v8 from (by rw [ev8]; exact hI 258 25))
  refine g_if_ne C 53 dX11_fraction_28 (by decide) (fun c9 => ?_) (fun c9 => ?_)
  ·
    have f10 := fne rfl (by decide : (0 : Int32).toInt = 0) c9
    refine g_iconst C 1 dX11_fraction_53 (by decide) ?_
    refine g_goto C 58 dX11_fraction_54 (by decide) ?_
    refine g_putI C 25 in_X11_fraction_11 (List.mem_of_getElem? (i := 3) rfl) (by decide) (ce_model ad cs _ _) rfl (by decide) rfl tyX11 tyX11_ok nmX11 rfl rfl rfl rfl (Nat.le_of_ble_eq_true rfl) (by rw [sI_k]; rfl) dX11_fraction_58 ?_
    refine g_nm (fun M11 hM11 => ?_)
    have zy12 : (1 : Int32).toInt = 1 := by decide
    have hI : IR M11 := by rw [hM11]; exact hI.st (show bR 258 25 _ from ⟨by first | omega | decide, by first | omega | decide⟩)
    have hF : ∀ k i, ¬ (k = 258 ∧ i = 25) → M11 k i = M k i := fun k i hk => by (rw [hM11, sI_at, if_neg (by omega)]; try exact hF k i hk)
    have k25 : M11 258 25 = 1 := by rw [hM11, sI_at, if_pos (by decide)]
    have lu := congrArg Int64.toInt l23
    have ld := congrArg Int64.toInt l24
    have ks := congrArg Int32.toInt k25
    have pu := bmod_par (x := x.toInt.tdiv r1.toInt)
    have pd := bmod_par (x := y.toInt.tdiv r1.toInt)
    rw [← fv4] at pu
    rw [← fv6] at pd
    have z1 : (1 : Int32).toInt = 1 := by decide
    have z0 : (0 : Int32).toInt = 0 := by decide
    exact g_vret C hr ⟨⟨by (rw [lu, ld]; omega), fun h9 => (by first | (exfalso; omega) | (rw [lu, ld]; exact ⟨by omega, by omega, by omega⟩)), fun h1 h2 => (by
      have bx1 := Int64.toInt_lt x
      have by1 := Int64.toInt_lt y
      have hgp := hr1p (by omega) (by omega)
      have q1 := Int.tdiv_nonneg h1 hgp
      have q2 := tdiv_pos9 (show 0 < r1.toInt by omega) hr1b h2
      have q3 := Int.tdiv_le_self r1.toInt h1
      have q4 := Int.tdiv_le_self r1.toInt (show 0 ≤ y.toInt by omega)
      rw [lu, ld, fv4, fv6, bmod_id (by omega) (by omega), bmod_id (by omega) (by omega)]
      exact ⟨q1, q2⟩)⟩, hI, hF, hG⟩ dX11_fraction_61
  ·
    have f13 := feq rfl (by decide : (0 : Int32).toInt = 0) c9
    refine g_aload_n C 1 dX11_fraction_31 rfl ?_
    refine g_get C (.long (L7 258 23)) 23 in_X11_fraction_11 (List.mem_of_getElem? (i := 1) rfl) (by decide) (ce_model ad cs _ _) rfl (by decide) rfl rfl dX11_fraction_32 ?_
    refine g_nl (fun v14 ev14 => ?_)
    have gv14 : v14 = v4 := ev14.trans l23
    have tv14 := congrArg Int64.toInt gv14
    refine g_ldc2 C 1000000000 (List.mem_of_getElem? (i := 4) rfl) dX11_fraction_35 ?_
    refine g_lcmp C dX11_fraction_38 ?_
    refine g_ni (fun v15 ev15 => ?_)
    refine g_if_gt C 53 dX11_fraction_39 (by decide) (fun c16 => ?_) (fun c16 => ?_)
    ·
      have f17 := cgt rfl (by decide : (1000000000 : Int64).toInt = 1000000000) ev15 c16
      refine g_iconst C 1 dX11_fraction_53 (by decide) ?_
      refine g_goto C 58 dX11_fraction_54 (by decide) ?_
      refine g_putI C 25 in_X11_fraction_11 (List.mem_of_getElem? (i := 3) rfl) (by decide) (ce_model ad cs _ _) rfl (by decide) rfl tyX11 tyX11_ok nmX11 rfl rfl rfl rfl (Nat.le_of_ble_eq_true rfl) (by rw [sI_k]; rfl) dX11_fraction_58 ?_
      refine g_nm (fun M18 hM18 => ?_)
      have zy19 : (1 : Int32).toInt = 1 := by decide
      have hI : IR M18 := by rw [hM18]; exact hI.st (show bR 258 25 _ from ⟨by first | omega | decide, by first | omega | decide⟩)
      have hF : ∀ k i, ¬ (k = 258 ∧ i = 25) → M18 k i = M k i := fun k i hk => by (rw [hM18, sI_at, if_neg (by omega)]; try exact hF k i hk)
      have k25 : M18 258 25 = 1 := by rw [hM18, sI_at, if_pos (by decide)]
      have lu := congrArg Int64.toInt l23
      have ld := congrArg Int64.toInt l24
      have ks := congrArg Int32.toInt k25
      have pu := bmod_par (x := x.toInt.tdiv r1.toInt)
      have pd := bmod_par (x := y.toInt.tdiv r1.toInt)
      rw [← fv4] at pu
      rw [← fv6] at pd
      have z1 : (1 : Int32).toInt = 1 := by decide
      have z0 : (0 : Int32).toInt = 0 := by decide
      exact g_vret C hr ⟨⟨by (rw [lu, ld]; omega), fun h9 => (by first | (exfalso; omega) | (rw [lu, ld]; exact ⟨by omega, by omega, by omega⟩)), fun h1 h2 => (by
      have bx1 := Int64.toInt_lt x
      have by1 := Int64.toInt_lt y
      have hgp := hr1p (by omega) (by omega)
      have q1 := Int.tdiv_nonneg h1 hgp
      have q2 := tdiv_pos9 (show 0 < r1.toInt by omega) hr1b h2
      have q3 := Int.tdiv_le_self r1.toInt h1
      have q4 := Int.tdiv_le_self r1.toInt (show 0 ≤ y.toInt by omega)
      rw [lu, ld, fv4, fv6, bmod_id (by omega) (by omega), bmod_id (by omega) (by omega)]
      exact ⟨q1, q2⟩)⟩, hI, hF, hG⟩ dX11_fraction_61
    ·
      have f20 := cngt rfl (by decide : (1000000000 : Int64).toInt = 1000000000) ev15 c16
      refine g_aload_n C 1 dX11_fraction_42 rfl ?_
      refine g_get C (.long (L7 258 24)) 24 in_X11_fraction_11 (List.mem_of_getElem? (i := 2) rfl) (by decide) (ce_model ad cs _ _) rfl (by decide) rfl rfl dX11_fraction_43 ?_
      refine g_nl (fun v21 ev21 => ?_)
      have gv21 : v21 = v6 := ev21.trans l24
      have tv21 := congrArg Int64.toInt gv21
      refine g_ldc2 C 1000000000 (List.mem_of_getElem? (i := 4) rfl) dX11_fraction_46 ?_
      refine g_lcmp C dX11_fraction_49 ?_
      refine g_ni (fun v22 ev22 => ?_)
      refine g_if_le C 57 dX11_fraction_50 (by decide) (fun c23 => ?_) (fun c23 => ?_)
      ·
        have f24 := cle rfl (by decide : (1000000000 : Int64).toInt = 1000000000) ev22 c23
        refine g_iconst C 0 dX11_fraction_57 (by decide) ?_
        refine g_putI C 25 in_X11_fraction_11 (List.mem_of_getElem? (i := 3) rfl) (by decide) (ce_model ad cs _ _) rfl (by decide) rfl tyX11 tyX11_ok nmX11 rfl rfl rfl rfl (Nat.le_of_ble_eq_true rfl) (by rw [sI_k]; rfl) dX11_fraction_58 ?_
        refine g_nm (fun M25 hM25 => ?_)
        have zy26 : (0 : Int32).toInt = 0 := by decide
        have hI : IR M25 := by rw [hM25]; exact hI.st (show bR 258 25 _ from ⟨by first | omega | decide, by first | omega | decide⟩)
        have hF : ∀ k i, ¬ (k = 258 ∧ i = 25) → M25 k i = M k i := fun k i hk => by (rw [hM25, sI_at, if_neg (by omega)]; try exact hF k i hk)
        have k25 : M25 258 25 = 0 := by rw [hM25, sI_at, if_pos (by decide)]
        have lu := congrArg Int64.toInt l23
        have ld := congrArg Int64.toInt l24
        have ks := congrArg Int32.toInt k25
        have pu := bmod_par (x := x.toInt.tdiv r1.toInt)
        have pd := bmod_par (x := y.toInt.tdiv r1.toInt)
        rw [← fv4] at pu
        rw [← fv6] at pd
        have z1 : (1 : Int32).toInt = 1 := by decide
        have z0 : (0 : Int32).toInt = 0 := by decide
        exact g_vret C hr ⟨⟨by (rw [lu, ld]; omega), fun h9 => (by first | (exfalso; omega) | (rw [lu, ld]; exact ⟨by omega, by omega, by omega⟩)), fun h1 h2 => (by
      have bx1 := Int64.toInt_lt x
      have by1 := Int64.toInt_lt y
      have hgp := hr1p (by omega) (by omega)
      have q1 := Int.tdiv_nonneg h1 hgp
      have q2 := tdiv_pos9 (show 0 < r1.toInt by omega) hr1b h2
      have q3 := Int.tdiv_le_self r1.toInt h1
      have q4 := Int.tdiv_le_self r1.toInt (show 0 ≤ y.toInt by omega)
      rw [lu, ld, fv4, fv6, bmod_id (by omega) (by omega), bmod_id (by omega) (by omega)]
      exact ⟨q1, q2⟩)⟩, hI, hF, hG⟩ dX11_fraction_61
      ·
        have f27 := cnle rfl (by decide : (1000000000 : Int64).toInt = 1000000000) ev22 c23
        refine g_iconst C 1 dX11_fraction_53 (by decide) ?_
        refine g_goto C 58 dX11_fraction_54 (by decide) ?_
        refine g_putI C 25 in_X11_fraction_11 (List.mem_of_getElem? (i := 3) rfl) (by decide) (ce_model ad cs _ _) rfl (by decide) rfl tyX11 tyX11_ok nmX11 rfl rfl rfl rfl (Nat.le_of_ble_eq_true rfl) (by rw [sI_k]; rfl) dX11_fraction_58 ?_
        refine g_nm (fun M28 hM28 => ?_)
        have zy29 : (1 : Int32).toInt = 1 := by decide
        have hI : IR M28 := by rw [hM28]; exact hI.st (show bR 258 25 _ from ⟨by first | omega | decide, by first | omega | decide⟩)
        have hF : ∀ k i, ¬ (k = 258 ∧ i = 25) → M28 k i = M k i := fun k i hk => by (rw [hM28, sI_at, if_neg (by omega)]; try exact hF k i hk)
        have k25 : M28 258 25 = 1 := by rw [hM28, sI_at, if_pos (by decide)]
        have lu := congrArg Int64.toInt l23
        have ld := congrArg Int64.toInt l24
        have ks := congrArg Int32.toInt k25
        have pu := bmod_par (x := x.toInt.tdiv r1.toInt)
        have pd := bmod_par (x := y.toInt.tdiv r1.toInt)
        rw [← fv4] at pu
        rw [← fv6] at pd
        have z1 : (1 : Int32).toInt = 1 := by decide
        have z0 : (0 : Int32).toInt = 0 := by decide
        exact g_vret C hr ⟨⟨by (rw [lu, ld]; omega), fun h9 => (by first | (exfalso; omega) | (rw [lu, ld]; exact ⟨by omega, by omega, by omega⟩)), fun h1 h2 => (by
      have bx1 := Int64.toInt_lt x
      have by1 := Int64.toInt_lt y
      have hgp := hr1p (by omega) (by omega)
      have q1 := Int.tdiv_nonneg h1 hgp
      have q2 := tdiv_pos9 (show 0 < r1.toInt by omega) hr1b h2
      have q3 := Int.tdiv_le_self r1.toInt h1
      have q4 := Int.tdiv_le_self r1.toInt (show 0 ≤ y.toInt by omega)
      rw [lu, ld, fv4, fv6, bmod_id (by omega) (by omega), bmod_id (by omega) (by omega)]
      exact ⟨q1, q2⟩)⟩, hI, hF, hG⟩ dX11_fraction_61
