set_option maxHeartbeats 4000000 in
set_option maxRecDepth 100000 in
theorem d_X11_digest (l : Launch) (D : va_G) (ad : Nat → Nat) (cs : Nat → ClassId) (M : MI) (L : ML)  (hI : IR M) (hT : ∀ i, M 274 i = if (vR M 13 i).toInt = 0 then 0 else 1) : Cl l yX11_digest wsX11_digest ({ frames := 3, cells := 0, slots := 0, locals := 65 }) D ad cs [.ref (ad 258)] M L (fun r M1 L1 => M1 = M ∧ L1 = L ∧ (r = A_digest (vR M))) := by
  refine enter_l RX11 rfl [(0, .ref (ad 258))] rfl (Nat.le_of_ble_eq_true rfl) (by decide +kernel) rfl ?_
  intro p e s m below meth c C hr
  have hF : ∀ k i, True → M k i = M k i := fun _ _ _ => rfl
  have hG : ∀ k i, True → L k i = L k i := fun _ _ _ => rfl
  have w0 : (vR M 0 0).toInt = (M 258 2).toInt := rfl
  have w1 : (vR M 0 1).toInt = (M 258 4).toInt := rfl
  have w2 : (vR M 0 2).toInt = (M 258 9).toInt := rfl
  have w3 : (vR M 0 3).toInt = (M 258 14).toInt := rfl
  obtain ⟨y0a, y0b⟩ := (show rg 0 10 (M 258 2) from hI 258 2)
  obtain ⟨y1a, y1b⟩ := (show rg 0 60 (M 258 4) from hI 258 4)
  obtain ⟨y2a, y2b⟩ := (show rg 0 8 (M 258 9) from hI 258 9)
  obtain ⟨y3a, y3b⟩ := (show rg 0 20 (M 258 14) from hI 258 14)
  have n00 := ixn (x := vR M 0 0) (by omega)
  have n01 := ixn (x := vR M 0 1) (by omega)
  have n02 := ixn (x := vR M 0 2) (by omega)
  have n03 := ixn (x := vR M 0 3) (by omega)
  refine g_ldc2 C 17 (List.mem_of_getElem? (i := 1) rfl) dX11_digest_0 ?_
  refine g_lstore_n C [(1, .long 17), (0, .ref (ad 258))] dX11_digest_3 (by decide) rfl ?_
  refine g_iconst C 0 dX11_digest_4 (by decide) ?_
  refine g_istore_n C [(3, .int 0), (1, .long 17), (0, .ref (ad 258))] dX11_digest_5 (by decide) rfl ?_
  have zy1 : (0 : Int32).toInt = 0 := by decide
  have zy2 : (17 : Int64).toInt = 17 := by decide
  refine g_loop (α := Int32 × Int64 × MI × ML) (fun a => (11 - a.1.toInt).toNat) (fun a => (0 ≤ a.1.toInt) ∧ (a.1.toInt ≤ (vR M 0 0).toInt) ∧ (a.2.1 = dg (vR M 1) a.1.toNatClampNeg 17) ∧ IR a.2.2.1 ∧ (∀ k i, True → a.2.2.1 k i = M k i) ∧ (∀ k i, True → a.2.2.2 k i = L k i)) (fun a => a.2.2.1) (fun a => a.2.2.2) (fun a => [(3, .int a.1), (1, .long a.2.1), (0, .ref (ad 258))]) ((0 : Int32), (17 : Int64), M, L) ⟨by show 0 ≤ (0 : Int32).toInt; omega, by show (0 : Int32).toInt ≤ (vR M 0 0).toInt; omega, by show (17 : Int64) = dg (vR M 1) (0 : Int32).toNatClampNeg 17; rw [dg_0], hI, hF, hG⟩ rfl rfl rfl ?_
  rintro ⟨x3_6, x1_6, M_6, L_6⟩ ⟨j6_0, j6_1, j6_2, hI, hF, hG⟩ ih_6
  dsimp only at j6_0 j6_1 j6_2 hI hF hG ih_6 ⊢
  have n_x3_6 := ixn (x := x3_6) (by omega)
  refine g_iload_n C 0 dX11_digest_6 rfl ?_
  refine g_aload_n C 2 dX11_digest_7 rfl ?_
  refine g_get C (.int (M_6 258 2)) 2 in_X11_digest_11 (List.mem_of_getElem? (i := 2) rfl) (by decide) (ce_model ad cs _ _) rfl (by decide) rfl rfl dX11_digest_8 ?_
  refine g_ni (fun v3 ev3 => ?_)
  have gv3 : v3 = vR M 0 0 := ev3.trans (hF 258 2 trivial)
  have tv3 := congrArg Int32.toInt gv3
  obtain ⟨bv3, dv3⟩ := (show rg 0 10 v3 from (by rw [ev3]; exact hI 258 2))
  refine g_icmp_ge C 34 dX11_digest_11 (by decide) (fun c4 => ?_) (fun c4 => ?_)
  ·
    have f5 := fle rfl rfl c4
    have jh1 : x1_6 = dH1 (vR M) := by rw [j6_2, show x3_6.toNatClampNeg = (vR M 0 0).toNatClampNeg by omega]; rfl
    refine g_iconst C 0 dX11_digest_34 (by decide) ?_
    refine g_istore_n C [(3, .int 0), (1, .long x1_6), (0, .ref (ad 258))] dX11_digest_35 (by decide) rfl ?_
    have zy6 : (0 : Int32).toInt = 0 := by decide
    refine g_loop (α := Int32 × Int64 × MI × ML) (fun a => (61 - a.1.toInt).toNat) (fun a => (0 ≤ a.1.toInt) ∧ (a.1.toInt ≤ (vR M 0 1).toInt) ∧ (a.2.1 = dgO (dgB (vR M)) a.1.toNatClampNeg (dH1 (vR M))) ∧ IR a.2.2.1 ∧ (∀ k i, True → a.2.2.1 k i = M k i) ∧ (∀ k i, True → a.2.2.2 k i = L k i)) (fun a => a.2.2.1) (fun a => a.2.2.2) (fun a => [(3, .int a.1), (1, .long a.2.1), (0, .ref (ad 258))]) ((0 : Int32), x1_6, M_6, L_6) ⟨by show 0 ≤ (0 : Int32).toInt; omega, by show (0 : Int32).toInt ≤ (vR M 0 1).toInt; omega, by show x1_6 = dgO (dgB (vR M)) (0 : Int32).toNatClampNeg (dH1 (vR M)); rw [dgO_0]; exact jh1, hI, hF, hG⟩ rfl rfl rfl ?_
    rintro ⟨x3_36, x1_36, M_36, L_36⟩ ⟨j36_0, j36_1, j36_2, hI, hF, hG⟩ ih_36
    dsimp only at j36_0 j36_1 j36_2 hI hF hG ih_36 ⊢
    have n_x3_36 := ixn (x := x3_36) (by omega)
    refine g_iload_n C 0 dX11_digest_36 rfl ?_
    refine g_aload_n C 2 dX11_digest_37 rfl ?_
    refine g_get C (.int (M_36 258 4)) 4 in_X11_digest_11 (List.mem_of_getElem? (i := 5) rfl) (by decide) (ce_model ad cs _ _) rfl (by decide) rfl rfl dX11_digest_38 ?_
    refine g_ni (fun v7 ev7 => ?_)
    have gv7 : v7 = vR M 0 1 := ev7.trans (hF 258 4 trivial)
    have tv7 := congrArg Int32.toInt gv7
    obtain ⟨bv7, dv7⟩ := (show rg 0 60 v7 from (by rw [ev7]; exact hI 258 4))
    refine g_icmp_ge C 149 dX11_digest_41 (by decide) (fun c8 => ?_) (fun c8 => ?_)
    ·
      have f9 := fle rfl rfl c8
      have jh2 : x1_36 = dH2 (vR M) := by rw [j36_2, show x3_36.toNatClampNeg = (vR M 0 1).toNatClampNeg by omega]; rfl
      refine g_iconst C 0 dX11_digest_149 (by decide) ?_
      refine g_istore_n C [(3, .int 0), (1, .long x1_36), (0, .ref (ad 258))] dX11_digest_150 (by decide) rfl ?_
      have zy10 : (0 : Int32).toInt = 0 := by decide
      refine g_loop (α := Int32 × Int64 × MI × ML) (fun a => (9 - a.1.toInt).toNat) (fun a => (0 ≤ a.1.toInt) ∧ (a.1.toInt ≤ (vR M 0 2).toInt) ∧ (a.2.1 = dgO (dgX (vR M)) a.1.toNatClampNeg (dH2 (vR M))) ∧ IR a.2.2.1 ∧ (∀ k i, True → a.2.2.1 k i = M k i) ∧ (∀ k i, True → a.2.2.2 k i = L k i)) (fun a => a.2.2.1) (fun a => a.2.2.2) (fun a => [(3, .int a.1), (1, .long a.2.1), (0, .ref (ad 258))]) ((0 : Int32), x1_36, M_36, L_36) ⟨by show 0 ≤ (0 : Int32).toInt; omega, by show (0 : Int32).toInt ≤ (vR M 0 2).toInt; omega, by show x1_36 = dgO (dgX (vR M)) (0 : Int32).toNatClampNeg (dH2 (vR M)); rw [dgO_0]; exact jh2, hI, hF, hG⟩ rfl rfl rfl ?_
      rintro ⟨x3_151, x1_151, M_151, L_151⟩ ⟨j151_0, j151_1, j151_2, hI, hF, hG⟩ ih_151
      dsimp only at j151_0 j151_1 j151_2 hI hF hG ih_151 ⊢
      have n_x3_151 := ixn (x := x3_151) (by omega)
      refine g_iload_n C 0 dX11_digest_151 rfl ?_
      refine g_aload_n C 2 dX11_digest_152 rfl ?_
      refine g_get C (.int (M_151 258 9)) 9 in_X11_digest_11 (List.mem_of_getElem? (i := 10) rfl) (by decide) (ce_model ad cs _ _) rfl (by decide) rfl rfl dX11_digest_153 ?_
      refine g_ni (fun v11 ev11 => ?_)
      have gv11 : v11 = vR M 0 2 := ev11.trans (hF 258 9 trivial)
      have tv11 := congrArg Int32.toInt gv11
      obtain ⟨bv11, dv11⟩ := (show rg 0 8 v11 from (by rw [ev11]; exact hI 258 9))
      refine g_icmp_ge C 205 dX11_digest_156 (by decide) (fun c12 => ?_) (fun c12 => ?_)
      ·
        have f13 := fle rfl rfl c12
        have jh3 : x1_151 = dH3 (vR M) := by rw [j151_2, show x3_151.toNatClampNeg = (vR M 0 2).toNatClampNeg by omega]; rfl
        refine g_iconst C 0 dX11_digest_205 (by decide) ?_
        refine g_istore_n C [(3, .int 0), (1, .long x1_151), (0, .ref (ad 258))] dX11_digest_206 (by decide) rfl ?_
        have zy14 : (0 : Int32).toInt = 0 := by decide
        refine g_loop (α := Int32 × Int64 × MI × ML) (fun a => (21 - a.1.toInt).toNat) (fun a => (0 ≤ a.1.toInt) ∧ (a.1.toInt ≤ (vR M 0 3).toInt) ∧ (a.2.1 = dgO (dgM (vR M)) a.1.toNatClampNeg (dH3 (vR M))) ∧ IR a.2.2.1 ∧ (∀ k i, True → a.2.2.1 k i = M k i) ∧ (∀ k i, True → a.2.2.2 k i = L k i)) (fun a => a.2.2.1) (fun a => a.2.2.2) (fun a => [(3, .int a.1), (1, .long a.2.1), (0, .ref (ad 258))]) ((0 : Int32), x1_151, M_151, L_151) ⟨by show 0 ≤ (0 : Int32).toInt; omega, by show (0 : Int32).toInt ≤ (vR M 0 3).toInt; omega, by show x1_151 = dgO (dgM (vR M)) (0 : Int32).toNatClampNeg (dH3 (vR M)); rw [dgO_0]; exact jh3, hI, hF, hG⟩ rfl rfl rfl ?_
        rintro ⟨x3_207, x1_207, M_207, L_207⟩ ⟨j207_0, j207_1, j207_2, hI, hF, hG⟩ ih_207
        dsimp only at j207_0 j207_1 j207_2 hI hF hG ih_207 ⊢
        have n_x3_207 := ixn (x := x3_207) (by omega)
        refine g_iload_n C 0 dX11_digest_207 rfl ?_
        refine g_aload_n C 2 dX11_digest_208 rfl ?_
        refine g_get C (.int (M_207 258 14)) 14 in_X11_digest_11 (List.mem_of_getElem? (i := 13) rfl) (by decide) (ce_model ad cs _ _) rfl (by decide) rfl rfl dX11_digest_209 ?_
        refine g_ni (fun v15 ev15 => ?_)
        have gv15 : v15 = vR M 0 3 := ev15.trans (hF 258 14 trivial)
        have tv15 := congrArg Int32.toInt gv15
        obtain ⟨bv15, dv15⟩ := (show rg 0 20 v15 from (by rw [ev15]; exact hI 258 14))
        refine g_icmp_ge C 251 dX11_digest_212 (by decide) (fun c16 => ?_) (fun c16 => ?_)
        ·
          have f17 := fle rfl rfl c16
          refine g_lload_n C 1 dX11_digest_251 rfl ?_
          exact g_lret C hr ⟨funext (fun k => funext (fun i => hF k i trivial)), funext (fun k => funext (fun i => hG k i trivial)), (by rw [j207_2, show x3_207.toNatClampNeg = (vR M 0 3).toNatClampNeg by omega]; rfl)⟩ dX11_digest_252
        ·
          have f18 := fnle rfl rfl c16
          refine g_iconst C 0 dX11_digest_215 (by decide) ?_
          refine g_istore C [(4, .int 0), (3, .int x3_207), (1, .long x1_207), (0, .ref (ad 258))] dX11_digest_216 (by decide) rfl ?_
          have zy19 : (0 : Int32).toInt = 0 := by decide
          refine g_loop (α := Int32 × Int64 × MI × ML) (fun a => (5 - a.1.toInt).toNat) (fun a => (0 ≤ a.1.toInt) ∧ (a.1.toInt ≤ 4) ∧ (a.2.1 = dg (fun w => A_methodOf (vR M) (Int32.ofNat x3_207.toNatClampNeg) (Int32.ofNat w)) a.1.toNatClampNeg x1_207) ∧ IR a.2.2.1 ∧ (∀ k i, True → a.2.2.1 k i = M k i) ∧ (∀ k i, True → a.2.2.2 k i = L k i)) (fun a => a.2.2.1) (fun a => a.2.2.2) (fun a => [(4, .int a.1), (3, .int x3_207), (1, .long a.2.1), (0, .ref (ad 258))]) ((0 : Int32), x1_207, M_207, L_207) ⟨by show 0 ≤ (0 : Int32).toInt; omega, by show (0 : Int32).toInt ≤ 4; omega, by show x1_207 = dg (fun w => A_methodOf (vR M) (Int32.ofNat x3_207.toNatClampNeg) (Int32.ofNat w)) (0 : Int32).toNatClampNeg x1_207; rw [dg_0], hI, hF, hG⟩ rfl rfl rfl ?_
          rintro ⟨x4_218, x1_218, M_218, L_218⟩ ⟨j218_0, j218_1, j218_2, hI, hF, hG⟩ ih_218
          dsimp only at j218_0 j218_1 j218_2 hI hF hG ih_218 ⊢
          have n_x4_218 := ixn (x := x4_218) (by omega)
          refine g_iload C 0 dX11_digest_218 rfl ?_
          refine g_iconst C 4 dX11_digest_220 (by decide) ?_
          refine g_icmp_ge C 245 dX11_digest_221 (by decide) (fun c20 => ?_) (fun c20 => ?_)
          ·
            have f21 := fle (by decide : (4 : Int32).toInt = 4) rfl c20
            obtain ⟨v22, ev22⟩ : ∃ y : Int32, y = x3_207 + 1 := ⟨_, rfl⟩
            try have fv22 := fadd rfl (by decide : (1 : Int32).toInt = 1) ev22 (by omega) (by omega)
            refine g_iinc C 1 v22 [(3, .int v22), (4, .int x4_218), (1, .long x1_218), (0, .ref (ad 258))] dX11_digest_245 rfl (by rw [ev22]; rfl) (by decide) rfl ?_
            refine g_goto C 207 dX11_digest_248 (by decide) ?_
            refine g_lv [0, 2, 3] [(3, .int v22), (1, .long x1_218), (0, .ref (ad 258))] rfl ?_
            have nv := ixn (x := v22) (by omega)
            have iv : v22.toNatClampNeg = x3_207.toNatClampNeg + 1 := by omega
            exact ih_207 (v22, x1_218, M_218, L_218) ⟨by show 0 ≤ v22.toInt; omega, by show v22.toInt ≤ (vR M 0 3).toInt; omega, by show x1_218 = dgO (dgM (vR M)) v22.toNatClampNeg (dH3 (vR M)); rw [iv, dgO_s, ← j207_2, j218_2, show x4_218.toNatClampNeg = 4 by omega]; rfl, hI, hF, hG⟩ (by show (21 - v22.toInt).toNat < (21 - x3_207.toInt).toNat; omega)
          ·
            have f23 := fnle (by decide : (4 : Int32).toInt = 4) rfl c20
            refine g_ldc2 C 31 (List.mem_of_getElem? (i := 3) rfl) dX11_digest_224 ?_
            refine g_lload_n C 2 dX11_digest_227 rfl ?_
            refine g_lmul C dX11_digest_228 ?_
            refine g_nl (fun v24 ev24 => ?_)
            try have fv24 := prodI ev24
            refine g_aload_n C 3 dX11_digest_229 rfl ?_
            refine g_iload_n C 1 dX11_digest_230 rfl ?_
            refine g_iload C 0 dX11_digest_231 rfl ?_
            refine g_callVi C (n := 2) (As := [.int x3_207, .int x4_218]) (st := [.long v24]) (s_X11_methodOf l D ad cs _ _ x3_207 x4_218 hI (by intro i; rw [hF 274 i trivial]; have e : M_218 = M := funext (fun k => funext (fun i => hF k i trivial)); rw [e]; exact hT i)) gX11_digest_X11_methodOf rfl rfl rfl (by decide +kernel) ⟨Nat.le_of_ble_eq_true rfl, Nat.le_of_ble_eq_true rfl⟩ rfl (Nat.le_of_ble_eq_true rfl) ⟨Nat.zero_le _, Nat.zero_le _⟩ (by decide) (ce_model ad cs _ _) rfl rfl dX11_digest_233 (fun r25 M26 L27 hr25 => ?_)
            obtain ⟨hq1, hq2, hr25⟩ := hr25
            obtain rfl := hq1.symm
            obtain rfl := hq2.symm
            have eM : M_218 = M := funext (fun k => funext (fun i => hF k i trivial))
            rw [eM] at hr25
            refine g_i2l C dX11_digest_236 ?_
            refine g_nl (fun v28 ev28 => ?_)
            have fv28 := fi2l rfl ev28
            refine g_ladd C dX11_digest_237 ?_
            refine g_nl (fun v29 ev29 => ?_)
            try have fv29 := fladd rfl rfl ev29 (by omega) (by omega)
            refine g_lstore_n C [(1, .long v29), (4, .int x4_218), (3, .int x3_207), (0, .ref (ad 258))] dX11_digest_238 (by decide) rfl ?_
            obtain ⟨v30, ev30⟩ : ∃ y : Int32, y = x4_218 + 1 := ⟨_, rfl⟩
            try have fv30 := fadd rfl (by decide : (1 : Int32).toInt = 1) ev30 (by omega) (by omega)
            refine g_iinc C 1 v30 [(4, .int v30), (1, .long v29), (3, .int x3_207), (0, .ref (ad 258))] dX11_digest_239 rfl (by rw [ev30]; rfl) (by decide) rfl ?_
            refine g_goto C 218 dX11_digest_242 (by decide) ?_
            refine g_lv [0, 2, 1, 3] [(4, .int v30), (3, .int x3_207), (1, .long v29), (0, .ref (ad 258))] rfl ?_
            have nv := ixn (x := v30) (by omega)
            have iv : v30.toNatClampNeg = x4_218.toNatClampNeg + 1 := by omega
            exact ih_218 (v30, v29, M_218, L_218) ⟨by show 0 ≤ v30.toInt; omega, by show v30.toInt ≤ 4; omega, by show v29 = dg (fun w => A_methodOf (vR M) (Int32.ofNat x3_207.toNatClampNeg) (Int32.ofNat w)) v30.toNatClampNeg x1_207; rw [iv, dg_s, ← j218_2, of_ix (x := x3_207) (by omega), of_ix (x := x4_218) (by omega)]; first | done | (simp only [ev29, ev28, hr25, ev24, gv15, gv11, gv7, gv3]; done) | (simp only [ev29, ev28, hr25, ev24, gv15, gv11, gv7, gv3]; rfl), hI, hF, hG⟩ (by show (5 - v30.toInt).toNat < (5 - x4_218.toInt).toNat; omega)
      ·
        have f31 := fnle rfl rfl c12
        obtain ⟨sza, szb⟩ := (show rg 0 40 (vR M 7 x3_151.toNatClampNeg) from (by have h9 := hI 266 x3_151.toNatClampNeg; rw [hF 266 _ trivial] at h9; exact h9))
        have ns7 := ixn (x := vR M 7 x3_151.toNatClampNeg) sza
        refine g_iconst C 0 dX11_digest_159 (by decide) ?_
        refine g_istore C [(4, .int 0), (3, .int x3_151), (1, .long x1_151), (0, .ref (ad 258))] dX11_digest_160 (by decide) rfl ?_
        have zy32 : (0 : Int32).toInt = 0 := by decide
        refine g_loop (α := Int32 × Int64 × MI × ML) (fun a => (41 - a.1.toInt).toNat) (fun a => (0 ≤ a.1.toInt) ∧ (a.1.toInt ≤ (vR M 7 x3_151.toNatClampNeg).toInt) ∧ (a.2.1 = dg (fun i => vR M 8 (40 * x3_151.toNatClampNeg + i)) a.1.toNatClampNeg x1_151) ∧ IR a.2.2.1 ∧ (∀ k i, True → a.2.2.1 k i = M k i) ∧ (∀ k i, True → a.2.2.2 k i = L k i)) (fun a => a.2.2.1) (fun a => a.2.2.2) (fun a => [(4, .int a.1), (3, .int x3_151), (1, .long a.2.1), (0, .ref (ad 258))]) ((0 : Int32), x1_151, M_151, L_151) ⟨by show 0 ≤ (0 : Int32).toInt; omega, by show (0 : Int32).toInt ≤ (vR M 7 x3_151.toNatClampNeg).toInt; omega, by show x1_151 = dg (fun i => vR M 8 (40 * x3_151.toNatClampNeg + i)) (0 : Int32).toNatClampNeg x1_151; rw [dg_0], hI, hF, hG⟩ rfl rfl rfl ?_
        rintro ⟨x4_162, x1_162, M_162, L_162⟩ ⟨j162_0, j162_1, j162_2, hI, hF, hG⟩ ih_162
        dsimp only at j162_0 j162_1 j162_2 hI hF hG ih_162 ⊢
        have n_x4_162 := ixn (x := x4_162) (by omega)
        refine g_iload C 0 dX11_digest_162 rfl ?_
        refine g_aload_n C 3 dX11_digest_164 rfl ?_
        refine g_get C (.ref (ad 266)) 11 in_X11_digest_11 (List.mem_of_getElem? (i := 11) rfl) (by decide) (ce_model ad cs _ _) rfl (by decide) rfl rfl dX11_digest_165 ?_
        refine g_iload_n C 1 dX11_digest_168 rfl ?_
        refine g_iald C (by decide) (ce_m_boxSize ad cs _ _) (fin' (n := 8) rfl (by omega) (by omega)) dX11_digest_169 ?_
        refine g_ni (fun v33 ev33 => ?_)
        have gv33 : v33 = vR M 7 x3_151.toNatClampNeg := ev33.trans (hF 266 x3_151.toNatClampNeg trivial)
        have tv33 := congrArg Int32.toInt gv33
        obtain ⟨bv33, dv33⟩ := (show rg 0 40 v33 from (by rw [ev33]; exact hI 266 x3_151.toNatClampNeg))
        refine g_icmp_ge C 199 dX11_digest_170 (by decide) (fun c34 => ?_) (fun c34 => ?_)
        ·
          have f35 := fle rfl rfl c34
          obtain ⟨v36, ev36⟩ : ∃ y : Int32, y = x3_151 + 1 := ⟨_, rfl⟩
          try have fv36 := fadd rfl (by decide : (1 : Int32).toInt = 1) ev36 (by omega) (by omega)
          refine g_iinc C 1 v36 [(3, .int v36), (4, .int x4_162), (1, .long x1_162), (0, .ref (ad 258))] dX11_digest_199 rfl (by rw [ev36]; rfl) (by decide) rfl ?_
          refine g_goto C 151 dX11_digest_202 (by decide) ?_
          refine g_lv [0, 2, 3] [(3, .int v36), (1, .long x1_162), (0, .ref (ad 258))] rfl ?_
          have nv := ixn (x := v36) (by omega)
          have iv : v36.toNatClampNeg = x3_151.toNatClampNeg + 1 := by omega
          exact ih_151 (v36, x1_162, M_162, L_162) ⟨by show 0 ≤ v36.toInt; omega, by show v36.toInt ≤ (vR M 0 2).toInt; omega, by show x1_162 = dgO (dgX (vR M)) v36.toNatClampNeg (dH2 (vR M)); rw [iv, dgO_s, ← j151_2, j162_2, show x4_162.toNatClampNeg = (vR M 7 x3_151.toNatClampNeg).toNatClampNeg by omega]; rfl, hI, hF, hG⟩ (by show (9 - v36.toInt).toNat < (9 - x3_151.toInt).toNat; omega)
        ·
          have f37 := fnle rfl rfl c34
          refine g_ldc2 C 31 (List.mem_of_getElem? (i := 3) rfl) dX11_digest_173 ?_
          refine g_lload_n C 2 dX11_digest_176 rfl ?_
          refine g_lmul C dX11_digest_177 ?_
          refine g_nl (fun v38 ev38 => ?_)
          try have fv38 := prodI ev38
          refine g_aload_n C 3 dX11_digest_178 rfl ?_
          refine g_get C (.ref (ad 267)) 12 in_X11_digest_11 (List.mem_of_getElem? (i := 12) rfl) (by decide) (ce_model ad cs _ _) rfl (by decide) rfl rfl dX11_digest_179 ?_
          refine g_bipush C 40 dX11_digest_182 (by decide) ?_
          refine g_iload_n C 1 dX11_digest_184 rfl ?_
          refine g_imul C dX11_digest_185 ?_
          refine g_ni (fun v39 ev39 => ?_)
          try have fv39 := fmul (by decide : (40 : Int32).toInt = 40) rfl ev39 (by omega) (by omega)
          refine g_iload C 0 dX11_digest_186 rfl ?_
          refine g_iadd C dX11_digest_188 ?_
          refine g_ni (fun v40 ev40 => ?_)
          try have fv40 := fadd rfl rfl ev40 (by omega) (by omega)
          refine g_iald C (by decide) (ce_m_boxed ad cs _ _) (fin' (n := 320) rfl (by omega) (by omega)) dX11_digest_189 ?_
          have nx3_151 := ixn (x := x3_151) (by omega)
          have nx4_162 := ixn (x := x4_162) (by omega)
          have nv40 := ixn (x := v40) (by omega)
          have iv40 : v40.toNatClampNeg = 40 * x3_151.toNatClampNeg + x4_162.toNatClampNeg := by omega
          refine g_ni (fun v41 ev41 => ?_)
          have gv41 : v41 = M 267 v40.toNatClampNeg := ev41.trans (hF 267 v40.toNatClampNeg trivial)
          have gv41 := cg1 (f := M 267) gv41 iv40
          have gv41 := gv41.trans (vR8 (M := M) (by omega)).symm
          have tv41 := congrArg Int32.toInt gv41
          have bv41 : bxd v41 := (by rw [ev41]; exact hI 267 v40.toNatClampNeg)
          unfold bxd at bv41
          refine g_i2l C dX11_digest_190 ?_
          refine g_nl (fun v42 ev42 => ?_)
          have fv42 := fi2l rfl ev42
          refine g_ladd C dX11_digest_191 ?_
          refine g_nl (fun v43 ev43 => ?_)
          try have fv43 := fladd rfl rfl ev43 (by omega) (by omega)
          refine g_lstore_n C [(1, .long v43), (4, .int x4_162), (3, .int x3_151), (0, .ref (ad 258))] dX11_digest_192 (by decide) rfl ?_
          obtain ⟨v44, ev44⟩ : ∃ y : Int32, y = x4_162 + 1 := ⟨_, rfl⟩
          try have fv44 := fadd rfl (by decide : (1 : Int32).toInt = 1) ev44 (by omega) (by omega)
          refine g_iinc C 1 v44 [(4, .int v44), (1, .long v43), (3, .int x3_151), (0, .ref (ad 258))] dX11_digest_193 rfl (by rw [ev44]; rfl) (by decide) rfl ?_
          refine g_goto C 162 dX11_digest_196 (by decide) ?_
          refine g_lv [0, 2, 1, 3] [(4, .int v44), (3, .int x3_151), (1, .long v43), (0, .ref (ad 258))] rfl ?_
          have nv := ixn (x := v44) (by omega)
          have iv : v44.toNatClampNeg = x4_162.toNatClampNeg + 1 := by omega
          exact ih_162 (v44, v43, M_162, L_162) ⟨by show 0 ≤ v44.toInt; omega, by show v44.toInt ≤ (vR M 7 x3_151.toNatClampNeg).toInt; omega, by show v43 = dg (fun i => vR M 8 (40 * x3_151.toNatClampNeg + i)) v44.toNatClampNeg x1_151; rw [iv, dg_s, ← j162_2]; first | done | (simp only [ev43, ev42, gv41, ev40, ev39, ev38, gv33, gv11, gv7, gv3]; done) | (simp only [ev43, ev42, gv41, ev40, ev39, ev38, gv33, gv11, gv7, gv3]; rfl), hI, hF, hG⟩ (by show (41 - v44.toInt).toNat < (41 - x4_162.toInt).toNat; omega)
    ·
      have f45 := fnle rfl rfl c8
      refine g_ldc2 C 31 (List.mem_of_getElem? (i := 3) rfl) dX11_digest_44 ?_
      refine g_ldc2 C 31 (List.mem_of_getElem? (i := 3) rfl) dX11_digest_47 ?_
      refine g_ldc2 C 31 (List.mem_of_getElem? (i := 3) rfl) dX11_digest_50 ?_
      refine g_lload_n C 1 dX11_digest_53 rfl ?_
      refine g_lmul C dX11_digest_54 ?_
      refine g_nl (fun v46 ev46 => ?_)
      try have fv46 := prodI ev46
      refine g_aload_n C 2 dX11_digest_55 rfl ?_
      refine g_get C (.ref (ad 261)) 5 in_X11_digest_11 (List.mem_of_getElem? (i := 6) rfl) (by decide) (ce_model ad cs _ _) rfl (by decide) rfl rfl dX11_digest_56 ?_
      refine g_iload_n C 0 dX11_digest_59 rfl ?_
      refine g_iald C (by decide) (ce_m_sortOf ad cs _ _) (fin' (n := 60) rfl (by omega) (by omega)) dX11_digest_60 ?_
      refine g_ni (fun v47 ev47 => ?_)
      have gv47 : v47 = vR M 2 x3_36.toNatClampNeg := ev47.trans (hF 261 x3_36.toNatClampNeg trivial)
      have tv47 := congrArg Int32.toInt gv47
      refine g_i2l C dX11_digest_61 ?_
      refine g_nl (fun v48 ev48 => ?_)
      have fv48 := fi2l rfl ev48
      refine g_ladd C dX11_digest_62 ?_
      refine g_nl (fun v49 ev49 => ?_)
      try have fv49 := fladd rfl rfl ev49 (by omega) (by omega)
      refine g_lmul C dX11_digest_63 ?_
      refine g_nl (fun v50 ev50 => ?_)
      try have fv50 := prodI ev50
      refine g_aload_n C 2 dX11_digest_64 rfl ?_
      refine g_get C (.ref (ad 262)) 6 in_X11_digest_11 (List.mem_of_getElem? (i := 7) rfl) (by decide) (ce_model ad cs _ _) rfl (by decide) rfl rfl dX11_digest_65 ?_
      refine g_iload_n C 0 dX11_digest_68 rfl ?_
      refine g_iald C (by decide) (ce_m_papersOf ad cs _ _) (fin' (n := 60) rfl (by omega) (by omega)) dX11_digest_69 ?_
      refine g_ni (fun v51 ev51 => ?_)
      have gv51 : v51 = vR M 3 x3_36.toNatClampNeg := ev51.trans (hF 262 x3_36.toNatClampNeg trivial)
      have tv51 := congrArg Int32.toInt gv51
      obtain ⟨bv51, dv51⟩ := (show rg 0 100000 v51 from (by rw [ev51]; exact hI 262 x3_36.toNatClampNeg))
      refine g_i2l C dX11_digest_70 ?_
      refine g_nl (fun v52 ev52 => ?_)
      have fv52 := fi2l rfl ev52
      refine g_ladd C dX11_digest_71 ?_
      refine g_nl (fun v53 ev53 => ?_)
      try have fv53 := fladd rfl rfl ev53 (by omega) (by omega)
      refine g_lmul C dX11_digest_72 ?_
      refine g_nl (fun v54 ev54 => ?_)
      try have fv54 := prodI ev54
      refine g_aload_n C 2 dX11_digest_73 rfl ?_
      refine g_get C (.ref (ad 263)) 7 in_X11_digest_11 (List.mem_of_getElem? (i := 8) rfl) (by decide) (ce_model ad cs _ _) rfl (by decide) rfl rfl dX11_digest_74 ?_
      refine g_iload_n C 0 dX11_digest_77 rfl ?_
      refine g_iald C (by decide) (ce_m_onIt ad cs _ _) (fin' (n := 60) rfl (by omega) (by omega)) dX11_digest_78 ?_
      refine g_ni (fun v55 ev55 => ?_)
      have gv55 : v55 = vR M 4 x3_36.toNatClampNeg := ev55.trans (hF 263 x3_36.toNatClampNeg trivial)
      have tv55 := congrArg Int32.toInt gv55
      obtain ⟨bv55, dv55⟩ := (show rg 0 10 v55 from (by rw [ev55]; exact hI 263 x3_36.toNatClampNeg))
      refine g_i2l C dX11_digest_79 ?_
      refine g_nl (fun v56 ev56 => ?_)
      have fv56 := fi2l rfl ev56
      refine g_ladd C dX11_digest_80 ?_
      refine g_nl (fun v57 ev57 => ?_)
      try have fv57 := fladd rfl rfl ev57 (by omega) (by omega)
      refine g_lstore_n C [(1, .long v57), (3, .int x3_36), (0, .ref (ad 258))] dX11_digest_81 (by decide) rfl ?_
      have h31 : v57 = dg (tlV (vR M) x3_36.toNatClampNeg) 3 x1_36 := by rw [dg_3]; simp only [ev57, ev56, gv55, ev54, ev53, ev52, gv51, ev50, ev49, ev48, gv47, ev46, gv7, gv3]
      refine g_aload_n C 2 dX11_digest_82 rfl ?_
      refine g_get C (.ref (ad 261)) 5 in_X11_digest_11 (List.mem_of_getElem? (i := 6) rfl) (by decide) (ce_model ad cs _ _) rfl (by decide) rfl rfl dX11_digest_83 ?_
      refine g_iload_n C 1 dX11_digest_86 rfl ?_
      refine g_iald C (by decide) (ce_m_sortOf ad cs _ _) (fin' (n := 60) rfl (by omega) (by omega)) dX11_digest_87 ?_
      refine g_ni (fun v58 ev58 => ?_)
      have gv58 : v58 = vR M 2 x3_36.toNatClampNeg := ev58.trans (hF 261 x3_36.toNatClampNeg trivial)
      have tv58 := congrArg Int32.toInt gv58
      refine g_iconst C 3 dX11_digest_88 (by decide) ?_
      refine g_icmp_ne C 99 dX11_digest_89 (by decide) (fun c59 => ?_) (fun c59 => ?_)
      ·
        have f60 := fne rfl (by decide : (3 : Int32).toInt = 3) c59
        refine g_aload_n C 2 dX11_digest_99 rfl ?_
        refine g_get C (.ref (ad 263)) 7 in_X11_digest_11 (List.mem_of_getElem? (i := 8) rfl) (by decide) (ce_model ad cs _ _) rfl (by decide) rfl rfl dX11_digest_100 ?_
        refine g_iload_n C 1 dX11_digest_103 rfl ?_
        refine g_iald C (by decide) (ce_m_onIt ad cs _ _) (fin' (n := 60) rfl (by omega) (by omega)) dX11_digest_104 ?_
        refine g_ni (fun v61 ev61 => ?_)
        have gv61 : v61 = vR M 4 x3_36.toNatClampNeg := ev61.trans (hF 263 x3_36.toNatClampNeg trivial)
        have tv61 := congrArg Int32.toInt gv61
        obtain ⟨bv61, dv61⟩ := (show rg 0 10 v61 from (by rw [ev61]; exact hI 263 x3_36.toNatClampNeg))
        refine g_istore C [(4, .int v61), (1, .long v57), (3, .int x3_36), (0, .ref (ad 258))] dX11_digest_105 (by decide) rfl ?_
        have hnw : v61.toInt = (nwV (vR M) x3_36.toNatClampNeg).toInt := by unfold nwV; first | (rw [if_pos (by omega)]; simp only [gv61, gv58, ev57, ev56, gv55, ev54, ev53, ev52, gv51, ev50, ev49, ev48, gv47, ev46, gv7, gv3]) | (rw [if_neg (by omega)]; simp only [gv61, gv58, ev57, ev56, gv55, ev54, ev53, ev52, gv51, ev50, ev49, ev48, gv47, ev46, gv7, gv3])
        have nn9 := ixn (x := nwV (vR M) x3_36.toNatClampNeg) (by omega)
        refine g_iconst C 0 dX11_digest_107 (by decide) ?_
        refine g_istore C [(5, .int 0), (4, .int v61), (1, .long v57), (3, .int x3_36), (0, .ref (ad 258))] dX11_digest_108 (by decide) rfl ?_
        have zy62 : (0 : Int32).toInt = 0 := by decide
        refine g_loop (α := Int32 × Int64 × MI × ML) (fun a => (11 - a.1.toInt).toNat) (fun a => (0 ≤ a.1.toInt) ∧ (a.1.toInt ≤ (nwV (vR M) x3_36.toNatClampNeg).toInt) ∧ (a.2.1 = dg (tlV (vR M) x3_36.toNatClampNeg) (3 + a.1.toNatClampNeg) x1_36) ∧ IR a.2.2.1 ∧ (∀ k i, True → a.2.2.1 k i = M k i) ∧ (∀ k i, True → a.2.2.2 k i = L k i)) (fun a => a.2.2.1) (fun a => a.2.2.2) (fun a => [(5, .int a.1), (4, .int v61), (1, .long a.2.1), (3, .int x3_36), (0, .ref (ad 258))]) ((0 : Int32), v57, M_36, L_36) ⟨by show 0 ≤ (0 : Int32).toInt; omega, by show (0 : Int32).toInt ≤ (nwV (vR M) x3_36.toNatClampNeg).toInt; omega, by show v57 = dg (tlV (vR M) x3_36.toNatClampNeg) (3 + (0 : Int32).toNatClampNeg) x1_36; rw [dg_30]; exact h31, hI, hF, hG⟩ rfl rfl rfl ?_
        rintro ⟨x5_110, x1_110, M_110, L_110⟩ ⟨j110_0, j110_1, j110_2, hI, hF, hG⟩ ih_110
        dsimp only at j110_0 j110_1 j110_2 hI hF hG ih_110 ⊢
        have n_x5_110 := ixn (x := x5_110) (by omega)
        refine g_iload C 0 dX11_digest_110 rfl ?_
        refine g_iload C 1 dX11_digest_112 rfl ?_
        refine g_icmp_ge C 143 dX11_digest_114 (by decide) (fun c63 => ?_) (fun c63 => ?_)
        ·
          have f64 := fle rfl rfl c63
          obtain ⟨v65, ev65⟩ : ∃ y : Int32, y = x3_36 + 1 := ⟨_, rfl⟩
          try have fv65 := fadd rfl (by decide : (1 : Int32).toInt = 1) ev65 (by omega) (by omega)
          refine g_iinc C 3 v65 [(3, .int v65), (5, .int x5_110), (4, .int v61), (1, .long x1_110), (0, .ref (ad 258))] dX11_digest_143 rfl (by rw [ev65]; rfl) (by decide) rfl ?_
          refine g_goto C 36 dX11_digest_146 (by decide) ?_
          refine g_lv [0, 3, 4] [(3, .int v65), (1, .long x1_110), (0, .ref (ad 258))] rfl ?_
          have nv := ixn (x := v65) (by omega)
          have iv : v65.toNatClampNeg = x3_36.toNatClampNeg + 1 := by omega
          exact ih_36 (v65, x1_110, M_110, L_110) ⟨by show 0 ≤ v65.toInt; omega, by show v65.toInt ≤ (vR M 0 1).toInt; omega, by show x1_110 = dgO (dgB (vR M)) v65.toNatClampNeg (dH1 (vR M)); rw [iv, dgO_s, ← j36_2, j110_2, show x5_110.toNatClampNeg = (nwV (vR M) x3_36.toNatClampNeg).toNatClampNeg by omega]; rfl, hI, hF, hG⟩ (by show (61 - v65.toInt).toNat < (61 - x3_36.toInt).toNat; omega)
        ·
          have f66 := fnle rfl rfl c63
          refine g_ldc2 C 31 (List.mem_of_getElem? (i := 3) rfl) dX11_digest_117 ?_
          refine g_lload_n C 2 dX11_digest_120 rfl ?_
          refine g_lmul C dX11_digest_121 ?_
          refine g_nl (fun v67 ev67 => ?_)
          try have fv67 := prodI ev67
          refine g_aload_n C 4 dX11_digest_122 rfl ?_
          refine g_get C (.ref (ad 264)) 8 in_X11_digest_11 (List.mem_of_getElem? (i := 9) rfl) (by decide) (ce_model ad cs _ _) rfl (by decide) rfl rfl dX11_digest_123 ?_
          refine g_bipush C 10 dX11_digest_126 (by decide) ?_
          refine g_iload_n C 3 dX11_digest_128 rfl ?_
          refine g_imul C dX11_digest_129 ?_
          refine g_ni (fun v68 ev68 => ?_)
          try have fv68 := fmul (by decide : (10 : Int32).toInt = 10) rfl ev68 (by omega) (by omega)
          refine g_iload C 0 dX11_digest_130 rfl ?_
          refine g_iadd C dX11_digest_132 ?_
          refine g_ni (fun v69 ev69 => ?_)
          try have fv69 := fadd rfl rfl ev69 (by omega) (by omega)
          refine g_iald C (by decide) (ce_m_marks ad cs _ _) (fin' (n := 600) rfl (by omega) (by omega)) dX11_digest_133 ?_
          have nx3_36 := ixn (x := x3_36) (by omega)
          have nx5_110 := ixn (x := x5_110) (by omega)
          have nv69 := ixn (x := v69) (by omega)
          have iv69 : v69.toNatClampNeg = 10 * x3_36.toNatClampNeg + x5_110.toNatClampNeg := by omega
          refine g_ni (fun v70 ev70 => ?_)
          have gv70 : v70 = vR M 5 v69.toNatClampNeg := ev70.trans (hF 264 v69.toNatClampNeg trivial)
          have gv70 := cg1 (f := vR M 5) gv70 iv69
          have tv70 := congrArg Int32.toInt gv70
          obtain ⟨bv70, dv70⟩ := (show rg 0 9 v70 from (by rw [ev70]; exact hI 264 v69.toNatClampNeg))
          refine g_i2l C dX11_digest_134 ?_
          refine g_nl (fun v71 ev71 => ?_)
          have fv71 := fi2l rfl ev71
          refine g_ladd C dX11_digest_135 ?_
          refine g_nl (fun v72 ev72 => ?_)
          try have fv72 := fladd rfl rfl ev72 (by omega) (by omega)
          refine g_lstore_n C [(1, .long v72), (5, .int x5_110), (4, .int v61), (3, .int x3_36), (0, .ref (ad 258))] dX11_digest_136 (by decide) rfl ?_
          obtain ⟨v73, ev73⟩ : ∃ y : Int32, y = x5_110 + 1 := ⟨_, rfl⟩
          try have fv73 := fadd rfl (by decide : (1 : Int32).toInt = 1) ev73 (by omega) (by omega)
          refine g_iinc C 1 v73 [(5, .int v73), (1, .long v72), (4, .int v61), (3, .int x3_36), (0, .ref (ad 258))] dX11_digest_137 rfl (by rw [ev73]; rfl) (by decide) rfl ?_
          refine g_goto C 110 dX11_digest_140 (by decide) ?_
          refine g_lv [0, 2, 1, 3, 4] [(5, .int v73), (4, .int v61), (1, .long v72), (3, .int x3_36), (0, .ref (ad 258))] rfl ?_
          have nv := ixn (x := v73) (by omega)
          have iv : v73.toNatClampNeg = x5_110.toNatClampNeg + 1 := by omega
          exact ih_110 (v73, v72, M_110, L_110) ⟨by show 0 ≤ v73.toInt; omega, by show v73.toInt ≤ (nwV (vR M) x3_36.toNatClampNeg).toInt; omega, by show v72 = dg (tlV (vR M) x3_36.toNatClampNeg) (3 + v73.toNatClampNeg) x1_36; rw [iv, ← Nat.add_assoc, dg_s, ← j110_2, tlV_3]; first | done | (simp only [ev72, ev71, gv70, ev69, ev68, ev67, gv61, gv58, ev57, ev56, gv55, ev54, ev53, ev52, gv51, ev50, ev49, ev48, gv47, ev46, gv7, gv3]; done) | (simp only [ev72, ev71, gv70, ev69, ev68, ev67, gv61, gv58, ev57, ev56, gv55, ev54, ev53, ev52, gv51, ev50, ev49, ev48, gv47, ev46, gv7, gv3]; rfl), hI, hF, hG⟩ (by show (11 - v73.toInt).toNat < (11 - x5_110.toInt).toNat; omega)
      ·
        have f74 := feq rfl (by decide : (3 : Int32).toInt = 3) c59
        refine g_aload_n C 2 dX11_digest_92 rfl ?_
        refine g_get C (.int (M_36 258 2)) 2 in_X11_digest_11 (List.mem_of_getElem? (i := 2) rfl) (by decide) (ce_model ad cs _ _) rfl (by decide) rfl rfl dX11_digest_93 ?_
        refine g_ni (fun v75 ev75 => ?_)
        have gv75 : v75 = vR M 0 0 := ev75.trans (hF 258 2 trivial)
        have tv75 := congrArg Int32.toInt gv75
        obtain ⟨bv75, dv75⟩ := (show rg 0 10 v75 from (by rw [ev75]; exact hI 258 2))
        refine g_goto C 105 dX11_digest_96 (by decide) ?_
        refine g_istore C [(4, .int v75), (1, .long v57), (3, .int x3_36), (0, .ref (ad 258))] dX11_digest_105 (by decide) rfl ?_
        have hnw : v75.toInt = (nwV (vR M) x3_36.toNatClampNeg).toInt := by unfold nwV; first | (rw [if_pos (by omega)]; simp only [gv75, gv58, ev57, ev56, gv55, ev54, ev53, ev52, gv51, ev50, ev49, ev48, gv47, ev46, gv7, gv3]) | (rw [if_neg (by omega)]; simp only [gv75, gv58, ev57, ev56, gv55, ev54, ev53, ev52, gv51, ev50, ev49, ev48, gv47, ev46, gv7, gv3])
        have nn9 := ixn (x := nwV (vR M) x3_36.toNatClampNeg) (by omega)
        refine g_iconst C 0 dX11_digest_107 (by decide) ?_
        refine g_istore C [(5, .int 0), (4, .int v75), (1, .long v57), (3, .int x3_36), (0, .ref (ad 258))] dX11_digest_108 (by decide) rfl ?_
        have zy76 : (0 : Int32).toInt = 0 := by decide
        refine g_loop (α := Int32 × Int64 × MI × ML) (fun a => (11 - a.1.toInt).toNat) (fun a => (0 ≤ a.1.toInt) ∧ (a.1.toInt ≤ (nwV (vR M) x3_36.toNatClampNeg).toInt) ∧ (a.2.1 = dg (tlV (vR M) x3_36.toNatClampNeg) (3 + a.1.toNatClampNeg) x1_36) ∧ IR a.2.2.1 ∧ (∀ k i, True → a.2.2.1 k i = M k i) ∧ (∀ k i, True → a.2.2.2 k i = L k i)) (fun a => a.2.2.1) (fun a => a.2.2.2) (fun a => [(5, .int a.1), (4, .int v75), (1, .long a.2.1), (3, .int x3_36), (0, .ref (ad 258))]) ((0 : Int32), v57, M_36, L_36) ⟨by show 0 ≤ (0 : Int32).toInt; omega, by show (0 : Int32).toInt ≤ (nwV (vR M) x3_36.toNatClampNeg).toInt; omega, by show v57 = dg (tlV (vR M) x3_36.toNatClampNeg) (3 + (0 : Int32).toNatClampNeg) x1_36; rw [dg_30]; exact h31, hI, hF, hG⟩ rfl rfl rfl ?_
        rintro ⟨x5_110, x1_110, M_110, L_110⟩ ⟨j110_0, j110_1, j110_2, hI, hF, hG⟩ ih_110
        dsimp only at j110_0 j110_1 j110_2 hI hF hG ih_110 ⊢
        have n_x5_110 := ixn (x := x5_110) (by omega)
        refine g_iload C 0 dX11_digest_110 rfl ?_
        refine g_iload C 1 dX11_digest_112 rfl ?_
        refine g_icmp_ge C 143 dX11_digest_114 (by decide) (fun c77 => ?_) (fun c77 => ?_)
        ·
          have f78 := fle rfl rfl c77
          obtain ⟨v79, ev79⟩ : ∃ y : Int32, y = x3_36 + 1 := ⟨_, rfl⟩
          try have fv79 := fadd rfl (by decide : (1 : Int32).toInt = 1) ev79 (by omega) (by omega)
          refine g_iinc C 3 v79 [(3, .int v79), (5, .int x5_110), (4, .int v75), (1, .long x1_110), (0, .ref (ad 258))] dX11_digest_143 rfl (by rw [ev79]; rfl) (by decide) rfl ?_
          refine g_goto C 36 dX11_digest_146 (by decide) ?_
          refine g_lv [0, 3, 4] [(3, .int v79), (1, .long x1_110), (0, .ref (ad 258))] rfl ?_
          have nv := ixn (x := v79) (by omega)
          have iv : v79.toNatClampNeg = x3_36.toNatClampNeg + 1 := by omega
          exact ih_36 (v79, x1_110, M_110, L_110) ⟨by show 0 ≤ v79.toInt; omega, by show v79.toInt ≤ (vR M 0 1).toInt; omega, by show x1_110 = dgO (dgB (vR M)) v79.toNatClampNeg (dH1 (vR M)); rw [iv, dgO_s, ← j36_2, j110_2, show x5_110.toNatClampNeg = (nwV (vR M) x3_36.toNatClampNeg).toNatClampNeg by omega]; rfl, hI, hF, hG⟩ (by show (61 - v79.toInt).toNat < (61 - x3_36.toInt).toNat; omega)
        ·
          have f80 := fnle rfl rfl c77
          refine g_ldc2 C 31 (List.mem_of_getElem? (i := 3) rfl) dX11_digest_117 ?_
          refine g_lload_n C 2 dX11_digest_120 rfl ?_
          refine g_lmul C dX11_digest_121 ?_
          refine g_nl (fun v81 ev81 => ?_)
          try have fv81 := prodI ev81
          refine g_aload_n C 4 dX11_digest_122 rfl ?_
          refine g_get C (.ref (ad 264)) 8 in_X11_digest_11 (List.mem_of_getElem? (i := 9) rfl) (by decide) (ce_model ad cs _ _) rfl (by decide) rfl rfl dX11_digest_123 ?_
          refine g_bipush C 10 dX11_digest_126 (by decide) ?_
          refine g_iload_n C 3 dX11_digest_128 rfl ?_
          refine g_imul C dX11_digest_129 ?_
          refine g_ni (fun v82 ev82 => ?_)
          try have fv82 := fmul (by decide : (10 : Int32).toInt = 10) rfl ev82 (by omega) (by omega)
          refine g_iload C 0 dX11_digest_130 rfl ?_
          refine g_iadd C dX11_digest_132 ?_
          refine g_ni (fun v83 ev83 => ?_)
          try have fv83 := fadd rfl rfl ev83 (by omega) (by omega)
          refine g_iald C (by decide) (ce_m_marks ad cs _ _) (fin' (n := 600) rfl (by omega) (by omega)) dX11_digest_133 ?_
          have nx3_36 := ixn (x := x3_36) (by omega)
          have nx5_110 := ixn (x := x5_110) (by omega)
          have nv83 := ixn (x := v83) (by omega)
          have iv83 : v83.toNatClampNeg = 10 * x3_36.toNatClampNeg + x5_110.toNatClampNeg := by omega
          refine g_ni (fun v84 ev84 => ?_)
          have gv84 : v84 = vR M 5 v83.toNatClampNeg := ev84.trans (hF 264 v83.toNatClampNeg trivial)
          have gv84 := cg1 (f := vR M 5) gv84 iv83
          have tv84 := congrArg Int32.toInt gv84
          obtain ⟨bv84, dv84⟩ := (show rg 0 9 v84 from (by rw [ev84]; exact hI 264 v83.toNatClampNeg))
          refine g_i2l C dX11_digest_134 ?_
          refine g_nl (fun v85 ev85 => ?_)
          have fv85 := fi2l rfl ev85
          refine g_ladd C dX11_digest_135 ?_
          refine g_nl (fun v86 ev86 => ?_)
          try have fv86 := fladd rfl rfl ev86 (by omega) (by omega)
          refine g_lstore_n C [(1, .long v86), (5, .int x5_110), (4, .int v75), (3, .int x3_36), (0, .ref (ad 258))] dX11_digest_136 (by decide) rfl ?_
          obtain ⟨v87, ev87⟩ : ∃ y : Int32, y = x5_110 + 1 := ⟨_, rfl⟩
          try have fv87 := fadd rfl (by decide : (1 : Int32).toInt = 1) ev87 (by omega) (by omega)
          refine g_iinc C 1 v87 [(5, .int v87), (1, .long v86), (4, .int v75), (3, .int x3_36), (0, .ref (ad 258))] dX11_digest_137 rfl (by rw [ev87]; rfl) (by decide) rfl ?_
          refine g_goto C 110 dX11_digest_140 (by decide) ?_
          refine g_lv [0, 2, 1, 3, 4] [(5, .int v87), (4, .int v75), (1, .long v86), (3, .int x3_36), (0, .ref (ad 258))] rfl ?_
          have nv := ixn (x := v87) (by omega)
          have iv : v87.toNatClampNeg = x5_110.toNatClampNeg + 1 := by omega
          exact ih_110 (v87, v86, M_110, L_110) ⟨by show 0 ≤ v87.toInt; omega, by show v87.toInt ≤ (nwV (vR M) x3_36.toNatClampNeg).toInt; omega, by show v86 = dg (tlV (vR M) x3_36.toNatClampNeg) (3 + v87.toNatClampNeg) x1_36; rw [iv, ← Nat.add_assoc, dg_s, ← j110_2, tlV_3]; first | done | (simp only [ev86, ev85, gv84, ev83, ev82, ev81, gv75, gv58, ev57, ev56, gv55, ev54, ev53, ev52, gv51, ev50, ev49, ev48, gv47, ev46, gv7, gv3]; done) | (simp only [ev86, ev85, gv84, ev83, ev82, ev81, gv75, gv58, ev57, ev56, gv55, ev54, ev53, ev52, gv51, ev50, ev49, ev48, gv47, ev46, gv7, gv3]; rfl), hI, hF, hG⟩ (by show (11 - v87.toInt).toNat < (11 - x5_110.toInt).toNat; omega)
  ·
    have f88 := fnle rfl rfl c4
    refine g_ldc2 C 31 (List.mem_of_getElem? (i := 3) rfl) dX11_digest_14 ?_
    refine g_lload_n C 1 dX11_digest_17 rfl ?_
    refine g_lmul C dX11_digest_18 ?_
    refine g_nl (fun v89 ev89 => ?_)
    try have fv89 := prodI ev89
    refine g_aload_n C 2 dX11_digest_19 rfl ?_
    refine g_get C (.ref (ad 260)) 3 in_X11_digest_11 (List.mem_of_getElem? (i := 4) rfl) (by decide) (ce_model ad cs _ _) rfl (by decide) rfl rfl dX11_digest_20 ?_
    refine g_iload_n C 0 dX11_digest_23 rfl ?_
    refine g_iald C (by decide) (ce_m_draw ad cs _ _) (fin' (n := 10) rfl (by omega) (by omega)) dX11_digest_24 ?_
    refine g_ni (fun v90 ev90 => ?_)
    have gv90 : v90 = vR M 1 x3_6.toNatClampNeg := ev90.trans (hF 260 x3_6.toNatClampNeg trivial)
    have tv90 := congrArg Int32.toInt gv90
    obtain ⟨bv90, dv90⟩ := (show rg 0 9 v90 from (by rw [ev90]; exact hI 260 x3_6.toNatClampNeg))
    refine g_i2l C dX11_digest_25 ?_
    refine g_nl (fun v91 ev91 => ?_)
    have fv91 := fi2l rfl ev91
    refine g_ladd C dX11_digest_26 ?_
    refine g_nl (fun v92 ev92 => ?_)
    try have fv92 := fladd rfl rfl ev92 (by omega) (by omega)
    refine g_lstore_n C [(1, .long v92), (3, .int x3_6), (0, .ref (ad 258))] dX11_digest_27 (by decide) rfl ?_
    obtain ⟨v93, ev93⟩ : ∃ y : Int32, y = x3_6 + 1 := ⟨_, rfl⟩
    try have fv93 := fadd rfl (by decide : (1 : Int32).toInt = 1) ev93 (by omega) (by omega)
    refine g_iinc C 1 v93 [(3, .int v93), (1, .long v92), (0, .ref (ad 258))] dX11_digest_28 rfl (by rw [ev93]; rfl) (by decide) rfl ?_
    refine g_goto C 6 dX11_digest_31 (by decide) ?_
    have nv := ixn (x := v93) (by omega)
    have iv : v93.toNatClampNeg = x3_6.toNatClampNeg + 1 := by omega
    exact ih_6 (v93, v92, M_6, L_6) ⟨by show 0 ≤ v93.toInt; omega, by show v93.toInt ≤ (vR M 0 0).toInt; omega, by show v92 = dg (vR M 1) v93.toNatClampNeg 17; rw [iv, dg_s, ← j6_2]; first | done | (simp only [ev92, ev91, gv90, ev89, gv3]; done) | (simp only [ev92, ev91, gv90, ev89, gv3]; rfl), hI, hF, hG⟩ (by show (11 - v93.toInt).toNat < (11 - x3_6.toInt).toNat; omega)
