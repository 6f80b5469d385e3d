set_option maxHeartbeats 4000000 in
set_option maxRecDepth 100000 in
theorem k_X11_layWays_116 (l : Launch) (D : va_G) (ad : Nat → Nat) (cs : Nat → ClassId) (M : MI) (L : ML)  (hI0 : IR M) (hX : hasX (vR M) (M 258 27)) (hB8 : ∀ i : Nat, (vR M 8 i).toInt = -9 ∨ (0 ≤ (vR M 8 i).toInt ∧ (vR M 8 i).toInt ≤ 59))  {p : Program} {e : Env} {s : State} {m : MethodId} {below : List Frame} {meth : Method} {c : Code} (C : Cx p s m #[.ref (ad 258)] meth c cX11_layWays 6 wsX11_layWays RX11 D ad cs) (hr : meth.sig.returnType = none) (Mc : MI) (Lc : ML) (hI : IR Mc) (hF : ∀ k i, True → Mc k i = M k i) (hG : ∀ k i, k ≠ 295 ∧ k ≠ 296 → Lc k i = L k i) (hbe : ∀ a b, a < (M 258 2).toNatClampNeg → b < (M 258 2).toNatClampNeg → Lc 295 (10 * a + b) = beV (vR M) (fun i => vR M 8 (40 * (M 258 27).toNatClampNeg + i)) (vR M 7 (M 258 27).toNatClampNeg).toNatClampNeg a b) : G p l e ({ frames := 2, cells := 0, slots := 0, locals := 48 }) s m #[.ref (ad 258)] below meth c 0 0 (MQ below (Qv D ad cs (fun M1 L1 => (CL (M 258 2).toNatClampNeg (M 258 2).toNatClampNeg (wv (L1 296)) ∧ ∀ a, a < (M 258 2).toNatClampNeg → ∀ b, b < (M 258 2).toNatClampNeg → wv (L1 296) a b = wS (vR M) (fun i => vR M 8 (40 * (M 258 27).toNatClampNeg + i)) (vR M 7 (M 258 27).toNatClampNeg).toNatClampNeg (M 258 2).toNatClampNeg a b) ∧ IR M1 ∧ (∀ k i, True → M1 k i = M k i) ∧ ∀ k i, k ≠ 295 ∧ k ≠ 296 → L1 k i = L k i)) #[.ref (ad 258)] s 0 0 (Ar ad)) D ad cs 6 Mc Lc 116 [(0, .ref (ad 258))] [] := by
  have hI0 := hI0
  obtain ⟨ca, cb⟩ := (show rg 0 10 (M 258 2) from hI0 258 2)
  have n02 := ixn ca
  have hX1 := hX.1
  have hX2 := hX.2
  obtain ⟨sza, szb⟩ := (show rg 0 40 (vR M 7 (M 258 27).toNatClampNeg) from hI0 266 _)
  have nsz := ixn sza
  have w2_ : (vR M 0 2).toInt = (M 258 9).toInt := rfl
  obtain ⟨y2a, y2b⟩ := (show rg 0 8 (M 258 9) from hI0 258 9)
  have nX := ixn hX1
  have p295 : Lc 295 = Lc 295 := rfl
  have p296 : Lc 296 = Lc 296 := rfl
  refine g_iconst C 0 dX11_layWays_116 (by decide) ?_
  refine g_istore_n C [(1, .int 0), (0, .ref (ad 258))] dX11_layWays_117 (by decide) rfl ?_
  have zy1048 : (0 : Int32).toInt = 0 := by decide
  refine g_loop (α := Int32 × MI × ML) (fun a => (11 - a.1.toInt).toNat) (fun a => (0 ≤ a.1.toInt) ∧ (a.1.toInt ≤ (M 258 2).toInt) ∧ (∀ u9 v9, v9 < 10 → (u9 < a.1.toNatClampNeg ∧ v9 < (M 258 2).toNatClampNeg) → wv (a.2.2 296) u9 v9 = wS (vR M) (fun i => vR M 8 (40 * (M 258 27).toNatClampNeg + i)) (vR M 7 (M 258 27).toNatClampNeg).toNatClampNeg 0 u9 v9) ∧ (∀ u9 v9, u9 < (M 258 2).toNatClampNeg → v9 < (M 258 2).toNatClampNeg → a.2.2 295 (10 * u9 + v9) = beV (vR M) (fun i => vR M 8 (40 * (M 258 27).toNatClampNeg + i)) (vR M 7 (M 258 27).toNatClampNeg).toNatClampNeg u9 v9) ∧ IR a.2.1 ∧ (∀ k i, True → a.2.1 k i = M k i) ∧ (∀ k i, k ≠ 295 ∧ k ≠ 296 → a.2.2 k i = L k i)) (fun a => a.2.1) (fun a => a.2.2) (fun a => [(1, .int a.1), (0, .ref (ad 258))]) ((0 : Int32), Mc, Lc) ⟨by show 0 ≤ (0 : Int32).toInt; omega, by show (0 : Int32).toInt ≤ (M 258 2).toInt; omega, by show ∀ u9 v9, v9 < 10 → (u9 < (0 : Int32).toNatClampNeg ∧ v9 < (M 258 2).toNatClampNeg) → wv (Lc 296) u9 v9 = wS (vR M) (fun i => vR M 8 (40 * (M 258 27).toNatClampNeg + i)) (vR M 7 (M 258 27).toNatClampNeg).toNatClampNeg 0 u9 v9; intro a b _ h9; exact absurd h9.1 (by show ¬ a < 0; omega), by show ∀ u9 v9, u9 < (M 258 2).toNatClampNeg → v9 < (M 258 2).toNatClampNeg → Lc 295 (10 * u9 + v9) = beV (vR M) (fun i => vR M 8 (40 * (M 258 27).toNatClampNeg + i)) (vR M 7 (M 258 27).toNatClampNeg).toNatClampNeg u9 v9; exact hbe, hI, hF, hG⟩ rfl rfl rfl ?_
  rintro ⟨x1_118, M_118, L_118⟩ ⟨j118_0, j118_1, j118_2, j118_3, hI, hF, hG⟩ ih_118
  dsimp only at j118_0 j118_1 j118_2 j118_3 hI hF hG ih_118 ⊢
  have p295 : L_118 295 = L_118 295 := rfl
  have p296 : L_118 296 = L_118 296 := rfl
  have n_x1_118 := ixn (x := x1_118) (by omega)
  refine g_iload_n C 0 dX11_layWays_118 rfl ?_
  refine g_aload_n C 1 dX11_layWays_119 rfl ?_
  refine g_get C (.int (M_118 258 2)) 2 in_X11_layWays_11 (List.mem_of_getElem? (i := 1) rfl) (by decide) (ce_model ad cs _ _) rfl (by decide) rfl rfl dX11_layWays_120 ?_
  refine g_ni (fun v1049 ev1049 => ?_)
  have gv1049 : v1049 = M 258 2 := ev1049.trans (hF 258 2 trivial)
  have tv1049 := congrArg Int32.toInt gv1049
  obtain ⟨bv1049, dv1049⟩ := (show rg 0 10 v1049 from (by rw [ev1049]; exact hI 258 2))
  refine g_icmp_ge C 200 dX11_layWays_123 (by decide) (fun c1050 => ?_) (fun c1050 => ?_)
  ·
    have f1051 := fle rfl rfl c1050
    refine g_lv [1] [(0, .ref (ad 258))] rfl ?_
    exact k_X11_layWays_200 l D ad cs M L  hI0 hX hB8  C hr _ _ hI hF hG (fun a ha b hb => j118_2 a b (by omega) (by omega))
  ·
    have f1052 := fnle rfl rfl c1050
    refine g_iconst C 0 dX11_layWays_126 (by decide) ?_
    refine g_istore_n C [(2, .int 0), (1, .int x1_118), (0, .ref (ad 258))] dX11_layWays_127 (by decide) rfl ?_
    have zy1053 : (0 : Int32).toInt = 0 := by decide
    refine g_loop (α := Int32 × MI × ML) (fun a => (11 - a.1.toInt).toNat) (fun a => (0 ≤ a.1.toInt) ∧ (a.1.toInt ≤ (M 258 2).toInt) ∧ (∀ u9 v9, v9 < 10 → (u9 < x1_118.toNatClampNeg ∧ v9 < (M 258 2).toNatClampNeg ∨ (u9 = x1_118.toNatClampNeg ∧ v9 < a.1.toNatClampNeg)) → wv (a.2.2 296) u9 v9 = wS (vR M) (fun i => vR M 8 (40 * (M 258 27).toNatClampNeg + i)) (vR M 7 (M 258 27).toNatClampNeg).toNatClampNeg 0 u9 v9) ∧ (∀ u9 v9, u9 < (M 258 2).toNatClampNeg → v9 < (M 258 2).toNatClampNeg → a.2.2 295 (10 * u9 + v9) = beV (vR M) (fun i => vR M 8 (40 * (M 258 27).toNatClampNeg + i)) (vR M 7 (M 258 27).toNatClampNeg).toNatClampNeg u9 v9) ∧ IR a.2.1 ∧ (∀ k i, True → a.2.1 k i = M k i) ∧ (∀ k i, k ≠ 295 ∧ k ≠ 296 → a.2.2 k i = L k i)) (fun a => a.2.1) (fun a => a.2.2) (fun a => [(2, .int a.1), (1, .int x1_118), (0, .ref (ad 258))]) ((0 : Int32), M_118, L_118) ⟨by show 0 ≤ (0 : Int32).toInt; omega, by show (0 : Int32).toInt ≤ (M 258 2).toInt; omega, by show ∀ u9 v9, v9 < 10 → (u9 < x1_118.toNatClampNeg ∧ v9 < (M 258 2).toNatClampNeg ∨ (u9 = x1_118.toNatClampNeg ∧ v9 < (0 : Int32).toNatClampNeg)) → wv (L_118 296) u9 v9 = wS (vR M) (fun i => vR M 8 (40 * (M 258 27).toNatClampNeg + i)) (vR M 7 (M 258 27).toNatClampNeg).toNatClampNeg 0 u9 v9; intro a b hb h9; exact j118_2 a b hb (h9.elim id (fun h => absurd h.2 (by show ¬ b < 0; omega))), by show ∀ u9 v9, u9 < (M 258 2).toNatClampNeg → v9 < (M 258 2).toNatClampNeg → L_118 295 (10 * u9 + v9) = beV (vR M) (fun i => vR M 8 (40 * (M 258 27).toNatClampNeg + i)) (vR M 7 (M 258 27).toNatClampNeg).toNatClampNeg u9 v9; exact j118_3, hI, hF, hG⟩ rfl rfl rfl ?_
    rintro ⟨x2_128, M_128, L_128⟩ ⟨j128_0, j128_1, j128_2, j128_3, hI, hF, hG⟩ ih_128
    dsimp only at j128_0 j128_1 j128_2 j128_3 hI hF hG ih_128 ⊢
    have p295 : L_128 295 = L_128 295 := rfl
    have p296 : L_128 296 = L_128 296 := rfl
    have n_x2_128 := ixn (x := x2_128) (by omega)
    have hbe := j128_3
    refine g_iload_n C 0 dX11_layWays_128 rfl ?_
    refine g_aload_n C 2 dX11_layWays_129 rfl ?_
    refine g_get C (.int (M_128 258 2)) 2 in_X11_layWays_11 (List.mem_of_getElem? (i := 1) rfl) (by decide) (ce_model ad cs _ _) rfl (by decide) rfl rfl dX11_layWays_130 ?_
    refine g_ni (fun v1054 ev1054 => ?_)
    have gv1054 : v1054 = M 258 2 := ev1054.trans (hF 258 2 trivial)
    have tv1054 := congrArg Int32.toInt gv1054
    obtain ⟨bv1054, dv1054⟩ := (show rg 0 10 v1054 from (by rw [ev1054]; exact hI 258 2))
    refine g_icmp_ge C 194 dX11_layWays_133 (by decide) (fun c1055 => ?_) (fun c1055 => ?_)
    ·
      have f1056 := fle rfl rfl c1055
      obtain ⟨v1057, ev1057⟩ : ∃ y : Int32, y = x1_118 + 1 := ⟨_, rfl⟩
      try have fv1057 := fadd rfl (by decide : (1 : Int32).toInt = 1) ev1057 (by omega) (by omega)
      refine g_iinc C 1 v1057 [(1, .int v1057), (2, .int x2_128), (0, .ref (ad 258))] dX11_layWays_194 rfl (by rw [ev1057]; rfl) (by decide) rfl ?_
      refine g_goto C 118 dX11_layWays_197 (by decide) ?_
      refine g_lv [0, 2] [(1, .int v1057), (0, .ref (ad 258))] rfl ?_
      have nv := ixn (x := v1057) (by omega)
      have iv : v1057.toNatClampNeg = x1_118.toNatClampNeg + 1 := by omega
      exact ih_118 (v1057, M_128, L_128) ⟨by show 0 ≤ v1057.toInt; omega, by show v1057.toInt ≤ (M 258 2).toInt; omega, by show ∀ u9 v9, v9 < 10 → (u9 < v1057.toNatClampNeg ∧ v9 < (M 258 2).toNatClampNeg) → wv (L_128 296) u9 v9 = wS (vR M) (fun i => vR M 8 (40 * (M 258 27).toNatClampNeg + i)) (vR M 7 (M 258 27).toNatClampNeg).toNatClampNeg 0 u9 v9; rw [iv]; intro a b hb h9; exact j128_2 a b hb (by omega), by show ∀ u9 v9, u9 < (M 258 2).toNatClampNeg → v9 < (M 258 2).toNatClampNeg → L_128 295 (10 * u9 + v9) = beV (vR M) (fun i => vR M 8 (40 * (M 258 27).toNatClampNeg + i)) (vR M 7 (M 258 27).toNatClampNeg).toNatClampNeg u9 v9; exact j128_3, hI, hF, hG⟩ (by show (11 - v1057.toInt).toNat < (11 - x1_118.toInt).toNat; omega)
    ·
      have f1058 := fnle rfl rfl c1055
      refine g_aload_n C 2 dX11_layWays_136 rfl ?_
      refine g_get C (.ref (ad 296)) 52 in_X11_layWays_11 (List.mem_of_getElem? (i := 6) rfl) (by decide) (ce_model ad cs _ _) rfl (by decide) rfl rfl dX11_layWays_137 ?_
      refine g_bipush C 10 dX11_layWays_140 (by decide) ?_
      refine g_iload_n C 1 dX11_layWays_142 rfl ?_
      refine g_imul C dX11_layWays_143 ?_
      refine g_ni (fun v1059 ev1059 => ?_)
      try have fv1059 := fmul (by decide : (10 : Int32).toInt = 10) rfl ev1059 (by omega) (by omega)
      refine g_iload_n C 0 dX11_layWays_144 rfl ?_
      refine g_iadd C dX11_layWays_145 ?_
      refine g_ni (fun v1060 ev1060 => ?_)
      try have fv1060 := fadd rfl rfl ev1060 (by omega) (by omega)
      refine g_aload_n C 2 dX11_layWays_146 rfl ?_
      refine g_get C (.ref (ad 295)) 51 in_X11_layWays_11 (List.mem_of_getElem? (i := 2) rfl) (by decide) (ce_model ad cs _ _) rfl (by decide) rfl rfl dX11_layWays_147 ?_
      refine g_bipush C 10 dX11_layWays_150 (by decide) ?_
      refine g_iload_n C 1 dX11_layWays_152 rfl ?_
      refine g_imul C dX11_layWays_153 ?_
      refine g_ni (fun v1061 ev1061 => ?_)
      try have fv1061 := fmul (by decide : (10 : Int32).toInt = 10) rfl ev1061 (by omega) (by omega)
      refine g_iload_n C 0 dX11_layWays_154 rfl ?_
      refine g_iadd C dX11_layWays_155 ?_
      refine g_ni (fun v1062 ev1062 => ?_)
      try have fv1062 := fadd rfl rfl ev1062 (by omega) (by omega)
      have nx1_118 := ixn (x := x1_118) (by omega)
      have nx2_128 := ixn (x := x2_128) (by omega)
      have nv1062 := ixn (x := v1062) (by omega)
      have iv1062 : v1062.toNatClampNeg = 10 * x1_118.toNatClampNeg + x2_128.toNatClampNeg := by omega
      refine g_lald C (by decide) (ce_m_beats ad cs _ _) (fin' (n := 100) rfl (by omega) (by omega)) dX11_layWays_156 ?_
      refine g_nl (fun v1063 ev1063 => ?_)
      have gv1063 : v1063 = L_128 295 v1062.toNatClampNeg := ev1063.trans (congrFun p295 _)
      have gv1063 := cg1L (f := L_128 295) gv1063 iv1062
      have tv1063 := congrArg Int64.toInt gv1063
      refine g_aload_n C 2 dX11_layWays_157 rfl ?_
      refine g_get C (.ref (ad 295)) 51 in_X11_layWays_11 (List.mem_of_getElem? (i := 2) rfl) (by decide) (ce_model ad cs _ _) rfl (by decide) rfl rfl dX11_layWays_158 ?_
      refine g_bipush C 10 dX11_layWays_161 (by decide) ?_
      refine g_iload_n C 0 dX11_layWays_163 rfl ?_
      refine g_imul C dX11_layWays_164 ?_
      refine g_ni (fun v1064 ev1064 => ?_)
      try have fv1064 := fmul (by decide : (10 : Int32).toInt = 10) rfl ev1064 (by omega) (by omega)
      refine g_iload_n C 1 dX11_layWays_165 rfl ?_
      refine g_iadd C dX11_layWays_166 ?_
      refine g_ni (fun v1065 ev1065 => ?_)
      try have fv1065 := fadd rfl rfl ev1065 (by omega) (by omega)
      have nx2_128 := ixn (x := x2_128) (by omega)
      have nx1_118 := ixn (x := x1_118) (by omega)
      have nv1065 := ixn (x := v1065) (by omega)
      have iv1065 : v1065.toNatClampNeg = 10 * x2_128.toNatClampNeg + x1_118.toNatClampNeg := by omega
      refine g_lald C (by decide) (ce_m_beats ad cs _ _) (fin' (n := 100) rfl (by omega) (by omega)) dX11_layWays_167 ?_
      refine g_nl (fun v1066 ev1066 => ?_)
      have gv1066 : v1066 = L_128 295 v1065.toNatClampNeg := ev1066.trans (congrFun p295 _)
      have gv1066 := cg1L (f := L_128 295) gv1066 iv1065
      have tv1066 := congrArg Int64.toInt gv1066
      refine g_lcmp C dX11_layWays_168 ?_
      refine g_ni (fun v1067 ev1067 => ?_)
      refine g_if_le C 186 dX11_layWays_169 (by decide) (fun c1068 => ?_) (fun c1068 => ?_)
      ·
        have f1069 := cle rfl rfl ev1067 c1068
        refine g_lconst C 0 dX11_layWays_186 (by decide) ?_
        have nx1_118 := ixn (x := x1_118) (by omega)
        have nx2_128 := ixn (x := x2_128) (by omega)
        have nv1060 := ixn (x := v1060) (by omega)
        have iv1060 : v1060.toNatClampNeg = 10 * x1_118.toNatClampNeg + x2_128.toNatClampNeg := by omega
        refine g_last C (by decide) (ce_m_way ad cs _ _) (by rw [sJ_k]; rfl) (fin' (n := 100) rfl (by omega) (by omega)) dX11_layWays_187 ?_
        refine g_nmL (fun L1070 hL1070 => ?_)
        have hG : ∀ k i, k ≠ 295 ∧ k ≠ 296 → L1070 k i = L k i := fun k i hk => by (rw [hL1070, sJ_at, if_neg (by omega)]; try exact hG k i hk)
        have p295 : L1070 295 = L_128 295 := by rw [hL1070, sJ_n _ _ _ (by decide)]; try exact p295
        obtain ⟨v1071, ev1071⟩ : ∃ y : Int32, y = x2_128 + 1 := ⟨_, rfl⟩
        try have fv1071 := fadd rfl (by decide : (1 : Int32).toInt = 1) ev1071 (by omega) (by omega)
        refine g_iinc C 0 v1071 [(2, .int v1071), (1, .int x1_118), (0, .ref (ad 258))] dX11_layWays_188 rfl (by rw [ev1071]; rfl) (by decide) rfl ?_
        refine g_goto C 128 dX11_layWays_191 (by decide) ?_
        have nv := ixn (x := v1071) (by omega)
        have iv : v1071.toNatClampNeg = x2_128.toNatClampNeg + 1 := by omega
        have hall : ∀ a b, b < 10 → (a < x1_118.toNatClampNeg ∧ b < (M 258 2).toNatClampNeg ∨ (a = x1_118.toNatClampNeg ∧ b < x2_128.toNatClampNeg + 1)) → wv (L1070 296) a b = wS (vR M) (fun i => vR M 8 (40 * (M 258 27).toNatClampNeg + i)) (vR M 7 (M 258 27).toNatClampNeg).toNatClampNeg 0 a b := by
          intro a b hb hab
          show (L1070 296 (10 * a + b)).toInt = _
          rw [hL1070, sJ_at, iv1060]
          by_cases e9 : a = x1_118.toNatClampNeg ∧ b = x2_128.toNatClampNeg
          · rw [if_pos ⟨rfl, by rw [e9.1, e9.2]⟩, e9.1, e9.2]
            show _ = (if (beV (vR M) (fun i => vR M 8 (40 * (M 258 27).toNatClampNeg + i)) (vR M 7 (M 258 27).toNatClampNeg).toNatClampNeg x2_128.toNatClampNeg x1_118.toNatClampNeg).toInt < (beV (vR M) (fun i => vR M 8 (40 * (M 258 27).toNatClampNeg + i)) (vR M 7 (M 258 27).toNatClampNeg).toNatClampNeg x1_118.toNatClampNeg x2_128.toNatClampNeg).toInt then (beV (vR M) (fun i => vR M 8 (40 * (M 258 27).toNatClampNeg + i)) (vR M 7 (M 258 27).toNatClampNeg).toNatClampNeg x1_118.toNatClampNeg x2_128.toNatClampNeg).toInt else 0)
            have b1 := congrArg Int64.toInt (hbe x1_118.toNatClampNeg x2_128.toNatClampNeg (by omega) (by omega))
            have b2 := congrArg Int64.toInt (hbe x2_128.toNatClampNeg x1_118.toNatClampNeg (by omega) (by omega))
            have z0 : (0 : Int64).toInt = 0 := by decide
            first | (rw [if_pos (by omega)]; omega) | (rw [if_neg (by omega)]; omega)
          · rw [if_neg (by omega)]; exact j128_2 a b hb (by omega)
        exact ih_128 (v1071, M_128, L1070) ⟨by show 0 ≤ v1071.toInt; omega, by show v1071.toInt ≤ (M 258 2).toInt; omega, by show ∀ u9 v9, v9 < 10 → (u9 < x1_118.toNatClampNeg ∧ v9 < (M 258 2).toNatClampNeg ∨ (u9 = x1_118.toNatClampNeg ∧ v9 < v1071.toNatClampNeg)) → wv (L1070 296) u9 v9 = wS (vR M) (fun i => vR M 8 (40 * (M 258 27).toNatClampNeg + i)) (vR M 7 (M 258 27).toNatClampNeg).toNatClampNeg 0 u9 v9; rw [iv]; intro a b hb h9; exact hall a b hb (by omega), by show ∀ u9 v9, u9 < (M 258 2).toNatClampNeg → v9 < (M 258 2).toNatClampNeg → L1070 295 (10 * u9 + v9) = beV (vR M) (fun i => vR M 8 (40 * (M 258 27).toNatClampNeg + i)) (vR M 7 (M 258 27).toNatClampNeg).toNatClampNeg u9 v9; rw [p295]; exact j128_3, hI, hF, hG⟩ (by show (11 - v1071.toInt).toNat < (11 - x2_128.toInt).toNat; omega)
      ·
        have f1072 := cnle rfl rfl ev1067 c1068
        refine g_aload_n C 2 dX11_layWays_172 rfl ?_
        refine g_get C (.ref (ad 295)) 51 in_X11_layWays_11 (List.mem_of_getElem? (i := 2) rfl) (by decide) (ce_model ad cs _ _) rfl (by decide) rfl rfl dX11_layWays_173 ?_
        refine g_bipush C 10 dX11_layWays_176 (by decide) ?_
        refine g_iload_n C 1 dX11_layWays_178 rfl ?_
        refine g_imul C dX11_layWays_179 ?_
        refine g_ni (fun v1073 ev1073 => ?_)
        try have fv1073 := fmul (by decide : (10 : Int32).toInt = 10) rfl ev1073 (by omega) (by omega)
        refine g_iload_n C 0 dX11_layWays_180 rfl ?_
        refine g_iadd C dX11_layWays_181 ?_
        refine g_ni (fun v1074 ev1074 => ?_)
        try have fv1074 := fadd rfl rfl ev1074 (by omega) (by omega)
        have nx1_118 := ixn (x := x1_118) (by omega)
        have nx2_128 := ixn (x := x2_128) (by omega)
        have nv1074 := ixn (x := v1074) (by omega)
        have iv1074 : v1074.toNatClampNeg = 10 * x1_118.toNatClampNeg + x2_128.toNatClampNeg := by omega
        refine g_lald C (by decide) (ce_m_beats ad cs _ _) (fin' (n := 100) rfl (by omega) (by omega)) dX11_layWays_182 ?_
        refine g_nl (fun v1075 ev1075 => ?_)
        have gv1075 : v1075 = L_128 295 v1074.toNatClampNeg := ev1075.trans (congrFun p295 _)
        have gv1075 := cg1L (f := L_128 295) gv1075 iv1074
        have tv1075 := congrArg Int64.toInt gv1075
        refine g_goto C 187 dX11_layWays_183 (by decide) ?_
        have nx1_118 := ixn (x := x1_118) (by omega)
        have nx2_128 := ixn (x := x2_128) (by omega)
        have nv1060 := ixn (x := v1060) (by omega)
        have iv1060 : v1060.toNatClampNeg = 10 * x1_118.toNatClampNeg + x2_128.toNatClampNeg := by omega
        refine g_last C (by decide) (ce_m_way ad cs _ _) (by rw [sJ_k]; rfl) (fin' (n := 100) rfl (by omega) (by omega)) dX11_layWays_187 ?_
        refine g_nmL (fun L1076 hL1076 => ?_)
        have hG : ∀ k i, k ≠ 295 ∧ k ≠ 296 → L1076 k i = L k i := fun k i hk => by (rw [hL1076, sJ_at, if_neg (by omega)]; try exact hG k i hk)
        have p295 : L1076 295 = L_128 295 := by rw [hL1076, sJ_n _ _ _ (by decide)]; try exact p295
        obtain ⟨v1077, ev1077⟩ : ∃ y : Int32, y = x2_128 + 1 := ⟨_, rfl⟩
        try have fv1077 := fadd rfl (by decide : (1 : Int32).toInt = 1) ev1077 (by omega) (by omega)
        refine g_iinc C 0 v1077 [(2, .int v1077), (1, .int x1_118), (0, .ref (ad 258))] dX11_layWays_188 rfl (by rw [ev1077]; rfl) (by decide) rfl ?_
        refine g_goto C 128 dX11_layWays_191 (by decide) ?_
        have nv := ixn (x := v1077) (by omega)
        have iv : v1077.toNatClampNeg = x2_128.toNatClampNeg + 1 := by omega
        have hall : ∀ a b, b < 10 → (a < x1_118.toNatClampNeg ∧ b < (M 258 2).toNatClampNeg ∨ (a = x1_118.toNatClampNeg ∧ b < x2_128.toNatClampNeg + 1)) → wv (L1076 296) a b = wS (vR M) (fun i => vR M 8 (40 * (M 258 27).toNatClampNeg + i)) (vR M 7 (M 258 27).toNatClampNeg).toNatClampNeg 0 a b := by
          intro a b hb hab
          show (L1076 296 (10 * a + b)).toInt = _
          rw [hL1076, sJ_at, iv1060]
          by_cases e9 : a = x1_118.toNatClampNeg ∧ b = x2_128.toNatClampNeg
          · rw [if_pos ⟨rfl, by rw [e9.1, e9.2]⟩, e9.1, e9.2]
            show _ = (if (beV (vR M) (fun i => vR M 8 (40 * (M 258 27).toNatClampNeg + i)) (vR M 7 (M 258 27).toNatClampNeg).toNatClampNeg x2_128.toNatClampNeg x1_118.toNatClampNeg).toInt < (beV (vR M) (fun i => vR M 8 (40 * (M 258 27).toNatClampNeg + i)) (vR M 7 (M 258 27).toNatClampNeg).toNatClampNeg x1_118.toNatClampNeg x2_128.toNatClampNeg).toInt then (beV (vR M) (fun i => vR M 8 (40 * (M 258 27).toNatClampNeg + i)) (vR M 7 (M 258 27).toNatClampNeg).toNatClampNeg x1_118.toNatClampNeg x2_128.toNatClampNeg).toInt else 0)
            have b1 := congrArg Int64.toInt (hbe x1_118.toNatClampNeg x2_128.toNatClampNeg (by omega) (by omega))
            have b2 := congrArg Int64.toInt (hbe x2_128.toNatClampNeg x1_118.toNatClampNeg (by omega) (by omega))
            have z0 : (0 : Int64).toInt = 0 := by decide
            first | (rw [if_pos (by omega)]; omega) | (rw [if_neg (by omega)]; omega)
          · rw [if_neg (by omega)]; exact j128_2 a b hb (by omega)
        exact ih_128 (v1077, M_128, L1076) ⟨by show 0 ≤ v1077.toInt; omega, by show v1077.toInt ≤ (M 258 2).toInt; omega, by show ∀ u9 v9, v9 < 10 → (u9 < x1_118.toNatClampNeg ∧ v9 < (M 258 2).toNatClampNeg ∨ (u9 = x1_118.toNatClampNeg ∧ v9 < v1077.toNatClampNeg)) → wv (L1076 296) u9 v9 = wS (vR M) (fun i => vR M 8 (40 * (M 258 27).toNatClampNeg + i)) (vR M 7 (M 258 27).toNatClampNeg).toNatClampNeg 0 u9 v9; rw [iv]; intro a b hb h9; exact hall a b hb (by omega), by show ∀ u9 v9, u9 < (M 258 2).toNatClampNeg → v9 < (M 258 2).toNatClampNeg → L1076 295 (10 * u9 + v9) = beV (vR M) (fun i => vR M 8 (40 * (M 258 27).toNatClampNeg + i)) (vR M 7 (M 258 27).toNatClampNeg).toNatClampNeg u9 v9; rw [p295]; exact j128_3, hI, hF, hG⟩ (by show (11 - v1077.toInt).toNat < (11 - x2_128.toInt).toNat; omega)
