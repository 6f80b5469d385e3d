theorem dX11_started_0 : decode cX11_started 0 = .ok (.iconst 0, 1) := dw3 (n := 0) (i := 0) kc_cX11_started_0 (by decide +kernel)
theorem dX11_started_1 : decode cX11_started 1 = .ok (.istore_n 2, 1) := dw61 (n := 0) (i := 1) kc_cX11_started_0 (by decide +kernel)
theorem dX11_started_2 : decode cX11_started 2 = .ok (.iload_n 1, 1) := dw27 (n := 0) (i := 2) kc_cX11_started_0 (by decide +kernel)
theorem dX11_started_3 : decode cX11_started 3 = .ok (.istore_n 3, 1) := dw62 (n := 0) (i := 3) kc_cX11_started_0 (by decide +kernel)
theorem dX11_started_4 : decode cX11_started 4 = .ok (.iload_n 3, 1) := dw29 (n := 0) (i := 4) kc_cX11_started_0 (by decide +kernel)
theorem dX11_started_5 : decode cX11_started 5 = .ok (.bipush (-9), 2) := dw16 (n := 0) (i := 5) (a := 247) kc_cX11_started_0 (by decide +kernel) (by decide)
theorem dX11_started_7 : decode cX11_started 7 = .ok (.if_icmp .eq 42, 3) := dw159 (n := 0) (i := 7) (a := 0) (b := 42) kc_cX11_started_0 (by decide +kernel) (by decide)
theorem dX11_started_49 : decode cX11_started 49 = .ok (.iload_n 2, 1) := dw28 (n := 32) (i := 17) kc_cX11_started_1 (by decide +kernel)
theorem dX11_started_50 : decode cX11_started 50 = .ok (.iconst 1, 1) := dw4 (n := 32) (i := 18) kc_cX11_started_1 (by decide +kernel)
theorem dX11_started_51 : decode cX11_started 51 = .ok (.isub, 1) := dw100 (n := 32) (i := 19) kc_cX11_started_1 (by decide +kernel)
theorem dX11_started_52 : decode cX11_started 52 = .ok (.istore 4, 2) := dw54 (n := 32) (i := 20) (a := 4) kc_cX11_started_1 (by decide +kernel) (by decide)
theorem dX11_started_54 : decode cX11_started 54 = .ok (.iload 4, 2) := dw21 (n := 32) (i := 22) (a := 4) kc_cX11_started_1 (by decide +kernel) (by decide)
theorem dX11_started_56 : decode cX11_started 56 = .ok (.ifCond .lt 87, 3) := dw155 (n := 32) (i := 24) (a := 0) (b := 87) kc_cX11_started_1 (by decide +kernel) (by decide)
theorem dX11_started_143 : decode cX11_started 143 = .ok (.aload_n 0, 1) := dw42 (n := 128) (i := 15) kc_cX11_started_4 (by decide +kernel)
theorem dX11_started_144 : decode cX11_started 144 = .ok (.getfield 52, 3) := dw180 (n := 128) (i := 16) (a := 0) (b := 52) kc_cX11_started_4 (by decide +kernel) (by decide)
theorem in_X11_started_11 : ∀ w ∈ u_ws RX11 TX11 53, w ∈ wsX11_started := fun _ h => List.mem_cons_of_mem _ (List.mem_append_right _ h)
theorem dX11_started_147 : decode cX11_started 147 = .ok (.iload_n 1, 1) := dw27 (n := 128) (i := 19) kc_cX11_started_4 (by decide +kernel)
theorem dX11_started_148 : decode cX11_started 148 = .ok (.iaload, 1) := dw46 (n := 128) (i := 20) kc_cX11_started_4 (by decide +kernel)
theorem dX11_started_149 : decode cX11_started 149 = .ok (.ireturn, 1) := dw172 (n := 128) (i := 21) kc_cX11_started_4 (by decide +kernel)
theorem dX11_started_59 : decode cX11_started 59 = .ok (.aload_n 0, 1) := dw42 (n := 32) (i := 27) kc_cX11_started_1 (by decide +kernel)
theorem dX11_started_60 : decode cX11_started 60 = .ok (.getfield 49, 3) := dw180 (n := 32) (i := 28) (a := 0) (b := 49) kc_cX11_started_1 (by decide +kernel) (by decide)
theorem dX11_started_63 : decode cX11_started 63 = .ok (.aload_n 0, 1) := dw42 (n := 32) (i := 31) kc_cX11_started_1 (by decide +kernel)
theorem dX11_started_64 : decode cX11_started 64 = .ok (.getfield 58, 3) := dw180 (n := 64) (i := 0) (a := 0) (b := 58) kc_cX11_started_2 (by decide +kernel) (by decide)
theorem dX11_started_67 : decode cX11_started 67 = .ok (.iload 4, 2) := dw21 (n := 64) (i := 3) (a := 4) kc_cX11_started_2 (by decide +kernel) (by decide)
theorem dX11_started_69 : decode cX11_started 69 = .ok (.iaload, 1) := dw46 (n := 64) (i := 5) kc_cX11_started_2 (by decide +kernel)
theorem dX11_started_70 : decode cX11_started 70 = .ok (.iaload, 1) := dw46 (n := 64) (i := 6) kc_cX11_started_2 (by decide +kernel)
theorem dX11_started_71 : decode cX11_started 71 = .ok (.istore 5, 2) := dw54 (n := 64) (i := 7) (a := 5) kc_cX11_started_2 (by decide +kernel) (by decide)
theorem dX11_started_73 : decode cX11_started 73 = .ok (.iload 5, 2) := dw21 (n := 64) (i := 9) (a := 5) kc_cX11_started_2 (by decide +kernel) (by decide)
theorem dX11_started_75 : decode cX11_started 75 = .ok (.bipush (-9), 2) := dw16 (n := 64) (i := 11) (a := 247) kc_cX11_started_2 (by decide +kernel) (by decide)
theorem dX11_started_77 : decode cX11_started 77 = .ok (.if_icmp .eq 14, 3) := dw159 (n := 64) (i := 13) (a := 0) (b := 14) kc_cX11_started_2 (by decide +kernel) (by decide)
theorem dX11_started_91 : decode cX11_started 91 = .ok (.aload_n 0, 1) := dw42 (n := 64) (i := 27) kc_cX11_started_2 (by decide +kernel)
theorem dX11_started_92 : decode cX11_started 92 = .ok (.getfield 40, 3) := dw180 (n := 64) (i := 28) (a := 0) (b := 40) kc_cX11_started_2 (by decide +kernel) (by decide)
theorem dX11_started_95 : decode cX11_started 95 = .ok (.aload_n 0, 1) := dw42 (n := 64) (i := 31) kc_cX11_started_2 (by decide +kernel)
theorem dX11_started_96 : decode cX11_started 96 = .ok (.getfield 58, 3) := dw180 (n := 96) (i := 0) (a := 0) (b := 58) kc_cX11_started_3 (by decide +kernel) (by decide)
theorem dX11_started_99 : decode cX11_started 99 = .ok (.iload 4, 2) := dw21 (n := 96) (i := 3) (a := 4) kc_cX11_started_3 (by decide +kernel) (by decide)
theorem dX11_started_101 : decode cX11_started 101 = .ok (.iaload, 1) := dw46 (n := 96) (i := 5) kc_cX11_started_3 (by decide +kernel)
theorem dX11_started_102 : decode cX11_started 102 = .ok (.iaload, 1) := dw46 (n := 96) (i := 6) kc_cX11_started_3 (by decide +kernel)
theorem dX11_started_103 : decode cX11_started 103 = .ok (.bipush 8, 2) := dw16 (n := 96) (i := 7) (a := 8) kc_cX11_started_3 (by decide +kernel) (by decide)
theorem dX11_started_105 : decode cX11_started 105 = .ok (.if_icmp .ne 7, 3) := dw160 (n := 96) (i := 9) (a := 0) (b := 7) kc_cX11_started_3 (by decide +kernel) (by decide)
theorem dX11_started_112 : decode cX11_started 112 = .ok (.iconst 0, 1) := dw3 (n := 96) (i := 16) kc_cX11_started_3 (by decide +kernel)
theorem dX11_started_113 : decode cX11_started 113 = .ok (.istore 6, 2) := dw54 (n := 96) (i := 17) (a := 6) kc_cX11_started_3 (by decide +kernel) (by decide)
theorem dX11_started_115 : decode cX11_started 115 = .ok (.aload_n 0, 1) := dw42 (n := 96) (i := 19) kc_cX11_started_3 (by decide +kernel)
theorem dX11_started_116 : decode cX11_started 116 = .ok (.getfield 52, 3) := dw180 (n := 96) (i := 20) (a := 0) (b := 52) kc_cX11_started_3 (by decide +kernel) (by decide)
theorem dX11_started_119 : decode cX11_started 119 = .ok (.aload_n 0, 1) := dw42 (n := 96) (i := 23) kc_cX11_started_3 (by decide +kernel)
theorem dX11_started_120 : decode cX11_started 120 = .ok (.getfield 58, 3) := dw180 (n := 96) (i := 24) (a := 0) (b := 58) kc_cX11_started_3 (by decide +kernel) (by decide)
theorem dX11_started_123 : decode cX11_started 123 = .ok (.iload 4, 2) := dw21 (n := 96) (i := 27) (a := 4) kc_cX11_started_3 (by decide +kernel) (by decide)
theorem dX11_started_125 : decode cX11_started 125 = .ok (.iaload, 1) := dw46 (n := 96) (i := 29) kc_cX11_started_3 (by decide +kernel)
theorem dX11_started_126 : decode cX11_started 126 = .ok (.iload 6, 2) := dw21 (n := 96) (i := 30) (a := 6) kc_cX11_started_3 (by decide +kernel) (by decide)
theorem dX11_started_128 : decode cX11_started 128 = .ok (.ifCond .eq 7, 3) := dw153 (n := 128) (i := 0) (a := 0) (b := 7) kc_cX11_started_4 (by decide +kernel) (by decide)
theorem dX11_started_135 : decode cX11_started 135 = .ok (.iconst 1, 1) := dw4 (n := 128) (i := 7) kc_cX11_started_4 (by decide +kernel)
theorem dX11_started_136 : decode cX11_started 136 = .ok (.iastore, 1) := dw79 (n := 128) (i := 8) kc_cX11_started_4 (by decide +kernel)
theorem dX11_started_137 : decode cX11_started 137 = .ok (.iinc 4 (-1), 3) := by decide +kernel
theorem dX11_started_140 : decode cX11_started 140 = .ok (.goto (-86), 3) := dw167 (n := 128) (i := 12) (a := 255) (b := 170) kc_cX11_started_4 (by decide +kernel) (by decide)
theorem dX11_started_108 : decode cX11_started 108 = .ok (.iconst 1, 1) := dw4 (n := 96) (i := 12) kc_cX11_started_3 (by decide +kernel)
theorem dX11_started_109 : decode cX11_started 109 = .ok (.goto 4, 3) := dw167 (n := 96) (i := 13) (a := 0) (b := 4) kc_cX11_started_3 (by decide +kernel) (by decide)
theorem dX11_started_131 : decode cX11_started 131 = .ok (.iconst 2, 1) := dw5 (n := 128) (i := 3) kc_cX11_started_4 (by decide +kernel)
theorem dX11_started_132 : decode cX11_started 132 = .ok (.goto 4, 3) := dw167 (n := 128) (i := 4) (a := 0) (b := 4) kc_cX11_started_4 (by decide +kernel) (by decide)
theorem dX11_started_80 : decode cX11_started 80 = .ok (.aload_n 0, 1) := dw42 (n := 64) (i := 16) kc_cX11_started_2 (by decide +kernel)
theorem dX11_started_81 : decode cX11_started 81 = .ok (.getfield 52, 3) := dw180 (n := 64) (i := 17) (a := 0) (b := 52) kc_cX11_started_2 (by decide +kernel) (by decide)
theorem dX11_started_84 : decode cX11_started 84 = .ok (.iload 5, 2) := dw21 (n := 64) (i := 20) (a := 5) kc_cX11_started_2 (by decide +kernel) (by decide)
theorem dX11_started_86 : decode cX11_started 86 = .ok (.iaload, 1) := dw46 (n := 64) (i := 22) kc_cX11_started_2 (by decide +kernel)
theorem dX11_started_87 : decode cX11_started 87 = .ok (.iconst 2, 1) := dw5 (n := 64) (i := 23) kc_cX11_started_2 (by decide +kernel)
theorem dX11_started_88 : decode cX11_started 88 = .ok (.if_icmp .eq 20, 3) := dw159 (n := 64) (i := 24) (a := 0) (b := 20) kc_cX11_started_2 (by decide +kernel) (by decide)
theorem dX11_started_10 : decode cX11_started 10 = .ok (.aload_n 0, 1) := dw42 (n := 0) (i := 10) kc_cX11_started_0 (by decide +kernel)
theorem dX11_started_11 : decode cX11_started 11 = .ok (.getfield 52, 3) := dw180 (n := 0) (i := 11) (a := 0) (b := 52) kc_cX11_started_0 (by decide +kernel) (by decide)
theorem dX11_started_14 : decode cX11_started 14 = .ok (.iload_n 3, 1) := dw29 (n := 0) (i := 14) kc_cX11_started_0 (by decide +kernel)
theorem dX11_started_15 : decode cX11_started 15 = .ok (.iaload, 1) := dw46 (n := 0) (i := 15) kc_cX11_started_0 (by decide +kernel)
theorem dX11_started_16 : decode cX11_started 16 = .ok (.ifCond .ne 33, 3) := dw154 (n := 0) (i := 16) (a := 0) (b := 33) kc_cX11_started_0 (by decide +kernel) (by decide)
theorem dX11_started_19 : decode cX11_started 19 = .ok (.aload_n 0, 1) := dw42 (n := 0) (i := 19) kc_cX11_started_0 (by decide +kernel)
theorem dX11_started_20 : decode cX11_started 20 = .ok (.getfield 58, 3) := dw180 (n := 0) (i := 20) (a := 0) (b := 58) kc_cX11_started_0 (by decide +kernel) (by decide)
theorem dX11_started_23 : decode cX11_started 23 = .ok (.iload_n 2, 1) := dw28 (n := 0) (i := 23) kc_cX11_started_0 (by decide +kernel)
theorem dX11_started_24 : decode cX11_started 24 = .ok (.iload_n 3, 1) := dw29 (n := 0) (i := 24) kc_cX11_started_0 (by decide +kernel)
theorem dX11_started_25 : decode cX11_started 25 = .ok (.iastore, 1) := dw79 (n := 0) (i := 25) kc_cX11_started_0 (by decide +kernel)
theorem dX11_started_26 : decode cX11_started 26 = .ok (.iinc 2 1, 3) := by decide +kernel
theorem dX11_started_29 : decode cX11_started 29 = .ok (.aload_n 0, 1) := dw42 (n := 0) (i := 29) kc_cX11_started_0 (by decide +kernel)
theorem dX11_started_30 : decode cX11_started 30 = .ok (.getfield 55, 3) := dw180 (n := 0) (i := 30) (a := 0) (b := 55) kc_cX11_started_0 (by decide +kernel) (by decide)
theorem dX11_started_33 : decode cX11_started 33 = .ok (.iload_n 3, 1) := dw29 (n := 32) (i := 1) kc_cX11_started_1 (by decide +kernel)
theorem dX11_started_34 : decode cX11_started 34 = .ok (.dup2, 1) := dw92 (n := 32) (i := 2) kc_cX11_started_1 (by decide +kernel)
theorem dX11_started_35 : decode cX11_started 35 = .ok (.iaload, 1) := dw46 (n := 32) (i := 3) kc_cX11_started_1 (by decide +kernel)
theorem dX11_started_36 : decode cX11_started 36 = .ok (.iconst 1, 1) := dw4 (n := 32) (i := 4) kc_cX11_started_1 (by decide +kernel)
theorem dX11_started_37 : decode cX11_started 37 = .ok (.iadd, 1) := dw96 (n := 32) (i := 5) kc_cX11_started_1 (by decide +kernel)
theorem dX11_started_38 : decode cX11_started 38 = .ok (.iastore, 1) := dw79 (n := 32) (i := 6) kc_cX11_started_1 (by decide +kernel)
theorem dX11_started_39 : decode cX11_started 39 = .ok (.aload_n 0, 1) := dw42 (n := 32) (i := 7) kc_cX11_started_1 (by decide +kernel)
theorem dX11_started_40 : decode cX11_started 40 = .ok (.getfield 49, 3) := dw180 (n := 32) (i := 8) (a := 0) (b := 49) kc_cX11_started_1 (by decide +kernel) (by decide)
theorem dX11_started_43 : decode cX11_started 43 = .ok (.iload_n 3, 1) := dw29 (n := 32) (i := 11) kc_cX11_started_1 (by decide +kernel)
theorem dX11_started_44 : decode cX11_started 44 = .ok (.iaload, 1) := dw46 (n := 32) (i := 12) kc_cX11_started_1 (by decide +kernel)
theorem dX11_started_45 : decode cX11_started 45 = .ok (.istore_n 3, 1) := dw62 (n := 32) (i := 13) kc_cX11_started_1 (by decide +kernel)
theorem dX11_started_46 : decode cX11_started 46 = .ok (.goto (-42), 3) := dw167 (n := 32) (i := 14) (a := 255) (b := 214) kc_cX11_started_1 (by decide +kernel) (by decide)
set_option maxHeartbeats 4000000 in
set_option maxRecDepth 100000 in
theorem s_X11_started (l : Launch) (D : va_G) (ad : Nat → Nat) (cs : Nat → ClassId) (M : MI) (L : ML) (x : Int32) (hI : IR M) (hm : hasM (vR M) x) (hN : NOv (vR M)) (hT : tr01 (vR M 13) (M 274)) : Ci l yX11_started wsX11_started ({ frames := 0, cells := 0, slots := 0, locals := 0 }) D ad cs [.ref (ad 258), .int x] M L (fun r M1 L1 => (vR M1 = startV (vR M) x ∧ r = startV (vR M) x 13 (x.toNatClampNeg) ∧ tr01 (vR M1 13) (M1 274)) ∧ IR M1 ∧ (∀ k i, k ≠ 273 ∧ k ≠ 274 ∧ k ≠ 275 → M1 k i = M k i) ∧ ∀ k i, True → L1 k i = L k i) := by
  refine enter_i RX11 rfl [(0, .ref (ad 258)), (1, .int x)] rfl (Nat.le_of_ble_eq_true rfl) (by decide +kernel) rfl ?_
  intro p e s m below meth c C hr
  have hF : ∀ k i, k ≠ 273 ∧ k ≠ 274 ∧ k ≠ 275 → M k i = M k i := fun _ _ _ => rfl
  have hG : ∀ k i, True → L k i = L k i := fun _ _ _ => rfl
  have w0 : (vR M 0 0).toInt = (M 258 2).toInt := rfl
  have w1 : (vR M 0 1).toInt = (M 258 4).toInt := rfl
  have w2 : (vR M 0 2).toInt = (M 258 9).toInt := rfl
  have w3 : (vR M 0 3).toInt = (M 258 14).toInt := rfl
  obtain ⟨y0a, y0b⟩ := (show rg 0 10 (M 258 2) from hI 258 2)
  obtain ⟨y1a, y1b⟩ := (show rg 0 60 (M 258 4) from hI 258 4)
  obtain ⟨y2a, y2b⟩ := (show rg 0 8 (M 258 9) from hI 258 9)
  obtain ⟨y3a, y3b⟩ := (show rg 0 20 (M 258 14) from hI 258 14)
  obtain ⟨hm1, hm2⟩ := hm
  have q273 : M 273 = M 273 := rfl
  have q274 : M 274 = M 274 := rfl
  have q275 : M 275 = M 275 := rfl
  have hV : vR M = vR M := rfl
  refine g_iconst C 0 dX11_started_0 (by decide) ?_
  refine g_istore_n C [(2, .int 0), (0, .ref (ad 258)), (1, .int x)] dX11_started_1 (by decide) rfl ?_
  refine g_iload_n C 2 dX11_started_2 rfl ?_
  refine g_istore_n C [(3, .int x), (2, .int 0), (0, .ref (ad 258)), (1, .int x)] dX11_started_3 (by decide) rfl ?_
  have zy1 : (0 : Int32).toInt = 0 := by decide
  refine g_loop (α := Int32 × Int32 × MI × ML) (fun a => (20 - a.1.toInt).toNat) (fun a => (0 ≤ a.1.toInt) ∧ ((a.2.1.toInt = -9 ∧ a.1.toInt ≤ x.toInt + 1) ∨ (0 ≤ a.2.1.toInt ∧ a.2.1.toInt + a.1.toInt ≤ x.toInt)) ∧ (a.2.2.1 273 = M 273) ∧ (vR a.2.2.1 = vR M) ∧ (trF (vR M) 20 a.2.1 (vR M 13) (a.2.2.1 274) = trF (vR M) 20 x (vR M 13) (M 274)) ∧ (∀ j : Nat, j < a.1.toNatClampNeg → 0 ≤ (a.2.2.1 275 j).toInt ∧ (a.2.2.1 275 j).toInt < (vR M 0 3).toInt ∧ (vR M 13 (a.2.2.1 275 j).toNatClampNeg).toInt = 0) ∧ (∀ j : Nat, j + 1 < a.1.toNatClampNeg → vR M 12 (a.2.2.1 275 j).toNatClampNeg = a.2.2.1 275 (j + 1)) ∧ ((a.1.toNatClampNeg = 0 → a.2.1 = x) ∧ (0 < a.1.toNatClampNeg → a.2.2.1 275 0 = x ∧ vR M 12 (a.2.2.1 275 (a.1.toNatClampNeg - 1)).toNatClampNeg = a.2.1)) ∧ IR a.2.2.1 ∧ (∀ k i, k ≠ 273 ∧ k ≠ 274 ∧ k ≠ 275 → a.2.2.1 k i = M k i) ∧ (∀ k i, True → a.2.2.2 k i = L k i)) (fun a => a.2.2.1) (fun a => a.2.2.2) (fun a => [(3, .int a.2.1), (2, .int a.1), (0, .ref (ad 258)), (1, .int x)]) ((0 : Int32), x, M, L) ⟨by show 0 ≤ (0 : Int32).toInt; omega, by show (x.toInt = -9 ∧ (0 : Int32).toInt ≤ x.toInt + 1) ∨ (0 ≤ x.toInt ∧ x.toInt + (0 : Int32).toInt ≤ x.toInt); omega, by show M 273 = M 273; rfl, by show vR M = vR M; rfl, by show trF (vR M) 20 x (vR M 13) (M 274) = trF (vR M) 20 x (vR M 13) (M 274); rfl, by show ∀ j : Nat, j < (0 : Int32).toNatClampNeg → 0 ≤ (M 275 j).toInt ∧ (M 275 j).toInt < (vR M 0 3).toInt ∧ (vR M 13 (M 275 j).toNatClampNeg).toInt = 0; intro j hj; exact absurd hj (by show ¬ j < 0; omega), by show ∀ j : Nat, j + 1 < (0 : Int32).toNatClampNeg → vR M 12 (M 275 j).toNatClampNeg = M 275 (j + 1); intro j hj; exact absurd hj (by show ¬ j + 1 < 0; omega), by show ((0 : Int32).toNatClampNeg = 0 → x = x) ∧ (0 < (0 : Int32).toNatClampNeg → M 275 0 = x ∧ vR M 12 (M 275 ((0 : Int32).toNatClampNeg - 1)).toNatClampNeg = x); exact ⟨fun _ => rfl, fun h => absurd h (by decide)⟩, hI, hF, hG⟩ rfl rfl rfl ?_
  rintro ⟨x2_4, x3_4, M_4, L_4⟩ ⟨j4_0, j4_1, j4_2, j4_3, j4_4, j4_5, j4_6, j4_7, hI, hF, hG⟩ ih_4
  dsimp only at j4_0 j4_1 j4_2 j4_3 j4_4 j4_5 j4_6 j4_7 hI hF hG ih_4 ⊢
  have hV : vR M_4 = vR M_4 := rfl
  have q273 : M_4 273 = M_4 273 := rfl
  have q274 : M_4 274 = M_4 274 := rfl
  have q275 : M_4 275 = M_4 275 := rfl
  have q273 : M_4 273 = M 273 := j4_2
  have n2 := ixn (x := x2_4) (by omega)
  have h20 : (vR M 0 3).toInt ≤ 20 := by omega
  refine g_iload_n C 0 dX11_started_4 rfl ?_
  refine g_bipush C (-9) dX11_started_5 (by decide) ?_
  refine g_icmp_eq C 49 dX11_started_7 (by decide) (fun c2 => ?_) (fun c2 => ?_)
  ·
    have f3 := feq rfl (by decide : ((-9) : Int32).toInt = (-9)) c2
    have hst : x3_4.toInt = -9 ∨ (vR M 13 x3_4.toNatClampNeg).toInt ≠ 0 := by omega
    have hM4 : M_4 273 = vR M 13 := j4_2
    refine g_iload_n C 1 dX11_started_49 rfl ?_
    refine g_iconst C 1 dX11_started_50 (by decide) ?_
    refine g_isub C dX11_started_51 ?_
    refine g_ni (fun v4 ev4 => ?_)
    try have fv4 := fsub rfl (by decide : (1 : Int32).toInt = 1) ev4 (by omega) (by omega)
    refine g_istore C [(4, .int v4), (3, .int x3_4), (2, .int x2_4), (0, .ref (ad 258)), (1, .int x)] dX11_started_52 (by decide) rfl ?_
    refine g_loop (α := Int32 × MI × ML) (fun a => (a.1.toInt + 1).toNat) (fun a => (-1 ≤ a.1.toInt) ∧ (a.1.toInt + 1 ≤ x2_4.toInt) ∧ (a.2.1 275 = M_4 275) ∧ (a.2.1 274 = M_4 274) ∧ ((0 ≤ a.1.toInt → a.2.1 273 = stB (vR M) 20 (vR M 12 (M_4 275 a.1.toNatClampNeg).toNatClampNeg) (vR M 13)) ∧ (a.1.toInt = -1 → a.2.1 273 = stB (vR M) 20 x (vR M 13))) ∧ (∀ c, c ≠ 13 → vR a.2.1 c = vR M c) ∧ IR a.2.1 ∧ (∀ k i, k ≠ 273 ∧ k ≠ 274 ∧ k ≠ 275 → a.2.1 k i = M k i) ∧ (∀ k i, True → a.2.2 k i = L k i)) (fun a => a.2.1) (fun a => a.2.2) (fun a => [(4, .int a.1), (3, .int x3_4), (2, .int x2_4), (0, .ref (ad 258)), (1, .int x)]) (v4, M_4, L_4) ⟨by show -1 ≤ v4.toInt; omega, by show v4.toInt + 1 ≤ x2_4.toInt; omega, by show M_4 275 = M_4 275; rfl, by show M_4 274 = M_4 274; rfl, by show (0 ≤ v4.toInt → M_4 273 = stB (vR M) 20 (vR M 12 (M_4 275 v4.toNatClampNeg).toNatClampNeg) (vR M 13)) ∧ (v4.toInt = -1 → M_4 273 = stB (vR M) 20 x (vR M 13)); exact ⟨fun h => by rw [hM4, show v4.toNatClampNeg = x2_4.toNatClampNeg - 1 by (have := ixn h; omega), (j4_7.2 (by omega)).2, stB_stop hst], fun h => by rw [hM4, ← j4_7.1 (by omega), stB_stop hst]⟩, by show ∀ c, c ≠ 13 → vR M_4 c = vR M c; intro c _; rw [j4_3], hI, hF, hG⟩ rfl rfl rfl ?_
    rintro ⟨x4_54, M_54, L_54⟩ ⟨j54_0, j54_1, j54_2, j54_3, j54_4, j54_5, hI, hF, hG⟩ ih_54
    dsimp only at j54_0 j54_1 j54_2 j54_3 j54_4 j54_5 hI hF hG ih_54 ⊢
    have hV : vR M_54 = vR M_54 := rfl
    have q273 : M_54 273 = M_54 273 := rfl
    have q274 : M_54 274 = M_54 274 := rfl
    have q275 : M_54 275 = M_54 275 := rfl
    have q275 : M_54 275 = M_4 275 := j54_2
    refine g_iload C 0 dX11_started_54 rfl ?_
    refine g_if_lt C 143 dX11_started_56 (by decide) (fun c5 => ?_) (fun c5 => ?_)
    ·
      have f6 := fl rfl (by decide : (0 : Int32).toInt = 0) c5
      refine g_aload_n C 3 dX11_started_143 rfl ?_
      refine g_get C (.ref (ad 273)) 19 in_X11_started_11 (List.mem_of_getElem? (i := 1) rfl) (by decide) (ce_model ad cs _ _) rfl (by decide) rfl rfl dX11_started_144 ?_
      refine g_iload_n C 4 dX11_started_147 rfl ?_
      refine g_iald C (by decide) (ce_m_begun ad cs _ _) (fin' (n := 20) rfl (by omega) (by omega)) dX11_started_148 ?_
      refine g_ni (fun v7 ev7 => ?_)
      have gv7 : v7 = M_54 273 x.toNatClampNeg := ev7.trans (congrFun q273 _)
      have tv7 := congrArg Int32.toInt gv7
      have hS : M_54 273 = stB (vR M) 20 x (vR M 13) := j54_4.2 (by omega)
      exact g_iret C hr ⟨⟨by (funext c i; by_cases e9 : c = 13; (subst e9; show M_54 273 i = stB (vR M) 20 x (vR M 13) i; rw [hS]); (rw [j54_5 c e9]; unfold startV; rw [if_neg e9])), by (rw [gv7, hS]; rfl), by (show tr01 (M_54 273) (M_54 274); rw [hS, j54_3, ← trF_stop (T := M_4 274) hst, j4_4]; exact tr_st hN h20 _ 20 x _ (low20 h20 hm1 hm2) hT)⟩, hI, hF, hG⟩ dX11_started_149
    ·
      have f8 := fnl rfl (by decide : (0 : Int32).toInt = 0) c5
      have n4 := ixn (x := x4_54) (by omega)
      obtain ⟨cj1, cj2, cj3⟩ := j4_5 x4_54.toNatClampNeg (by omega)
      have ncj := ixn cj1
      have hn9 := hN (M_4 275 x4_54.toNatClampNeg).toNatClampNeg (by omega)
      have hB9 := j54_4.1 (by omega)
      refine g_aload_n C 3 dX11_started_59 rfl ?_
      refine g_get C (.ref (ad 272)) 18 in_X11_started_11 (List.mem_of_getElem? (i := 4) rfl) (by decide) (ce_model ad cs _ _) rfl (by decide) rfl rfl dX11_started_60 ?_
      refine g_aload_n C 3 dX11_started_63 rfl ?_
      refine g_get C (.ref (ad 275)) 21 in_X11_started_11 (List.mem_of_getElem? (i := 2) rfl) (by decide) (ce_model ad cs _ _) rfl (by decide) rfl rfl dX11_started_64 ?_
      refine g_iload C 0 dX11_started_67 rfl ?_
      refine g_iald C (by decide) (ce_m_row ad cs _ _) (fin' (n := 20) rfl (by omega) (by omega)) dX11_started_69 ?_
      refine g_ni (fun v9 ev9 => ?_)
      have gv9 : v9 = M_4 275 x4_54.toNatClampNeg := ev9.trans (congrFun q275 _)
      have tv9 := congrArg Int32.toInt gv9
      obtain ⟨bv9, dv9⟩ := (show rg 0 19 v9 from (by rw [ev9]; exact hI 275 x4_54.toNatClampNeg))
      subst gv9
      refine g_iald C (by decide) (ce_m_needOf ad cs _ _) (fin' (n := 20) rfl (by omega) (by omega)) dX11_started_70 ?_
      refine g_ni (fun v10 ev10 => ?_)
      have gv10 : v10 = vR M 12 (((M_4 275 x4_54.toNatClampNeg)).toNatClampNeg) := ev10.trans (hF 272 (((M_4 275 x4_54.toNatClampNeg)).toNatClampNeg) (by omega))
      have tv10 := congrArg Int32.toInt gv10
      subst gv10
      refine g_istore C [(5, .int ((vR M 12 (M_4 275 x4_54.toNatClampNeg).toNatClampNeg))), (4, .int x4_54), (3, .int x3_4), (2, .int x2_4), (0, .ref (ad 258)), (1, .int x)] dX11_started_71 (by decide) rfl ?_
      refine g_iload C 0 dX11_started_73 rfl ?_
      refine g_bipush C (-9) dX11_started_75 (by decide) ?_
      refine g_icmp_eq C 91 dX11_started_77 (by decide) (fun c11 => ?_) (fun c11 => ?_)
      ·
        have f12 := feq rfl (by decide : ((-9) : Int32).toInt = (-9)) c11
        refine g_aload_n C 4 dX11_started_91 rfl ?_
        refine g_get C (.ref (ad 269)) 15 in_X11_started_11 (List.mem_of_getElem? (i := 5) rfl) (by decide) (ce_model ad cs _ _) rfl (by decide) rfl rfl dX11_started_92 ?_
        refine g_aload_n C 4 dX11_started_95 rfl ?_
        refine g_get C (.ref (ad 275)) 21 in_X11_started_11 (List.mem_of_getElem? (i := 2) rfl) (by decide) (ce_model ad cs _ _) rfl (by decide) rfl rfl dX11_started_96 ?_
        refine g_iload C 1 dX11_started_99 rfl ?_
        refine g_iald C (by decide) (ce_m_row ad cs _ _) (fin' (n := 20) rfl (by omega) (by omega)) dX11_started_101 ?_
        refine g_ni (fun v13 ev13 => ?_)
        have gv13 : v13 = M_4 275 x4_54.toNatClampNeg := ev13.trans (congrFun q275 _)
        have tv13 := congrArg Int32.toInt gv13
        obtain ⟨bv13, dv13⟩ := (show rg 0 19 v13 from (by rw [ev13]; exact hI 275 x4_54.toNatClampNeg))
        subst gv13
        refine g_iald C (by decide) (ce_m_kindOf ad cs _ _) (fin' (n := 20) rfl (by omega) (by omega)) dX11_started_102 ?_
        refine g_ni (fun v14 ev14 => ?_)
        have gv14 : v14 = vR M 9 (((M_4 275 x4_54.toNatClampNeg)).toNatClampNeg) := ev14.trans (hF 269 (((M_4 275 x4_54.toNatClampNeg)).toNatClampNeg) (by omega))
        have tv14 := congrArg Int32.toInt gv14
        refine g_bipush C 8 dX11_started_103 (by decide) ?_
        refine g_icmp_ne C 112 dX11_started_105 (by decide) (fun c15 => ?_) (fun c15 => ?_)
        ·
          have f16 := fne rfl (by decide : (8 : Int32).toInt = 8) c15
          refine g_iconst C 0 dX11_started_112 (by decide) ?_
          refine g_istore C [(6, .int 0), (5, .int ((vR M 12 (M_4 275 x4_54.toNatClampNeg).toNatClampNeg))), (4, .int x4_54), (3, .int x3_4), (2, .int x2_4), (0, .ref (ad 258)), (1, .int x)] dX11_started_113 (by decide) rfl ?_
          refine g_aload_n C 5 dX11_started_115 rfl ?_
          refine g_get C (.ref (ad 273)) 19 in_X11_started_11 (List.mem_of_getElem? (i := 1) rfl) (by decide) (ce_model ad cs _ _) rfl (by decide) rfl rfl dX11_started_116 ?_
          refine g_aload_n C 5 dX11_started_119 rfl ?_
          refine g_get C (.ref (ad 275)) 21 in_X11_started_11 (List.mem_of_getElem? (i := 2) rfl) (by decide) (ce_model ad cs _ _) rfl (by decide) rfl rfl dX11_started_120 ?_
          refine g_iload C 2 dX11_started_123 rfl ?_
          refine g_iald C (by decide) (ce_m_row ad cs _ _) (fin' (n := 20) rfl (by omega) (by omega)) dX11_started_125 ?_
          refine g_ni (fun v17 ev17 => ?_)
          have gv17 : v17 = M_4 275 x4_54.toNatClampNeg := ev17.trans (congrFun q275 _)
          have tv17 := congrArg Int32.toInt gv17
          obtain ⟨bv17, dv17⟩ := (show rg 0 19 v17 from (by rw [ev17]; exact hI 275 x4_54.toNatClampNeg))
          subst gv17
          refine g_iload C 0 dX11_started_126 rfl ?_
          refine g_if_eq C 135 dX11_started_128 (by decide) (fun _ => ?_) (fun c18 => absurd c18 (by decide))
          refine g_iconst C 1 dX11_started_135 (by decide) ?_
          refine g_iast C (by decide) (ce_m_begun ad cs _ _) (by rw [sI_k]; rfl) (fin' (n := 20) rfl (by omega) (by omega)) dX11_started_136 ?_
          refine g_nm (fun M19 hM19 => ?_)
          have zy20 : (1 : Int32).toInt = 1 := by decide
          have hI : IR M19 := by rw [hM19]; exact hI.st (show bR 273 _ _ from trivial)
          have hF : ∀ k i, k ≠ 273 ∧ k ≠ 274 ∧ k ≠ 275 → M19 k i = M k i := fun k i hk => by (rw [hM19, sI_at, if_neg (by omega)]; try exact hF k i hk)
          have q274 : M19 274 = M_54 274 := by rw [hM19, sI_n _ _ _ (by decide)]; try exact q274
          have q275 : M19 275 = M_4 275 := by rw [hM19, sI_n _ _ _ (by decide)]; try exact q275
          have hV : vR M19 = sI (vR M_54) 13 (((M_4 275 x4_54.toNatClampNeg)).toNatClampNeg) 1 := by rw [hM19, vR_a (c := 13) (by decide), hV]
          obtain ⟨v21, ev21⟩ : ∃ y : Int32, y = x4_54 + (-1) := ⟨_, rfl⟩
          try have fv21 := fadd rfl (by decide : ((-1) : Int32).toInt = (-1)) ev21 (by omega) (by omega)
          refine g_iinc C 2 v21 [(4, .int v21), (6, .int 0), (5, .int ((vR M 12 (M_4 275 x4_54.toNatClampNeg).toNatClampNeg))), (3, .int x3_4), (2, .int x2_4), (0, .ref (ad 258)), (1, .int x)] dX11_started_137 rfl (by rw [ev21]; rfl) (by decide) rfl ?_
          refine g_goto C 54 dX11_started_140 (by decide) ?_
          refine g_lv [0, 3, 4, 5, 6] [(4, .int v21), (3, .int x3_4), (2, .int x2_4), (0, .ref (ad 258)), (1, .int x)] rfl ?_
          have hup : M19 273 = stB (vR M) 20 (M_4 275 x4_54.toNatClampNeg) (vR M 13) := by
            rw [hM19, sI_k, q273, hB9, stB_step hN h20 cj1 cj2 cj3]
            congr 1
            first | rw [if_pos (by omega)] | rw [if_neg (by omega)]
          exact ih_54 (v21, M19, L_54) ⟨by show -1 ≤ v21.toInt; omega, by show v21.toInt + 1 ≤ x2_4.toInt; omega, by show M19 275 = M_4 275; exact q275, by show M19 274 = M_4 274; exact q274.trans j54_3, by show (0 ≤ v21.toInt → M19 273 = stB (vR M) 20 (vR M 12 (M_4 275 v21.toNatClampNeg).toNatClampNeg) (vR M 13)) ∧ (v21.toInt = -1 → M19 273 = stB (vR M) 20 x (vR M 13)); exact ⟨fun h => by (have nk := ixn h; rw [hup, j4_6 _ (by omega), show v21.toNatClampNeg + 1 = x4_54.toNatClampNeg by omega]), fun h => by rw [hup, show x4_54.toNatClampNeg = 0 by omega, (j4_7.2 (by omega)).1]⟩, by show ∀ c, c ≠ 13 → vR M19 c = vR M c; intro c hc; rw [hV, sI_n _ _ _ hc]; exact j54_5 c hc, hI, hF, hG⟩ (by show (v21.toInt + 1).toNat < (x4_54.toInt + 1).toNat; omega)
        ·
          have f22 := feq rfl (by decide : (8 : Int32).toInt = 8) c15
          refine g_iconst C 1 dX11_started_108 (by decide) ?_
          refine g_goto C 113 dX11_started_109 (by decide) ?_
          refine g_istore C [(6, .int 1), (5, .int ((vR M 12 (M_4 275 x4_54.toNatClampNeg).toNatClampNeg))), (4, .int x4_54), (3, .int x3_4), (2, .int x2_4), (0, .ref (ad 258)), (1, .int x)] dX11_started_113 (by decide) rfl ?_
          refine g_aload_n C 5 dX11_started_115 rfl ?_
          refine g_get C (.ref (ad 273)) 19 in_X11_started_11 (List.mem_of_getElem? (i := 1) rfl) (by decide) (ce_model ad cs _ _) rfl (by decide) rfl rfl dX11_started_116 ?_
          refine g_aload_n C 5 dX11_started_119 rfl ?_
          refine g_get C (.ref (ad 275)) 21 in_X11_started_11 (List.mem_of_getElem? (i := 2) rfl) (by decide) (ce_model ad cs _ _) rfl (by decide) rfl rfl dX11_started_120 ?_
          refine g_iload C 2 dX11_started_123 rfl ?_
          refine g_iald C (by decide) (ce_m_row ad cs _ _) (fin' (n := 20) rfl (by omega) (by omega)) dX11_started_125 ?_
          refine g_ni (fun v23 ev23 => ?_)
          have gv23 : v23 = M_4 275 x4_54.toNatClampNeg := ev23.trans (congrFun q275 _)
          have tv23 := congrArg Int32.toInt gv23
          obtain ⟨bv23, dv23⟩ := (show rg 0 19 v23 from (by rw [ev23]; exact hI 275 x4_54.toNatClampNeg))
          subst gv23
          refine g_iload C 0 dX11_started_126 rfl ?_
          refine g_if_eq C 135 dX11_started_128 (by decide) (fun c24 => absurd c24 (by decide)) (fun _ => ?_)
          refine g_iconst C 2 dX11_started_131 (by decide) ?_
          refine g_goto C 136 dX11_started_132 (by decide) ?_
          refine g_iast C (by decide) (ce_m_begun ad cs _ _) (by rw [sI_k]; rfl) (fin' (n := 20) rfl (by omega) (by omega)) dX11_started_136 ?_
          refine g_nm (fun M25 hM25 => ?_)
          have zy26 : (2 : Int32).toInt = 2 := by decide
          have hI : IR M25 := by rw [hM25]; exact hI.st (show bR 273 _ _ from trivial)
          have hF : ∀ k i, k ≠ 273 ∧ k ≠ 274 ∧ k ≠ 275 → M25 k i = M k i := fun k i hk => by (rw [hM25, sI_at, if_neg (by omega)]; try exact hF k i hk)
          have q274 : M25 274 = M_54 274 := by rw [hM25, sI_n _ _ _ (by decide)]; try exact q274
          have q275 : M25 275 = M_4 275 := by rw [hM25, sI_n _ _ _ (by decide)]; try exact q275
          have hV : vR M25 = sI (vR M_54) 13 (((M_4 275 x4_54.toNatClampNeg)).toNatClampNeg) 2 := by rw [hM25, vR_a (c := 13) (by decide), hV]
          obtain ⟨v27, ev27⟩ : ∃ y : Int32, y = x4_54 + (-1) := ⟨_, rfl⟩
          try have fv27 := fadd rfl (by decide : ((-1) : Int32).toInt = (-1)) ev27 (by omega) (by omega)
          refine g_iinc C 2 v27 [(4, .int v27), (6, .int 1), (5, .int ((vR M 12 (M_4 275 x4_54.toNatClampNeg).toNatClampNeg))), (3, .int x3_4), (2, .int x2_4), (0, .ref (ad 258)), (1, .int x)] dX11_started_137 rfl (by rw [ev27]; rfl) (by decide) rfl ?_
          refine g_goto C 54 dX11_started_140 (by decide) ?_
          refine g_lv [0, 3, 4, 5, 6] [(4, .int v27), (3, .int x3_4), (2, .int x2_4), (0, .ref (ad 258)), (1, .int x)] rfl ?_
          have hup : M25 273 = stB (vR M) 20 (M_4 275 x4_54.toNatClampNeg) (vR M 13) := by
            rw [hM25, sI_k, q273, hB9, stB_step hN h20 cj1 cj2 cj3]
            congr 1
            first | rw [if_pos (by omega)] | rw [if_neg (by omega)]
          exact ih_54 (v27, M25, L_54) ⟨by show -1 ≤ v27.toInt; omega, by show v27.toInt + 1 ≤ x2_4.toInt; omega, by show M25 275 = M_4 275; exact q275, by show M25 274 = M_4 274; exact q274.trans j54_3, by show (0 ≤ v27.toInt → M25 273 = stB (vR M) 20 (vR M 12 (M_4 275 v27.toNatClampNeg).toNatClampNeg) (vR M 13)) ∧ (v27.toInt = -1 → M25 273 = stB (vR M) 20 x (vR M 13)); exact ⟨fun h => by (have nk := ixn h; rw [hup, j4_6 _ (by omega), show v27.toNatClampNeg + 1 = x4_54.toNatClampNeg by omega]), fun h => by rw [hup, show x4_54.toNatClampNeg = 0 by omega, (j4_7.2 (by omega)).1]⟩, by show ∀ c, c ≠ 13 → vR M25 c = vR M c; intro c hc; rw [hV, sI_n _ _ _ hc]; exact j54_5 c hc, hI, hF, hG⟩ (by show (v27.toInt + 1).toNat < (x4_54.toInt + 1).toNat; omega)
      ·
        have f28 := fne rfl (by decide : ((-9) : Int32).toInt = (-9)) c11
        refine g_aload_n C 4 dX11_started_80 rfl ?_
        refine g_get C (.ref (ad 273)) 19 in_X11_started_11 (List.mem_of_getElem? (i := 1) rfl) (by decide) (ce_model ad cs _ _) rfl (by decide) rfl rfl dX11_started_81 ?_
        refine g_iload C 0 dX11_started_84 rfl ?_
        refine g_iald C (by decide) (ce_m_begun ad cs _ _) (fin' (n := 20) rfl (by omega) (by omega)) dX11_started_86 ?_
        refine g_ni (fun v29 ev29 => ?_)
        have gv29 : v29 = M_54 273 (((vR M 12 (M_4 275 x4_54.toNatClampNeg).toNatClampNeg)).toNatClampNeg) := ev29.trans (congrFun q273 _)
        have tv29 := congrArg Int32.toInt gv29
        have tb9 : v29.toInt = (stB (vR M) 20 (vR M 12 (M_4 275 x4_54.toNatClampNeg).toNatClampNeg) (vR M 13) (vR M 12 (M_4 275 x4_54.toNatClampNeg).toNatClampNeg).toNatClampNeg).toInt := by rw [gv29, hB9]
        refine g_iconst C 2 dX11_started_87 (by decide) ?_
        refine g_icmp_eq C 108 dX11_started_88 (by decide) (fun c30 => ?_) (fun c30 => ?_)
        ·
          have f31 := feq rfl (by decide : (2 : Int32).toInt = 2) c30
          refine g_iconst C 1 dX11_started_108 (by decide) ?_
          refine g_goto C 113 dX11_started_109 (by decide) ?_
          refine g_istore C [(6, .int 1), (5, .int ((vR M 12 (M_4 275 x4_54.toNatClampNeg).toNatClampNeg))), (4, .int x4_54), (3, .int x3_4), (2, .int x2_4), (0, .ref (ad 258)), (1, .int x)] dX11_started_113 (by decide) rfl ?_
          refine g_aload_n C 5 dX11_started_115 rfl ?_
          refine g_get C (.ref (ad 273)) 19 in_X11_started_11 (List.mem_of_getElem? (i := 1) rfl) (by decide) (ce_model ad cs _ _) rfl (by decide) rfl rfl dX11_started_116 ?_
          refine g_aload_n C 5 dX11_started_119 rfl ?_
          refine g_get C (.ref (ad 275)) 21 in_X11_started_11 (List.mem_of_getElem? (i := 2) rfl) (by decide) (ce_model ad cs _ _) rfl (by decide) rfl rfl dX11_started_120 ?_
          refine g_iload C 2 dX11_started_123 rfl ?_
          refine g_iald C (by decide) (ce_m_row ad cs _ _) (fin' (n := 20) rfl (by omega) (by omega)) dX11_started_125 ?_
          refine g_ni (fun v32 ev32 => ?_)
          have gv32 : v32 = M_4 275 x4_54.toNatClampNeg := ev32.trans (congrFun q275 _)
          have tv32 := congrArg Int32.toInt gv32
          obtain ⟨bv32, dv32⟩ := (show rg 0 19 v32 from (by rw [ev32]; exact hI 275 x4_54.toNatClampNeg))
          subst gv32
          refine g_iload C 0 dX11_started_126 rfl ?_
          refine g_if_eq C 135 dX11_started_128 (by decide) (fun c33 => absurd c33 (by decide)) (fun _ => ?_)
          refine g_iconst C 2 dX11_started_131 (by decide) ?_
          refine g_goto C 136 dX11_started_132 (by decide) ?_
          refine g_iast C (by decide) (ce_m_begun ad cs _ _) (by rw [sI_k]; rfl) (fin' (n := 20) rfl (by omega) (by omega)) dX11_started_136 ?_
          refine g_nm (fun M34 hM34 => ?_)
          have zy35 : (2 : Int32).toInt = 2 := by decide
          have hI : IR M34 := by rw [hM34]; exact hI.st (show bR 273 _ _ from trivial)
          have hF : ∀ k i, k ≠ 273 ∧ k ≠ 274 ∧ k ≠ 275 → M34 k i = M k i := fun k i hk => by (rw [hM34, sI_at, if_neg (by omega)]; try exact hF k i hk)
          have q274 : M34 274 = M_54 274 := by rw [hM34, sI_n _ _ _ (by decide)]; try exact q274
          have q275 : M34 275 = M_4 275 := by rw [hM34, sI_n _ _ _ (by decide)]; try exact q275
          have hV : vR M34 = sI (vR M_54) 13 (((M_4 275 x4_54.toNatClampNeg)).toNatClampNeg) 2 := by rw [hM34, vR_a (c := 13) (by decide), hV]
          obtain ⟨v36, ev36⟩ : ∃ y : Int32, y = x4_54 + (-1) := ⟨_, rfl⟩
          try have fv36 := fadd rfl (by decide : ((-1) : Int32).toInt = (-1)) ev36 (by omega) (by omega)
          refine g_iinc C 2 v36 [(4, .int v36), (6, .int 1), (5, .int ((vR M 12 (M_4 275 x4_54.toNatClampNeg).toNatClampNeg))), (3, .int x3_4), (2, .int x2_4), (0, .ref (ad 258)), (1, .int x)] dX11_started_137 rfl (by rw [ev36]; rfl) (by decide) rfl ?_
          refine g_goto C 54 dX11_started_140 (by decide) ?_
          refine g_lv [0, 3, 4, 5, 6] [(4, .int v36), (3, .int x3_4), (2, .int x2_4), (0, .ref (ad 258)), (1, .int x)] rfl ?_
          have hup : M34 273 = stB (vR M) 20 (M_4 275 x4_54.toNatClampNeg) (vR M 13) := by
            rw [hM34, sI_k, q273, hB9, stB_step hN h20 cj1 cj2 cj3]
            congr 1
            first | rw [if_pos (by omega)] | rw [if_neg (by omega)]
          exact ih_54 (v36, M34, L_54) ⟨by show -1 ≤ v36.toInt; omega, by show v36.toInt + 1 ≤ x2_4.toInt; omega, by show M34 275 = M_4 275; exact q275, by show M34 274 = M_4 274; exact q274.trans j54_3, by show (0 ≤ v36.toInt → M34 273 = stB (vR M) 20 (vR M 12 (M_4 275 v36.toNatClampNeg).toNatClampNeg) (vR M 13)) ∧ (v36.toInt = -1 → M34 273 = stB (vR M) 20 x (vR M 13)); exact ⟨fun h => by (have nk := ixn h; rw [hup, j4_6 _ (by omega), show v36.toNatClampNeg + 1 = x4_54.toNatClampNeg by omega]), fun h => by rw [hup, show x4_54.toNatClampNeg = 0 by omega, (j4_7.2 (by omega)).1]⟩, by show ∀ c, c ≠ 13 → vR M34 c = vR M c; intro c hc; rw [hV, sI_n _ _ _ hc]; exact j54_5 c hc, hI, hF, hG⟩ (by show (v36.toInt + 1).toNat < (x4_54.toInt + 1).toNat; omega)
        ·
          have f37 := fne rfl (by decide : (2 : Int32).toInt = 2) c30
          refine g_aload_n C 4 dX11_started_91 rfl ?_
          refine g_get C (.ref (ad 269)) 15 in_X11_started_11 (List.mem_of_getElem? (i := 5) rfl) (by decide) (ce_model ad cs _ _) rfl (by decide) rfl rfl dX11_started_92 ?_
          refine g_aload_n C 4 dX11_started_95 rfl ?_
          refine g_get C (.ref (ad 275)) 21 in_X11_started_11 (List.mem_of_getElem? (i := 2) rfl) (by decide) (ce_model ad cs _ _) rfl (by decide) rfl rfl dX11_started_96 ?_
          refine g_iload C 1 dX11_started_99 rfl ?_
          refine g_iald C (by decide) (ce_m_row ad cs _ _) (fin' (n := 20) rfl (by omega) (by omega)) dX11_started_101 ?_
          refine g_ni (fun v38 ev38 => ?_)
          have gv38 : v38 = M_4 275 x4_54.toNatClampNeg := ev38.trans (congrFun q275 _)
          have tv38 := congrArg Int32.toInt gv38
          obtain ⟨bv38, dv38⟩ := (show rg 0 19 v38 from (by rw [ev38]; exact hI 275 x4_54.toNatClampNeg))
          subst gv38
          refine g_iald C (by decide) (ce_m_kindOf ad cs _ _) (fin' (n := 20) rfl (by omega) (by omega)) dX11_started_102 ?_
          refine g_ni (fun v39 ev39 => ?_)
          have gv39 : v39 = vR M 9 (((M_4 275 x4_54.toNatClampNeg)).toNatClampNeg) := ev39.trans (hF 269 (((M_4 275 x4_54.toNatClampNeg)).toNatClampNeg) (by omega))
          have tv39 := congrArg Int32.toInt gv39
          refine g_bipush C 8 dX11_started_103 (by decide) ?_
          refine g_icmp_ne C 112 dX11_started_105 (by decide) (fun c40 => ?_) (fun c40 => ?_)
          ·
            have f41 := fne rfl (by decide : (8 : Int32).toInt = 8) c40
            refine g_iconst C 0 dX11_started_112 (by decide) ?_
            refine g_istore C [(6, .int 0), (5, .int ((vR M 12 (M_4 275 x4_54.toNatClampNeg).toNatClampNeg))), (4, .int x4_54), (3, .int x3_4), (2, .int x2_4), (0, .ref (ad 258)), (1, .int x)] dX11_started_113 (by decide) rfl ?_
            refine g_aload_n C 5 dX11_started_115 rfl ?_
            refine g_get C (.ref (ad 273)) 19 in_X11_started_11 (List.mem_of_getElem? (i := 1) rfl) (by decide) (ce_model ad cs _ _) rfl (by decide) rfl rfl dX11_started_116 ?_
            refine g_aload_n C 5 dX11_started_119 rfl ?_
            refine g_get C (.ref (ad 275)) 21 in_X11_started_11 (List.mem_of_getElem? (i := 2) rfl) (by decide) (ce_model ad cs _ _) rfl (by decide) rfl rfl dX11_started_120 ?_
            refine g_iload C 2 dX11_started_123 rfl ?_
            refine g_iald C (by decide) (ce_m_row ad cs _ _) (fin' (n := 20) rfl (by omega) (by omega)) dX11_started_125 ?_
            refine g_ni (fun v42 ev42 => ?_)
            have gv42 : v42 = M_4 275 x4_54.toNatClampNeg := ev42.trans (congrFun q275 _)
            have tv42 := congrArg Int32.toInt gv42
            obtain ⟨bv42, dv42⟩ := (show rg 0 19 v42 from (by rw [ev42]; exact hI 275 x4_54.toNatClampNeg))
            subst gv42
            refine g_iload C 0 dX11_started_126 rfl ?_
            refine g_if_eq C 135 dX11_started_128 (by decide) (fun _ => ?_) (fun c43 => absurd c43 (by decide))
            refine g_iconst C 1 dX11_started_135 (by decide) ?_
            refine g_iast C (by decide) (ce_m_begun ad cs _ _) (by rw [sI_k]; rfl) (fin' (n := 20) rfl (by omega) (by omega)) dX11_started_136 ?_
            refine g_nm (fun M44 hM44 => ?_)
            have zy45 : (1 : Int32).toInt = 1 := by decide
            have hI : IR M44 := by rw [hM44]; exact hI.st (show bR 273 _ _ from trivial)
            have hF : ∀ k i, k ≠ 273 ∧ k ≠ 274 ∧ k ≠ 275 → M44 k i = M k i := fun k i hk => by (rw [hM44, sI_at, if_neg (by omega)]; try exact hF k i hk)
            have q274 : M44 274 = M_54 274 := by rw [hM44, sI_n _ _ _ (by decide)]; try exact q274
            have q275 : M44 275 = M_4 275 := by rw [hM44, sI_n _ _ _ (by decide)]; try exact q275
            have hV : vR M44 = sI (vR M_54) 13 (((M_4 275 x4_54.toNatClampNeg)).toNatClampNeg) 1 := by rw [hM44, vR_a (c := 13) (by decide), hV]
            obtain ⟨v46, ev46⟩ : ∃ y : Int32, y = x4_54 + (-1) := ⟨_, rfl⟩
            try have fv46 := fadd rfl (by decide : ((-1) : Int32).toInt = (-1)) ev46 (by omega) (by omega)
            refine g_iinc C 2 v46 [(4, .int v46), (6, .int 0), (5, .int ((vR M 12 (M_4 275 x4_54.toNatClampNeg).toNatClampNeg))), (3, .int x3_4), (2, .int x2_4), (0, .ref (ad 258)), (1, .int x)] dX11_started_137 rfl (by rw [ev46]; rfl) (by decide) rfl ?_
            refine g_goto C 54 dX11_started_140 (by decide) ?_
            refine g_lv [0, 3, 4, 5, 6] [(4, .int v46), (3, .int x3_4), (2, .int x2_4), (0, .ref (ad 258)), (1, .int x)] rfl ?_
            have hup : M44 273 = stB (vR M) 20 (M_4 275 x4_54.toNatClampNeg) (vR M 13) := by
              rw [hM44, sI_k, q273, hB9, stB_step hN h20 cj1 cj2 cj3]
              congr 1
              first | rw [if_pos (by omega)] | rw [if_neg (by omega)]
            exact ih_54 (v46, M44, L_54) ⟨by show -1 ≤ v46.toInt; omega, by show v46.toInt + 1 ≤ x2_4.toInt; omega, by show M44 275 = M_4 275; exact q275, by show M44 274 = M_4 274; exact q274.trans j54_3, by show (0 ≤ v46.toInt → M44 273 = stB (vR M) 20 (vR M 12 (M_4 275 v46.toNatClampNeg).toNatClampNeg) (vR M 13)) ∧ (v46.toInt = -1 → M44 273 = stB (vR M) 20 x (vR M 13)); exact ⟨fun h => by (have nk := ixn h; rw [hup, j4_6 _ (by omega), show v46.toNatClampNeg + 1 = x4_54.toNatClampNeg by omega]), fun h => by rw [hup, show x4_54.toNatClampNeg = 0 by omega, (j4_7.2 (by omega)).1]⟩, by show ∀ c, c ≠ 13 → vR M44 c = vR M c; intro c hc; rw [hV, sI_n _ _ _ hc]; exact j54_5 c hc, hI, hF, hG⟩ (by show (v46.toInt + 1).toNat < (x4_54.toInt + 1).toNat; omega)
          ·
            have f47 := feq rfl (by decide : (8 : Int32).toInt = 8) c40
            refine g_iconst C 1 dX11_started_108 (by decide) ?_
            refine g_goto C 113 dX11_started_109 (by decide) ?_
            refine g_istore C [(6, .int 1), (5, .int ((vR M 12 (M_4 275 x4_54.toNatClampNeg).toNatClampNeg))), (4, .int x4_54), (3, .int x3_4), (2, .int x2_4), (0, .ref (ad 258)), (1, .int x)] dX11_started_113 (by decide) rfl ?_
            refine g_aload_n C 5 dX11_started_115 rfl ?_
            refine g_get C (.ref (ad 273)) 19 in_X11_started_11 (List.mem_of_getElem? (i := 1) rfl) (by decide) (ce_model ad cs _ _) rfl (by decide) rfl rfl dX11_started_116 ?_
            refine g_aload_n C 5 dX11_started_119 rfl ?_
            refine g_get C (.ref (ad 275)) 21 in_X11_started_11 (List.mem_of_getElem? (i := 2) rfl) (by decide) (ce_model ad cs _ _) rfl (by decide) rfl rfl dX11_started_120 ?_
            refine g_iload C 2 dX11_started_123 rfl ?_
            refine g_iald C (by decide) (ce_m_row ad cs _ _) (fin' (n := 20) rfl (by omega) (by omega)) dX11_started_125 ?_
            refine g_ni (fun v48 ev48 => ?_)
            have gv48 : v48 = M_4 275 x4_54.toNatClampNeg := ev48.trans (congrFun q275 _)
            have tv48 := congrArg Int32.toInt gv48
            obtain ⟨bv48, dv48⟩ := (show rg 0 19 v48 from (by rw [ev48]; exact hI 275 x4_54.toNatClampNeg))
            subst gv48
            refine g_iload C 0 dX11_started_126 rfl ?_
            refine g_if_eq C 135 dX11_started_128 (by decide) (fun c49 => absurd c49 (by decide)) (fun _ => ?_)
            refine g_iconst C 2 dX11_started_131 (by decide) ?_
            refine g_goto C 136 dX11_started_132 (by decide) ?_
            refine g_iast C (by decide) (ce_m_begun ad cs _ _) (by rw [sI_k]; rfl) (fin' (n := 20) rfl (by omega) (by omega)) dX11_started_136 ?_
            refine g_nm (fun M50 hM50 => ?_)
            have zy51 : (2 : Int32).toInt = 2 := by decide
            have hI : IR M50 := by rw [hM50]; exact hI.st (show bR 273 _ _ from trivial)
            have hF : ∀ k i, k ≠ 273 ∧ k ≠ 274 ∧ k ≠ 275 → M50 k i = M k i := fun k i hk => by (rw [hM50, sI_at, if_neg (by omega)]; try exact hF k i hk)
            have q274 : M50 274 = M_54 274 := by rw [hM50, sI_n _ _ _ (by decide)]; try exact q274
            have q275 : M50 275 = M_4 275 := by rw [hM50, sI_n _ _ _ (by decide)]; try exact q275
            have hV : vR M50 = sI (vR M_54) 13 (((M_4 275 x4_54.toNatClampNeg)).toNatClampNeg) 2 := by rw [hM50, vR_a (c := 13) (by decide), hV]
            obtain ⟨v52, ev52⟩ : ∃ y : Int32, y = x4_54 + (-1) := ⟨_, rfl⟩
            try have fv52 := fadd rfl (by decide : ((-1) : Int32).toInt = (-1)) ev52 (by omega) (by omega)
            refine g_iinc C 2 v52 [(4, .int v52), (6, .int 1), (5, .int ((vR M 12 (M_4 275 x4_54.toNatClampNeg).toNatClampNeg))), (3, .int x3_4), (2, .int x2_4), (0, .ref (ad 258)), (1, .int x)] dX11_started_137 rfl (by rw [ev52]; rfl) (by decide) rfl ?_
            refine g_goto C 54 dX11_started_140 (by decide) ?_
            refine g_lv [0, 3, 4, 5, 6] [(4, .int v52), (3, .int x3_4), (2, .int x2_4), (0, .ref (ad 258)), (1, .int x)] rfl ?_
            have hup : M50 273 = stB (vR M) 20 (M_4 275 x4_54.toNatClampNeg) (vR M 13) := by
              rw [hM50, sI_k, q273, hB9, stB_step hN h20 cj1 cj2 cj3]
              congr 1
              first | rw [if_pos (by omega)] | rw [if_neg (by omega)]
            exact ih_54 (v52, M50, L_54) ⟨by show -1 ≤ v52.toInt; omega, by show v52.toInt + 1 ≤ x2_4.toInt; omega, by show M50 275 = M_4 275; exact q275, by show M50 274 = M_4 274; exact q274.trans j54_3, by show (0 ≤ v52.toInt → M50 273 = stB (vR M) 20 (vR M 12 (M_4 275 v52.toNatClampNeg).toNatClampNeg) (vR M 13)) ∧ (v52.toInt = -1 → M50 273 = stB (vR M) 20 x (vR M 13)); exact ⟨fun h => by (have nk := ixn h; rw [hup, j4_6 _ (by omega), show v52.toNatClampNeg + 1 = x4_54.toNatClampNeg by omega]), fun h => by rw [hup, show x4_54.toNatClampNeg = 0 by omega, (j4_7.2 (by omega)).1]⟩, by show ∀ c, c ≠ 13 → vR M50 c = vR M c; intro c hc; rw [hV, sI_n _ _ _ hc]; exact j54_5 c hc, hI, hF, hG⟩ (by show (v52.toInt + 1).toNat < (x4_54.toInt + 1).toNat; omega)
  ·
    have f53 := fne rfl (by decide : ((-9) : Int32).toInt = (-9)) c2
    refine g_aload_n C 2 dX11_started_10 rfl ?_
    refine g_get C (.ref (ad 273)) 19 in_X11_started_11 (List.mem_of_getElem? (i := 1) rfl) (by decide) (ce_model ad cs _ _) rfl (by decide) rfl rfl dX11_started_11 ?_
    refine g_iload_n C 0 dX11_started_14 rfl ?_
    refine g_iald C (by decide) (ce_m_begun ad cs _ _) (fin' (n := 20) rfl (by omega) (by omega)) dX11_started_15 ?_
    refine g_ni (fun v54 ev54 => ?_)
    have gv54 : v54 = vR M 13 x3_4.toNatClampNeg := ev54.trans (congrFun q273 _)
    have tv54 := congrArg Int32.toInt gv54
    refine g_if_ne C 49 dX11_started_16 (by decide) (fun c55 => ?_) (fun c55 => ?_)
    ·
      have f56 := fne rfl (by decide : (0 : Int32).toInt = 0) c55
      have hst : x3_4.toInt = -9 ∨ (vR M 13 x3_4.toNatClampNeg).toInt ≠ 0 := by omega
      have hM4 : M_4 273 = vR M 13 := j4_2
      refine g_iload_n C 1 dX11_started_49 rfl ?_
      refine g_iconst C 1 dX11_started_50 (by decide) ?_
      refine g_isub C dX11_started_51 ?_
      refine g_ni (fun v57 ev57 => ?_)
      try have fv57 := fsub rfl (by decide : (1 : Int32).toInt = 1) ev57 (by omega) (by omega)
      refine g_istore C [(4, .int v57), (3, .int x3_4), (2, .int x2_4), (0, .ref (ad 258)), (1, .int x)] dX11_started_52 (by decide) rfl ?_
      refine g_loop (α := Int32 × MI × ML) (fun a => (a.1.toInt + 1).toNat) (fun a => (-1 ≤ a.1.toInt) ∧ (a.1.toInt + 1 ≤ x2_4.toInt) ∧ (a.2.1 275 = M_4 275) ∧ (a.2.1 274 = M_4 274) ∧ ((0 ≤ a.1.toInt → a.2.1 273 = stB (vR M) 20 (vR M 12 (M_4 275 a.1.toNatClampNeg).toNatClampNeg) (vR M 13)) ∧ (a.1.toInt = -1 → a.2.1 273 = stB (vR M) 20 x (vR M 13))) ∧ (∀ c, c ≠ 13 → vR a.2.1 c = vR M c) ∧ IR a.2.1 ∧ (∀ k i, k ≠ 273 ∧ k ≠ 274 ∧ k ≠ 275 → a.2.1 k i = M k i) ∧ (∀ k i, True → a.2.2 k i = L k i)) (fun a => a.2.1) (fun a => a.2.2) (fun a => [(4, .int a.1), (3, .int x3_4), (2, .int x2_4), (0, .ref (ad 258)), (1, .int x)]) (v57, M_4, L_4) ⟨by show -1 ≤ v57.toInt; omega, by show v57.toInt + 1 ≤ x2_4.toInt; omega, by show M_4 275 = M_4 275; rfl, by show M_4 274 = M_4 274; rfl, by show (0 ≤ v57.toInt → M_4 273 = stB (vR M) 20 (vR M 12 (M_4 275 v57.toNatClampNeg).toNatClampNeg) (vR M 13)) ∧ (v57.toInt = -1 → M_4 273 = stB (vR M) 20 x (vR M 13)); exact ⟨fun h => by rw [hM4, show v57.toNatClampNeg = x2_4.toNatClampNeg - 1 by (have := ixn h; omega), (j4_7.2 (by omega)).2, stB_stop hst], fun h => by rw [hM4, ← j4_7.1 (by omega), stB_stop hst]⟩, by show ∀ c, c ≠ 13 → vR M_4 c = vR M c; intro c _; rw [j4_3], hI, hF, hG⟩ rfl rfl rfl ?_
      rintro ⟨x4_54, M_54, L_54⟩ ⟨j54_0, j54_1, j54_2, j54_3, j54_4, j54_5, hI, hF, hG⟩ ih_54
      dsimp only at j54_0 j54_1 j54_2 j54_3 j54_4 j54_5 hI hF hG ih_54 ⊢
      have hV : vR M_54 = vR M_54 := rfl
      have q273 : M_54 273 = M_54 273 := rfl
      have q274 : M_54 274 = M_54 274 := rfl
      have q275 : M_54 275 = M_54 275 := rfl
      have q275 : M_54 275 = M_4 275 := j54_2
      refine g_iload C 0 dX11_started_54 rfl ?_
      refine g_if_lt C 143 dX11_started_56 (by decide) (fun c58 => ?_) (fun c58 => ?_)
      ·
        have f59 := fl rfl (by decide : (0 : Int32).toInt = 0) c58
        refine g_aload_n C 3 dX11_started_143 rfl ?_
        refine g_get C (.ref (ad 273)) 19 in_X11_started_11 (List.mem_of_getElem? (i := 1) rfl) (by decide) (ce_model ad cs _ _) rfl (by decide) rfl rfl dX11_started_144 ?_
        refine g_iload_n C 4 dX11_started_147 rfl ?_
        refine g_iald C (by decide) (ce_m_begun ad cs _ _) (fin' (n := 20) rfl (by omega) (by omega)) dX11_started_148 ?_
        refine g_ni (fun v60 ev60 => ?_)
        have gv60 : v60 = M_54 273 x.toNatClampNeg := ev60.trans (congrFun q273 _)
        have tv60 := congrArg Int32.toInt gv60
        have hS : M_54 273 = stB (vR M) 20 x (vR M 13) := j54_4.2 (by omega)
        exact g_iret C hr ⟨⟨by (funext c i; by_cases e9 : c = 13; (subst e9; show M_54 273 i = stB (vR M) 20 x (vR M 13) i; rw [hS]); (rw [j54_5 c e9]; unfold startV; rw [if_neg e9])), by (rw [gv60, hS]; rfl), by (show tr01 (M_54 273) (M_54 274); rw [hS, j54_3, ← trF_stop (T := M_4 274) hst, j4_4]; exact tr_st hN h20 _ 20 x _ (low20 h20 hm1 hm2) hT)⟩, hI, hF, hG⟩ dX11_started_149
      ·
        have f61 := fnl rfl (by decide : (0 : Int32).toInt = 0) c58
        have n4 := ixn (x := x4_54) (by omega)
        obtain ⟨cj1, cj2, cj3⟩ := j4_5 x4_54.toNatClampNeg (by omega)
        have ncj := ixn cj1
        have hn9 := hN (M_4 275 x4_54.toNatClampNeg).toNatClampNeg (by omega)
        have hB9 := j54_4.1 (by omega)
        refine g_aload_n C 3 dX11_started_59 rfl ?_
        refine g_get C (.ref (ad 272)) 18 in_X11_started_11 (List.mem_of_getElem? (i := 4) rfl) (by decide) (ce_model ad cs _ _) rfl (by decide) rfl rfl dX11_started_60 ?_
        refine g_aload_n C 3 dX11_started_63 rfl ?_
        refine g_get C (.ref (ad 275)) 21 in_X11_started_11 (List.mem_of_getElem? (i := 2) rfl) (by decide) (ce_model ad cs _ _) rfl (by decide) rfl rfl dX11_started_64 ?_
        refine g_iload C 0 dX11_started_67 rfl ?_
        refine g_iald C (by decide) (ce_m_row ad cs _ _) (fin' (n := 20) rfl (by omega) (by omega)) dX11_started_69 ?_
        refine g_ni (fun v62 ev62 => ?_)
        have gv62 : v62 = M_4 275 x4_54.toNatClampNeg := ev62.trans (congrFun q275 _)
        have tv62 := congrArg Int32.toInt gv62
        obtain ⟨bv62, dv62⟩ := (show rg 0 19 v62 from (by rw [ev62]; exact hI 275 x4_54.toNatClampNeg))
        subst gv62
        refine g_iald C (by decide) (ce_m_needOf ad cs _ _) (fin' (n := 20) rfl (by omega) (by omega)) dX11_started_70 ?_
        refine g_ni (fun v63 ev63 => ?_)
        have gv63 : v63 = vR M 12 (((M_4 275 x4_54.toNatClampNeg)).toNatClampNeg) := ev63.trans (hF 272 (((M_4 275 x4_54.toNatClampNeg)).toNatClampNeg) (by omega))
        have tv63 := congrArg Int32.toInt gv63
        subst gv63
        refine g_istore C [(5, .int ((vR M 12 (M_4 275 x4_54.toNatClampNeg).toNatClampNeg))), (4, .int x4_54), (3, .int x3_4), (2, .int x2_4), (0, .ref (ad 258)), (1, .int x)] dX11_started_71 (by decide) rfl ?_
        refine g_iload C 0 dX11_started_73 rfl ?_
        refine g_bipush C (-9) dX11_started_75 (by decide) ?_
        refine g_icmp_eq C 91 dX11_started_77 (by decide) (fun c64 => ?_) (fun c64 => ?_)
        ·
          have f65 := feq rfl (by decide : ((-9) : Int32).toInt = (-9)) c64
          refine g_aload_n C 4 dX11_started_91 rfl ?_
          refine g_get C (.ref (ad 269)) 15 in_X11_started_11 (List.mem_of_getElem? (i := 5) rfl) (by decide) (ce_model ad cs _ _) rfl (by decide) rfl rfl dX11_started_92 ?_
          refine g_aload_n C 4 dX11_started_95 rfl ?_
          refine g_get C (.ref (ad 275)) 21 in_X11_started_11 (List.mem_of_getElem? (i := 2) rfl) (by decide) (ce_model ad cs _ _) rfl (by decide) rfl rfl dX11_started_96 ?_
          refine g_iload C 1 dX11_started_99 rfl ?_
          refine g_iald C (by decide) (ce_m_row ad cs _ _) (fin' (n := 20) rfl (by omega) (by omega)) dX11_started_101 ?_
          refine g_ni (fun v66 ev66 => ?_)
          have gv66 : v66 = M_4 275 x4_54.toNatClampNeg := ev66.trans (congrFun q275 _)
          have tv66 := congrArg Int32.toInt gv66
          obtain ⟨bv66, dv66⟩ := (show rg 0 19 v66 from (by rw [ev66]; exact hI 275 x4_54.toNatClampNeg))
          subst gv66
          refine g_iald C (by decide) (ce_m_kindOf ad cs _ _) (fin' (n := 20) rfl (by omega) (by omega)) dX11_started_102 ?_
          refine g_ni (fun v67 ev67 => ?_)
          have gv67 : v67 = vR M 9 (((M_4 275 x4_54.toNatClampNeg)).toNatClampNeg) := ev67.trans (hF 269 (((M_4 275 x4_54.toNatClampNeg)).toNatClampNeg) (by omega))
          have tv67 := congrArg Int32.toInt gv67
          refine g_bipush C 8 dX11_started_103 (by decide) ?_
          refine g_icmp_ne C 112 dX11_started_105 (by decide) (fun c68 => ?_) (fun c68 => ?_)
          ·
            have f69 := fne rfl (by decide : (8 : Int32).toInt = 8) c68
            refine g_iconst C 0 dX11_started_112 (by decide) ?_
            refine g_istore C [(6, .int 0), (5, .int ((vR M 12 (M_4 275 x4_54.toNatClampNeg).toNatClampNeg))), (4, .int x4_54), (3, .int x3_4), (2, .int x2_4), (0, .ref (ad 258)), (1, .int x)] dX11_started_113 (by decide) rfl ?_
            refine g_aload_n C 5 dX11_started_115 rfl ?_
            refine g_get C (.ref (ad 273)) 19 in_X11_started_11 (List.mem_of_getElem? (i := 1) rfl) (by decide) (ce_model ad cs _ _) rfl (by decide) rfl rfl dX11_started_116 ?_
            refine g_aload_n C 5 dX11_started_119 rfl ?_
            refine g_get C (.ref (ad 275)) 21 in_X11_started_11 (List.mem_of_getElem? (i := 2) rfl) (by decide) (ce_model ad cs _ _) rfl (by decide) rfl rfl dX11_started_120 ?_
            refine g_iload C 2 dX11_started_123 rfl ?_
            refine g_iald C (by decide) (ce_m_row ad cs _ _) (fin' (n := 20) rfl (by omega) (by omega)) dX11_started_125 ?_
            refine g_ni (fun v70 ev70 => ?_)
            have gv70 : v70 = M_4 275 x4_54.toNatClampNeg := ev70.trans (congrFun q275 _)
            have tv70 := congrArg Int32.toInt gv70
            obtain ⟨bv70, dv70⟩ := (show rg 0 19 v70 from (by rw [ev70]; exact hI 275 x4_54.toNatClampNeg))
            subst gv70
            refine g_iload C 0 dX11_started_126 rfl ?_
            refine g_if_eq C 135 dX11_started_128 (by decide) (fun _ => ?_) (fun c71 => absurd c71 (by decide))
            refine g_iconst C 1 dX11_started_135 (by decide) ?_
            refine g_iast C (by decide) (ce_m_begun ad cs _ _) (by rw [sI_k]; rfl) (fin' (n := 20) rfl (by omega) (by omega)) dX11_started_136 ?_
            refine g_nm (fun M72 hM72 => ?_)
            have zy73 : (1 : Int32).toInt = 1 := by decide
            have hI : IR M72 := by rw [hM72]; exact hI.st (show bR 273 _ _ from trivial)
            have hF : ∀ k i, k ≠ 273 ∧ k ≠ 274 ∧ k ≠ 275 → M72 k i = M k i := fun k i hk => by (rw [hM72, sI_at, if_neg (by omega)]; try exact hF k i hk)
            have q274 : M72 274 = M_54 274 := by rw [hM72, sI_n _ _ _ (by decide)]; try exact q274
            have q275 : M72 275 = M_4 275 := by rw [hM72, sI_n _ _ _ (by decide)]; try exact q275
            have hV : vR M72 = sI (vR M_54) 13 (((M_4 275 x4_54.toNatClampNeg)).toNatClampNeg) 1 := by rw [hM72, vR_a (c := 13) (by decide), hV]
            obtain ⟨v74, ev74⟩ : ∃ y : Int32, y = x4_54 + (-1) := ⟨_, rfl⟩
            try have fv74 := fadd rfl (by decide : ((-1) : Int32).toInt = (-1)) ev74 (by omega) (by omega)
            refine g_iinc C 2 v74 [(4, .int v74), (6, .int 0), (5, .int ((vR M 12 (M_4 275 x4_54.toNatClampNeg).toNatClampNeg))), (3, .int x3_4), (2, .int x2_4), (0, .ref (ad 258)), (1, .int x)] dX11_started_137 rfl (by rw [ev74]; rfl) (by decide) rfl ?_
            refine g_goto C 54 dX11_started_140 (by decide) ?_
            refine g_lv [0, 3, 4, 5, 6] [(4, .int v74), (3, .int x3_4), (2, .int x2_4), (0, .ref (ad 258)), (1, .int x)] rfl ?_
            have hup : M72 273 = stB (vR M) 20 (M_4 275 x4_54.toNatClampNeg) (vR M 13) := by
              rw [hM72, sI_k, q273, hB9, stB_step hN h20 cj1 cj2 cj3]
              congr 1
              first | rw [if_pos (by omega)] | rw [if_neg (by omega)]
            exact ih_54 (v74, M72, L_54) ⟨by show -1 ≤ v74.toInt; omega, by show v74.toInt + 1 ≤ x2_4.toInt; omega, by show M72 275 = M_4 275; exact q275, by show M72 274 = M_4 274; exact q274.trans j54_3, by show (0 ≤ v74.toInt → M72 273 = stB (vR M) 20 (vR M 12 (M_4 275 v74.toNatClampNeg).toNatClampNeg) (vR M 13)) ∧ (v74.toInt = -1 → M72 273 = stB (vR M) 20 x (vR M 13)); exact ⟨fun h => by (have nk := ixn h; rw [hup, j4_6 _ (by omega), show v74.toNatClampNeg + 1 = x4_54.toNatClampNeg by omega]), fun h => by rw [hup, show x4_54.toNatClampNeg = 0 by omega, (j4_7.2 (by omega)).1]⟩, by show ∀ c, c ≠ 13 → vR M72 c = vR M c; intro c hc; rw [hV, sI_n _ _ _ hc]; exact j54_5 c hc, hI, hF, hG⟩ (by show (v74.toInt + 1).toNat < (x4_54.toInt + 1).toNat; omega)
          ·
            have f75 := feq rfl (by decide : (8 : Int32).toInt = 8) c68
            refine g_iconst C 1 dX11_started_108 (by decide) ?_
            refine g_goto C 113 dX11_started_109 (by decide) ?_
            refine g_istore C [(6, .int 1), (5, .int ((vR M 12 (M_4 275 x4_54.toNatClampNeg).toNatClampNeg))), (4, .int x4_54), (3, .int x3_4), (2, .int x2_4), (0, .ref (ad 258)), (1, .int x)] dX11_started_113 (by decide) rfl ?_
            refine g_aload_n C 5 dX11_started_115 rfl ?_
            refine g_get C (.ref (ad 273)) 19 in_X11_started_11 (List.mem_of_getElem? (i := 1) rfl) (by decide) (ce_model ad cs _ _) rfl (by decide) rfl rfl dX11_started_116 ?_
            refine g_aload_n C 5 dX11_started_119 rfl ?_
            refine g_get C (.ref (ad 275)) 21 in_X11_started_11 (List.mem_of_getElem? (i := 2) rfl) (by decide) (ce_model ad cs _ _) rfl (by decide) rfl rfl dX11_started_120 ?_
            refine g_iload C 2 dX11_started_123 rfl ?_
            refine g_iald C (by decide) (ce_m_row ad cs _ _) (fin' (n := 20) rfl (by omega) (by omega)) dX11_started_125 ?_
            refine g_ni (fun v76 ev76 => ?_)
            have gv76 : v76 = M_4 275 x4_54.toNatClampNeg := ev76.trans (congrFun q275 _)
            have tv76 := congrArg Int32.toInt gv76
            obtain ⟨bv76, dv76⟩ := (show rg 0 19 v76 from (by rw [ev76]; exact hI 275 x4_54.toNatClampNeg))
            subst gv76
            refine g_iload C 0 dX11_started_126 rfl ?_
            refine g_if_eq C 135 dX11_started_128 (by decide) (fun c77 => absurd c77 (by decide)) (fun _ => ?_)
            refine g_iconst C 2 dX11_started_131 (by decide) ?_
            refine g_goto C 136 dX11_started_132 (by decide) ?_
            refine g_iast C (by decide) (ce_m_begun ad cs _ _) (by rw [sI_k]; rfl) (fin' (n := 20) rfl (by omega) (by omega)) dX11_started_136 ?_
            refine g_nm (fun M78 hM78 => ?_)
            have zy79 : (2 : Int32).toInt = 2 := by decide
            have hI : IR M78 := by rw [hM78]; exact hI.st (show bR 273 _ _ from trivial)
            have hF : ∀ k i, k ≠ 273 ∧ k ≠ 274 ∧ k ≠ 275 → M78 k i = M k i := fun k i hk => by (rw [hM78, sI_at, if_neg (by omega)]; try exact hF k i hk)
            have q274 : M78 274 = M_54 274 := by rw [hM78, sI_n _ _ _ (by decide)]; try exact q274
            have q275 : M78 275 = M_4 275 := by rw [hM78, sI_n _ _ _ (by decide)]; try exact q275
            have hV : vR M78 = sI (vR M_54) 13 (((M_4 275 x4_54.toNatClampNeg)).toNatClampNeg) 2 := by rw [hM78, vR_a (c := 13) (by decide), hV]
            obtain ⟨v80, ev80⟩ : ∃ y : Int32, y = x4_54 + (-1) := ⟨_, rfl⟩
            try have fv80 := fadd rfl (by decide : ((-1) : Int32).toInt = (-1)) ev80 (by omega) (by omega)
            refine g_iinc C 2 v80 [(4, .int v80), (6, .int 1), (5, .int ((vR M 12 (M_4 275 x4_54.toNatClampNeg).toNatClampNeg))), (3, .int x3_4), (2, .int x2_4), (0, .ref (ad 258)), (1, .int x)] dX11_started_137 rfl (by rw [ev80]; rfl) (by decide) rfl ?_
            refine g_goto C 54 dX11_started_140 (by decide) ?_
            refine g_lv [0, 3, 4, 5, 6] [(4, .int v80), (3, .int x3_4), (2, .int x2_4), (0, .ref (ad 258)), (1, .int x)] rfl ?_
            have hup : M78 273 = stB (vR M) 20 (M_4 275 x4_54.toNatClampNeg) (vR M 13) := by
              rw [hM78, sI_k, q273, hB9, stB_step hN h20 cj1 cj2 cj3]
              congr 1
              first | rw [if_pos (by omega)] | rw [if_neg (by omega)]
            exact ih_54 (v80, M78, L_54) ⟨by show -1 ≤ v80.toInt; omega, by show v80.toInt + 1 ≤ x2_4.toInt; omega, by show M78 275 = M_4 275; exact q275, by show M78 274 = M_4 274; exact q274.trans j54_3, by show (0 ≤ v80.toInt → M78 273 = stB (vR M) 20 (vR M 12 (M_4 275 v80.toNatClampNeg).toNatClampNeg) (vR M 13)) ∧ (v80.toInt = -1 → M78 273 = stB (vR M) 20 x (vR M 13)); exact ⟨fun h => by (have nk := ixn h; rw [hup, j4_6 _ (by omega), show v80.toNatClampNeg + 1 = x4_54.toNatClampNeg by omega]), fun h => by rw [hup, show x4_54.toNatClampNeg = 0 by omega, (j4_7.2 (by omega)).1]⟩, by show ∀ c, c ≠ 13 → vR M78 c = vR M c; intro c hc; rw [hV, sI_n _ _ _ hc]; exact j54_5 c hc, hI, hF, hG⟩ (by show (v80.toInt + 1).toNat < (x4_54.toInt + 1).toNat; omega)
        ·
          have f81 := fne rfl (by decide : ((-9) : Int32).toInt = (-9)) c64
          refine g_aload_n C 4 dX11_started_80 rfl ?_
          refine g_get C (.ref (ad 273)) 19 in_X11_started_11 (List.mem_of_getElem? (i := 1) rfl) (by decide) (ce_model ad cs _ _) rfl (by decide) rfl rfl dX11_started_81 ?_
          refine g_iload C 0 dX11_started_84 rfl ?_
          refine g_iald C (by decide) (ce_m_begun ad cs _ _) (fin' (n := 20) rfl (by omega) (by omega)) dX11_started_86 ?_
          refine g_ni (fun v82 ev82 => ?_)
          have gv82 : v82 = M_54 273 (((vR M 12 (M_4 275 x4_54.toNatClampNeg).toNatClampNeg)).toNatClampNeg) := ev82.trans (congrFun q273 _)
          have tv82 := congrArg Int32.toInt gv82
          have tb9 : v82.toInt = (stB (vR M) 20 (vR M 12 (M_4 275 x4_54.toNatClampNeg).toNatClampNeg) (vR M 13) (vR M 12 (M_4 275 x4_54.toNatClampNeg).toNatClampNeg).toNatClampNeg).toInt := by rw [gv82, hB9]
          refine g_iconst C 2 dX11_started_87 (by decide) ?_
          refine g_icmp_eq C 108 dX11_started_88 (by decide) (fun c83 => ?_) (fun c83 => ?_)
          ·
            have f84 := feq rfl (by decide : (2 : Int32).toInt = 2) c83
            refine g_iconst C 1 dX11_started_108 (by decide) ?_
            refine g_goto C 113 dX11_started_109 (by decide) ?_
            refine g_istore C [(6, .int 1), (5, .int ((vR M 12 (M_4 275 x4_54.toNatClampNeg).toNatClampNeg))), (4, .int x4_54), (3, .int x3_4), (2, .int x2_4), (0, .ref (ad 258)), (1, .int x)] dX11_started_113 (by decide) rfl ?_
            refine g_aload_n C 5 dX11_started_115 rfl ?_
            refine g_get C (.ref (ad 273)) 19 in_X11_started_11 (List.mem_of_getElem? (i := 1) rfl) (by decide) (ce_model ad cs _ _) rfl (by decide) rfl rfl dX11_started_116 ?_
            refine g_aload_n C 5 dX11_started_119 rfl ?_
            refine g_get C (.ref (ad 275)) 21 in_X11_started_11 (List.mem_of_getElem? (i := 2) rfl) (by decide) (ce_model ad cs _ _) rfl (by decide) rfl rfl dX11_started_120 ?_
            refine g_iload C 2 dX11_started_123 rfl ?_
            refine g_iald C (by decide) (ce_m_row ad cs _ _) (fin' (n := 20) rfl (by omega) (by omega)) dX11_started_125 ?_
            refine g_ni (fun v85 ev85 => ?_)
            have gv85 : v85 = M_4 275 x4_54.toNatClampNeg := ev85.trans (congrFun q275 _)
            have tv85 := congrArg Int32.toInt gv85
            obtain ⟨bv85, dv85⟩ := (show rg 0 19 v85 from (by rw [ev85]; exact hI 275 x4_54.toNatClampNeg))
            subst gv85
            refine g_iload C 0 dX11_started_126 rfl ?_
            refine g_if_eq C 135 dX11_started_128 (by decide) (fun c86 => absurd c86 (by decide)) (fun _ => ?_)
            refine g_iconst C 2 dX11_started_131 (by decide) ?_
            refine g_goto C 136 dX11_started_132 (by decide) ?_
            refine g_iast C (by decide) (ce_m_begun ad cs _ _) (by rw [sI_k]; rfl) (fin' (n := 20) rfl (by omega) (by omega)) dX11_started_136 ?_
            refine g_nm (fun M87 hM87 => ?_)
            have zy88 : (2 : Int32).toInt = 2 := by decide
            have hI : IR M87 := by rw [hM87]; exact hI.st (show bR 273 _ _ from trivial)
            have hF : ∀ k i, k ≠ 273 ∧ k ≠ 274 ∧ k ≠ 275 → M87 k i = M k i := fun k i hk => by (rw [hM87, sI_at, if_neg (by omega)]; try exact hF k i hk)
            have q274 : M87 274 = M_54 274 := by rw [hM87, sI_n _ _ _ (by decide)]; try exact q274
            have q275 : M87 275 = M_4 275 := by rw [hM87, sI_n _ _ _ (by decide)]; try exact q275
            have hV : vR M87 = sI (vR M_54) 13 (((M_4 275 x4_54.toNatClampNeg)).toNatClampNeg) 2 := by rw [hM87, vR_a (c := 13) (by decide), hV]
            obtain ⟨v89, ev89⟩ : ∃ y : Int32, y = x4_54 + (-1) := ⟨_, rfl⟩
            try have fv89 := fadd rfl (by decide : ((-1) : Int32).toInt = (-1)) ev89 (by omega) (by omega)
            refine g_iinc C 2 v89 [(4, .int v89), (6, .int 1), (5, .int ((vR M 12 (M_4 275 x4_54.toNatClampNeg).toNatClampNeg))), (3, .int x3_4), (2, .int x2_4), (0, .ref (ad 258)), (1, .int x)] dX11_started_137 rfl (by rw [ev89]; rfl) (by decide) rfl ?_
            refine g_goto C 54 dX11_started_140 (by decide) ?_
            refine g_lv [0, 3, 4, 5, 6] [(4, .int v89), (3, .int x3_4), (2, .int x2_4), (0, .ref (ad 258)), (1, .int x)] rfl ?_
            have hup : M87 273 = stB (vR M) 20 (M_4 275 x4_54.toNatClampNeg) (vR M 13) := by
              rw [hM87, sI_k, q273, hB9, stB_step hN h20 cj1 cj2 cj3]
              congr 1
              first | rw [if_pos (by omega)] | rw [if_neg (by omega)]
            exact ih_54 (v89, M87, L_54) ⟨by show -1 ≤ v89.toInt; omega, by show v89.toInt + 1 ≤ x2_4.toInt; omega, by show M87 275 = M_4 275; exact q275, by show M87 274 = M_4 274; exact q274.trans j54_3, by show (0 ≤ v89.toInt → M87 273 = stB (vR M) 20 (vR M 12 (M_4 275 v89.toNatClampNeg).toNatClampNeg) (vR M 13)) ∧ (v89.toInt = -1 → M87 273 = stB (vR M) 20 x (vR M 13)); exact ⟨fun h => by (have nk := ixn h; rw [hup, j4_6 _ (by omega), show v89.toNatClampNeg + 1 = x4_54.toNatClampNeg by omega]), fun h => by rw [hup, show x4_54.toNatClampNeg = 0 by omega, (j4_7.2 (by omega)).1]⟩, by show ∀ c, c ≠ 13 → vR M87 c = vR M c; intro c hc; rw [hV, sI_n _ _ _ hc]; exact j54_5 c hc, hI, hF, hG⟩ (by show (v89.toInt + 1).toNat < (x4_54.toInt + 1).toNat; omega)
          ·
            have f90 := fne rfl (by decide : (2 : Int32).toInt = 2) c83
            refine g_aload_n C 4 dX11_started_91 rfl ?_
            refine g_get C (.ref (ad 269)) 15 in_X11_started_11 (List.mem_of_getElem? (i := 5) rfl) (by decide) (ce_model ad cs _ _) rfl (by decide) rfl rfl dX11_started_92 ?_
            refine g_aload_n C 4 dX11_started_95 rfl ?_
            refine g_get C (.ref (ad 275)) 21 in_X11_started_11 (List.mem_of_getElem? (i := 2) rfl) (by decide) (ce_model ad cs _ _) rfl (by decide) rfl rfl dX11_started_96 ?_
            refine g_iload C 1 dX11_started_99 rfl ?_
            refine g_iald C (by decide) (ce_m_row ad cs _ _) (fin' (n := 20) rfl (by omega) (by omega)) dX11_started_101 ?_
            refine g_ni (fun v91 ev91 => ?_)
            have gv91 : v91 = M_4 275 x4_54.toNatClampNeg := ev91.trans (congrFun q275 _)
            have tv91 := congrArg Int32.toInt gv91
            obtain ⟨bv91, dv91⟩ := (show rg 0 19 v91 from (by rw [ev91]; exact hI 275 x4_54.toNatClampNeg))
            subst gv91
            refine g_iald C (by decide) (ce_m_kindOf ad cs _ _) (fin' (n := 20) rfl (by omega) (by omega)) dX11_started_102 ?_
            refine g_ni (fun v92 ev92 => ?_)
            have gv92 : v92 = vR M 9 (((M_4 275 x4_54.toNatClampNeg)).toNatClampNeg) := ev92.trans (hF 269 (((M_4 275 x4_54.toNatClampNeg)).toNatClampNeg) (by omega))
            have tv92 := congrArg Int32.toInt gv92
            refine g_bipush C 8 dX11_started_103 (by decide) ?_
            refine g_icmp_ne C 112 dX11_started_105 (by decide) (fun c93 => ?_) (fun c93 => ?_)
            ·
              have f94 := fne rfl (by decide : (8 : Int32).toInt = 8) c93
              refine g_iconst C 0 dX11_started_112 (by decide) ?_
              refine g_istore C [(6, .int 0), (5, .int ((vR M 12 (M_4 275 x4_54.toNatClampNeg).toNatClampNeg))), (4, .int x4_54), (3, .int x3_4), (2, .int x2_4), (0, .ref (ad 258)), (1, .int x)] dX11_started_113 (by decide) rfl ?_
              refine g_aload_n C 5 dX11_started_115 rfl ?_
              refine g_get C (.ref (ad 273)) 19 in_X11_started_11 (List.mem_of_getElem? (i := 1) rfl) (by decide) (ce_model ad cs _ _) rfl (by decide) rfl rfl dX11_started_116 ?_
              refine g_aload_n C 5 dX11_started_119 rfl ?_
              refine g_get C (.ref (ad 275)) 21 in_X11_started_11 (List.mem_of_getElem? (i := 2) rfl) (by decide) (ce_model ad cs _ _) rfl (by decide) rfl rfl dX11_started_120 ?_
              refine g_iload C 2 dX11_started_123 rfl ?_
              refine g_iald C (by decide) (ce_m_row ad cs _ _) (fin' (n := 20) rfl (by omega) (by omega)) dX11_started_125 ?_
              refine g_ni (fun v95 ev95 => ?_)
              have gv95 : v95 = M_4 275 x4_54.toNatClampNeg := ev95.trans (congrFun q275 _)
              have tv95 := congrArg Int32.toInt gv95
              obtain ⟨bv95, dv95⟩ := (show rg 0 19 v95 from (by rw [ev95]; exact hI 275 x4_54.toNatClampNeg))
              subst gv95
              refine g_iload C 0 dX11_started_126 rfl ?_
              refine g_if_eq C 135 dX11_started_128 (by decide) (fun _ => ?_) (fun c96 => absurd c96 (by decide))
              refine g_iconst C 1 dX11_started_135 (by decide) ?_
              refine g_iast C (by decide) (ce_m_begun ad cs _ _) (by rw [sI_k]; rfl) (fin' (n := 20) rfl (by omega) (by omega)) dX11_started_136 ?_
              refine g_nm (fun M97 hM97 => ?_)
              have zy98 : (1 : Int32).toInt = 1 := by decide
              have hI : IR M97 := by rw [hM97]; exact hI.st (show bR 273 _ _ from trivial)
              have hF : ∀ k i, k ≠ 273 ∧ k ≠ 274 ∧ k ≠ 275 → M97 k i = M k i := fun k i hk => by (rw [hM97, sI_at, if_neg (by omega)]; try exact hF k i hk)
              have q274 : M97 274 = M_54 274 := by rw [hM97, sI_n _ _ _ (by decide)]; try exact q274
              have q275 : M97 275 = M_4 275 := by rw [hM97, sI_n _ _ _ (by decide)]; try exact q275
              have hV : vR M97 = sI (vR M_54) 13 (((M_4 275 x4_54.toNatClampNeg)).toNatClampNeg) 1 := by rw [hM97, vR_a (c := 13) (by decide), hV]
              obtain ⟨v99, ev99⟩ : ∃ y : Int32, y = x4_54 + (-1) := ⟨_, rfl⟩
              try have fv99 := fadd rfl (by decide : ((-1) : Int32).toInt = (-1)) ev99 (by omega) (by omega)
              refine g_iinc C 2 v99 [(4, .int v99), (6, .int 0), (5, .int ((vR M 12 (M_4 275 x4_54.toNatClampNeg).toNatClampNeg))), (3, .int x3_4), (2, .int x2_4), (0, .ref (ad 258)), (1, .int x)] dX11_started_137 rfl (by rw [ev99]; rfl) (by decide) rfl ?_
              refine g_goto C 54 dX11_started_140 (by decide) ?_
              refine g_lv [0, 3, 4, 5, 6] [(4, .int v99), (3, .int x3_4), (2, .int x2_4), (0, .ref (ad 258)), (1, .int x)] rfl ?_
              have hup : M97 273 = stB (vR M) 20 (M_4 275 x4_54.toNatClampNeg) (vR M 13) := by
                rw [hM97, sI_k, q273, hB9, stB_step hN h20 cj1 cj2 cj3]
                congr 1
                first | rw [if_pos (by omega)] | rw [if_neg (by omega)]
              exact ih_54 (v99, M97, L_54) ⟨by show -1 ≤ v99.toInt; omega, by show v99.toInt + 1 ≤ x2_4.toInt; omega, by show M97 275 = M_4 275; exact q275, by show M97 274 = M_4 274; exact q274.trans j54_3, by show (0 ≤ v99.toInt → M97 273 = stB (vR M) 20 (vR M 12 (M_4 275 v99.toNatClampNeg).toNatClampNeg) (vR M 13)) ∧ (v99.toInt = -1 → M97 273 = stB (vR M) 20 x (vR M 13)); exact ⟨fun h => by (have nk := ixn h; rw [hup, j4_6 _ (by omega), show v99.toNatClampNeg + 1 = x4_54.toNatClampNeg by omega]), fun h => by rw [hup, show x4_54.toNatClampNeg = 0 by omega, (j4_7.2 (by omega)).1]⟩, by show ∀ c, c ≠ 13 → vR M97 c = vR M c; intro c hc; rw [hV, sI_n _ _ _ hc]; exact j54_5 c hc, hI, hF, hG⟩ (by show (v99.toInt + 1).toNat < (x4_54.toInt + 1).toNat; omega)
            ·
              have f100 := feq rfl (by decide : (8 : Int32).toInt = 8) c93
              refine g_iconst C 1 dX11_started_108 (by decide) ?_
              refine g_goto C 113 dX11_started_109 (by decide) ?_
              refine g_istore C [(6, .int 1), (5, .int ((vR M 12 (M_4 275 x4_54.toNatClampNeg).toNatClampNeg))), (4, .int x4_54), (3, .int x3_4), (2, .int x2_4), (0, .ref (ad 258)), (1, .int x)] dX11_started_113 (by decide) rfl ?_
              refine g_aload_n C 5 dX11_started_115 rfl ?_
              refine g_get C (.ref (ad 273)) 19 in_X11_started_11 (List.mem_of_getElem? (i := 1) rfl) (by decide) (ce_model ad cs _ _) rfl (by decide) rfl rfl dX11_started_116 ?_
              refine g_aload_n C 5 dX11_started_119 rfl ?_
              refine g_get C (.ref (ad 275)) 21 in_X11_started_11 (List.mem_of_getElem? (i := 2) rfl) (by decide) (ce_model ad cs _ _) rfl (by decide) rfl rfl dX11_started_120 ?_
              refine g_iload C 2 dX11_started_123 rfl ?_
              refine g_iald C (by decide) (ce_m_row ad cs _ _) (fin' (n := 20) rfl (by omega) (by omega)) dX11_started_125 ?_
              refine g_ni (fun v101 ev101 => ?_)
              have gv101 : v101 = M_4 275 x4_54.toNatClampNeg := ev101.trans (congrFun q275 _)
              have tv101 := congrArg Int32.toInt gv101
              obtain ⟨bv101, dv101⟩ := (show rg 0 19 v101 from (by rw [ev101]; exact hI 275 x4_54.toNatClampNeg))
              subst gv101
              refine g_iload C 0 dX11_started_126 rfl ?_
              refine g_if_eq C 135 dX11_started_128 (by decide) (fun c102 => absurd c102 (by decide)) (fun _ => ?_)
              refine g_iconst C 2 dX11_started_131 (by decide) ?_
              refine g_goto C 136 dX11_started_132 (by decide) ?_
              refine g_iast C (by decide) (ce_m_begun ad cs _ _) (by rw [sI_k]; rfl) (fin' (n := 20) rfl (by omega) (by omega)) dX11_started_136 ?_
              refine g_nm (fun M103 hM103 => ?_)
              have zy104 : (2 : Int32).toInt = 2 := by decide
              have hI : IR M103 := by rw [hM103]; exact hI.st (show bR 273 _ _ from trivial)
              have hF : ∀ k i, k ≠ 273 ∧ k ≠ 274 ∧ k ≠ 275 → M103 k i = M k i := fun k i hk => by (rw [hM103, sI_at, if_neg (by omega)]; try exact hF k i hk)
              have q274 : M103 274 = M_54 274 := by rw [hM103, sI_n _ _ _ (by decide)]; try exact q274
              have q275 : M103 275 = M_4 275 := by rw [hM103, sI_n _ _ _ (by decide)]; try exact q275
              have hV : vR M103 = sI (vR M_54) 13 (((M_4 275 x4_54.toNatClampNeg)).toNatClampNeg) 2 := by rw [hM103, vR_a (c := 13) (by decide), hV]
              obtain ⟨v105, ev105⟩ : ∃ y : Int32, y = x4_54 + (-1) := ⟨_, rfl⟩
              try have fv105 := fadd rfl (by decide : ((-1) : Int32).toInt = (-1)) ev105 (by omega) (by omega)
              refine g_iinc C 2 v105 [(4, .int v105), (6, .int 1), (5, .int ((vR M 12 (M_4 275 x4_54.toNatClampNeg).toNatClampNeg))), (3, .int x3_4), (2, .int x2_4), (0, .ref (ad 258)), (1, .int x)] dX11_started_137 rfl (by rw [ev105]; rfl) (by decide) rfl ?_
              refine g_goto C 54 dX11_started_140 (by decide) ?_
              refine g_lv [0, 3, 4, 5, 6] [(4, .int v105), (3, .int x3_4), (2, .int x2_4), (0, .ref (ad 258)), (1, .int x)] rfl ?_
              have hup : M103 273 = stB (vR M) 20 (M_4 275 x4_54.toNatClampNeg) (vR M 13) := by
                rw [hM103, sI_k, q273, hB9, stB_step hN h20 cj1 cj2 cj3]
                congr 1
                first | rw [if_pos (by omega)] | rw [if_neg (by omega)]
              exact ih_54 (v105, M103, L_54) ⟨by show -1 ≤ v105.toInt; omega, by show v105.toInt + 1 ≤ x2_4.toInt; omega, by show M103 275 = M_4 275; exact q275, by show M103 274 = M_4 274; exact q274.trans j54_3, by show (0 ≤ v105.toInt → M103 273 = stB (vR M) 20 (vR M 12 (M_4 275 v105.toNatClampNeg).toNatClampNeg) (vR M 13)) ∧ (v105.toInt = -1 → M103 273 = stB (vR M) 20 x (vR M 13)); exact ⟨fun h => by (have nk := ixn h; rw [hup, j4_6 _ (by omega), show v105.toNatClampNeg + 1 = x4_54.toNatClampNeg by omega]), fun h => by rw [hup, show x4_54.toNatClampNeg = 0 by omega, (j4_7.2 (by omega)).1]⟩, by show ∀ c, c ≠ 13 → vR M103 c = vR M c; intro c hc; rw [hV, sI_n _ _ _ hc]; exact j54_5 c hc, hI, hF, hG⟩ (by show (v105.toInt + 1).toNat < (x4_54.toInt + 1).toNat; omega)
    ·
      have f106 := feq rfl (by decide : (0 : Int32).toInt = 0) c55
      have n3 := ixn (x := x3_4) (by omega)
      have hn9 := hN x3_4.toNatClampNeg (by omega)
      refine g_aload_n C 2 dX11_started_19 rfl ?_
      refine g_get C (.ref (ad 275)) 21 in_X11_started_11 (List.mem_of_getElem? (i := 2) rfl) (by decide) (ce_model ad cs _ _) rfl (by decide) rfl rfl dX11_started_20 ?_
      refine g_iload_n C 1 dX11_started_23 rfl ?_
      refine g_iload_n C 0 dX11_started_24 rfl ?_
      refine g_iast C (by decide) (ce_m_row ad cs _ _) (by rw [sI_k]; rfl) (fin' (n := 20) rfl (by omega) (by omega)) dX11_started_25 ?_
      refine g_nm (fun M107 hM107 => ?_)
      have hI : IR M107 := by rw [hM107]; exact hI.st (show bR 275 _ _ from ⟨by first | omega | decide, by first | omega | decide⟩)
      have hF : ∀ k i, k ≠ 273 ∧ k ≠ 274 ∧ k ≠ 275 → M107 k i = M k i := fun k i hk => by (rw [hM107, sI_at, if_neg (by omega)]; try exact hF k i hk)
      have q273 : M107 273 = M 273 := by rw [hM107, sI_n _ _ _ (by decide)]; try exact q273
      have q274 : M107 274 = M_4 274 := by rw [hM107, sI_n _ _ _ (by decide)]; try exact q274
      have hV : vR M107 = vR M_4 := by rw [hM107, vR_z (by decide), hV]
      obtain ⟨v108, ev108⟩ : ∃ y : Int32, y = x2_4 + 1 := ⟨_, rfl⟩
      try have fv108 := fadd rfl (by decide : (1 : Int32).toInt = 1) ev108 (by omega) (by omega)
      refine g_iinc C 1 v108 [(2, .int v108), (3, .int x3_4), (0, .ref (ad 258)), (1, .int x)] dX11_started_26 rfl (by rw [ev108]; rfl) (by decide) rfl ?_
      refine g_aload_n C 2 dX11_started_29 rfl ?_
      refine g_get C (.ref (ad 274)) 20 in_X11_started_11 (List.mem_of_getElem? (i := 3) rfl) (by decide) (ce_model ad cs _ _) rfl (by decide) rfl rfl dX11_started_30 ?_
      refine g_iload_n C 1 dX11_started_33 rfl ?_
      refine g_dup2 C dX11_started_34 rfl rfl ?_
      refine g_iald C (by decide) (ce_m_trials ad cs _ _) (fin' (n := 20) rfl (by omega) (by omega)) dX11_started_35 ?_
      refine g_ni (fun v109 ev109 => ?_)
      have gv109 : v109 = M_4 274 x3_4.toNatClampNeg := ev109.trans (congrFun q274 _)
      have tv109 := congrArg Int32.toInt gv109
      refine g_iconst C 1 dX11_started_36 (by decide) ?_
      refine g_iadd C dX11_started_37 ?_
      refine g_ni (fun v110 ev110 => ?_)
      try have fv110 := fadd rfl (by decide : (1 : Int32).toInt = 1) ev110 (by omega) (by omega)
      have q274o := q274
      refine g_iast C (by decide) (ce_m_trials ad cs _ _) (by rw [sI_k]; rfl) (fin' (n := 20) rfl (by omega) (by omega)) dX11_started_38 ?_
      refine g_nm (fun M111 hM111 => ?_)
      have hI : IR M111 := by rw [hM111]; exact hI.st (show bR 274 _ _ from trivial)
      have hF : ∀ k i, k ≠ 273 ∧ k ≠ 274 ∧ k ≠ 275 → M111 k i = M k i := fun k i hk => by (rw [hM111, sI_at, if_neg (by omega)]; try exact hF k i hk)
      have q273 : M111 273 = M 273 := by rw [hM111, sI_n _ _ _ (by decide)]; try exact q273
      have hV : vR M111 = vR M_4 := by rw [hM111, vR_z (by decide), hV]
      refine g_aload_n C 2 dX11_started_39 rfl ?_
      refine g_get C (.ref (ad 272)) 18 in_X11_started_11 (List.mem_of_getElem? (i := 4) rfl) (by decide) (ce_model ad cs _ _) rfl (by decide) rfl rfl dX11_started_40 ?_
      refine g_iload_n C 1 dX11_started_43 rfl ?_
      refine g_iald C (by decide) (ce_m_needOf ad cs _ _) (fin' (n := 20) rfl (by omega) (by omega)) dX11_started_44 ?_
      refine g_ni (fun v112 ev112 => ?_)
      have gv112 : v112 = vR M 12 x3_4.toNatClampNeg := ev112.trans (hF 272 x3_4.toNatClampNeg (by omega))
      have tv112 := congrArg Int32.toInt gv112
      refine g_istore_n C [(3, .int v112), (2, .int v108), (0, .ref (ad 258)), (1, .int x)] dX11_started_45 (by decide) rfl ?_
      refine g_goto C 4 dX11_started_46 (by decide) ?_
      have nn := ixn (x := v108) (by omega)
      have inn : v108.toNatClampNeg = x2_4.toNatClampNeg + 1 := by omega
      have hrow : ∀ j : Nat, M111 275 j = if j = x2_4.toNatClampNeg then x3_4 else M_4 275 j := by
        intro j
        rw [hM111, sI_n _ _ _ (by decide), hM107, sI_at]
        by_cases e9 : j = x2_4.toNatClampNeg
        · rw [if_pos ⟨rfl, e9⟩, if_pos e9]
        · rw [if_neg (fun h => e9 h.2), if_neg e9]
      have hrn : M111 275 x2_4.toNatClampNeg = x3_4 := by rw [hrow, if_pos rfl]
      have hro : ∀ j : Nat, j < x2_4.toNatClampNeg → M111 275 j = M_4 275 j := fun j hj => by rw [hrow, if_neg (by omega)]
      have htr : M111 274 = upd (M_4 274) x3_4.toNatClampNeg (M_4 274 x3_4.toNatClampNeg + 1) := by
        rw [hM111, sI_k, q274o]
        congr 1
        simp only [gv112, ev110, gv109, gv54]
      exact ih_4 (v108, v112, M111, L_4) ⟨by show 0 ≤ v108.toInt; omega, by show (v112.toInt = -9 ∧ v108.toInt ≤ x.toInt + 1) ∨ (0 ≤ v112.toInt ∧ v112.toInt + v108.toInt ≤ x.toInt); omega, by show M111 273 = M 273; exact q273, by show vR M111 = vR M; rw [hV, j4_3], by show trF (vR M) 20 v112 (vR M 13) (M111 274) = trF (vR M) 20 x (vR M 13) (M 274); rw [← j4_4, htr, trF_step hN h20 (m := x3_4) (by omega) (by omega) (by omega)]; first | done | (simp only [gv112, ev110, gv109, gv54]; done) | (simp only [gv112, ev110, gv109, gv54]; rfl), by show ∀ j : Nat, j < v108.toNatClampNeg → 0 ≤ (M111 275 j).toInt ∧ (M111 275 j).toInt < (vR M 0 3).toInt ∧ (vR M 13 (M111 275 j).toNatClampNeg).toInt = 0; intro j hj; by_cases e9 : j = x2_4.toNatClampNeg; (rw [e9, hrn]; exact ⟨by omega, by omega, by omega⟩); (rw [hro j (by omega)]; exact j4_5 j (by omega)), by show ∀ j : Nat, j + 1 < v108.toNatClampNeg → vR M 12 (M111 275 j).toNatClampNeg = M111 275 (j + 1); intro j hj; by_cases e9 : j + 1 = x2_4.toNatClampNeg; (rw [hro j (by omega), e9, hrn, ← (j4_7.2 (by omega)).2]; congr 3; omega); (rw [hro j (by omega), hro (j + 1) (by omega)]; exact j4_6 j (by omega)), by show (v108.toNatClampNeg = 0 → v112 = x) ∧ (0 < v108.toNatClampNeg → M111 275 0 = x ∧ vR M 12 (M111 275 (v108.toNatClampNeg - 1)).toNatClampNeg = v112); refine ⟨fun h => absurd h (by omega), fun _ => ⟨?_, ?_⟩⟩; (by_cases e9 : x2_4.toNatClampNeg = 0; (rw [e9] at hrn; rw [hrn]; exact j4_7.1 e9); (rw [hro 0 (by omega)]; exact (j4_7.2 (by omega)).1)); (rw [show v108.toNatClampNeg - 1 = x2_4.toNatClampNeg by omega, hrn]; simp only [gv112, ev110, gv109, gv54]), hI, hF, hG⟩ (by show (20 - v108.toInt).toNat < (20 - x2_4.toInt).toNat; omega)
theorem dX11_start_0 : decode cX11_start 0 = .ok (.aload_n 0, 1) := dw42 (n := 0) (i := 0) kc_cX11_start_0 (by decide +kernel)
theorem dX11_start_1 : decode cX11_start 1 = .ok (.iload_n 1, 1) := dw27 (n := 0) (i := 1) kc_cX11_start_0 (by decide +kernel)
theorem dX11_start_2 : decode cX11_start 2 = .ok (.invokevirtual 178, 3) := dw182 (n := 0) (i := 2) (a := 0) (b := 178) kc_cX11_start_0 (by decide +kernel) (by decide)
set_option maxRecDepth 20000 in
theorem ggX11_start_X11_isMethod : GoodIn wsX11_start wsX11_isMethod := (gk_code 5 rfl (gk_fieldLink 6 rfl (gk_methodLink 7 rfl (gk_static 8 rfl (gk_initialized 4 rfl (gk_code 9 rfl (gk_lays 19 rfl (gk_laysFinal 20 rfl (gk_lays 21 rfl (gk_laysFinal 22 rfl (gk_lays 23 rfl (gk_laysFinal 24 rfl (gk_laysFinal 25 rfl (gk_laysFinal 26 rfl (gk_laysFinal 27 rfl (gk_lays 28 rfl (gk_laysFinal 29 rfl (gk_laysFinal 30 rfl (gk_laysFinal 31 rfl (gk_laysFinal 32 rfl (gk_lays 33 rfl (gk_laysFinal 34 rfl (gk_laysFinal 35 rfl (gk_laysFinal 36 rfl (gk_laysFinal 37 rfl (gk_laysFinal 38 rfl (gk_laysFinal 39 rfl (gk_laysFinal 40 rfl (gk_laysFinal 41 rfl (gk_lays 42 rfl (gk_lays 43 rfl (gk_lays 44 rfl (gk_lays 45 rfl (gk_lays 46 rfl (gk_lays 47 rfl (gk_lays 48 rfl (gk_laysFinal 49 rfl (gk_lays 50 rfl (gk_laysFinal 51 rfl (gk_laysFinal 52 rfl (gk_laysFinal 53 rfl (gk_laysFinal 54 rfl (gk_laysFinal 55 rfl (gk_laysFinal 56 rfl (gk_laysFinal 57 rfl (gk_laysFinal 58 rfl (gk_laysFinal 59 rfl (gk_laysFinal 60 rfl (gk_lays 61 rfl (gk_laysFinal 62 rfl (gk_lays 63 rfl (gk_laysFinal 64 rfl (gk_laysFinal 65 rfl (gk_laysFinal 66 rfl (gk_laysFinal 67 rfl (gk_laysFinal 68 rfl (gk_laysFinal 69 rfl (gk_laysFinal 70 rfl (gk_laysFinal 71 rfl (gn))))))))))))))))))))))))))))))))))))))))))))))))))))))))))))
set_option maxRecDepth 20000 in
theorem gX11_start_X11_isMethod : GoodIn wsX11_start (wsV RX11 178 RX11 yX11_isMethod wsX11_isMethod) := goodIn_app (gk_methodLink 1 rfl (gk_instanceMethod 2 rfl (gk_selects 3 rfl (gk_initialized 4 rfl (gn))))) ggX11_start_X11_isMethod
theorem dX11_start_5 : decode cX11_start 5 = .ok (.ifCond .eq 11, 3) := dw153 (n := 0) (i := 5) (a := 0) (b := 11) kc_cX11_start_0 (by decide +kernel) (by decide)
theorem dX11_start_16 : decode cX11_start 16 = .ok (.iconst (-1), 1) := dw2 (n := 0) (i := 16) kc_cX11_start_0 (by decide +kernel)
theorem dX11_start_17 : decode cX11_start 17 = .ok (.ireturn, 1) := dw172 (n := 0) (i := 17) kc_cX11_start_0 (by decide +kernel)
theorem dX11_start_8 : decode cX11_start 8 = .ok (.aload_n 0, 1) := dw42 (n := 0) (i := 8) kc_cX11_start_0 (by decide +kernel)
theorem dX11_start_9 : decode cX11_start 9 = .ok (.iload_n 1, 1) := dw27 (n := 0) (i := 9) kc_cX11_start_0 (by decide +kernel)
theorem dX11_start_10 : decode cX11_start 10 = .ok (.invokevirtual 181, 3) := dw182 (n := 0) (i := 10) (a := 0) (b := 181) kc_cX11_start_0 (by decide +kernel) (by decide)
set_option maxRecDepth 20000 in
theorem ggX11_start_X11_started : GoodIn wsX11_start wsX11_started := (gk_code 13 rfl (gk_fieldLink 14 rfl (gk_fieldLink 15 rfl (gk_fieldLink 16 rfl (gk_fieldLink 17 rfl (gk_fieldLink 18 rfl (gk_lays 19 rfl (gk_laysFinal 20 rfl (gk_lays 21 rfl (gk_laysFinal 22 rfl (gk_lays 23 rfl (gk_laysFinal 24 rfl (gk_laysFinal 25 rfl (gk_laysFinal 26 rfl (gk_laysFinal 27 rfl (gk_lays 28 rfl (gk_laysFinal 29 rfl (gk_laysFinal 30 rfl (gk_laysFinal 31 rfl (gk_laysFinal 32 rfl (gk_lays 33 rfl (gk_laysFinal 34 rfl (gk_laysFinal 35 rfl (gk_laysFinal 36 rfl (gk_laysFinal 37 rfl (gk_laysFinal 38 rfl (gk_laysFinal 39 rfl (gk_laysFinal 40 rfl (gk_laysFinal 41 rfl (gk_lays 42 rfl (gk_lays 43 rfl (gk_lays 44 rfl (gk_lays 45 rfl (gk_lays 46 rfl (gk_lays 47 rfl (gk_lays 48 rfl (gk_laysFinal 49 rfl (gk_lays 50 rfl (gk_laysFinal 51 rfl (gk_laysFinal 52 rfl (gk_laysFinal 53 rfl (gk_laysFinal 54 rfl (gk_laysFinal 55 rfl (gk_laysFinal 56 rfl (gk_laysFinal 57 rfl (gk_laysFinal 58 rfl (gk_laysFinal 59 rfl (gk_laysFinal 60 rfl (gk_lays 61 rfl (gk_laysFinal 62 rfl (gk_lays 63 rfl (gk_laysFinal 64 rfl (gk_laysFinal 65 rfl (gk_laysFinal 66 rfl (gk_laysFinal 67 rfl (gk_laysFinal 68 rfl (gk_laysFinal 69 rfl (gk_laysFinal 70 rfl (gk_laysFinal 71 rfl (gn))))))))))))))))))))))))))))))))))))))))))))))))))))))))))))
set_option maxRecDepth 20000 in
theorem gX11_start_X11_started : GoodIn wsX11_start (wsV RX11 181 RX11 yX11_started wsX11_started) := goodIn_app (gk_methodLink 10 rfl (gk_instanceMethod 11 rfl (gk_selects 12 rfl (gk_initialized 4 rfl (gn))))) ggX11_start_X11_started
theorem dX11_start_13 : decode cX11_start 13 = .ok (.goto 4, 3) := dw167 (n := 0) (i := 13) (a := 0) (b := 4) kc_cX11_start_0 (by decide +kernel) (by decide)
set_option maxHeartbeats 4000000 in
set_option maxRecDepth 100000 in
theorem s_X11_start (l : Launch) (D : va_G) (ad : Nat → Nat) (cs : Nat → ClassId) (M : MI) (L : ML) (x : Int32) (hI : IR M) (hN : NOv (vR M)) (hT : tr01 (vR M 13) (M 274)) : Ci l yX11_start wsX11_start ({ frames := 2, cells := 0, slots := 0, locals := 43 }) D ad cs [.ref (ad 258), .int x] M L (fun r M1 L1 => (A_start (vR M) x = (r, vR M1) ∧ tr01 (vR M1 13) (M1 274)) ∧ IR M1 ∧ (∀ k i, k ≠ 273 ∧ k ≠ 274 ∧ k ≠ 275 → M1 k i = M k i) ∧ ∀ k i, True → L1 k i = L k i) := by
  refine enter_i RX11 rfl [(0, .ref (ad 258)), (1, .int x)] rfl (Nat.le_of_ble_eq_true rfl) (by decide +kernel) rfl ?_
  intro p e s m below meth c C hr
  have hF : ∀ k i, k ≠ 273 ∧ k ≠ 274 ∧ k ≠ 275 → M k i = M k i := fun _ _ _ => rfl
  have hG : ∀ k i, True → L k i = L k i := fun _ _ _ => rfl
  have w0 : (vR M 0 0).toInt = (M 258 2).toInt := rfl
  have w1 : (vR M 0 1).toInt = (M 258 4).toInt := rfl
  have w2 : (vR M 0 2).toInt = (M 258 9).toInt := rfl
  have w3 : (vR M 0 3).toInt = (M 258 14).toInt := rfl
  obtain ⟨y0a, y0b⟩ := (show rg 0 10 (M 258 2) from hI 258 2)
  obtain ⟨y1a, y1b⟩ := (show rg 0 60 (M 258 4) from hI 258 4)
  obtain ⟨y2a, y2b⟩ := (show rg 0 8 (M 258 9) from hI 258 9)
  obtain ⟨y3a, y3b⟩ := (show rg 0 20 (M 258 14) from hI 258 14)
  have q273 : M 273 = M 273 := rfl
  have q274 : M 274 = M 274 := rfl
  have q275 : M 275 = M 275 := rfl
  have hV : vR M = vR M := rfl
  refine g_aload_n C 0 dX11_start_0 rfl ?_
  refine g_iload_n C 1 dX11_start_1 rfl ?_
  refine g_callVi C (n := 1) (As := [.int x]) (st := []) (s_X11_isMethod l D ad cs _ _ x hI ) gX11_start_X11_isMethod rfl rfl rfl (by decide +kernel) ⟨Nat.le_of_ble_eq_true rfl, Nat.le_of_ble_eq_true rfl⟩ rfl (Nat.le_of_ble_eq_true rfl) ⟨Nat.zero_le _, Nat.zero_le _⟩ (by decide) (ce_model ad cs _ _) rfl rfl dX11_start_2 (fun r1 M2 L3 hr1 => ?_)
  obtain ⟨hq1, hq2, hr1⟩ := hr1
  obtain rfl := hq1.symm
  obtain rfl := hq2.symm
  obtain ⟨bar1, bbr1⟩ := zo_b hr1
  refine g_if_eq C 16 dX11_start_5 (by decide) (fun c4 => ?_) (fun c4 => ?_)
  ·
    have f5 := feq rfl (by decide : (0 : Int32).toInt = 0) c4
    have pr1 := zo_f hr1 c4
    try dsimp only [hasC, hasB, hasX, hasM, ofS, ofK, bt] at pr1
    refine g_iconst C (-1) dX11_start_16 (by decide) ?_
    have zr9 : ((-1) : Int32).toInt = (-1) := by decide
    exact g_iret C hr ⟨⟨(by dsimp only [A_start, hasC, hasB, hasX, hasM, ofS, ofK, bt, ix]; (repeat (first | rw [if_pos (by omega)] | rw [if_neg (by omega)])); first | done | rfl | (simp only [ix]; done) | (simp only [ix]; rfl) | (subst_vars; first | rfl | grind)), hT⟩, hI, hF, hG⟩ dX11_start_17
  ·
    have f6 := fne rfl (by decide : (0 : Int32).toInt = 0) c4
    have pr1 := zo_t hr1 c4
    try dsimp only [hasC, hasB, hasX, hasM, ofS, ofK, bt] at pr1
    refine g_aload_n C 0 dX11_start_8 rfl ?_
    refine g_iload_n C 1 dX11_start_9 rfl ?_
    refine g_callVi C (n := 1) (As := [.int x]) (st := []) (s_X11_started l D ad cs _ _ x hI ⟨by omega, by omega⟩ hN hT) gX11_start_X11_started rfl rfl rfl (by decide +kernel) ⟨Nat.le_of_ble_eq_true rfl, Nat.le_of_ble_eq_true rfl⟩ rfl (Nat.le_of_ble_eq_true rfl) ⟨Nat.zero_le _, Nat.zero_le _⟩ (by decide) (ce_model ad cs _ _) rfl rfl dX11_start_10 (fun r7 M8 L9 hr7 => ?_)
    obtain ⟨hr7, hI, hFr7, hGr7⟩ := hr7
    have hF : ∀ k i, k ≠ 273 ∧ k ≠ 274 ∧ k ≠ 275 → M8 k i = M k i := fun k i hk => by (rw [hFr7 k i (by omega)]; try exact hF k i hk)
    have hG : ∀ k i, True → L9 k i = L k i := fun k i hk => by (rw [hGr7 k i trivial]; try exact hG k i hk)
    have hV : vR M8 = startV (vR M) x := by rw [hr7.1, hV]
    have q273 : M8 273 = M8 273 := rfl
    have q274 : M8 274 = M8 274 := rfl
    have q275 : M8 275 = M8 275 := rfl
    obtain ⟨hr7v, hr7, hr7t⟩ := hr7
    have tr7 := congrArg Int32.toInt hr7
    refine g_goto C 17 dX11_start_13 (by decide) ?_
    exact g_iret C hr ⟨⟨(by dsimp only [A_start, hasC, hasB, hasX, hasM, ofS, ofK, bt, ix]; (repeat (first | rw [if_pos (by omega)] | rw [if_neg (by omega)])); rw [hV]; first | done | rfl | (simp only [ix]; done) | (simp only [ix]; rfl) | (subst_vars; first | rfl | grind)), hr7t⟩, hI, hF, hG⟩ dX11_start_17
