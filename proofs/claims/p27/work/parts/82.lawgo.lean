set_option maxRecDepth 20000 in
theorem inT_0 : ∀ w ∈ u_ws RX0 TX0 5, w ∈ lw_tbl := fun w h => (goodIn_r (big := lw_tbl) (u_ws RX0 TX0 5) [130, 132, 134, 136, 138] (by decide +kernel) (by decide +kernel) w h).1
set_option maxRecDepth 20000 in
theorem inT_1 : ∀ w ∈ u_ws RX1 TX1 5, w ∈ lw_tbl := fun w h => (goodIn_r (big := lw_tbl) (u_ws RX1 TX1 5) [159, 161, 163, 165, 167] (by decide +kernel) (by decide +kernel) w h).1
set_option maxRecDepth 20000 in
theorem inT_2 : ∀ w ∈ u_ws RX2 TX2 2, w ∈ lw_tbl := fun w h => (goodIn_r (big := lw_tbl) (u_ws RX2 TX2 2) [101, 103] (by decide +kernel) (by decide +kernel) w h).1
set_option maxRecDepth 20000 in
theorem inT_3 : ∀ w ∈ u_ws RX3 TX3 2, w ∈ lw_tbl := fun w h => (goodIn_r (big := lw_tbl) (u_ws RX3 TX3 2) [308, 310] (by decide +kernel) (by decide +kernel) w h).1
set_option maxRecDepth 20000 in
theorem inT_4 : ∀ w ∈ u_ws RX4 TX4 7, w ∈ lw_tbl := fun w h => (goodIn_r (big := lw_tbl) (u_ws RX4 TX4 7) [187, 189, 191, 193, 195, 197, 199] (by decide +kernel) (by decide +kernel) w h).1
set_option maxRecDepth 20000 in
theorem inT_5 : ∀ w ∈ u_ws RX5 TX5 3, w ∈ lw_tbl := fun w h => (goodIn_r (big := lw_tbl) (u_ws RX5 TX5 3) [265, 267, 269] (by decide +kernel) (by decide +kernel) w h).1
set_option maxRecDepth 20000 in
theorem inT_6 : ∀ w ∈ u_ws RX6 TX6 8, w ∈ lw_tbl := fun w h => (goodIn_r (big := lw_tbl) (u_ws RX6 TX6 8) [237, 239, 241, 243, 245, 247, 249, 251] (by decide +kernel) (by decide +kernel) w h).1
set_option maxRecDepth 20000 in
theorem inT_7 : ∀ w ∈ u_ws RX7 TX7 7, w ∈ lw_tbl := fun w h => (goodIn_r (big := lw_tbl) (u_ws RX7 TX7 7) [352, 354, 356, 358, 360, 362, 364] (by decide +kernel) (by decide +kernel) w h).1
set_option maxRecDepth 20000 in
theorem inT_8 : ∀ w ∈ u_ws RX8 TX8 5, w ∈ lw_tbl := fun w h => (goodIn_r (big := lw_tbl) (u_ws RX8 TX8 5) [318, 320, 322, 324, 326] (by decide +kernel) (by decide +kernel) w h).1
set_option maxRecDepth 20000 in
theorem inT_9 : ∀ w ∈ u_ws RX9 TX9 4, w ∈ lw_tbl := fun w h => (goodIn_r (big := lw_tbl) (u_ws RX9 TX9 4) [283, 285, 287, 289] (by decide +kernel) (by decide +kernel) w h).1
set_option maxRecDepth 20000 in
theorem inT_10 : ∀ w ∈ u_ws RX10 TX10 13, w ∈ lw_tbl := fun w h => (goodIn_r (big := lw_tbl) (u_ws RX10 TX10 13) [380, 382, 384, 386, 388, 390, 392, 394, 396, 398, 400, 402, 404] (by decide +kernel) (by decide +kernel) w h).1
set_option maxRecDepth 20000 in
theorem inT_11 : ∀ w ∈ u_ws RX11 TX11 53, w ∈ lw_tbl := fun w h => (goodIn_r (big := lw_tbl) (u_ws RX11 TX11 53) [913, 915, 917, 919, 921, 923, 925, 927, 929, 931, 933, 935, 937, 939, 941, 943, 945, 947, 949, 951, 953, 955, 957, 959, 961, 963, 965, 967, 969, 971, 973, 975, 977, 979, 981, 983, 985, 987, 989, 991, 993, 995, 997, 999, 1001, 1003, 1005, 1007, 1009, 1011, 1013, 1015, 1017] (by decide +kernel) (by decide +kernel) w h).1
set_option maxHeartbeats 4000000 in
set_option maxRecDepth 100000 in
theorem law_go {p : Program} {l : Launch} {e : Env} {s : State} {m : MethodId} {below : List Frame} {meth : Method} {c : Code} {D : va_G} {ad : Nat → Nat} {cs : Nat → ClassId} {b : Nat} {xs : Nat → Int32} (C : Cx p s m #[Value.ref b] meth c code 4 lw_tbl RL D ad cs) (hr : meth.sig.returnType = ret) {N : Nat} (hN : N ≤ 3072) (hX : va_X b N xs s s.heap) (hbl : b < s.heap.size) (hbA : ¬ Ar ad b) (hnew : ∀ k, k < 297 → s.heap.size ≤ ad k) : G p l e room_1 s m #[Value.ref b] below meth c 297 6915 (lw_Z below #[Value.ref b] s) D ad cs 4 M0 L0 16 [(2, .ref (ad 258)), (1, .ref (ad 0)), (0, .ref b)] [] := by
  refine g_iconst C 0 dL_law_16 (by decide) ?_
  refine g_istore_n C [(3, .int 0), (2, .ref (ad 258)), (1, .ref (ad 0)), (0, .ref b)] dL_law_17 (by decide) rfl ?_
  have z0 : (0 : Int32).toInt = 0 := by decide
  refine g_loop (α := Int32 × MI × ML) (fun a => ((N : Int) - a.1.toInt).toNat) (fun a => 0 ≤ a.1.toInt ∧ a.1.toInt ≤ (N : Int) ∧ JW a.2.1) (fun a => a.2.1) (fun a => a.2.2) (fun a => [(3, .int a.1), (2, .ref (ad 258)), (1, .ref (ad 0)), (0, .ref b)]) (0, M0, L0) ⟨by show 0 ≤ (0 : Int32).toInt; omega, by show (0 : Int32).toInt ≤ (N : Int); omega, JW0⟩ rfl rfl rfl ?_
  rintro ⟨i, M, L⟩ ⟨hi0, hi1, hJ⟩ ih
  dsimp only at hi0 hi1 hJ ih ⊢
  refine g_iload_n C 0 dL_law_18 rfl ?_
  refine g_aload_n C 3 dL_law_19 rfl ?_
  refine g_xlen C hX hbl hbA dL_law_20 ?_
  refine g_ni (fun v1 ev1 => ?_)
  have fv1 : v1.toInt = (N : Int) := by rw [ev1]; exact on31 (by omega)
  refine g_bipush C 6 dL_law_21 (by decide) ?_
  refine g_isub C dL_law_23 ?_
  refine g_ni (fun v2 ev2 => ?_)
  have fv2 := fsub fv1 (by decide : (6 : Int32).toInt = 6) ev2 (by omega) (by omega)
  refine g_icmp_gt C 1073 dL_law_24 (by decide) (fun c1 => ?_) (fun c1 => ?_)
  · refine g_iconst C 1 dL_law_1073 (by decide) ?_
    exact g_law C hnew hr dL_law_1074
  have f3 := fnl fv2 rfl c1
  have hi6 : i.toInt + 6 ≤ (N : Int) := by omega
  have K : ∀ M9 L9, JW M9 → G p l e room_1 s m #[Value.ref b] below meth c 297 6915 (lw_Z below #[Value.ref b] s) D ad cs 4 M9 L9 1067 [(3, .int i), (2, .ref (ad 258)), (1, .ref (ad 0)), (0, .ref b)] [] := by
    intro M9 L9 hJ9
    obtain ⟨v9, e9⟩ : ∃ y : Int32, y = i + 6 := ⟨_, rfl⟩
    have f9 := fadd rfl (by decide : (6 : Int32).toInt = 6) e9 (by omega) (by omega)
    refine g_iinc C 0 v9 [(3, .int v9), (2, .ref (ad 258)), (1, .ref (ad 0)), (0, .ref b)] dL_law_1067 rfl (by rw [e9]; rfl) (by decide) rfl ?_
    refine g_goto C 18 dL_law_1070 (by decide) ?_
    exact ih (v9, M9, L9) ⟨by show 0 ≤ v9.toInt; omega, by show v9.toInt ≤ (N : Int); omega, hJ9⟩ (by show ((N : Int) - v9.toInt).toNat < ((N : Int) - i.toInt).toNat; omega)
  refine g_aload_n C 3 dL_law_27 rfl ?_
  refine g_iload_n C 0 dL_law_28 rfl ?_
  refine g_xld C hX hbl hbA (fin' (n := N) rfl (by omega) (by omega)) dL_law_29 ?_
  refine g_bipush C 31 dL_law_30 (by decide) ?_
  refine g_iand C dL_law_32 ?_
  refine g_ni (fun w ew => ?_)
  by_cases hsw : w.toInt < 0 ∨ 28 < w.toInt
  · refine g_tableOut C 1067 dL_law_33 hsw (by decide) ?_
    exact K _ _ hJ
  · have hsw1 : ¬ w.toInt < 0 := fun h => hsw (Or.inl h)
    have hsw2 : ¬ 28 < w.toInt := fun h => hsw (Or.inr h)
    rcases (show w.toInt = 0 ∨ w.toInt = 1 ∨ w.toInt = 2 ∨ w.toInt = 3 ∨ w.toInt = 4 ∨ w.toInt = 5 ∨ w.toInt = 6 ∨ w.toInt = 7 ∨ w.toInt = 8 ∨ w.toInt = 9 ∨ w.toInt = 10 ∨ w.toInt = 11 ∨ w.toInt = 12 ∨ w.toInt = 13 ∨ w.toInt = 14 ∨ w.toInt = 15 ∨ w.toInt = 16 ∨ w.toInt = 17 ∨ w.toInt = 18 ∨ w.toInt = 19 ∨ w.toInt = 20 ∨ w.toInt = 21 ∨ w.toInt = 22 ∨ w.toInt = 23 ∨ w.toInt = 24 ∨ w.toInt = 25 ∨ w.toInt = 26 ∨ w.toInt = 27 ∨ w.toInt = 28 by omega) with hq | hq | hq | hq | hq | hq | hq | hq | hq | hq | hq | hq | hq | hq | hq | hq | hq | hq | hq | hq | hq | hq | hq | hq | hq | hq | hq | hq | hq
    · exact g_tableIn C 164 dL_law_33 hsw1 hsw2 (off := 131) (by rw [hq]; rfl) (by decide) (law_c0 C hr hN hX hbl hbA hnew hi0 hi6 M L hJ K)
    · exact g_tableIn C 177 dL_law_33 hsw1 hsw2 (off := 144) (by rw [hq]; rfl) (by decide) (law_c1 C hr hN hX hbl hbA hnew hi0 hi6 M L hJ K)
    · exact g_tableIn C 210 dL_law_33 hsw1 hsw2 (off := 177) (by rw [hq]; rfl) (by decide) (law_c2 C hr hN hX hbl hbA hnew hi0 hi6 M L hJ K)
    · exact g_tableIn C 233 dL_law_33 hsw1 hsw2 (off := 200) (by rw [hq]; rfl) (by decide) (law_c3 C hr hN hX hbl hbA hnew hi0 hi6 M L hJ K)
    · exact g_tableIn C 266 dL_law_33 hsw1 hsw2 (off := 233) (by rw [hq]; rfl) (by decide) (law_c4 C hr hN hX hbl hbA hnew hi0 hi6 M L hJ K)
    · exact g_tableIn C 299 dL_law_33 hsw1 hsw2 (off := 266) (by rw [hq]; rfl) (by decide) (law_c5 C hr hN hX hbl hbA hnew hi0 hi6 M L hJ K)
    · exact g_tableIn C 342 dL_law_33 hsw1 hsw2 (off := 309) (by rw [hq]; rfl) (by decide) (law_c6 C hr hN hX hbl hbA hnew hi0 hi6 M L hJ K)
    · exact g_tableIn C 375 dL_law_33 hsw1 hsw2 (off := 342) (by rw [hq]; rfl) (by decide) (law_c7 C hr hN hX hbl hbA hnew hi0 hi6 M L hJ K)
    · exact g_tableIn C 408 dL_law_33 hsw1 hsw2 (off := 375) (by rw [hq]; rfl) (by decide) (law_c8 C hr hN hX hbl hbA hnew hi0 hi6 M L hJ K)
    · exact g_tableIn C 441 dL_law_33 hsw1 hsw2 (off := 408) (by rw [hq]; rfl) (by decide) (law_c9 C hr hN hX hbl hbA hnew hi0 hi6 M L hJ K)
    · exact g_tableIn C 484 dL_law_33 hsw1 hsw2 (off := 451) (by rw [hq]; rfl) (by decide) (law_c10 C hr hN hX hbl hbA hnew hi0 hi6 M L hJ K)
    · exact g_tableIn C 547 dL_law_33 hsw1 hsw2 (off := 514) (by rw [hq]; rfl) (by decide) (law_c11 C hr hN hX hbl hbA hnew hi0 hi6 M L hJ K)
    · exact g_tableIn C 580 dL_law_33 hsw1 hsw2 (off := 547) (by rw [hq]; rfl) (by decide) (law_c12 C hr hN hX hbl hbA hnew hi0 hi6 M L hJ K)
    · exact g_tableIn C 613 dL_law_33 hsw1 hsw2 (off := 580) (by rw [hq]; rfl) (by decide) (law_c13 C hr hN hX hbl hbA hnew hi0 hi6 M L hJ K)
    · exact g_tableIn C 646 dL_law_33 hsw1 hsw2 (off := 613) (by rw [hq]; rfl) (by decide) (law_c14 C hr hN hX hbl hbA hnew hi0 hi6 M L hJ K)
    · exact g_tableIn C 699 dL_law_33 hsw1 hsw2 (off := 666) (by rw [hq]; rfl) (by decide) (law_c15 C hr hN hX hbl hbA hnew hi0 hi6 M L hJ K)
    · exact g_tableIn C 732 dL_law_33 hsw1 hsw2 (off := 699) (by rw [hq]; rfl) (by decide) (law_c16 C hr hN hX hbl hbA hnew hi0 hi6 M L hJ K)
    · exact g_tableIn C 765 dL_law_33 hsw1 hsw2 (off := 732) (by rw [hq]; rfl) (by decide) (law_c17 C hr hN hX hbl hbA hnew hi0 hi6 M L hJ K)
    · exact g_tableIn C 788 dL_law_33 hsw1 hsw2 (off := 755) (by rw [hq]; rfl) (by decide) (law_c18 C hr hN hX hbl hbA hnew hi0 hi6 M L hJ K)
    · exact g_tableIn C 811 dL_law_33 hsw1 hsw2 (off := 778) (by rw [hq]; rfl) (by decide) (law_c19 C hr hN hX hbl hbA hnew hi0 hi6 M L hJ K)
    · exact g_tableIn C 854 dL_law_33 hsw1 hsw2 (off := 821) (by rw [hq]; rfl) (by decide) (law_c20 C hr hN hX hbl hbA hnew hi0 hi6 M L hJ K)
    · exact g_tableIn C 867 dL_law_33 hsw1 hsw2 (off := 834) (by rw [hq]; rfl) (by decide) (law_c21 C hr hN hX hbl hbA hnew hi0 hi6 M L hJ K)
    · exact g_tableIn C 890 dL_law_33 hsw1 hsw2 (off := 857) (by rw [hq]; rfl) (by decide) (law_c22 C hr hN hX hbl hbA hnew hi0 hi6 M L hJ K)
    · exact g_tableIn C 903 dL_law_33 hsw1 hsw2 (off := 870) (by rw [hq]; rfl) (by decide) (law_c23 C hr hN hX hbl hbA hnew hi0 hi6 M L hJ K)
    · exact g_tableIn C 936 dL_law_33 hsw1 hsw2 (off := 903) (by rw [hq]; rfl) (by decide) (law_c24 C hr hN hX hbl hbA hnew hi0 hi6 M L hJ K)
    · exact g_tableIn C 995 dL_law_33 hsw1 hsw2 (off := 962) (by rw [hq]; rfl) (by decide) (law_c25 C hr hN hX hbl hbA hnew hi0 hi6 M L hJ K)
    · exact g_tableIn C 1018 dL_law_33 hsw1 hsw2 (off := 985) (by rw [hq]; rfl) (by decide) (law_c26 C hr hN hX hbl hbA hnew hi0 hi6 M L hJ K)
    · exact g_tableIn C 1031 dL_law_33 hsw1 hsw2 (off := 998) (by rw [hq]; rfl) (by decide) (law_c27 C hr hN hX hbl hbA hnew hi0 hi6 M L hJ K)
    · exact g_tableIn C 1054 dL_law_33 hsw1 hsw2 (off := 1021) (by rw [hq]; rfl) (by decide) (law_c28 C hr hN hX hbl hbA hnew hi0 hi6 M L hJ K)
