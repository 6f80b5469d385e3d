theorem dX4_come_0 : decode cX4_come 0 = .ok (.aload_n 0, 1) := by decide +kernel
theorem dX4_come_1 : decode cX4_come 1 = .ok (.getfield 9, 3) := by decide +kernel
theorem in_X4_come_4 : ∀ w ∈ u_ws RX4 TX4 7, w ∈ wsX4_come := fun _ h => List.mem_cons_of_mem _ (List.mem_append_right _ h)
theorem dX4_come_4 : decode cX4_come 4 = .ok (.bipush 20, 2) := by decide +kernel
theorem dX4_come_6 : decode cX4_come 6 = .ok (.if_icmp .ne 6, 3) := by decide +kernel
theorem dX4_come_12 : decode cX4_come 12 = .ok (.aload_n 0, 1) := by decide +kernel
theorem dX4_come_13 : decode cX4_come 13 = .ok (.getfield 15, 3) := by decide +kernel
theorem dX4_come_16 : decode cX4_come 16 = .ok (.aload_n 0, 1) := by decide +kernel
theorem dX4_come_17 : decode cX4_come 17 = .ok (.getfield 9, 3) := by decide +kernel
theorem dX4_come_20 : decode cX4_come 20 = .ok (.iload_n 1, 1) := by decide +kernel
theorem dX4_come_21 : decode cX4_come 21 = .ok (.iastore, 1) := by decide +kernel
theorem dX4_come_22 : decode cX4_come 22 = .ok (.aload_n 0, 1) := by decide +kernel
theorem dX4_come_23 : decode cX4_come 23 = .ok (.getfield 25, 3) := by decide +kernel
theorem dX4_come_26 : decode cX4_come 26 = .ok (.aload_n 0, 1) := by decide +kernel
theorem dX4_come_27 : decode cX4_come 27 = .ok (.getfield 9, 3) := by decide +kernel
theorem dX4_come_30 : decode cX4_come 30 = .ok (.iload_n 2, 1) := by decide +kernel
theorem dX4_come_31 : decode cX4_come 31 = .ok (.iastore, 1) := by decide +kernel
theorem dX4_come_32 : decode cX4_come 32 = .ok (.aload_n 0, 1) := by decide +kernel
theorem dX4_come_33 : decode cX4_come 33 = .ok (.getfield 28, 3) := by decide +kernel
theorem dX4_come_36 : decode cX4_come 36 = .ok (.aload_n 0, 1) := by decide +kernel
theorem dX4_come_37 : decode cX4_come 37 = .ok (.getfield 9, 3) := by decide +kernel
theorem dX4_come_40 : decode cX4_come 40 = .ok (.iload_n 3, 1) := by decide +kernel
theorem dX4_come_41 : decode cX4_come 41 = .ok (.iastore, 1) := by decide +kernel
theorem dX4_come_42 : decode cX4_come 42 = .ok (.aload_n 0, 1) := by decide +kernel
theorem dX4_come_43 : decode cX4_come 43 = .ok (.getfield 22, 3) := by decide +kernel
theorem dX4_come_46 : decode cX4_come 46 = .ok (.aload_n 0, 1) := by decide +kernel
theorem dX4_come_47 : decode cX4_come 47 = .ok (.getfield 9, 3) := by decide +kernel
theorem dX4_come_50 : decode cX4_come 50 = .ok (.iload 4, 2) := by decide +kernel
theorem dX4_come_52 : decode cX4_come 52 = .ok (.iastore, 1) := by decide +kernel
theorem dX4_come_53 : decode cX4_come 53 = .ok (.aload_n 0, 1) := by decide +kernel
theorem dX4_come_54 : decode cX4_come 54 = .ok (.dup, 1) := by decide +kernel
theorem dX4_come_55 : decode cX4_come 55 = .ok (.getfield 9, 3) := by decide +kernel
theorem dX4_come_58 : decode cX4_come 58 = .ok (.iconst 1, 1) := by decide +kernel
theorem dX4_come_59 : decode cX4_come 59 = .ok (.iadd, 1) := by decide +kernel
theorem dX4_come_60 : decode cX4_come 60 = .ok (.putfield 9, 3) := by decide +kernel
theorem dX4_come_63 : decode cX4_come 63 = .ok (.aload_n 0, 1) := by decide +kernel
theorem dX4_come_64 : decode cX4_come 64 = .ok (.getfield 9, 3) := by decide +kernel
theorem dX4_come_67 : decode cX4_come 67 = .ok (.iconst 1, 1) := by decide +kernel
theorem dX4_come_68 : decode cX4_come 68 = .ok (.isub, 1) := by decide +kernel
theorem dX4_come_69 : decode cX4_come 69 = .ok (.ireturn, 1) := by decide +kernel
theorem dX4_come_9 : decode cX4_come 9 = .ok (.bipush (-2), 2) := by decide +kernel
theorem dX4_come_11 : decode cX4_come 11 = .ok (.ireturn, 1) := by decide +kernel
set_option maxHeartbeats 4000000 in
set_option maxRecDepth 100000 in
theorem s_X4_come (l : Launch) (D : va_G) (ad : Nat → Nat) (cs : Nat → ClassId) (M : MI) (L : ML) (x : Int32) (y : Int32) (z : Int32) (u : Int32) (hI : IC M) : Ci l yX4_come wsX4_come ({ frames := 0, cells := 0, slots := 0, locals := 0 }) D ad cs [.ref (ad 81), .int x, .int y, .int z, .int u] M L (fun r M1 L1 => (True) ∧ IC M1 ∧ (∀ k, k ≠ 81 ∧ k ≠ 82 ∧ k ≠ 84 ∧ k ≠ 85 ∧ k ≠ 86 → M1 k = M k) ∧ ∀ k, 258 ≤ k → L1 k = L k) := by
  refine enter_i RX4 rfl [(0, .ref (ad 81)), (1, .int x), (2, .int y), (3, .int z), (4, .int u)] rfl (Nat.le_of_ble_eq_true rfl) (by decide +kernel) rfl ?_
  intro p e s m below meth c C hr
  have hF : ∀ k, k ≠ 81 ∧ k ≠ 82 ∧ k ≠ 84 ∧ k ≠ 85 ∧ k ≠ 86 → M k = M k := fun _ _ => rfl
  have hG : ∀ k, 258 ≤ k → L k = L k := fun _ _ => rfl
  refine g_aload_n C 0 dX4_come_0 rfl ?_
  refine g_get C (.int (M 81 0)) 0 in_X4_come_4 (List.mem_of_getElem? (i := 1) rfl) (by decide) (ce_meth ad cs _ _) rfl (by decide) rfl rfl dX4_come_1 ?_
  refine g_ni (fun v1 ev1 => ?_)
  have tv1 := congrArg Int32.toInt ev1
  obtain ⟨bv1, dv1⟩ := (show rg 0 20 v1 from (by rw [ev1]; exact hI 81 0 rfl))
  refine g_bipush C 20 dX4_come_4 (by decide) ?_
  refine g_icmp_ne C 12 dX4_come_6 (by decide) (fun c2 => ?_) (fun c2 => ?_)
  ·
    have f3 := fne rfl (by decide : (20 : Int32).toInt = 20) c2
    refine g_aload_n C 0 dX4_come_12 rfl ?_
    refine g_get C (.ref (ad 82)) 1 in_X4_come_4 (List.mem_of_getElem? (i := 2) rfl) (by decide) (ce_meth ad cs _ _) rfl (by decide) rfl rfl dX4_come_13 ?_
    refine g_aload_n C 0 dX4_come_16 rfl ?_
    refine g_get C (.int (M 81 0)) 0 in_X4_come_4 (List.mem_of_getElem? (i := 1) rfl) (by decide) (ce_meth ad cs _ _) rfl (by decide) rfl rfl dX4_come_17 ?_
    refine g_ni (fun v4 ev4 => ?_)
    have tv4 := congrArg Int32.toInt ev4
    obtain ⟨bv4, dv4⟩ := (show rg 0 20 v4 from (by rw [ev4]; exact hI 81 0 rfl))
    have uv4 : v4 = v1 := by rw [ev4]; exact ev1.symm
    have wv4 := congrArg Int32.toInt uv4
    refine g_iload_n C 1 dX4_come_20 rfl ?_
    refine g_iast C (by decide) (ce_mkind ad cs _ _) (by rw [sI_k]; rfl) (fin' (n := 20) rfl (by omega) (by omega)) dX4_come_21 ?_
    refine g_nm (fun M5 hM5 => ?_)
    have hI : IC M5 := by rw [hM5]; exact hI.st (bC_free (by decide) (by decide) (by decide) (by decide) (by decide) (by decide) (by decide))
    have hF : ∀ k, k ≠ 81 ∧ k ≠ 82 ∧ k ≠ 84 ∧ k ≠ 85 ∧ k ≠ 86 → M5 k = M k := fun k hk => by (rw [hM5, sI_n _ _ _ (by omega)]; try exact hF k hk)
    refine g_aload_n C 0 dX4_come_22 rfl ?_
    refine g_get C (.ref (ad 85)) 4 in_X4_come_4 (List.mem_of_getElem? (i := 3) rfl) (by decide) (ce_meth ad cs _ _) rfl (by decide) rfl rfl dX4_come_23 ?_
    refine g_aload_n C 0 dX4_come_26 rfl ?_
    refine g_get C (.int (M5 81 0)) 0 in_X4_come_4 (List.mem_of_getElem? (i := 1) rfl) (by decide) (ce_meth ad cs _ _) rfl (by decide) rfl rfl dX4_come_27 ?_
    refine g_ni (fun v6 ev6 => ?_)
    have tv6 := congrArg Int32.toInt ev6
    obtain ⟨bv6, dv6⟩ := (show rg 0 20 v6 from (by rw [ev6]; exact hI 81 0 rfl))
    have uv6 : v6 = v4 := by rw [ev6, hM5, sI_n _ _ _ (by decide)]; exact ev4.symm
    have wv6 := congrArg Int32.toInt uv6
    refine g_iload_n C 2 dX4_come_30 rfl ?_
    refine g_iast C (by decide) (ce_mrank ad cs _ _) (by rw [sI_k]; rfl) (fin' (n := 20) rfl (by omega) (by omega)) dX4_come_31 ?_
    refine g_nm (fun M7 hM7 => ?_)
    have hI : IC M7 := by rw [hM7]; exact hI.st (bC_free (by decide) (by decide) (by decide) (by decide) (by decide) (by decide) (by decide))
    have hF : ∀ k, k ≠ 81 ∧ k ≠ 82 ∧ k ≠ 84 ∧ k ≠ 85 ∧ k ≠ 86 → M7 k = M k := fun k hk => by (rw [hM7, sI_n _ _ _ (by omega)]; try exact hF k hk)
    refine g_aload_n C 0 dX4_come_32 rfl ?_
    refine g_get C (.ref (ad 86)) 5 in_X4_come_4 (List.mem_of_getElem? (i := 4) rfl) (by decide) (ce_meth ad cs _ _) rfl (by decide) rfl rfl dX4_come_33 ?_
    refine g_aload_n C 0 dX4_come_36 rfl ?_
    refine g_get C (.int (M7 81 0)) 0 in_X4_come_4 (List.mem_of_getElem? (i := 1) rfl) (by decide) (ce_meth ad cs _ _) rfl (by decide) rfl rfl dX4_come_37 ?_
    refine g_ni (fun v8 ev8 => ?_)
    have tv8 := congrArg Int32.toInt ev8
    obtain ⟨bv8, dv8⟩ := (show rg 0 20 v8 from (by rw [ev8]; exact hI 81 0 rfl))
    have uv8 : v8 = v6 := by rw [ev8, hM7, sI_n _ _ _ (by decide)]; exact ev6.symm
    have wv8 := congrArg Int32.toInt uv8
    refine g_iload_n C 3 dX4_come_40 rfl ?_
    refine g_iast C (by decide) (ce_mmarks ad cs _ _) (by rw [sI_k]; rfl) (fin' (n := 20) rfl (by omega) (by omega)) dX4_come_41 ?_
    refine g_nm (fun M9 hM9 => ?_)
    have hI : IC M9 := by rw [hM9]; exact hI.st (bC_free (by decide) (by decide) (by decide) (by decide) (by decide) (by decide) (by decide))
    have hF : ∀ k, k ≠ 81 ∧ k ≠ 82 ∧ k ≠ 84 ∧ k ≠ 85 ∧ k ≠ 86 → M9 k = M k := fun k hk => by (rw [hM9, sI_n _ _ _ (by omega)]; try exact hF k hk)
    refine g_aload_n C 0 dX4_come_42 rfl ?_
    refine g_get C (.ref (ad 84)) 3 in_X4_come_4 (List.mem_of_getElem? (i := 5) rfl) (by decide) (ce_meth ad cs _ _) rfl (by decide) rfl rfl dX4_come_43 ?_
    refine g_aload_n C 0 dX4_come_46 rfl ?_
    refine g_get C (.int (M9 81 0)) 0 in_X4_come_4 (List.mem_of_getElem? (i := 1) rfl) (by decide) (ce_meth ad cs _ _) rfl (by decide) rfl rfl dX4_come_47 ?_
    refine g_ni (fun v10 ev10 => ?_)
    have tv10 := congrArg Int32.toInt ev10
    obtain ⟨bv10, dv10⟩ := (show rg 0 20 v10 from (by rw [ev10]; exact hI 81 0 rfl))
    have uv10 : v10 = v8 := by rw [ev10, hM9, sI_n _ _ _ (by decide)]; exact ev8.symm
    have wv10 := congrArg Int32.toInt uv10
    refine g_iload C 4 dX4_come_50 rfl ?_
    refine g_iast C (by decide) (ce_mneed ad cs _ _) (by rw [sI_k]; rfl) (fin' (n := 20) rfl (by omega) (by omega)) dX4_come_52 ?_
    refine g_nm (fun M11 hM11 => ?_)
    have hI : IC M11 := by rw [hM11]; exact hI.st (bC_free (by decide) (by decide) (by decide) (by decide) (by decide) (by decide) (by decide))
    have hF : ∀ k, k ≠ 81 ∧ k ≠ 82 ∧ k ≠ 84 ∧ k ≠ 85 ∧ k ≠ 86 → M11 k = M k := fun k hk => by (rw [hM11, sI_n _ _ _ (by omega)]; try exact hF k hk)
    refine g_aload_n C 0 dX4_come_53 rfl ?_
    refine g_dup C dX4_come_54 rfl ?_
    refine g_get C (.int (M11 81 0)) 0 in_X4_come_4 (List.mem_of_getElem? (i := 1) rfl) (by decide) (ce_meth ad cs _ _) rfl (by decide) rfl rfl dX4_come_55 ?_
    refine g_ni (fun v12 ev12 => ?_)
    have tv12 := congrArg Int32.toInt ev12
    obtain ⟨bv12, dv12⟩ := (show rg 0 20 v12 from (by rw [ev12]; exact hI 81 0 rfl))
    have uv12 : v12 = v10 := by rw [ev12, hM11, sI_n _ _ _ (by decide)]; exact ev10.symm
    have wv12 := congrArg Int32.toInt uv12
    refine g_iconst C 1 dX4_come_58 (by decide) ?_
    refine g_iadd C dX4_come_59 ?_
    refine g_ni (fun v13 ev13 => ?_)
    try have fv13 := fadd rfl (by decide : (1 : Int32).toInt = 1) ev13 (by omega) (by omega)
    refine g_putI C 0 in_X4_come_4 (List.mem_of_getElem? (i := 1) rfl) (by decide) (ce_meth ad cs _ _) rfl (by decide) rfl tyX4 tyX4_ok nmX4 rfl rfl rfl rfl (Nat.le_of_ble_eq_true rfl) (by rw [sI_k]; rfl) dX4_come_60 ?_
    refine g_nm (fun M14 hM14 => ?_)
    have hI : IC M14 := by rw [hM14]; exact hI.st (fun _ => ⟨by first | omega | decide, by first | omega | decide⟩)
    have hF : ∀ k, k ≠ 81 ∧ k ≠ 82 ∧ k ≠ 84 ∧ k ≠ 85 ∧ k ≠ 86 → M14 k = M k := fun k hk => by (rw [hM14, sI_n _ _ _ (by omega)]; try exact hF k hk)
    refine g_aload_n C 0 dX4_come_63 rfl ?_
    refine g_get C (.int (M14 81 0)) 0 in_X4_come_4 (List.mem_of_getElem? (i := 1) rfl) (by decide) (ce_meth ad cs _ _) rfl (by decide) rfl rfl dX4_come_64 ?_
    refine g_ni (fun v15 ev15 => ?_)
    have tv15 := congrArg Int32.toInt ev15
    obtain ⟨bv15, dv15⟩ := (show rg 0 20 v15 from (by rw [ev15]; exact hI 81 0 rfl))
    have uv15 : v15 = v13 := by rw [ev15, hM14, sI_at, if_pos (by decide)]
    have wv15 := congrArg Int32.toInt uv15
    refine g_iconst C 1 dX4_come_67 (by decide) ?_
    refine g_isub C dX4_come_68 ?_
    refine g_ni (fun v16 ev16 => ?_)
    try have fv16 := fsub rfl (by decide : (1 : Int32).toInt = 1) ev16 (by omega) (by omega)
    exact g_iret C hr ⟨trivial, hI, hF, hG⟩ dX4_come_69
  ·
    have f17 := feq rfl (by decide : (20 : Int32).toInt = 20) c2
    refine g_bipush C (-2) dX4_come_9 (by decide) ?_
    exact g_iret C hr ⟨trivial, hI, hF, hG⟩ dX4_come_11
theorem dX4_begin_0 : decode cX4_begin 0 = .ok (.iconst 0, 1) := by decide +kernel
theorem dX4_begin_1 : decode cX4_begin 1 = .ok (.istore_n 2, 1) := by decide +kernel
theorem dX4_begin_2 : decode cX4_begin 2 = .ok (.iload_n 1, 1) := by decide +kernel
theorem dX4_begin_3 : decode cX4_begin 3 = .ok (.istore_n 3, 1) := by decide +kernel
theorem dX4_begin_4 : decode cX4_begin 4 = .ok (.iload_n 2, 1) := by decide +kernel
theorem dX4_begin_5 : decode cX4_begin 5 = .ok (.bipush 20, 2) := by decide +kernel
theorem dX4_begin_7 : decode cX4_begin 7 = .ok (.if_icmp .ge 40, 3) := by decide +kernel
theorem dX4_begin_47 : decode cX4_begin 47 = .ok (.aload_n 0, 1) := by decide +kernel
theorem dX4_begin_48 : decode cX4_begin 48 = .ok (.iload_n 3, 1) := by decide +kernel
theorem dX4_begin_49 : decode cX4_begin 49 = .ok (.invokevirtual 34, 3) := by decide +kernel
set_option maxRecDepth 20000 in
theorem ggX4_begin_X4_has : GoodIn wsX4_begin wsX4_has := goodIn_r _ [9, 10, 11, 12, 13, 14, 15, 16, 17] (by decide +kernel) (by decide +kernel)
set_option maxRecDepth 20000 in
theorem gX4_begin_X4_has : GoodIn wsX4_begin (wsV RX4 34 RX4 yX4_has wsX4_has) := goodIn_app (goodIn_of _ (by decide +kernel)) ggX4_begin_X4_has
theorem dX4_begin_52 : decode cX4_begin 52 = .ok (.ifCond .eq 17, 3) := by decide +kernel
theorem dX4_begin_69 : decode cX4_begin 69 = .ok (.iconst 0, 1) := by decide +kernel
theorem dX4_begin_70 : decode cX4_begin 70 = .ok (.istore 4, 2) := by decide +kernel
theorem dX4_begin_72 : decode cX4_begin 72 = .ok (.iload_n 2, 1) := by decide +kernel
theorem dX4_begin_73 : decode cX4_begin 73 = .ok (.iconst 1, 1) := by decide +kernel
theorem dX4_begin_74 : decode cX4_begin 74 = .ok (.isub, 1) := by decide +kernel
theorem dX4_begin_75 : decode cX4_begin 75 = .ok (.istore 5, 2) := by decide +kernel
theorem dX4_begin_77 : decode cX4_begin 77 = .ok (.iload 5, 2) := by decide +kernel
theorem dX4_begin_79 : decode cX4_begin 79 = .ok (.ifCond .lt 60, 3) := by decide +kernel
theorem dX4_begin_139 : decode cX4_begin 139 = .ok (.aload_n 0, 1) := by decide +kernel
theorem dX4_begin_140 : decode cX4_begin 140 = .ok (.getfield 19, 3) := by decide +kernel
theorem in_X4_begin_4 : ∀ w ∈ u_ws RX4 TX4 7, w ∈ wsX4_begin := fun _ h => List.mem_cons_of_mem _ (List.mem_append_right _ h)
theorem dX4_begin_143 : decode cX4_begin 143 = .ok (.iload_n 1, 1) := by decide +kernel
theorem dX4_begin_144 : decode cX4_begin 144 = .ok (.iaload, 1) := by decide +kernel
theorem dX4_begin_145 : decode cX4_begin 145 = .ok (.ireturn, 1) := by decide +kernel
theorem dX4_begin_82 : decode cX4_begin 82 = .ok (.iload 4, 2) := by decide +kernel
theorem dX4_begin_84 : decode cX4_begin 84 = .ok (.ifCond .ne 20, 3) := by decide +kernel
theorem dX4_begin_104 : decode cX4_begin 104 = .ok (.iconst 1, 1) := by decide +kernel
theorem dX4_begin_105 : decode cX4_begin 105 = .ok (.goto 4, 3) := by decide +kernel
theorem dX4_begin_109 : decode cX4_begin 109 = .ok (.istore 4, 2) := by decide +kernel
theorem dX4_begin_111 : decode cX4_begin 111 = .ok (.aload_n 0, 1) := by decide +kernel
theorem dX4_begin_112 : decode cX4_begin 112 = .ok (.getfield 19, 3) := by decide +kernel
theorem dX4_begin_115 : decode cX4_begin 115 = .ok (.aload_n 0, 1) := by decide +kernel
theorem dX4_begin_116 : decode cX4_begin 116 = .ok (.getfield 31, 3) := by decide +kernel
theorem dX4_begin_119 : decode cX4_begin 119 = .ok (.iload 5, 2) := by decide +kernel
theorem dX4_begin_121 : decode cX4_begin 121 = .ok (.iaload, 1) := by decide +kernel
theorem dX4_begin_122 : decode cX4_begin 122 = .ok (.iload 4, 2) := by decide +kernel
theorem dX4_begin_124 : decode cX4_begin 124 = .ok (.ifCond .eq 7, 3) := by decide +kernel
theorem dX4_begin_127 : decode cX4_begin 127 = .ok (.iconst 2, 1) := by decide +kernel
theorem dX4_begin_128 : decode cX4_begin 128 = .ok (.goto 4, 3) := by decide +kernel
theorem dX4_begin_132 : decode cX4_begin 132 = .ok (.iastore, 1) := by decide +kernel
theorem dX4_begin_133 : decode cX4_begin 133 = .ok (.iinc 5 (-1), 3) := by decide +kernel
theorem dX4_begin_136 : decode cX4_begin 136 = .ok (.goto (-59), 3) := by decide +kernel
theorem dX4_begin_87 : decode cX4_begin 87 = .ok (.aload_n 0, 1) := by decide +kernel
theorem dX4_begin_88 : decode cX4_begin 88 = .ok (.getfield 15, 3) := by decide +kernel
theorem dX4_begin_91 : decode cX4_begin 91 = .ok (.aload_n 0, 1) := by decide +kernel
theorem dX4_begin_92 : decode cX4_begin 92 = .ok (.getfield 31, 3) := by decide +kernel
theorem dX4_begin_95 : decode cX4_begin 95 = .ok (.iload 5, 2) := by decide +kernel
theorem dX4_begin_97 : decode cX4_begin 97 = .ok (.iaload, 1) := by decide +kernel
theorem dX4_begin_98 : decode cX4_begin 98 = .ok (.iaload, 1) := by decide +kernel
theorem dX4_begin_99 : decode cX4_begin 99 = .ok (.bipush 8, 2) := by decide +kernel
theorem dX4_begin_101 : decode cX4_begin 101 = .ok (.if_icmp .ne 7, 3) := by decide +kernel
theorem dX4_begin_108 : decode cX4_begin 108 = .ok (.iconst 0, 1) := by decide +kernel
theorem dX4_begin_131 : decode cX4_begin 131 = .ok (.iconst 1, 1) := by decide +kernel
theorem dX4_begin_55 : decode cX4_begin 55 = .ok (.aload_n 0, 1) := by decide +kernel
theorem dX4_begin_56 : decode cX4_begin 56 = .ok (.getfield 19, 3) := by decide +kernel
theorem dX4_begin_59 : decode cX4_begin 59 = .ok (.iload_n 3, 1) := by decide +kernel
theorem dX4_begin_60 : decode cX4_begin 60 = .ok (.iaload, 1) := by decide +kernel
theorem dX4_begin_61 : decode cX4_begin 61 = .ok (.iconst 2, 1) := by decide +kernel
theorem dX4_begin_62 : decode cX4_begin 62 = .ok (.if_icmp .ne 7, 3) := by decide +kernel
theorem dX4_begin_65 : decode cX4_begin 65 = .ok (.iconst 1, 1) := by decide +kernel
theorem dX4_begin_66 : decode cX4_begin 66 = .ok (.goto 4, 3) := by decide +kernel
theorem dX4_begin_10 : decode cX4_begin 10 = .ok (.aload_n 0, 1) := by decide +kernel
theorem dX4_begin_11 : decode cX4_begin 11 = .ok (.iload_n 3, 1) := by decide +kernel
theorem dX4_begin_12 : decode cX4_begin 12 = .ok (.invokevirtual 34, 3) := by decide +kernel
theorem dX4_begin_15 : decode cX4_begin 15 = .ok (.ifCond .eq 32, 3) := by decide +kernel
theorem dX4_begin_18 : decode cX4_begin 18 = .ok (.aload_n 0, 1) := by decide +kernel
theorem dX4_begin_19 : decode cX4_begin 19 = .ok (.getfield 19, 3) := by decide +kernel
theorem dX4_begin_22 : decode cX4_begin 22 = .ok (.iload_n 3, 1) := by decide +kernel
theorem dX4_begin_23 : decode cX4_begin 23 = .ok (.iaload, 1) := by decide +kernel
theorem dX4_begin_24 : decode cX4_begin 24 = .ok (.ifCond .ne 23, 3) := by decide +kernel
theorem dX4_begin_27 : decode cX4_begin 27 = .ok (.aload_n 0, 1) := by decide +kernel
theorem dX4_begin_28 : decode cX4_begin 28 = .ok (.getfield 31, 3) := by decide +kernel
theorem dX4_begin_31 : decode cX4_begin 31 = .ok (.iload_n 2, 1) := by decide +kernel
theorem dX4_begin_32 : decode cX4_begin 32 = .ok (.iload_n 3, 1) := by decide +kernel
theorem dX4_begin_33 : decode cX4_begin 33 = .ok (.iastore, 1) := by decide +kernel
theorem dX4_begin_34 : decode cX4_begin 34 = .ok (.iinc 2 1, 3) := by decide +kernel
theorem dX4_begin_37 : decode cX4_begin 37 = .ok (.aload_n 0, 1) := by decide +kernel
theorem dX4_begin_38 : decode cX4_begin 38 = .ok (.getfield 22, 3) := by decide +kernel
theorem dX4_begin_41 : decode cX4_begin 41 = .ok (.iload_n 3, 1) := by decide +kernel
theorem dX4_begin_42 : decode cX4_begin 42 = .ok (.iaload, 1) := by decide +kernel
theorem dX4_begin_43 : decode cX4_begin 43 = .ok (.istore_n 3, 1) := by decide +kernel
theorem dX4_begin_44 : decode cX4_begin 44 = .ok (.goto (-40), 3) := by decide +kernel
set_option maxHeartbeats 4000000 in
set_option maxRecDepth 100000 in
theorem s_X4_begin (l : Launch) (D : va_G) (ad : Nat → Nat) (cs : Nat → ClassId) (M : MI) (L : ML) (x : Int32) (hI : IC M) (hx : 0 ≤ x.toInt ∧ x.toInt < 20) : Ci l yX4_begin wsX4_begin ({ frames := 1, cells := 0, slots := 0, locals := 21 }) D ad cs [.ref (ad 81), .int x] M L (fun r M1 L1 => (True) ∧ IC M1 ∧ (∀ k, k ≠ 83 ∧ k ≠ 87 → M1 k = M k) ∧ ∀ k, 258 ≤ k → L1 k = L k) := by
  refine enter_i RX4 rfl [(0, .ref (ad 81)), (1, .int x)] rfl (Nat.le_of_ble_eq_true rfl) (by decide +kernel) rfl ?_
  intro p e s m below meth c C hr
  have hF : ∀ k, k ≠ 83 ∧ k ≠ 87 → M k = M k := fun _ _ => rfl
  have hG : ∀ k, 258 ≤ k → L k = L k := fun _ _ => rfl
  obtain ⟨hx1, hx2⟩ := hx
  refine g_iconst C 0 dX4_begin_0 (by decide) ?_
  refine g_istore_n C [(2, .int 0), (0, .ref (ad 81)), (1, .int x)] dX4_begin_1 (by decide) rfl ?_
  refine g_iload_n C 2 dX4_begin_2 rfl ?_
  refine g_istore_n C [(3, .int x), (2, .int 0), (0, .ref (ad 81)), (1, .int x)] dX4_begin_3 (by decide) rfl ?_
  have zy1 : (0 : Int32).toInt = 0 := by decide
  refine g_loop (α := Int32 × Int32 × MI × ML) (fun a => (21 - a.1.toInt).toNat) (fun a => 0 ≤ a.1.toInt ∧ a.1.toInt ≤ 20 ∧ IC a.2.2.1 ∧ (∀ k, k ≠ 83 ∧ k ≠ 87 → a.2.2.1 k = M k) ∧ (∀ k, 258 ≤ k → a.2.2.2 k = L k)) (fun a => a.2.2.1) (fun a => a.2.2.2) (fun a => [(3, .int a.2.1), (2, .int a.1), (0, .ref (ad 81)), (1, .int x)]) (0, x, M, L) ⟨by show 0 ≤ (0 : Int32).toInt; omega, by show (0 : Int32).toInt ≤ 20; omega, hI, hF, hG⟩ rfl rfl rfl ?_
  rintro ⟨x2_4, x3_4, M_4, L_4⟩ ⟨j4_0, j4_1, hI, hF, hG⟩ ih_4
  dsimp only at j4_0 j4_1 hI hF hG ih_4 ⊢
  refine g_iload_n C 1 dX4_begin_4 rfl ?_
  refine g_bipush C 20 dX4_begin_5 (by decide) ?_
  refine g_icmp_ge C 47 dX4_begin_7 (by decide) (fun c2 => ?_) (fun c2 => ?_)
  ·
    have f3 := fle (by decide : (20 : Int32).toInt = 20) rfl c2
    refine g_aload_n C 2 dX4_begin_47 rfl ?_
    refine g_iload_n C 0 dX4_begin_48 rfl ?_
    refine g_callVi C (n := 1) (As := [.int x3_4]) (st := []) (c_X4_has l D ad cs _ _ x3_4) gX4_begin_X4_has rfl rfl rfl (by decide +kernel) ⟨Nat.le_of_ble_eq_true rfl, Nat.le_of_ble_eq_true rfl⟩ rfl (Nat.le_of_ble_eq_true rfl) ⟨Nat.zero_le _, Nat.zero_le _⟩ (by decide) (ce_meth ad cs _ _) rfl rfl dX4_begin_49 (fun r4 M5 L6 hr4 => ?_)
    obtain ⟨hq1, hq2, hr4⟩ := hr4
    obtain rfl := hq1.symm
    obtain rfl := hq2.symm
    refine g_if_eq C 69 dX4_begin_52 (by decide) (fun c7 => ?_) (fun c7 => ?_)
    ·
      have f8 := feq rfl (by decide : (0 : Int32).toInt = 0) c7
      refine g_iconst C 0 dX4_begin_69 (by decide) ?_
      refine g_istore C [(4, .int 0), (3, .int x3_4), (2, .int x2_4), (0, .ref (ad 81)), (1, .int x)] dX4_begin_70 (by decide) rfl ?_
      refine g_iload_n C 2 dX4_begin_72 rfl ?_
      refine g_iconst C 1 dX4_begin_73 (by decide) ?_
      refine g_isub C dX4_begin_74 ?_
      refine g_ni (fun v9 ev9 => ?_)
      try have fv9 := fsub rfl (by decide : (1 : Int32).toInt = 1) ev9 (by omega) (by omega)
      refine g_istore C [(5, .int v9), (4, .int 0), (3, .int x3_4), (2, .int x2_4), (0, .ref (ad 81)), (1, .int x)] dX4_begin_75 (by decide) rfl ?_
      have zy10 : (0 : Int32).toInt = 0 := by decide
      refine g_loop (α := Int32 × Int32 × MI × ML) (fun a => (a.1.toInt + 1).toNat) (fun a => -1 ≤ a.1.toInt ∧ a.1.toInt ≤ 19 ∧ IC a.2.2.1 ∧ (∀ k, k ≠ 83 ∧ k ≠ 87 → a.2.2.1 k = M k) ∧ (∀ k, 258 ≤ k → a.2.2.2 k = L k)) (fun a => a.2.2.1) (fun a => a.2.2.2) (fun a => [(5, .int a.1), (4, .int a.2.1), (3, .int x3_4), (2, .int x2_4), (0, .ref (ad 81)), (1, .int x)]) (v9, 0, M_4, L_4) ⟨by show -1 ≤ (v9 : Int32).toInt; omega, by show (v9 : Int32).toInt ≤ 19; omega, hI, hF, hG⟩ rfl rfl rfl ?_
      rintro ⟨x5_77, x4_77, M_77, L_77⟩ ⟨j77_0, j77_1, hI, hF, hG⟩ ih_77
      dsimp only at j77_0 j77_1 hI hF hG ih_77 ⊢
      refine g_iload C 0 dX4_begin_77 rfl ?_
      refine g_if_lt C 139 dX4_begin_79 (by decide) (fun c11 => ?_) (fun c11 => ?_)
      ·
        have f12 := fl rfl (by decide : (0 : Int32).toInt = 0) c11
        refine g_aload_n C 4 dX4_begin_139 rfl ?_
        refine g_get C (.ref (ad 83)) 2 in_X4_begin_4 (List.mem_of_getElem? (i := 1) rfl) (by decide) (ce_meth ad cs _ _) rfl (by decide) rfl rfl dX4_begin_140 ?_
        refine g_iload_n C 5 dX4_begin_143 rfl ?_
        refine g_iald C (by decide) (ce_mbegun ad cs _ _) (fin' (n := 20) rfl (by omega) (by omega)) dX4_begin_144 ?_
        refine g_ni (fun v13 ev13 => ?_)
        have tv13 := congrArg Int32.toInt ev13
        exact g_iret C hr ⟨trivial, hI, hF, hG⟩ dX4_begin_145
      ·
        have f14 := fnl rfl (by decide : (0 : Int32).toInt = 0) c11
        refine g_iload C 1 dX4_begin_82 rfl ?_
        refine g_if_ne C 104 dX4_begin_84 (by decide) (fun c15 => ?_) (fun c15 => ?_)
        ·
          have f16 := fne rfl (by decide : (0 : Int32).toInt = 0) c15
          refine g_iconst C 1 dX4_begin_104 (by decide) ?_
          refine g_goto C 109 dX4_begin_105 (by decide) ?_
          refine g_istore C [(4, .int 1), (5, .int x5_77), (3, .int x3_4), (2, .int x2_4), (0, .ref (ad 81)), (1, .int x)] dX4_begin_109 (by decide) rfl ?_
          refine g_aload_n C 4 dX4_begin_111 rfl ?_
          refine g_get C (.ref (ad 83)) 2 in_X4_begin_4 (List.mem_of_getElem? (i := 1) rfl) (by decide) (ce_meth ad cs _ _) rfl (by decide) rfl rfl dX4_begin_112 ?_
          refine g_aload_n C 4 dX4_begin_115 rfl ?_
          refine g_get C (.ref (ad 87)) 6 in_X4_begin_4 (List.mem_of_getElem? (i := 2) rfl) (by decide) (ce_meth ad cs _ _) rfl (by decide) rfl rfl dX4_begin_116 ?_
          refine g_iload C 1 dX4_begin_119 rfl ?_
          refine g_iald C (by decide) (ce_mchain ad cs _ _) (fin' (n := 20) rfl (by omega) (by omega)) dX4_begin_121 ?_
          refine g_ni (fun v17 ev17 => ?_)
          have tv17 := congrArg Int32.toInt ev17
          obtain ⟨bv17, dv17⟩ := (show rg 0 19 v17 from (by rw [ev17]; exact hI 87 _))
          refine g_iload C 0 dX4_begin_122 rfl ?_
          refine g_if_eq C 131 dX4_begin_124 (by decide) (fun c18 => absurd c18 (by decide)) (fun _ => ?_)
          refine g_iconst C 2 dX4_begin_127 (by decide) ?_
          refine g_goto C 132 dX4_begin_128 (by decide) ?_
          refine g_iast C (by decide) (ce_mbegun ad cs _ _) (by rw [sI_k]; rfl) (fin' (n := 20) rfl (by omega) (by omega)) dX4_begin_132 ?_
          refine g_nm (fun M19 hM19 => ?_)
          have hI : IC M19 := by rw [hM19]; exact hI.st (bC_free (by decide) (by decide) (by decide) (by decide) (by decide) (by decide) (by decide))
          have hF : ∀ k, k ≠ 83 ∧ k ≠ 87 → M19 k = M k := fun k hk => by (rw [hM19, sI_n _ _ _ (by omega)]; try exact hF k hk)
          obtain ⟨v20, ev20⟩ : ∃ y : Int32, y = x5_77 + (-1) := ⟨_, rfl⟩
          try have fv20 := fadd rfl (by decide : ((-1) : Int32).toInt = (-1)) ev20 (by omega) (by omega)
          refine g_iinc C 1 v20 [(5, .int v20), (4, .int 1), (3, .int x3_4), (2, .int x2_4), (0, .ref (ad 81)), (1, .int x)] dX4_begin_133 rfl (by rw [ev20]; rfl) (by decide) rfl ?_
          refine g_goto C 77 dX4_begin_136 (by decide) ?_
          have z21 : (1 : Int32).toInt = 1 := by decide
          exact ih_77 (v20, 1, M19, L_77) ⟨by show -1 ≤ v20.toInt; omega, by show v20.toInt ≤ 19; omega, hI, hF, hG⟩ (by show (v20.toInt + 1).toNat < (x5_77.toInt + 1).toNat; omega)
        ·
          have f22 := feq rfl (by decide : (0 : Int32).toInt = 0) c15
          refine g_aload_n C 4 dX4_begin_87 rfl ?_
          refine g_get C (.ref (ad 82)) 1 in_X4_begin_4 (List.mem_of_getElem? (i := 4) rfl) (by decide) (ce_meth ad cs _ _) rfl (by decide) rfl rfl dX4_begin_88 ?_
          refine g_aload_n C 4 dX4_begin_91 rfl ?_
          refine g_get C (.ref (ad 87)) 6 in_X4_begin_4 (List.mem_of_getElem? (i := 2) rfl) (by decide) (ce_meth ad cs _ _) rfl (by decide) rfl rfl dX4_begin_92 ?_
          refine g_iload C 0 dX4_begin_95 rfl ?_
          refine g_iald C (by decide) (ce_mchain ad cs _ _) (fin' (n := 20) rfl (by omega) (by omega)) dX4_begin_97 ?_
          refine g_ni (fun v23 ev23 => ?_)
          have tv23 := congrArg Int32.toInt ev23
          obtain ⟨bv23, dv23⟩ := (show rg 0 19 v23 from (by rw [ev23]; exact hI 87 _))
          refine g_iald C (by decide) (ce_mkind ad cs _ _) (fin' (n := 20) rfl (by omega) (by omega)) dX4_begin_98 ?_
          refine g_ni (fun v24 ev24 => ?_)
          have tv24 := congrArg Int32.toInt ev24
          refine g_bipush C 8 dX4_begin_99 (by decide) ?_
          refine g_icmp_ne C 108 dX4_begin_101 (by decide) (fun c25 => ?_) (fun c25 => ?_)
          ·
            have f26 := fne rfl (by decide : (8 : Int32).toInt = 8) c25
            refine g_iconst C 0 dX4_begin_108 (by decide) ?_
            refine g_istore C [(4, .int 0), (5, .int x5_77), (3, .int x3_4), (2, .int x2_4), (0, .ref (ad 81)), (1, .int x)] dX4_begin_109 (by decide) rfl ?_
            refine g_aload_n C 4 dX4_begin_111 rfl ?_
            refine g_get C (.ref (ad 83)) 2 in_X4_begin_4 (List.mem_of_getElem? (i := 1) rfl) (by decide) (ce_meth ad cs _ _) rfl (by decide) rfl rfl dX4_begin_112 ?_
            refine g_aload_n C 4 dX4_begin_115 rfl ?_
            refine g_get C (.ref (ad 87)) 6 in_X4_begin_4 (List.mem_of_getElem? (i := 2) rfl) (by decide) (ce_meth ad cs _ _) rfl (by decide) rfl rfl dX4_begin_116 ?_
            refine g_iload C 1 dX4_begin_119 rfl ?_
            refine g_iald C (by decide) (ce_mchain ad cs _ _) (fin' (n := 20) rfl (by omega) (by omega)) dX4_begin_121 ?_
            refine g_ni (fun v27 ev27 => ?_)
            have tv27 := congrArg Int32.toInt ev27
            obtain ⟨bv27, dv27⟩ := (show rg 0 19 v27 from (by rw [ev27]; exact hI 87 _))
            have uv27 : v27 = v23 := by rw [ev27]; exact ev23.symm
            have wv27 := congrArg Int32.toInt uv27
            refine g_iload C 0 dX4_begin_122 rfl ?_
            refine g_if_eq C 131 dX4_begin_124 (by decide) (fun _ => ?_) (fun c28 => absurd c28 (by decide))
            refine g_iconst C 1 dX4_begin_131 (by decide) ?_
            refine g_iast C (by decide) (ce_mbegun ad cs _ _) (by rw [sI_k]; rfl) (fin' (n := 20) rfl (by omega) (by omega)) dX4_begin_132 ?_
            refine g_nm (fun M29 hM29 => ?_)
            have hI : IC M29 := by rw [hM29]; exact hI.st (bC_free (by decide) (by decide) (by decide) (by decide) (by decide) (by decide) (by decide))
            have hF : ∀ k, k ≠ 83 ∧ k ≠ 87 → M29 k = M k := fun k hk => by (rw [hM29, sI_n _ _ _ (by omega)]; try exact hF k hk)
            obtain ⟨v30, ev30⟩ : ∃ y : Int32, y = x5_77 + (-1) := ⟨_, rfl⟩
            try have fv30 := fadd rfl (by decide : ((-1) : Int32).toInt = (-1)) ev30 (by omega) (by omega)
            refine g_iinc C 1 v30 [(5, .int v30), (4, .int 0), (3, .int x3_4), (2, .int x2_4), (0, .ref (ad 81)), (1, .int x)] dX4_begin_133 rfl (by rw [ev30]; rfl) (by decide) rfl ?_
            refine g_goto C 77 dX4_begin_136 (by decide) ?_
            have z31 : (0 : Int32).toInt = 0 := by decide
            exact ih_77 (v30, 0, M29, L_77) ⟨by show -1 ≤ v30.toInt; omega, by show v30.toInt ≤ 19; omega, hI, hF, hG⟩ (by show (v30.toInt + 1).toNat < (x5_77.toInt + 1).toNat; omega)
          ·
            have f32 := feq rfl (by decide : (8 : Int32).toInt = 8) c25
            refine g_iconst C 1 dX4_begin_104 (by decide) ?_
            refine g_goto C 109 dX4_begin_105 (by decide) ?_
            refine g_istore C [(4, .int 1), (5, .int x5_77), (3, .int x3_4), (2, .int x2_4), (0, .ref (ad 81)), (1, .int x)] dX4_begin_109 (by decide) rfl ?_
            refine g_aload_n C 4 dX4_begin_111 rfl ?_
            refine g_get C (.ref (ad 83)) 2 in_X4_begin_4 (List.mem_of_getElem? (i := 1) rfl) (by decide) (ce_meth ad cs _ _) rfl (by decide) rfl rfl dX4_begin_112 ?_
            refine g_aload_n C 4 dX4_begin_115 rfl ?_
            refine g_get C (.ref (ad 87)) 6 in_X4_begin_4 (List.mem_of_getElem? (i := 2) rfl) (by decide) (ce_meth ad cs _ _) rfl (by decide) rfl rfl dX4_begin_116 ?_
            refine g_iload C 1 dX4_begin_119 rfl ?_
            refine g_iald C (by decide) (ce_mchain ad cs _ _) (fin' (n := 20) rfl (by omega) (by omega)) dX4_begin_121 ?_
            refine g_ni (fun v33 ev33 => ?_)
            have tv33 := congrArg Int32.toInt ev33
            obtain ⟨bv33, dv33⟩ := (show rg 0 19 v33 from (by rw [ev33]; exact hI 87 _))
            have uv33 : v33 = v23 := by rw [ev33]; exact ev23.symm
            have wv33 := congrArg Int32.toInt uv33
            refine g_iload C 0 dX4_begin_122 rfl ?_
            refine g_if_eq C 131 dX4_begin_124 (by decide) (fun c34 => absurd c34 (by decide)) (fun _ => ?_)
            refine g_iconst C 2 dX4_begin_127 (by decide) ?_
            refine g_goto C 132 dX4_begin_128 (by decide) ?_
            refine g_iast C (by decide) (ce_mbegun ad cs _ _) (by rw [sI_k]; rfl) (fin' (n := 20) rfl (by omega) (by omega)) dX4_begin_132 ?_
            refine g_nm (fun M35 hM35 => ?_)
            have hI : IC M35 := by rw [hM35]; exact hI.st (bC_free (by decide) (by decide) (by decide) (by decide) (by decide) (by decide) (by decide))
            have hF : ∀ k, k ≠ 83 ∧ k ≠ 87 → M35 k = M k := fun k hk => by (rw [hM35, sI_n _ _ _ (by omega)]; try exact hF k hk)
            obtain ⟨v36, ev36⟩ : ∃ y : Int32, y = x5_77 + (-1) := ⟨_, rfl⟩
            try have fv36 := fadd rfl (by decide : ((-1) : Int32).toInt = (-1)) ev36 (by omega) (by omega)
            refine g_iinc C 1 v36 [(5, .int v36), (4, .int 1), (3, .int x3_4), (2, .int x2_4), (0, .ref (ad 81)), (1, .int x)] dX4_begin_133 rfl (by rw [ev36]; rfl) (by decide) rfl ?_
            refine g_goto C 77 dX4_begin_136 (by decide) ?_
            have z37 : (1 : Int32).toInt = 1 := by decide
            exact ih_77 (v36, 1, M35, L_77) ⟨by show -1 ≤ v36.toInt; omega, by show v36.toInt ≤ 19; omega, hI, hF, hG⟩ (by show (v36.toInt + 1).toNat < (x5_77.toInt + 1).toNat; omega)
    ·
      have f38 := fne rfl (by decide : (0 : Int32).toInt = 0) c7
      obtain ⟨far4, fbr4⟩ := has_t hr4 c7
      obtain ⟨fcr4, fdr4⟩ := (show rg 0 20 (M_4 81 0) from hI 81 0 rfl)
      refine g_aload_n C 2 dX4_begin_55 rfl ?_
      refine g_get C (.ref (ad 83)) 2 in_X4_begin_4 (List.mem_of_getElem? (i := 1) rfl) (by decide) (ce_meth ad cs _ _) rfl (by decide) rfl rfl dX4_begin_56 ?_
      refine g_iload_n C 0 dX4_begin_59 rfl ?_
      refine g_iald C (by decide) (ce_mbegun ad cs _ _) (fin' (n := 20) rfl (by omega) (by omega)) dX4_begin_60 ?_
      refine g_ni (fun v39 ev39 => ?_)
      have tv39 := congrArg Int32.toInt ev39
      refine g_iconst C 2 dX4_begin_61 (by decide) ?_
      refine g_icmp_ne C 69 dX4_begin_62 (by decide) (fun c40 => ?_) (fun c40 => ?_)
      ·
        have f41 := fne rfl (by decide : (2 : Int32).toInt = 2) c40
        refine g_iconst C 0 dX4_begin_69 (by decide) ?_
        refine g_istore C [(4, .int 0), (3, .int x3_4), (2, .int x2_4), (0, .ref (ad 81)), (1, .int x)] dX4_begin_70 (by decide) rfl ?_
        refine g_iload_n C 2 dX4_begin_72 rfl ?_
        refine g_iconst C 1 dX4_begin_73 (by decide) ?_
        refine g_isub C dX4_begin_74 ?_
        refine g_ni (fun v42 ev42 => ?_)
        try have fv42 := fsub rfl (by decide : (1 : Int32).toInt = 1) ev42 (by omega) (by omega)
        refine g_istore C [(5, .int v42), (4, .int 0), (3, .int x3_4), (2, .int x2_4), (0, .ref (ad 81)), (1, .int x)] dX4_begin_75 (by decide) rfl ?_
        have zy43 : (0 : Int32).toInt = 0 := by decide
        refine g_loop (α := Int32 × Int32 × MI × ML) (fun a => (a.1.toInt + 1).toNat) (fun a => -1 ≤ a.1.toInt ∧ a.1.toInt ≤ 19 ∧ IC a.2.2.1 ∧ (∀ k, k ≠ 83 ∧ k ≠ 87 → a.2.2.1 k = M k) ∧ (∀ k, 258 ≤ k → a.2.2.2 k = L k)) (fun a => a.2.2.1) (fun a => a.2.2.2) (fun a => [(5, .int a.1), (4, .int a.2.1), (3, .int x3_4), (2, .int x2_4), (0, .ref (ad 81)), (1, .int x)]) (v42, 0, M_4, L_4) ⟨by show -1 ≤ (v42 : Int32).toInt; omega, by show (v42 : Int32).toInt ≤ 19; omega, hI, hF, hG⟩ rfl rfl rfl ?_
        rintro ⟨x5_77, x4_77, M_77, L_77⟩ ⟨j77_0, j77_1, hI, hF, hG⟩ ih_77
        dsimp only at j77_0 j77_1 hI hF hG ih_77 ⊢
        refine g_iload C 0 dX4_begin_77 rfl ?_
        refine g_if_lt C 139 dX4_begin_79 (by decide) (fun c44 => ?_) (fun c44 => ?_)
        ·
          have f45 := fl rfl (by decide : (0 : Int32).toInt = 0) c44
          refine g_aload_n C 4 dX4_begin_139 rfl ?_
          refine g_get C (.ref (ad 83)) 2 in_X4_begin_4 (List.mem_of_getElem? (i := 1) rfl) (by decide) (ce_meth ad cs _ _) rfl (by decide) rfl rfl dX4_begin_140 ?_
          refine g_iload_n C 5 dX4_begin_143 rfl ?_
          refine g_iald C (by decide) (ce_mbegun ad cs _ _) (fin' (n := 20) rfl (by omega) (by omega)) dX4_begin_144 ?_
          refine g_ni (fun v46 ev46 => ?_)
          have tv46 := congrArg Int32.toInt ev46
          exact g_iret C hr ⟨trivial, hI, hF, hG⟩ dX4_begin_145
        ·
          have f47 := fnl rfl (by decide : (0 : Int32).toInt = 0) c44
          refine g_iload C 1 dX4_begin_82 rfl ?_
          refine g_if_ne C 104 dX4_begin_84 (by decide) (fun c48 => ?_) (fun c48 => ?_)
          ·
            have f49 := fne rfl (by decide : (0 : Int32).toInt = 0) c48
            refine g_iconst C 1 dX4_begin_104 (by decide) ?_
            refine g_goto C 109 dX4_begin_105 (by decide) ?_
            refine g_istore C [(4, .int 1), (5, .int x5_77), (3, .int x3_4), (2, .int x2_4), (0, .ref (ad 81)), (1, .int x)] dX4_begin_109 (by decide) rfl ?_
            refine g_aload_n C 4 dX4_begin_111 rfl ?_
            refine g_get C (.ref (ad 83)) 2 in_X4_begin_4 (List.mem_of_getElem? (i := 1) rfl) (by decide) (ce_meth ad cs _ _) rfl (by decide) rfl rfl dX4_begin_112 ?_
            refine g_aload_n C 4 dX4_begin_115 rfl ?_
            refine g_get C (.ref (ad 87)) 6 in_X4_begin_4 (List.mem_of_getElem? (i := 2) rfl) (by decide) (ce_meth ad cs _ _) rfl (by decide) rfl rfl dX4_begin_116 ?_
            refine g_iload C 1 dX4_begin_119 rfl ?_
            refine g_iald C (by decide) (ce_mchain ad cs _ _) (fin' (n := 20) rfl (by omega) (by omega)) dX4_begin_121 ?_
            refine g_ni (fun v50 ev50 => ?_)
            have tv50 := congrArg Int32.toInt ev50
            obtain ⟨bv50, dv50⟩ := (show rg 0 19 v50 from (by rw [ev50]; exact hI 87 _))
            refine g_iload C 0 dX4_begin_122 rfl ?_
            refine g_if_eq C 131 dX4_begin_124 (by decide) (fun c51 => absurd c51 (by decide)) (fun _ => ?_)
            refine g_iconst C 2 dX4_begin_127 (by decide) ?_
            refine g_goto C 132 dX4_begin_128 (by decide) ?_
            refine g_iast C (by decide) (ce_mbegun ad cs _ _) (by rw [sI_k]; rfl) (fin' (n := 20) rfl (by omega) (by omega)) dX4_begin_132 ?_
            refine g_nm (fun M52 hM52 => ?_)
            have hI : IC M52 := by rw [hM52]; exact hI.st (bC_free (by decide) (by decide) (by decide) (by decide) (by decide) (by decide) (by decide))
            have hF : ∀ k, k ≠ 83 ∧ k ≠ 87 → M52 k = M k := fun k hk => by (rw [hM52, sI_n _ _ _ (by omega)]; try exact hF k hk)
            obtain ⟨v53, ev53⟩ : ∃ y : Int32, y = x5_77 + (-1) := ⟨_, rfl⟩
            try have fv53 := fadd rfl (by decide : ((-1) : Int32).toInt = (-1)) ev53 (by omega) (by omega)
            refine g_iinc C 1 v53 [(5, .int v53), (4, .int 1), (3, .int x3_4), (2, .int x2_4), (0, .ref (ad 81)), (1, .int x)] dX4_begin_133 rfl (by rw [ev53]; rfl) (by decide) rfl ?_
            refine g_goto C 77 dX4_begin_136 (by decide) ?_
            have z54 : (1 : Int32).toInt = 1 := by decide
            exact ih_77 (v53, 1, M52, L_77) ⟨by show -1 ≤ v53.toInt; omega, by show v53.toInt ≤ 19; omega, hI, hF, hG⟩ (by show (v53.toInt + 1).toNat < (x5_77.toInt + 1).toNat; omega)
          ·
            have f55 := feq rfl (by decide : (0 : Int32).toInt = 0) c48
            refine g_aload_n C 4 dX4_begin_87 rfl ?_
            refine g_get C (.ref (ad 82)) 1 in_X4_begin_4 (List.mem_of_getElem? (i := 4) rfl) (by decide) (ce_meth ad cs _ _) rfl (by decide) rfl rfl dX4_begin_88 ?_
            refine g_aload_n C 4 dX4_begin_91 rfl ?_
            refine g_get C (.ref (ad 87)) 6 in_X4_begin_4 (List.mem_of_getElem? (i := 2) rfl) (by decide) (ce_meth ad cs _ _) rfl (by decide) rfl rfl dX4_begin_92 ?_
            refine g_iload C 0 dX4_begin_95 rfl ?_
            refine g_iald C (by decide) (ce_mchain ad cs _ _) (fin' (n := 20) rfl (by omega) (by omega)) dX4_begin_97 ?_
            refine g_ni (fun v56 ev56 => ?_)
            have tv56 := congrArg Int32.toInt ev56
            obtain ⟨bv56, dv56⟩ := (show rg 0 19 v56 from (by rw [ev56]; exact hI 87 _))
            refine g_iald C (by decide) (ce_mkind ad cs _ _) (fin' (n := 20) rfl (by omega) (by omega)) dX4_begin_98 ?_
            refine g_ni (fun v57 ev57 => ?_)
            have tv57 := congrArg Int32.toInt ev57
            refine g_bipush C 8 dX4_begin_99 (by decide) ?_
            refine g_icmp_ne C 108 dX4_begin_101 (by decide) (fun c58 => ?_) (fun c58 => ?_)
            ·
              have f59 := fne rfl (by decide : (8 : Int32).toInt = 8) c58
              refine g_iconst C 0 dX4_begin_108 (by decide) ?_
              refine g_istore C [(4, .int 0), (5, .int x5_77), (3, .int x3_4), (2, .int x2_4), (0, .ref (ad 81)), (1, .int x)] dX4_begin_109 (by decide) rfl ?_
              refine g_aload_n C 4 dX4_begin_111 rfl ?_
              refine g_get C (.ref (ad 83)) 2 in_X4_begin_4 (List.mem_of_getElem? (i := 1) rfl) (by decide) (ce_meth ad cs _ _) rfl (by decide) rfl rfl dX4_begin_112 ?_
              refine g_aload_n C 4 dX4_begin_115 rfl ?_
              refine g_get C (.ref (ad 87)) 6 in_X4_begin_4 (List.mem_of_getElem? (i := 2) rfl) (by decide) (ce_meth ad cs _ _) rfl (by decide) rfl rfl dX4_begin_116 ?_
              refine g_iload C 1 dX4_begin_119 rfl ?_
              refine g_iald C (by decide) (ce_mchain ad cs _ _) (fin' (n := 20) rfl (by omega) (by omega)) dX4_begin_121 ?_
              refine g_ni (fun v60 ev60 => ?_)
              have tv60 := congrArg Int32.toInt ev60
              obtain ⟨bv60, dv60⟩ := (show rg 0 19 v60 from (by rw [ev60]; exact hI 87 _))
              have uv60 : v60 = v56 := by rw [ev60]; exact ev56.symm
              have wv60 := congrArg Int32.toInt uv60
              refine g_iload C 0 dX4_begin_122 rfl ?_
              refine g_if_eq C 131 dX4_begin_124 (by decide) (fun _ => ?_) (fun c61 => absurd c61 (by decide))
              refine g_iconst C 1 dX4_begin_131 (by decide) ?_
              refine g_iast C (by decide) (ce_mbegun ad cs _ _) (by rw [sI_k]; rfl) (fin' (n := 20) rfl (by omega) (by omega)) dX4_begin_132 ?_
              refine g_nm (fun M62 hM62 => ?_)
              have hI : IC M62 := by rw [hM62]; exact hI.st (bC_free (by decide) (by decide) (by decide) (by decide) (by decide) (by decide) (by decide))
              have hF : ∀ k, k ≠ 83 ∧ k ≠ 87 → M62 k = M k := fun k hk => by (rw [hM62, sI_n _ _ _ (by omega)]; try exact hF k hk)
              obtain ⟨v63, ev63⟩ : ∃ y : Int32, y = x5_77 + (-1) := ⟨_, rfl⟩
              try have fv63 := fadd rfl (by decide : ((-1) : Int32).toInt = (-1)) ev63 (by omega) (by omega)
              refine g_iinc C 1 v63 [(5, .int v63), (4, .int 0), (3, .int x3_4), (2, .int x2_4), (0, .ref (ad 81)), (1, .int x)] dX4_begin_133 rfl (by rw [ev63]; rfl) (by decide) rfl ?_
              refine g_goto C 77 dX4_begin_136 (by decide) ?_
              have z64 : (0 : Int32).toInt = 0 := by decide
              exact ih_77 (v63, 0, M62, L_77) ⟨by show -1 ≤ v63.toInt; omega, by show v63.toInt ≤ 19; omega, hI, hF, hG⟩ (by show (v63.toInt + 1).toNat < (x5_77.toInt + 1).toNat; omega)
            ·
              have f65 := feq rfl (by decide : (8 : Int32).toInt = 8) c58
              refine g_iconst C 1 dX4_begin_104 (by decide) ?_
              refine g_goto C 109 dX4_begin_105 (by decide) ?_
              refine g_istore C [(4, .int 1), (5, .int x5_77), (3, .int x3_4), (2, .int x2_4), (0, .ref (ad 81)), (1, .int x)] dX4_begin_109 (by decide) rfl ?_
              refine g_aload_n C 4 dX4_begin_111 rfl ?_
              refine g_get C (.ref (ad 83)) 2 in_X4_begin_4 (List.mem_of_getElem? (i := 1) rfl) (by decide) (ce_meth ad cs _ _) rfl (by decide) rfl rfl dX4_begin_112 ?_
              refine g_aload_n C 4 dX4_begin_115 rfl ?_
              refine g_get C (.ref (ad 87)) 6 in_X4_begin_4 (List.mem_of_getElem? (i := 2) rfl) (by decide) (ce_meth ad cs _ _) rfl (by decide) rfl rfl dX4_begin_116 ?_
              refine g_iload C 1 dX4_begin_119 rfl ?_
              refine g_iald C (by decide) (ce_mchain ad cs _ _) (fin' (n := 20) rfl (by omega) (by omega)) dX4_begin_121 ?_
              refine g_ni (fun v66 ev66 => ?_)
              have tv66 := congrArg Int32.toInt ev66
              obtain ⟨bv66, dv66⟩ := (show rg 0 19 v66 from (by rw [ev66]; exact hI 87 _))
              have uv66 : v66 = v56 := by rw [ev66]; exact ev56.symm
              have wv66 := congrArg Int32.toInt uv66
              refine g_iload C 0 dX4_begin_122 rfl ?_
              refine g_if_eq C 131 dX4_begin_124 (by decide) (fun c67 => absurd c67 (by decide)) (fun _ => ?_)
              refine g_iconst C 2 dX4_begin_127 (by decide) ?_
              refine g_goto C 132 dX4_begin_128 (by decide) ?_
              refine g_iast C (by decide) (ce_mbegun ad cs _ _) (by rw [sI_k]; rfl) (fin' (n := 20) rfl (by omega) (by omega)) dX4_begin_132 ?_
              refine g_nm (fun M68 hM68 => ?_)
              have hI : IC M68 := by rw [hM68]; exact hI.st (bC_free (by decide) (by decide) (by decide) (by decide) (by decide) (by decide) (by decide))
              have hF : ∀ k, k ≠ 83 ∧ k ≠ 87 → M68 k = M k := fun k hk => by (rw [hM68, sI_n _ _ _ (by omega)]; try exact hF k hk)
              obtain ⟨v69, ev69⟩ : ∃ y : Int32, y = x5_77 + (-1) := ⟨_, rfl⟩
              try have fv69 := fadd rfl (by decide : ((-1) : Int32).toInt = (-1)) ev69 (by omega) (by omega)
              refine g_iinc C 1 v69 [(5, .int v69), (4, .int 1), (3, .int x3_4), (2, .int x2_4), (0, .ref (ad 81)), (1, .int x)] dX4_begin_133 rfl (by rw [ev69]; rfl) (by decide) rfl ?_
              refine g_goto C 77 dX4_begin_136 (by decide) ?_
              have z70 : (1 : Int32).toInt = 1 := by decide
              exact ih_77 (v69, 1, M68, L_77) ⟨by show -1 ≤ v69.toInt; omega, by show v69.toInt ≤ 19; omega, hI, hF, hG⟩ (by show (v69.toInt + 1).toNat < (x5_77.toInt + 1).toNat; omega)
      ·
        have f71 := feq rfl (by decide : (2 : Int32).toInt = 2) c40
        refine g_iconst C 1 dX4_begin_65 (by decide) ?_
        refine g_goto C 70 dX4_begin_66 (by decide) ?_
        refine g_istore C [(4, .int 1), (3, .int x3_4), (2, .int x2_4), (0, .ref (ad 81)), (1, .int x)] dX4_begin_70 (by decide) rfl ?_
        refine g_iload_n C 2 dX4_begin_72 rfl ?_
        refine g_iconst C 1 dX4_begin_73 (by decide) ?_
        refine g_isub C dX4_begin_74 ?_
        refine g_ni (fun v72 ev72 => ?_)
        try have fv72 := fsub rfl (by decide : (1 : Int32).toInt = 1) ev72 (by omega) (by omega)
        refine g_istore C [(5, .int v72), (4, .int 1), (3, .int x3_4), (2, .int x2_4), (0, .ref (ad 81)), (1, .int x)] dX4_begin_75 (by decide) rfl ?_
        have zy73 : (1 : Int32).toInt = 1 := by decide
        refine g_loop (α := Int32 × Int32 × MI × ML) (fun a => (a.1.toInt + 1).toNat) (fun a => -1 ≤ a.1.toInt ∧ a.1.toInt ≤ 19 ∧ IC a.2.2.1 ∧ (∀ k, k ≠ 83 ∧ k ≠ 87 → a.2.2.1 k = M k) ∧ (∀ k, 258 ≤ k → a.2.2.2 k = L k)) (fun a => a.2.2.1) (fun a => a.2.2.2) (fun a => [(5, .int a.1), (4, .int a.2.1), (3, .int x3_4), (2, .int x2_4), (0, .ref (ad 81)), (1, .int x)]) (v72, 1, M_4, L_4) ⟨by show -1 ≤ (v72 : Int32).toInt; omega, by show (v72 : Int32).toInt ≤ 19; omega, hI, hF, hG⟩ rfl rfl rfl ?_
        rintro ⟨x5_77, x4_77, M_77, L_77⟩ ⟨j77_0, j77_1, hI, hF, hG⟩ ih_77
        dsimp only at j77_0 j77_1 hI hF hG ih_77 ⊢
        refine g_iload C 0 dX4_begin_77 rfl ?_
        refine g_if_lt C 139 dX4_begin_79 (by decide) (fun c74 => ?_) (fun c74 => ?_)
        ·
          have f75 := fl rfl (by decide : (0 : Int32).toInt = 0) c74
          refine g_aload_n C 4 dX4_begin_139 rfl ?_
          refine g_get C (.ref (ad 83)) 2 in_X4_begin_4 (List.mem_of_getElem? (i := 1) rfl) (by decide) (ce_meth ad cs _ _) rfl (by decide) rfl rfl dX4_begin_140 ?_
          refine g_iload_n C 5 dX4_begin_143 rfl ?_
          refine g_iald C (by decide) (ce_mbegun ad cs _ _) (fin' (n := 20) rfl (by omega) (by omega)) dX4_begin_144 ?_
          refine g_ni (fun v76 ev76 => ?_)
          have tv76 := congrArg Int32.toInt ev76
          exact g_iret C hr ⟨trivial, hI, hF, hG⟩ dX4_begin_145
        ·
          have f77 := fnl rfl (by decide : (0 : Int32).toInt = 0) c74
          refine g_iload C 1 dX4_begin_82 rfl ?_
          refine g_if_ne C 104 dX4_begin_84 (by decide) (fun c78 => ?_) (fun c78 => ?_)
          ·
            have f79 := fne rfl (by decide : (0 : Int32).toInt = 0) c78
            refine g_iconst C 1 dX4_begin_104 (by decide) ?_
            refine g_goto C 109 dX4_begin_105 (by decide) ?_
            refine g_istore C [(4, .int 1), (5, .int x5_77), (3, .int x3_4), (2, .int x2_4), (0, .ref (ad 81)), (1, .int x)] dX4_begin_109 (by decide) rfl ?_
            refine g_aload_n C 4 dX4_begin_111 rfl ?_
            refine g_get C (.ref (ad 83)) 2 in_X4_begin_4 (List.mem_of_getElem? (i := 1) rfl) (by decide) (ce_meth ad cs _ _) rfl (by decide) rfl rfl dX4_begin_112 ?_
            refine g_aload_n C 4 dX4_begin_115 rfl ?_
            refine g_get C (.ref (ad 87)) 6 in_X4_begin_4 (List.mem_of_getElem? (i := 2) rfl) (by decide) (ce_meth ad cs _ _) rfl (by decide) rfl rfl dX4_begin_116 ?_
            refine g_iload C 1 dX4_begin_119 rfl ?_
            refine g_iald C (by decide) (ce_mchain ad cs _ _) (fin' (n := 20) rfl (by omega) (by omega)) dX4_begin_121 ?_
            refine g_ni (fun v80 ev80 => ?_)
            have tv80 := congrArg Int32.toInt ev80
            obtain ⟨bv80, dv80⟩ := (show rg 0 19 v80 from (by rw [ev80]; exact hI 87 _))
            refine g_iload C 0 dX4_begin_122 rfl ?_
            refine g_if_eq C 131 dX4_begin_124 (by decide) (fun c81 => absurd c81 (by decide)) (fun _ => ?_)
            refine g_iconst C 2 dX4_begin_127 (by decide) ?_
            refine g_goto C 132 dX4_begin_128 (by decide) ?_
            refine g_iast C (by decide) (ce_mbegun ad cs _ _) (by rw [sI_k]; rfl) (fin' (n := 20) rfl (by omega) (by omega)) dX4_begin_132 ?_
            refine g_nm (fun M82 hM82 => ?_)
            have hI : IC M82 := by rw [hM82]; exact hI.st (bC_free (by decide) (by decide) (by decide) (by decide) (by decide) (by decide) (by decide))
            have hF : ∀ k, k ≠ 83 ∧ k ≠ 87 → M82 k = M k := fun k hk => by (rw [hM82, sI_n _ _ _ (by omega)]; try exact hF k hk)
            obtain ⟨v83, ev83⟩ : ∃ y : Int32, y = x5_77 + (-1) := ⟨_, rfl⟩
            try have fv83 := fadd rfl (by decide : ((-1) : Int32).toInt = (-1)) ev83 (by omega) (by omega)
            refine g_iinc C 1 v83 [(5, .int v83), (4, .int 1), (3, .int x3_4), (2, .int x2_4), (0, .ref (ad 81)), (1, .int x)] dX4_begin_133 rfl (by rw [ev83]; rfl) (by decide) rfl ?_
            refine g_goto C 77 dX4_begin_136 (by decide) ?_
            have z84 : (1 : Int32).toInt = 1 := by decide
            exact ih_77 (v83, 1, M82, L_77) ⟨by show -1 ≤ v83.toInt; omega, by show v83.toInt ≤ 19; omega, hI, hF, hG⟩ (by show (v83.toInt + 1).toNat < (x5_77.toInt + 1).toNat; omega)
          ·
            have f85 := feq rfl (by decide : (0 : Int32).toInt = 0) c78
            refine g_aload_n C 4 dX4_begin_87 rfl ?_
            refine g_get C (.ref (ad 82)) 1 in_X4_begin_4 (List.mem_of_getElem? (i := 4) rfl) (by decide) (ce_meth ad cs _ _) rfl (by decide) rfl rfl dX4_begin_88 ?_
            refine g_aload_n C 4 dX4_begin_91 rfl ?_
            refine g_get C (.ref (ad 87)) 6 in_X4_begin_4 (List.mem_of_getElem? (i := 2) rfl) (by decide) (ce_meth ad cs _ _) rfl (by decide) rfl rfl dX4_begin_92 ?_
            refine g_iload C 0 dX4_begin_95 rfl ?_
            refine g_iald C (by decide) (ce_mchain ad cs _ _) (fin' (n := 20) rfl (by omega) (by omega)) dX4_begin_97 ?_
            refine g_ni (fun v86 ev86 => ?_)
            have tv86 := congrArg Int32.toInt ev86
            obtain ⟨bv86, dv86⟩ := (show rg 0 19 v86 from (by rw [ev86]; exact hI 87 _))
            refine g_iald C (by decide) (ce_mkind ad cs _ _) (fin' (n := 20) rfl (by omega) (by omega)) dX4_begin_98 ?_
            refine g_ni (fun v87 ev87 => ?_)
            have tv87 := congrArg Int32.toInt ev87
            refine g_bipush C 8 dX4_begin_99 (by decide) ?_
            refine g_icmp_ne C 108 dX4_begin_101 (by decide) (fun c88 => ?_) (fun c88 => ?_)
            ·
              have f89 := fne rfl (by decide : (8 : Int32).toInt = 8) c88
              refine g_iconst C 0 dX4_begin_108 (by decide) ?_
              refine g_istore C [(4, .int 0), (5, .int x5_77), (3, .int x3_4), (2, .int x2_4), (0, .ref (ad 81)), (1, .int x)] dX4_begin_109 (by decide) rfl ?_
              refine g_aload_n C 4 dX4_begin_111 rfl ?_
              refine g_get C (.ref (ad 83)) 2 in_X4_begin_4 (List.mem_of_getElem? (i := 1) rfl) (by decide) (ce_meth ad cs _ _) rfl (by decide) rfl rfl dX4_begin_112 ?_
              refine g_aload_n C 4 dX4_begin_115 rfl ?_
              refine g_get C (.ref (ad 87)) 6 in_X4_begin_4 (List.mem_of_getElem? (i := 2) rfl) (by decide) (ce_meth ad cs _ _) rfl (by decide) rfl rfl dX4_begin_116 ?_
              refine g_iload C 1 dX4_begin_119 rfl ?_
              refine g_iald C (by decide) (ce_mchain ad cs _ _) (fin' (n := 20) rfl (by omega) (by omega)) dX4_begin_121 ?_
              refine g_ni (fun v90 ev90 => ?_)
              have tv90 := congrArg Int32.toInt ev90
              obtain ⟨bv90, dv90⟩ := (show rg 0 19 v90 from (by rw [ev90]; exact hI 87 _))
              have uv90 : v90 = v86 := by rw [ev90]; exact ev86.symm
              have wv90 := congrArg Int32.toInt uv90
              refine g_iload C 0 dX4_begin_122 rfl ?_
              refine g_if_eq C 131 dX4_begin_124 (by decide) (fun _ => ?_) (fun c91 => absurd c91 (by decide))
              refine g_iconst C 1 dX4_begin_131 (by decide) ?_
              refine g_iast C (by decide) (ce_mbegun ad cs _ _) (by rw [sI_k]; rfl) (fin' (n := 20) rfl (by omega) (by omega)) dX4_begin_132 ?_
              refine g_nm (fun M92 hM92 => ?_)
              have hI : IC M92 := by rw [hM92]; exact hI.st (bC_free (by decide) (by decide) (by decide) (by decide) (by decide) (by decide) (by decide))
              have hF : ∀ k, k ≠ 83 ∧ k ≠ 87 → M92 k = M k := fun k hk => by (rw [hM92, sI_n _ _ _ (by omega)]; try exact hF k hk)
              obtain ⟨v93, ev93⟩ : ∃ y : Int32, y = x5_77 + (-1) := ⟨_, rfl⟩
              try have fv93 := fadd rfl (by decide : ((-1) : Int32).toInt = (-1)) ev93 (by omega) (by omega)
              refine g_iinc C 1 v93 [(5, .int v93), (4, .int 0), (3, .int x3_4), (2, .int x2_4), (0, .ref (ad 81)), (1, .int x)] dX4_begin_133 rfl (by rw [ev93]; rfl) (by decide) rfl ?_
              refine g_goto C 77 dX4_begin_136 (by decide) ?_
              have z94 : (0 : Int32).toInt = 0 := by decide
              exact ih_77 (v93, 0, M92, L_77) ⟨by show -1 ≤ v93.toInt; omega, by show v93.toInt ≤ 19; omega, hI, hF, hG⟩ (by show (v93.toInt + 1).toNat < (x5_77.toInt + 1).toNat; omega)
            ·
              have f95 := feq rfl (by decide : (8 : Int32).toInt = 8) c88
              refine g_iconst C 1 dX4_begin_104 (by decide) ?_
              refine g_goto C 109 dX4_begin_105 (by decide) ?_
              refine g_istore C [(4, .int 1), (5, .int x5_77), (3, .int x3_4), (2, .int x2_4), (0, .ref (ad 81)), (1, .int x)] dX4_begin_109 (by decide) rfl ?_
              refine g_aload_n C 4 dX4_begin_111 rfl ?_
              refine g_get C (.ref (ad 83)) 2 in_X4_begin_4 (List.mem_of_getElem? (i := 1) rfl) (by decide) (ce_meth ad cs _ _) rfl (by decide) rfl rfl dX4_begin_112 ?_
              refine g_aload_n C 4 dX4_begin_115 rfl ?_
              refine g_get C (.ref (ad 87)) 6 in_X4_begin_4 (List.mem_of_getElem? (i := 2) rfl) (by decide) (ce_meth ad cs _ _) rfl (by decide) rfl rfl dX4_begin_116 ?_
              refine g_iload C 1 dX4_begin_119 rfl ?_
              refine g_iald C (by decide) (ce_mchain ad cs _ _) (fin' (n := 20) rfl (by omega) (by omega)) dX4_begin_121 ?_
              refine g_ni (fun v96 ev96 => ?_)
              have tv96 := congrArg Int32.toInt ev96
              obtain ⟨bv96, dv96⟩ := (show rg 0 19 v96 from (by rw [ev96]; exact hI 87 _))
              have uv96 : v96 = v86 := by rw [ev96]; exact ev86.symm
              have wv96 := congrArg Int32.toInt uv96
              refine g_iload C 0 dX4_begin_122 rfl ?_
              refine g_if_eq C 131 dX4_begin_124 (by decide) (fun c97 => absurd c97 (by decide)) (fun _ => ?_)
              refine g_iconst C 2 dX4_begin_127 (by decide) ?_
              refine g_goto C 132 dX4_begin_128 (by decide) ?_
              refine g_iast C (by decide) (ce_mbegun ad cs _ _) (by rw [sI_k]; rfl) (fin' (n := 20) rfl (by omega) (by omega)) dX4_begin_132 ?_
              refine g_nm (fun M98 hM98 => ?_)
              have hI : IC M98 := by rw [hM98]; exact hI.st (bC_free (by decide) (by decide) (by decide) (by decide) (by decide) (by decide) (by decide))
              have hF : ∀ k, k ≠ 83 ∧ k ≠ 87 → M98 k = M k := fun k hk => by (rw [hM98, sI_n _ _ _ (by omega)]; try exact hF k hk)
              obtain ⟨v99, ev99⟩ : ∃ y : Int32, y = x5_77 + (-1) := ⟨_, rfl⟩
              try have fv99 := fadd rfl (by decide : ((-1) : Int32).toInt = (-1)) ev99 (by omega) (by omega)
              refine g_iinc C 1 v99 [(5, .int v99), (4, .int 1), (3, .int x3_4), (2, .int x2_4), (0, .ref (ad 81)), (1, .int x)] dX4_begin_133 rfl (by rw [ev99]; rfl) (by decide) rfl ?_
              refine g_goto C 77 dX4_begin_136 (by decide) ?_
              have z100 : (1 : Int32).toInt = 1 := by decide
              exact ih_77 (v99, 1, M98, L_77) ⟨by show -1 ≤ v99.toInt; omega, by show v99.toInt ≤ 19; omega, hI, hF, hG⟩ (by show (v99.toInt + 1).toNat < (x5_77.toInt + 1).toNat; omega)
  ·
    have f101 := fnle (by decide : (20 : Int32).toInt = 20) rfl c2
    refine g_aload_n C 2 dX4_begin_10 rfl ?_
    refine g_iload_n C 0 dX4_begin_11 rfl ?_
    refine g_callVi C (n := 1) (As := [.int x3_4]) (st := []) (c_X4_has l D ad cs _ _ x3_4) gX4_begin_X4_has rfl rfl rfl (by decide +kernel) ⟨Nat.le_of_ble_eq_true rfl, Nat.le_of_ble_eq_true rfl⟩ rfl (Nat.le_of_ble_eq_true rfl) ⟨Nat.zero_le _, Nat.zero_le _⟩ (by decide) (ce_meth ad cs _ _) rfl rfl dX4_begin_12 (fun r102 M103 L104 hr102 => ?_)
    obtain ⟨hq1, hq2, hr102⟩ := hr102
    obtain rfl := hq1.symm
    obtain rfl := hq2.symm
    refine g_if_eq C 47 dX4_begin_15 (by decide) (fun c105 => ?_) (fun c105 => ?_)
    ·
      have f106 := feq rfl (by decide : (0 : Int32).toInt = 0) c105
      refine g_aload_n C 2 dX4_begin_47 rfl ?_
      refine g_iload_n C 0 dX4_begin_48 rfl ?_
      refine g_callVi C (n := 1) (As := [.int x3_4]) (st := []) (c_X4_has l D ad cs _ _ x3_4) gX4_begin_X4_has rfl rfl rfl (by decide +kernel) ⟨Nat.le_of_ble_eq_true rfl, Nat.le_of_ble_eq_true rfl⟩ rfl (Nat.le_of_ble_eq_true rfl) ⟨Nat.zero_le _, Nat.zero_le _⟩ (by decide) (ce_meth ad cs _ _) rfl rfl dX4_begin_49 (fun r107 M108 L109 hr107 => ?_)
      obtain ⟨hq1, hq2, hr107⟩ := hr107
      obtain rfl := hq1.symm
      obtain rfl := hq2.symm
      refine g_if_eq C 69 dX4_begin_52 (by decide) (fun c110 => ?_) (fun c110 => ?_)
      ·
        have f111 := feq rfl (by decide : (0 : Int32).toInt = 0) c110
        refine g_iconst C 0 dX4_begin_69 (by decide) ?_
        refine g_istore C [(4, .int 0), (3, .int x3_4), (2, .int x2_4), (0, .ref (ad 81)), (1, .int x)] dX4_begin_70 (by decide) rfl ?_
        refine g_iload_n C 2 dX4_begin_72 rfl ?_
        refine g_iconst C 1 dX4_begin_73 (by decide) ?_
        refine g_isub C dX4_begin_74 ?_
        refine g_ni (fun v112 ev112 => ?_)
        try have fv112 := fsub rfl (by decide : (1 : Int32).toInt = 1) ev112 (by omega) (by omega)
        refine g_istore C [(5, .int v112), (4, .int 0), (3, .int x3_4), (2, .int x2_4), (0, .ref (ad 81)), (1, .int x)] dX4_begin_75 (by decide) rfl ?_
        have zy113 : (0 : Int32).toInt = 0 := by decide
        refine g_loop (α := Int32 × Int32 × MI × ML) (fun a => (a.1.toInt + 1).toNat) (fun a => -1 ≤ a.1.toInt ∧ a.1.toInt ≤ 19 ∧ IC a.2.2.1 ∧ (∀ k, k ≠ 83 ∧ k ≠ 87 → a.2.2.1 k = M k) ∧ (∀ k, 258 ≤ k → a.2.2.2 k = L k)) (fun a => a.2.2.1) (fun a => a.2.2.2) (fun a => [(5, .int a.1), (4, .int a.2.1), (3, .int x3_4), (2, .int x2_4), (0, .ref (ad 81)), (1, .int x)]) (v112, 0, M_4, L_4) ⟨by show -1 ≤ (v112 : Int32).toInt; omega, by show (v112 : Int32).toInt ≤ 19; omega, hI, hF, hG⟩ rfl rfl rfl ?_
        rintro ⟨x5_77, x4_77, M_77, L_77⟩ ⟨j77_0, j77_1, hI, hF, hG⟩ ih_77
        dsimp only at j77_0 j77_1 hI hF hG ih_77 ⊢
        refine g_iload C 0 dX4_begin_77 rfl ?_
        refine g_if_lt C 139 dX4_begin_79 (by decide) (fun c114 => ?_) (fun c114 => ?_)
        ·
          have f115 := fl rfl (by decide : (0 : Int32).toInt = 0) c114
          refine g_aload_n C 4 dX4_begin_139 rfl ?_
          refine g_get C (.ref (ad 83)) 2 in_X4_begin_4 (List.mem_of_getElem? (i := 1) rfl) (by decide) (ce_meth ad cs _ _) rfl (by decide) rfl rfl dX4_begin_140 ?_
          refine g_iload_n C 5 dX4_begin_143 rfl ?_
          refine g_iald C (by decide) (ce_mbegun ad cs _ _) (fin' (n := 20) rfl (by omega) (by omega)) dX4_begin_144 ?_
          refine g_ni (fun v116 ev116 => ?_)
          have tv116 := congrArg Int32.toInt ev116
          exact g_iret C hr ⟨trivial, hI, hF, hG⟩ dX4_begin_145
        ·
          have f117 := fnl rfl (by decide : (0 : Int32).toInt = 0) c114
          refine g_iload C 1 dX4_begin_82 rfl ?_
          refine g_if_ne C 104 dX4_begin_84 (by decide) (fun c118 => ?_) (fun c118 => ?_)
          ·
            have f119 := fne rfl (by decide : (0 : Int32).toInt = 0) c118
            refine g_iconst C 1 dX4_begin_104 (by decide) ?_
            refine g_goto C 109 dX4_begin_105 (by decide) ?_
            refine g_istore C [(4, .int 1), (5, .int x5_77), (3, .int x3_4), (2, .int x2_4), (0, .ref (ad 81)), (1, .int x)] dX4_begin_109 (by decide) rfl ?_
            refine g_aload_n C 4 dX4_begin_111 rfl ?_
            refine g_get C (.ref (ad 83)) 2 in_X4_begin_4 (List.mem_of_getElem? (i := 1) rfl) (by decide) (ce_meth ad cs _ _) rfl (by decide) rfl rfl dX4_begin_112 ?_
            refine g_aload_n C 4 dX4_begin_115 rfl ?_
            refine g_get C (.ref (ad 87)) 6 in_X4_begin_4 (List.mem_of_getElem? (i := 2) rfl) (by decide) (ce_meth ad cs _ _) rfl (by decide) rfl rfl dX4_begin_116 ?_
            refine g_iload C 1 dX4_begin_119 rfl ?_
            refine g_iald C (by decide) (ce_mchain ad cs _ _) (fin' (n := 20) rfl (by omega) (by omega)) dX4_begin_121 ?_
            refine g_ni (fun v120 ev120 => ?_)
            have tv120 := congrArg Int32.toInt ev120
            obtain ⟨bv120, dv120⟩ := (show rg 0 19 v120 from (by rw [ev120]; exact hI 87 _))
            refine g_iload C 0 dX4_begin_122 rfl ?_
            refine g_if_eq C 131 dX4_begin_124 (by decide) (fun c121 => absurd c121 (by decide)) (fun _ => ?_)
            refine g_iconst C 2 dX4_begin_127 (by decide) ?_
            refine g_goto C 132 dX4_begin_128 (by decide) ?_
            refine g_iast C (by decide) (ce_mbegun ad cs _ _) (by rw [sI_k]; rfl) (fin' (n := 20) rfl (by omega) (by omega)) dX4_begin_132 ?_
            refine g_nm (fun M122 hM122 => ?_)
            have hI : IC M122 := by rw [hM122]; exact hI.st (bC_free (by decide) (by decide) (by decide) (by decide) (by decide) (by decide) (by decide))
            have hF : ∀ k, k ≠ 83 ∧ k ≠ 87 → M122 k = M k := fun k hk => by (rw [hM122, sI_n _ _ _ (by omega)]; try exact hF k hk)
            obtain ⟨v123, ev123⟩ : ∃ y : Int32, y = x5_77 + (-1) := ⟨_, rfl⟩
            try have fv123 := fadd rfl (by decide : ((-1) : Int32).toInt = (-1)) ev123 (by omega) (by omega)
            refine g_iinc C 1 v123 [(5, .int v123), (4, .int 1), (3, .int x3_4), (2, .int x2_4), (0, .ref (ad 81)), (1, .int x)] dX4_begin_133 rfl (by rw [ev123]; rfl) (by decide) rfl ?_
            refine g_goto C 77 dX4_begin_136 (by decide) ?_
            have z124 : (1 : Int32).toInt = 1 := by decide
            exact ih_77 (v123, 1, M122, L_77) ⟨by show -1 ≤ v123.toInt; omega, by show v123.toInt ≤ 19; omega, hI, hF, hG⟩ (by show (v123.toInt + 1).toNat < (x5_77.toInt + 1).toNat; omega)
          ·
            have f125 := feq rfl (by decide : (0 : Int32).toInt = 0) c118
            refine g_aload_n C 4 dX4_begin_87 rfl ?_
            refine g_get C (.ref (ad 82)) 1 in_X4_begin_4 (List.mem_of_getElem? (i := 4) rfl) (by decide) (ce_meth ad cs _ _) rfl (by decide) rfl rfl dX4_begin_88 ?_
            refine g_aload_n C 4 dX4_begin_91 rfl ?_
            refine g_get C (.ref (ad 87)) 6 in_X4_begin_4 (List.mem_of_getElem? (i := 2) rfl) (by decide) (ce_meth ad cs _ _) rfl (by decide) rfl rfl dX4_begin_92 ?_
            refine g_iload C 0 dX4_begin_95 rfl ?_
            refine g_iald C (by decide) (ce_mchain ad cs _ _) (fin' (n := 20) rfl (by omega) (by omega)) dX4_begin_97 ?_
            refine g_ni (fun v126 ev126 => ?_)
            have tv126 := congrArg Int32.toInt ev126
            obtain ⟨bv126, dv126⟩ := (show rg 0 19 v126 from (by rw [ev126]; exact hI 87 _))
            refine g_iald C (by decide) (ce_mkind ad cs _ _) (fin' (n := 20) rfl (by omega) (by omega)) dX4_begin_98 ?_
            refine g_ni (fun v127 ev127 => ?_)
            have tv127 := congrArg Int32.toInt ev127
            refine g_bipush C 8 dX4_begin_99 (by decide) ?_
            refine g_icmp_ne C 108 dX4_begin_101 (by decide) (fun c128 => ?_) (fun c128 => ?_)
            ·
              have f129 := fne rfl (by decide : (8 : Int32).toInt = 8) c128
              refine g_iconst C 0 dX4_begin_108 (by decide) ?_
              refine g_istore C [(4, .int 0), (5, .int x5_77), (3, .int x3_4), (2, .int x2_4), (0, .ref (ad 81)), (1, .int x)] dX4_begin_109 (by decide) rfl ?_
              refine g_aload_n C 4 dX4_begin_111 rfl ?_
              refine g_get C (.ref (ad 83)) 2 in_X4_begin_4 (List.mem_of_getElem? (i := 1) rfl) (by decide) (ce_meth ad cs _ _) rfl (by decide) rfl rfl dX4_begin_112 ?_
              refine g_aload_n C 4 dX4_begin_115 rfl ?_
              refine g_get C (.ref (ad 87)) 6 in_X4_begin_4 (List.mem_of_getElem? (i := 2) rfl) (by decide) (ce_meth ad cs _ _) rfl (by decide) rfl rfl dX4_begin_116 ?_
              refine g_iload C 1 dX4_begin_119 rfl ?_
              refine g_iald C (by decide) (ce_mchain ad cs _ _) (fin' (n := 20) rfl (by omega) (by omega)) dX4_begin_121 ?_
              refine g_ni (fun v130 ev130 => ?_)
              have tv130 := congrArg Int32.toInt ev130
              obtain ⟨bv130, dv130⟩ := (show rg 0 19 v130 from (by rw [ev130]; exact hI 87 _))
              have uv130 : v130 = v126 := by rw [ev130]; exact ev126.symm
              have wv130 := congrArg Int32.toInt uv130
              refine g_iload C 0 dX4_begin_122 rfl ?_
              refine g_if_eq C 131 dX4_begin_124 (by decide) (fun _ => ?_) (fun c131 => absurd c131 (by decide))
              refine g_iconst C 1 dX4_begin_131 (by decide) ?_
              refine g_iast C (by decide) (ce_mbegun ad cs _ _) (by rw [sI_k]; rfl) (fin' (n := 20) rfl (by omega) (by omega)) dX4_begin_132 ?_
              refine g_nm (fun M132 hM132 => ?_)
              have hI : IC M132 := by rw [hM132]; exact hI.st (bC_free (by decide) (by decide) (by decide) (by decide) (by decide) (by decide) (by decide))
              have hF : ∀ k, k ≠ 83 ∧ k ≠ 87 → M132 k = M k := fun k hk => by (rw [hM132, sI_n _ _ _ (by omega)]; try exact hF k hk)
              obtain ⟨v133, ev133⟩ : ∃ y : Int32, y = x5_77 + (-1) := ⟨_, rfl⟩
              try have fv133 := fadd rfl (by decide : ((-1) : Int32).toInt = (-1)) ev133 (by omega) (by omega)
              refine g_iinc C 1 v133 [(5, .int v133), (4, .int 0), (3, .int x3_4), (2, .int x2_4), (0, .ref (ad 81)), (1, .int x)] dX4_begin_133 rfl (by rw [ev133]; rfl) (by decide) rfl ?_
              refine g_goto C 77 dX4_begin_136 (by decide) ?_
              have z134 : (0 : Int32).toInt = 0 := by decide
              exact ih_77 (v133, 0, M132, L_77) ⟨by show -1 ≤ v133.toInt; omega, by show v133.toInt ≤ 19; omega, hI, hF, hG⟩ (by show (v133.toInt + 1).toNat < (x5_77.toInt + 1).toNat; omega)
            ·
              have f135 := feq rfl (by decide : (8 : Int32).toInt = 8) c128
              refine g_iconst C 1 dX4_begin_104 (by decide) ?_
              refine g_goto C 109 dX4_begin_105 (by decide) ?_
              refine g_istore C [(4, .int 1), (5, .int x5_77), (3, .int x3_4), (2, .int x2_4), (0, .ref (ad 81)), (1, .int x)] dX4_begin_109 (by decide) rfl ?_
              refine g_aload_n C 4 dX4_begin_111 rfl ?_
              refine g_get C (.ref (ad 83)) 2 in_X4_begin_4 (List.mem_of_getElem? (i := 1) rfl) (by decide) (ce_meth ad cs _ _) rfl (by decide) rfl rfl dX4_begin_112 ?_
              refine g_aload_n C 4 dX4_begin_115 rfl ?_
              refine g_get C (.ref (ad 87)) 6 in_X4_begin_4 (List.mem_of_getElem? (i := 2) rfl) (by decide) (ce_meth ad cs _ _) rfl (by decide) rfl rfl dX4_begin_116 ?_
              refine g_iload C 1 dX4_begin_119 rfl ?_
              refine g_iald C (by decide) (ce_mchain ad cs _ _) (fin' (n := 20) rfl (by omega) (by omega)) dX4_begin_121 ?_
              refine g_ni (fun v136 ev136 => ?_)
              have tv136 := congrArg Int32.toInt ev136
              obtain ⟨bv136, dv136⟩ := (show rg 0 19 v136 from (by rw [ev136]; exact hI 87 _))
              have uv136 : v136 = v126 := by rw [ev136]; exact ev126.symm
              have wv136 := congrArg Int32.toInt uv136
              refine g_iload C 0 dX4_begin_122 rfl ?_
              refine g_if_eq C 131 dX4_begin_124 (by decide) (fun c137 => absurd c137 (by decide)) (fun _ => ?_)
              refine g_iconst C 2 dX4_begin_127 (by decide) ?_
              refine g_goto C 132 dX4_begin_128 (by decide) ?_
              refine g_iast C (by decide) (ce_mbegun ad cs _ _) (by rw [sI_k]; rfl) (fin' (n := 20) rfl (by omega) (by omega)) dX4_begin_132 ?_
              refine g_nm (fun M138 hM138 => ?_)
              have hI : IC M138 := by rw [hM138]; exact hI.st (bC_free (by decide) (by decide) (by decide) (by decide) (by decide) (by decide) (by decide))
              have hF : ∀ k, k ≠ 83 ∧ k ≠ 87 → M138 k = M k := fun k hk => by (rw [hM138, sI_n _ _ _ (by omega)]; try exact hF k hk)
              obtain ⟨v139, ev139⟩ : ∃ y : Int32, y = x5_77 + (-1) := ⟨_, rfl⟩
              try have fv139 := fadd rfl (by decide : ((-1) : Int32).toInt = (-1)) ev139 (by omega) (by omega)
              refine g_iinc C 1 v139 [(5, .int v139), (4, .int 1), (3, .int x3_4), (2, .int x2_4), (0, .ref (ad 81)), (1, .int x)] dX4_begin_133 rfl (by rw [ev139]; rfl) (by decide) rfl ?_
              refine g_goto C 77 dX4_begin_136 (by decide) ?_
              have z140 : (1 : Int32).toInt = 1 := by decide
              exact ih_77 (v139, 1, M138, L_77) ⟨by show -1 ≤ v139.toInt; omega, by show v139.toInt ≤ 19; omega, hI, hF, hG⟩ (by show (v139.toInt + 1).toNat < (x5_77.toInt + 1).toNat; omega)
      ·
        have f141 := fne rfl (by decide : (0 : Int32).toInt = 0) c110
        obtain ⟨far107, fbr107⟩ := has_t hr107 c110
        obtain ⟨fcr107, fdr107⟩ := (show rg 0 20 (M_4 81 0) from hI 81 0 rfl)
        refine g_aload_n C 2 dX4_begin_55 rfl ?_
        refine g_get C (.ref (ad 83)) 2 in_X4_begin_4 (List.mem_of_getElem? (i := 1) rfl) (by decide) (ce_meth ad cs _ _) rfl (by decide) rfl rfl dX4_begin_56 ?_
        refine g_iload_n C 0 dX4_begin_59 rfl ?_
        refine g_iald C (by decide) (ce_mbegun ad cs _ _) (fin' (n := 20) rfl (by omega) (by omega)) dX4_begin_60 ?_
        refine g_ni (fun v142 ev142 => ?_)
        have tv142 := congrArg Int32.toInt ev142
        refine g_iconst C 2 dX4_begin_61 (by decide) ?_
        refine g_icmp_ne C 69 dX4_begin_62 (by decide) (fun c143 => ?_) (fun c143 => ?_)
        ·
          have f144 := fne rfl (by decide : (2 : Int32).toInt = 2) c143
          refine g_iconst C 0 dX4_begin_69 (by decide) ?_
          refine g_istore C [(4, .int 0), (3, .int x3_4), (2, .int x2_4), (0, .ref (ad 81)), (1, .int x)] dX4_begin_70 (by decide) rfl ?_
          refine g_iload_n C 2 dX4_begin_72 rfl ?_
          refine g_iconst C 1 dX4_begin_73 (by decide) ?_
          refine g_isub C dX4_begin_74 ?_
          refine g_ni (fun v145 ev145 => ?_)
          try have fv145 := fsub rfl (by decide : (1 : Int32).toInt = 1) ev145 (by omega) (by omega)
          refine g_istore C [(5, .int v145), (4, .int 0), (3, .int x3_4), (2, .int x2_4), (0, .ref (ad 81)), (1, .int x)] dX4_begin_75 (by decide) rfl ?_
          have zy146 : (0 : Int32).toInt = 0 := by decide
          refine g_loop (α := Int32 × Int32 × MI × ML) (fun a => (a.1.toInt + 1).toNat) (fun a => -1 ≤ a.1.toInt ∧ a.1.toInt ≤ 19 ∧ IC a.2.2.1 ∧ (∀ k, k ≠ 83 ∧ k ≠ 87 → a.2.2.1 k = M k) ∧ (∀ k, 258 ≤ k → a.2.2.2 k = L k)) (fun a => a.2.2.1) (fun a => a.2.2.2) (fun a => [(5, .int a.1), (4, .int a.2.1), (3, .int x3_4), (2, .int x2_4), (0, .ref (ad 81)), (1, .int x)]) (v145, 0, M_4, L_4) ⟨by show -1 ≤ (v145 : Int32).toInt; omega, by show (v145 : Int32).toInt ≤ 19; omega, hI, hF, hG⟩ rfl rfl rfl ?_
          rintro ⟨x5_77, x4_77, M_77, L_77⟩ ⟨j77_0, j77_1, hI, hF, hG⟩ ih_77
          dsimp only at j77_0 j77_1 hI hF hG ih_77 ⊢
          refine g_iload C 0 dX4_begin_77 rfl ?_
          refine g_if_lt C 139 dX4_begin_79 (by decide) (fun c147 => ?_) (fun c147 => ?_)
          ·
            have f148 := fl rfl (by decide : (0 : Int32).toInt = 0) c147
            refine g_aload_n C 4 dX4_begin_139 rfl ?_
            refine g_get C (.ref (ad 83)) 2 in_X4_begin_4 (List.mem_of_getElem? (i := 1) rfl) (by decide) (ce_meth ad cs _ _) rfl (by decide) rfl rfl dX4_begin_140 ?_
            refine g_iload_n C 5 dX4_begin_143 rfl ?_
            refine g_iald C (by decide) (ce_mbegun ad cs _ _) (fin' (n := 20) rfl (by omega) (by omega)) dX4_begin_144 ?_
            refine g_ni (fun v149 ev149 => ?_)
            have tv149 := congrArg Int32.toInt ev149
            exact g_iret C hr ⟨trivial, hI, hF, hG⟩ dX4_begin_145
          ·
            have f150 := fnl rfl (by decide : (0 : Int32).toInt = 0) c147
            refine g_iload C 1 dX4_begin_82 rfl ?_
            refine g_if_ne C 104 dX4_begin_84 (by decide) (fun c151 => ?_) (fun c151 => ?_)
            ·
              have f152 := fne rfl (by decide : (0 : Int32).toInt = 0) c151
              refine g_iconst C 1 dX4_begin_104 (by decide) ?_
              refine g_goto C 109 dX4_begin_105 (by decide) ?_
              refine g_istore C [(4, .int 1), (5, .int x5_77), (3, .int x3_4), (2, .int x2_4), (0, .ref (ad 81)), (1, .int x)] dX4_begin_109 (by decide) rfl ?_
              refine g_aload_n C 4 dX4_begin_111 rfl ?_
              refine g_get C (.ref (ad 83)) 2 in_X4_begin_4 (List.mem_of_getElem? (i := 1) rfl) (by decide) (ce_meth ad cs _ _) rfl (by decide) rfl rfl dX4_begin_112 ?_
              refine g_aload_n C 4 dX4_begin_115 rfl ?_
              refine g_get C (.ref (ad 87)) 6 in_X4_begin_4 (List.mem_of_getElem? (i := 2) rfl) (by decide) (ce_meth ad cs _ _) rfl (by decide) rfl rfl dX4_begin_116 ?_
              refine g_iload C 1 dX4_begin_119 rfl ?_
              refine g_iald C (by decide) (ce_mchain ad cs _ _) (fin' (n := 20) rfl (by omega) (by omega)) dX4_begin_121 ?_
              refine g_ni (fun v153 ev153 => ?_)
              have tv153 := congrArg Int32.toInt ev153
              obtain ⟨bv153, dv153⟩ := (show rg 0 19 v153 from (by rw [ev153]; exact hI 87 _))
              refine g_iload C 0 dX4_begin_122 rfl ?_
              refine g_if_eq C 131 dX4_begin_124 (by decide) (fun c154 => absurd c154 (by decide)) (fun _ => ?_)
              refine g_iconst C 2 dX4_begin_127 (by decide) ?_
              refine g_goto C 132 dX4_begin_128 (by decide) ?_
              refine g_iast C (by decide) (ce_mbegun ad cs _ _) (by rw [sI_k]; rfl) (fin' (n := 20) rfl (by omega) (by omega)) dX4_begin_132 ?_
              refine g_nm (fun M155 hM155 => ?_)
              have hI : IC M155 := by rw [hM155]; exact hI.st (bC_free (by decide) (by decide) (by decide) (by decide) (by decide) (by decide) (by decide))
              have hF : ∀ k, k ≠ 83 ∧ k ≠ 87 → M155 k = M k := fun k hk => by (rw [hM155, sI_n _ _ _ (by omega)]; try exact hF k hk)
              obtain ⟨v156, ev156⟩ : ∃ y : Int32, y = x5_77 + (-1) := ⟨_, rfl⟩
              try have fv156 := fadd rfl (by decide : ((-1) : Int32).toInt = (-1)) ev156 (by omega) (by omega)
              refine g_iinc C 1 v156 [(5, .int v156), (4, .int 1), (3, .int x3_4), (2, .int x2_4), (0, .ref (ad 81)), (1, .int x)] dX4_begin_133 rfl (by rw [ev156]; rfl) (by decide) rfl ?_
              refine g_goto C 77 dX4_begin_136 (by decide) ?_
              have z157 : (1 : Int32).toInt = 1 := by decide
              exact ih_77 (v156, 1, M155, L_77) ⟨by show -1 ≤ v156.toInt; omega, by show v156.toInt ≤ 19; omega, hI, hF, hG⟩ (by show (v156.toInt + 1).toNat < (x5_77.toInt + 1).toNat; omega)
            ·
              have f158 := feq rfl (by decide : (0 : Int32).toInt = 0) c151
              refine g_aload_n C 4 dX4_begin_87 rfl ?_
              refine g_get C (.ref (ad 82)) 1 in_X4_begin_4 (List.mem_of_getElem? (i := 4) rfl) (by decide) (ce_meth ad cs _ _) rfl (by decide) rfl rfl dX4_begin_88 ?_
              refine g_aload_n C 4 dX4_begin_91 rfl ?_
              refine g_get C (.ref (ad 87)) 6 in_X4_begin_4 (List.mem_of_getElem? (i := 2) rfl) (by decide) (ce_meth ad cs _ _) rfl (by decide) rfl rfl dX4_begin_92 ?_
              refine g_iload C 0 dX4_begin_95 rfl ?_
              refine g_iald C (by decide) (ce_mchain ad cs _ _) (fin' (n := 20) rfl (by omega) (by omega)) dX4_begin_97 ?_
              refine g_ni (fun v159 ev159 => ?_)
              have tv159 := congrArg Int32.toInt ev159
              obtain ⟨bv159, dv159⟩ := (show rg 0 19 v159 from (by rw [ev159]; exact hI 87 _))
              refine g_iald C (by decide) (ce_mkind ad cs _ _) (fin' (n := 20) rfl (by omega) (by omega)) dX4_begin_98 ?_
              refine g_ni (fun v160 ev160 => ?_)
              have tv160 := congrArg Int32.toInt ev160
              refine g_bipush C 8 dX4_begin_99 (by decide) ?_
              refine g_icmp_ne C 108 dX4_begin_101 (by decide) (fun c161 => ?_) (fun c161 => ?_)
              ·
                have f162 := fne rfl (by decide : (8 : Int32).toInt = 8) c161
                refine g_iconst C 0 dX4_begin_108 (by decide) ?_
                refine g_istore C [(4, .int 0), (5, .int x5_77), (3, .int x3_4), (2, .int x2_4), (0, .ref (ad 81)), (1, .int x)] dX4_begin_109 (by decide) rfl ?_
                refine g_aload_n C 4 dX4_begin_111 rfl ?_
                refine g_get C (.ref (ad 83)) 2 in_X4_begin_4 (List.mem_of_getElem? (i := 1) rfl) (by decide) (ce_meth ad cs _ _) rfl (by decide) rfl rfl dX4_begin_112 ?_
                refine g_aload_n C 4 dX4_begin_115 rfl ?_
                refine g_get C (.ref (ad 87)) 6 in_X4_begin_4 (List.mem_of_getElem? (i := 2) rfl) (by decide) (ce_meth ad cs _ _) rfl (by decide) rfl rfl dX4_begin_116 ?_
                refine g_iload C 1 dX4_begin_119 rfl ?_
                refine g_iald C (by decide) (ce_mchain ad cs _ _) (fin' (n := 20) rfl (by omega) (by omega)) dX4_begin_121 ?_
                refine g_ni (fun v163 ev163 => ?_)
                have tv163 := congrArg Int32.toInt ev163
                obtain ⟨bv163, dv163⟩ := (show rg 0 19 v163 from (by rw [ev163]; exact hI 87 _))
                have uv163 : v163 = v159 := by rw [ev163]; exact ev159.symm
                have wv163 := congrArg Int32.toInt uv163
                refine g_iload C 0 dX4_begin_122 rfl ?_
                refine g_if_eq C 131 dX4_begin_124 (by decide) (fun _ => ?_) (fun c164 => absurd c164 (by decide))
                refine g_iconst C 1 dX4_begin_131 (by decide) ?_
                refine g_iast C (by decide) (ce_mbegun ad cs _ _) (by rw [sI_k]; rfl) (fin' (n := 20) rfl (by omega) (by omega)) dX4_begin_132 ?_
                refine g_nm (fun M165 hM165 => ?_)
                have hI : IC M165 := by rw [hM165]; exact hI.st (bC_free (by decide) (by decide) (by decide) (by decide) (by decide) (by decide) (by decide))
                have hF : ∀ k, k ≠ 83 ∧ k ≠ 87 → M165 k = M k := fun k hk => by (rw [hM165, sI_n _ _ _ (by omega)]; try exact hF k hk)
                obtain ⟨v166, ev166⟩ : ∃ y : Int32, y = x5_77 + (-1) := ⟨_, rfl⟩
                try have fv166 := fadd rfl (by decide : ((-1) : Int32).toInt = (-1)) ev166 (by omega) (by omega)
                refine g_iinc C 1 v166 [(5, .int v166), (4, .int 0), (3, .int x3_4), (2, .int x2_4), (0, .ref (ad 81)), (1, .int x)] dX4_begin_133 rfl (by rw [ev166]; rfl) (by decide) rfl ?_
                refine g_goto C 77 dX4_begin_136 (by decide) ?_
                have z167 : (0 : Int32).toInt = 0 := by decide
                exact ih_77 (v166, 0, M165, L_77) ⟨by show -1 ≤ v166.toInt; omega, by show v166.toInt ≤ 19; omega, hI, hF, hG⟩ (by show (v166.toInt + 1).toNat < (x5_77.toInt + 1).toNat; omega)
              ·
                have f168 := feq rfl (by decide : (8 : Int32).toInt = 8) c161
                refine g_iconst C 1 dX4_begin_104 (by decide) ?_
                refine g_goto C 109 dX4_begin_105 (by decide) ?_
                refine g_istore C [(4, .int 1), (5, .int x5_77), (3, .int x3_4), (2, .int x2_4), (0, .ref (ad 81)), (1, .int x)] dX4_begin_109 (by decide) rfl ?_
                refine g_aload_n C 4 dX4_begin_111 rfl ?_
                refine g_get C (.ref (ad 83)) 2 in_X4_begin_4 (List.mem_of_getElem? (i := 1) rfl) (by decide) (ce_meth ad cs _ _) rfl (by decide) rfl rfl dX4_begin_112 ?_
                refine g_aload_n C 4 dX4_begin_115 rfl ?_
                refine g_get C (.ref (ad 87)) 6 in_X4_begin_4 (List.mem_of_getElem? (i := 2) rfl) (by decide) (ce_meth ad cs _ _) rfl (by decide) rfl rfl dX4_begin_116 ?_
                refine g_iload C 1 dX4_begin_119 rfl ?_
                refine g_iald C (by decide) (ce_mchain ad cs _ _) (fin' (n := 20) rfl (by omega) (by omega)) dX4_begin_121 ?_
                refine g_ni (fun v169 ev169 => ?_)
                have tv169 := congrArg Int32.toInt ev169
                obtain ⟨bv169, dv169⟩ := (show rg 0 19 v169 from (by rw [ev169]; exact hI 87 _))
                have uv169 : v169 = v159 := by rw [ev169]; exact ev159.symm
                have wv169 := congrArg Int32.toInt uv169
                refine g_iload C 0 dX4_begin_122 rfl ?_
                refine g_if_eq C 131 dX4_begin_124 (by decide) (fun c170 => absurd c170 (by decide)) (fun _ => ?_)
                refine g_iconst C 2 dX4_begin_127 (by decide) ?_
                refine g_goto C 132 dX4_begin_128 (by decide) ?_
                refine g_iast C (by decide) (ce_mbegun ad cs _ _) (by rw [sI_k]; rfl) (fin' (n := 20) rfl (by omega) (by omega)) dX4_begin_132 ?_
                refine g_nm (fun M171 hM171 => ?_)
                have hI : IC M171 := by rw [hM171]; exact hI.st (bC_free (by decide) (by decide) (by decide) (by decide) (by decide) (by decide) (by decide))
                have hF : ∀ k, k ≠ 83 ∧ k ≠ 87 → M171 k = M k := fun k hk => by (rw [hM171, sI_n _ _ _ (by omega)]; try exact hF k hk)
                obtain ⟨v172, ev172⟩ : ∃ y : Int32, y = x5_77 + (-1) := ⟨_, rfl⟩
                try have fv172 := fadd rfl (by decide : ((-1) : Int32).toInt = (-1)) ev172 (by omega) (by omega)
                refine g_iinc C 1 v172 [(5, .int v172), (4, .int 1), (3, .int x3_4), (2, .int x2_4), (0, .ref (ad 81)), (1, .int x)] dX4_begin_133 rfl (by rw [ev172]; rfl) (by decide) rfl ?_
                refine g_goto C 77 dX4_begin_136 (by decide) ?_
                have z173 : (1 : Int32).toInt = 1 := by decide
                exact ih_77 (v172, 1, M171, L_77) ⟨by show -1 ≤ v172.toInt; omega, by show v172.toInt ≤ 19; omega, hI, hF, hG⟩ (by show (v172.toInt + 1).toNat < (x5_77.toInt + 1).toNat; omega)
        ·
          have f174 := feq rfl (by decide : (2 : Int32).toInt = 2) c143
          refine g_iconst C 1 dX4_begin_65 (by decide) ?_
          refine g_goto C 70 dX4_begin_66 (by decide) ?_
          refine g_istore C [(4, .int 1), (3, .int x3_4), (2, .int x2_4), (0, .ref (ad 81)), (1, .int x)] dX4_begin_70 (by decide) rfl ?_
          refine g_iload_n C 2 dX4_begin_72 rfl ?_
          refine g_iconst C 1 dX4_begin_73 (by decide) ?_
          refine g_isub C dX4_begin_74 ?_
          refine g_ni (fun v175 ev175 => ?_)
          try have fv175 := fsub rfl (by decide : (1 : Int32).toInt = 1) ev175 (by omega) (by omega)
          refine g_istore C [(5, .int v175), (4, .int 1), (3, .int x3_4), (2, .int x2_4), (0, .ref (ad 81)), (1, .int x)] dX4_begin_75 (by decide) rfl ?_
          have zy176 : (1 : Int32).toInt = 1 := by decide
          refine g_loop (α := Int32 × Int32 × MI × ML) (fun a => (a.1.toInt + 1).toNat) (fun a => -1 ≤ a.1.toInt ∧ a.1.toInt ≤ 19 ∧ IC a.2.2.1 ∧ (∀ k, k ≠ 83 ∧ k ≠ 87 → a.2.2.1 k = M k) ∧ (∀ k, 258 ≤ k → a.2.2.2 k = L k)) (fun a => a.2.2.1) (fun a => a.2.2.2) (fun a => [(5, .int a.1), (4, .int a.2.1), (3, .int x3_4), (2, .int x2_4), (0, .ref (ad 81)), (1, .int x)]) (v175, 1, M_4, L_4) ⟨by show -1 ≤ (v175 : Int32).toInt; omega, by show (v175 : Int32).toInt ≤ 19; omega, hI, hF, hG⟩ rfl rfl rfl ?_
          rintro ⟨x5_77, x4_77, M_77, L_77⟩ ⟨j77_0, j77_1, hI, hF, hG⟩ ih_77
          dsimp only at j77_0 j77_1 hI hF hG ih_77 ⊢
          refine g_iload C 0 dX4_begin_77 rfl ?_
          refine g_if_lt C 139 dX4_begin_79 (by decide) (fun c177 => ?_) (fun c177 => ?_)
          ·
            have f178 := fl rfl (by decide : (0 : Int32).toInt = 0) c177
            refine g_aload_n C 4 dX4_begin_139 rfl ?_
            refine g_get C (.ref (ad 83)) 2 in_X4_begin_4 (List.mem_of_getElem? (i := 1) rfl) (by decide) (ce_meth ad cs _ _) rfl (by decide) rfl rfl dX4_begin_140 ?_
            refine g_iload_n C 5 dX4_begin_143 rfl ?_
            refine g_iald C (by decide) (ce_mbegun ad cs _ _) (fin' (n := 20) rfl (by omega) (by omega)) dX4_begin_144 ?_
            refine g_ni (fun v179 ev179 => ?_)
            have tv179 := congrArg Int32.toInt ev179
            exact g_iret C hr ⟨trivial, hI, hF, hG⟩ dX4_begin_145
          ·
            have f180 := fnl rfl (by decide : (0 : Int32).toInt = 0) c177
            refine g_iload C 1 dX4_begin_82 rfl ?_
            refine g_if_ne C 104 dX4_begin_84 (by decide) (fun c181 => ?_) (fun c181 => ?_)
            ·
              have f182 := fne rfl (by decide : (0 : Int32).toInt = 0) c181
              refine g_iconst C 1 dX4_begin_104 (by decide) ?_
              refine g_goto C 109 dX4_begin_105 (by decide) ?_
              refine g_istore C [(4, .int 1), (5, .int x5_77), (3, .int x3_4), (2, .int x2_4), (0, .ref (ad 81)), (1, .int x)] dX4_begin_109 (by decide) rfl ?_
              refine g_aload_n C 4 dX4_begin_111 rfl ?_
              refine g_get C (.ref (ad 83)) 2 in_X4_begin_4 (List.mem_of_getElem? (i := 1) rfl) (by decide) (ce_meth ad cs _ _) rfl (by decide) rfl rfl dX4_begin_112 ?_
              refine g_aload_n C 4 dX4_begin_115 rfl ?_
              refine g_get C (.ref (ad 87)) 6 in_X4_begin_4 (List.mem_of_getElem? (i := 2) rfl) (by decide) (ce_meth ad cs _ _) rfl (by decide) rfl rfl dX4_begin_116 ?_
              refine g_iload C 1 dX4_begin_119 rfl ?_
              refine g_iald C (by decide) (ce_mchain ad cs _ _) (fin' (n := 20) rfl (by omega) (by omega)) dX4_begin_121 ?_
              refine g_ni (fun v183 ev183 => ?_)
              have tv183 := congrArg Int32.toInt ev183
              obtain ⟨bv183, dv183⟩ := (show rg 0 19 v183 from (by rw [ev183]; exact hI 87 _))
              refine g_iload C 0 dX4_begin_122 rfl ?_
              refine g_if_eq C 131 dX4_begin_124 (by decide) (fun c184 => absurd c184 (by decide)) (fun _ => ?_)
              refine g_iconst C 2 dX4_begin_127 (by decide) ?_
              refine g_goto C 132 dX4_begin_128 (by decide) ?_
              refine g_iast C (by decide) (ce_mbegun ad cs _ _) (by rw [sI_k]; rfl) (fin' (n := 20) rfl (by omega) (by omega)) dX4_begin_132 ?_
              refine g_nm (fun M185 hM185 => ?_)
              have hI : IC M185 := by rw [hM185]; exact hI.st (bC_free (by decide) (by decide) (by decide) (by decide) (by decide) (by decide) (by decide))
              have hF : ∀ k, k ≠ 83 ∧ k ≠ 87 → M185 k = M k := fun k hk => by (rw [hM185, sI_n _ _ _ (by omega)]; try exact hF k hk)
              obtain ⟨v186, ev186⟩ : ∃ y : Int32, y = x5_77 + (-1) := ⟨_, rfl⟩
              try have fv186 := fadd rfl (by decide : ((-1) : Int32).toInt = (-1)) ev186 (by omega) (by omega)
              refine g_iinc C 1 v186 [(5, .int v186), (4, .int 1), (3, .int x3_4), (2, .int x2_4), (0, .ref (ad 81)), (1, .int x)] dX4_begin_133 rfl (by rw [ev186]; rfl) (by decide) rfl ?_
              refine g_goto C 77 dX4_begin_136 (by decide) ?_
              have z187 : (1 : Int32).toInt = 1 := by decide
              exact ih_77 (v186, 1, M185, L_77) ⟨by show -1 ≤ v186.toInt; omega, by show v186.toInt ≤ 19; omega, hI, hF, hG⟩ (by show (v186.toInt + 1).toNat < (x5_77.toInt + 1).toNat; omega)
            ·
              have f188 := feq rfl (by decide : (0 : Int32).toInt = 0) c181
              refine g_aload_n C 4 dX4_begin_87 rfl ?_
              refine g_get C (.ref (ad 82)) 1 in_X4_begin_4 (List.mem_of_getElem? (i := 4) rfl) (by decide) (ce_meth ad cs _ _) rfl (by decide) rfl rfl dX4_begin_88 ?_
              refine g_aload_n C 4 dX4_begin_91 rfl ?_
              refine g_get C (.ref (ad 87)) 6 in_X4_begin_4 (List.mem_of_getElem? (i := 2) rfl) (by decide) (ce_meth ad cs _ _) rfl (by decide) rfl rfl dX4_begin_92 ?_
              refine g_iload C 0 dX4_begin_95 rfl ?_
              refine g_iald C (by decide) (ce_mchain ad cs _ _) (fin' (n := 20) rfl (by omega) (by omega)) dX4_begin_97 ?_
              refine g_ni (fun v189 ev189 => ?_)
              have tv189 := congrArg Int32.toInt ev189
              obtain ⟨bv189, dv189⟩ := (show rg 0 19 v189 from (by rw [ev189]; exact hI 87 _))
              refine g_iald C (by decide) (ce_mkind ad cs _ _) (fin' (n := 20) rfl (by omega) (by omega)) dX4_begin_98 ?_
              refine g_ni (fun v190 ev190 => ?_)
              have tv190 := congrArg Int32.toInt ev190
              refine g_bipush C 8 dX4_begin_99 (by decide) ?_
              refine g_icmp_ne C 108 dX4_begin_101 (by decide) (fun c191 => ?_) (fun c191 => ?_)
              ·
                have f192 := fne rfl (by decide : (8 : Int32).toInt = 8) c191
                refine g_iconst C 0 dX4_begin_108 (by decide) ?_
                refine g_istore C [(4, .int 0), (5, .int x5_77), (3, .int x3_4), (2, .int x2_4), (0, .ref (ad 81)), (1, .int x)] dX4_begin_109 (by decide) rfl ?_
                refine g_aload_n C 4 dX4_begin_111 rfl ?_
                refine g_get C (.ref (ad 83)) 2 in_X4_begin_4 (List.mem_of_getElem? (i := 1) rfl) (by decide) (ce_meth ad cs _ _) rfl (by decide) rfl rfl dX4_begin_112 ?_
                refine g_aload_n C 4 dX4_begin_115 rfl ?_
                refine g_get C (.ref (ad 87)) 6 in_X4_begin_4 (List.mem_of_getElem? (i := 2) rfl) (by decide) (ce_meth ad cs _ _) rfl (by decide) rfl rfl dX4_begin_116 ?_
                refine g_iload C 1 dX4_begin_119 rfl ?_
                refine g_iald C (by decide) (ce_mchain ad cs _ _) (fin' (n := 20) rfl (by omega) (by omega)) dX4_begin_121 ?_
                refine g_ni (fun v193 ev193 => ?_)
                have tv193 := congrArg Int32.toInt ev193
                obtain ⟨bv193, dv193⟩ := (show rg 0 19 v193 from (by rw [ev193]; exact hI 87 _))
                have uv193 : v193 = v189 := by rw [ev193]; exact ev189.symm
                have wv193 := congrArg Int32.toInt uv193
                refine g_iload C 0 dX4_begin_122 rfl ?_
                refine g_if_eq C 131 dX4_begin_124 (by decide) (fun _ => ?_) (fun c194 => absurd c194 (by decide))
                refine g_iconst C 1 dX4_begin_131 (by decide) ?_
                refine g_iast C (by decide) (ce_mbegun ad cs _ _) (by rw [sI_k]; rfl) (fin' (n := 20) rfl (by omega) (by omega)) dX4_begin_132 ?_
                refine g_nm (fun M195 hM195 => ?_)
                have hI : IC M195 := by rw [hM195]; exact hI.st (bC_free (by decide) (by decide) (by decide) (by decide) (by decide) (by decide) (by decide))
                have hF : ∀ k, k ≠ 83 ∧ k ≠ 87 → M195 k = M k := fun k hk => by (rw [hM195, sI_n _ _ _ (by omega)]; try exact hF k hk)
                obtain ⟨v196, ev196⟩ : ∃ y : Int32, y = x5_77 + (-1) := ⟨_, rfl⟩
                try have fv196 := fadd rfl (by decide : ((-1) : Int32).toInt = (-1)) ev196 (by omega) (by omega)
                refine g_iinc C 1 v196 [(5, .int v196), (4, .int 0), (3, .int x3_4), (2, .int x2_4), (0, .ref (ad 81)), (1, .int x)] dX4_begin_133 rfl (by rw [ev196]; rfl) (by decide) rfl ?_
                refine g_goto C 77 dX4_begin_136 (by decide) ?_
                have z197 : (0 : Int32).toInt = 0 := by decide
                exact ih_77 (v196, 0, M195, L_77) ⟨by show -1 ≤ v196.toInt; omega, by show v196.toInt ≤ 19; omega, hI, hF, hG⟩ (by show (v196.toInt + 1).toNat < (x5_77.toInt + 1).toNat; omega)
              ·
                have f198 := feq rfl (by decide : (8 : Int32).toInt = 8) c191
                refine g_iconst C 1 dX4_begin_104 (by decide) ?_
                refine g_goto C 109 dX4_begin_105 (by decide) ?_
                refine g_istore C [(4, .int 1), (5, .int x5_77), (3, .int x3_4), (2, .int x2_4), (0, .ref (ad 81)), (1, .int x)] dX4_begin_109 (by decide) rfl ?_
                refine g_aload_n C 4 dX4_begin_111 rfl ?_
                refine g_get C (.ref (ad 83)) 2 in_X4_begin_4 (List.mem_of_getElem? (i := 1) rfl) (by decide) (ce_meth ad cs _ _) rfl (by decide) rfl rfl dX4_begin_112 ?_
                refine g_aload_n C 4 dX4_begin_115 rfl ?_
                refine g_get C (.ref (ad 87)) 6 in_X4_begin_4 (List.mem_of_getElem? (i := 2) rfl) (by decide) (ce_meth ad cs _ _) rfl (by decide) rfl rfl dX4_begin_116 ?_
                refine g_iload C 1 dX4_begin_119 rfl ?_
                refine g_iald C (by decide) (ce_mchain ad cs _ _) (fin' (n := 20) rfl (by omega) (by omega)) dX4_begin_121 ?_
                refine g_ni (fun v199 ev199 => ?_)
                have tv199 := congrArg Int32.toInt ev199
                obtain ⟨bv199, dv199⟩ := (show rg 0 19 v199 from (by rw [ev199]; exact hI 87 _))
                have uv199 : v199 = v189 := by rw [ev199]; exact ev189.symm
                have wv199 := congrArg Int32.toInt uv199
                refine g_iload C 0 dX4_begin_122 rfl ?_
                refine g_if_eq C 131 dX4_begin_124 (by decide) (fun c200 => absurd c200 (by decide)) (fun _ => ?_)
                refine g_iconst C 2 dX4_begin_127 (by decide) ?_
                refine g_goto C 132 dX4_begin_128 (by decide) ?_
                refine g_iast C (by decide) (ce_mbegun ad cs _ _) (by rw [sI_k]; rfl) (fin' (n := 20) rfl (by omega) (by omega)) dX4_begin_132 ?_
                refine g_nm (fun M201 hM201 => ?_)
                have hI : IC M201 := by rw [hM201]; exact hI.st (bC_free (by decide) (by decide) (by decide) (by decide) (by decide) (by decide) (by decide))
                have hF : ∀ k, k ≠ 83 ∧ k ≠ 87 → M201 k = M k := fun k hk => by (rw [hM201, sI_n _ _ _ (by omega)]; try exact hF k hk)
                obtain ⟨v202, ev202⟩ : ∃ y : Int32, y = x5_77 + (-1) := ⟨_, rfl⟩
                try have fv202 := fadd rfl (by decide : ((-1) : Int32).toInt = (-1)) ev202 (by omega) (by omega)
                refine g_iinc C 1 v202 [(5, .int v202), (4, .int 1), (3, .int x3_4), (2, .int x2_4), (0, .ref (ad 81)), (1, .int x)] dX4_begin_133 rfl (by rw [ev202]; rfl) (by decide) rfl ?_
                refine g_goto C 77 dX4_begin_136 (by decide) ?_
                have z203 : (1 : Int32).toInt = 1 := by decide
                exact ih_77 (v202, 1, M201, L_77) ⟨by show -1 ≤ v202.toInt; omega, by show v202.toInt ≤ 19; omega, hI, hF, hG⟩ (by show (v202.toInt + 1).toNat < (x5_77.toInt + 1).toNat; omega)
    ·
      have f204 := fne rfl (by decide : (0 : Int32).toInt = 0) c105
      obtain ⟨far102, fbr102⟩ := has_t hr102 c105
      obtain ⟨fcr102, fdr102⟩ := (show rg 0 20 (M_4 81 0) from hI 81 0 rfl)
      refine g_aload_n C 2 dX4_begin_18 rfl ?_
      refine g_get C (.ref (ad 83)) 2 in_X4_begin_4 (List.mem_of_getElem? (i := 1) rfl) (by decide) (ce_meth ad cs _ _) rfl (by decide) rfl rfl dX4_begin_19 ?_
      refine g_iload_n C 0 dX4_begin_22 rfl ?_
      refine g_iald C (by decide) (ce_mbegun ad cs _ _) (fin' (n := 20) rfl (by omega) (by omega)) dX4_begin_23 ?_
      refine g_ni (fun v205 ev205 => ?_)
      have tv205 := congrArg Int32.toInt ev205
      refine g_if_ne C 47 dX4_begin_24 (by decide) (fun c206 => ?_) (fun c206 => ?_)
      ·
        have f207 := fne rfl (by decide : (0 : Int32).toInt = 0) c206
        refine g_aload_n C 2 dX4_begin_47 rfl ?_
        refine g_iload_n C 0 dX4_begin_48 rfl ?_
        refine g_callVi C (n := 1) (As := [.int x3_4]) (st := []) (c_X4_has l D ad cs _ _ x3_4) gX4_begin_X4_has rfl rfl rfl (by decide +kernel) ⟨Nat.le_of_ble_eq_true rfl, Nat.le_of_ble_eq_true rfl⟩ rfl (Nat.le_of_ble_eq_true rfl) ⟨Nat.zero_le _, Nat.zero_le _⟩ (by decide) (ce_meth ad cs _ _) rfl rfl dX4_begin_49 (fun r208 M209 L210 hr208 => ?_)
        obtain ⟨hq1, hq2, hr208⟩ := hr208
        obtain rfl := hq1.symm
        obtain rfl := hq2.symm
        refine g_if_eq C 69 dX4_begin_52 (by decide) (fun c211 => ?_) (fun c211 => ?_)
        ·
          have f212 := feq rfl (by decide : (0 : Int32).toInt = 0) c211
          refine g_iconst C 0 dX4_begin_69 (by decide) ?_
          refine g_istore C [(4, .int 0), (3, .int x3_4), (2, .int x2_4), (0, .ref (ad 81)), (1, .int x)] dX4_begin_70 (by decide) rfl ?_
          refine g_iload_n C 2 dX4_begin_72 rfl ?_
          refine g_iconst C 1 dX4_begin_73 (by decide) ?_
          refine g_isub C dX4_begin_74 ?_
          refine g_ni (fun v213 ev213 => ?_)
          try have fv213 := fsub rfl (by decide : (1 : Int32).toInt = 1) ev213 (by omega) (by omega)
          refine g_istore C [(5, .int v213), (4, .int 0), (3, .int x3_4), (2, .int x2_4), (0, .ref (ad 81)), (1, .int x)] dX4_begin_75 (by decide) rfl ?_
          have zy214 : (0 : Int32).toInt = 0 := by decide
          refine g_loop (α := Int32 × Int32 × MI × ML) (fun a => (a.1.toInt + 1).toNat) (fun a => -1 ≤ a.1.toInt ∧ a.1.toInt ≤ 19 ∧ IC a.2.2.1 ∧ (∀ k, k ≠ 83 ∧ k ≠ 87 → a.2.2.1 k = M k) ∧ (∀ k, 258 ≤ k → a.2.2.2 k = L k)) (fun a => a.2.2.1) (fun a => a.2.2.2) (fun a => [(5, .int a.1), (4, .int a.2.1), (3, .int x3_4), (2, .int x2_4), (0, .ref (ad 81)), (1, .int x)]) (v213, 0, M_4, L_4) ⟨by show -1 ≤ (v213 : Int32).toInt; omega, by show (v213 : Int32).toInt ≤ 19; omega, hI, hF, hG⟩ rfl rfl rfl ?_
          rintro ⟨x5_77, x4_77, M_77, L_77⟩ ⟨j77_0, j77_1, hI, hF, hG⟩ ih_77
          dsimp only at j77_0 j77_1 hI hF hG ih_77 ⊢
          refine g_iload C 0 dX4_begin_77 rfl ?_
          refine g_if_lt C 139 dX4_begin_79 (by decide) (fun c215 => ?_) (fun c215 => ?_)
          ·
            have f216 := fl rfl (by decide : (0 : Int32).toInt = 0) c215
            refine g_aload_n C 4 dX4_begin_139 rfl ?_
            refine g_get C (.ref (ad 83)) 2 in_X4_begin_4 (List.mem_of_getElem? (i := 1) rfl) (by decide) (ce_meth ad cs _ _) rfl (by decide) rfl rfl dX4_begin_140 ?_
            refine g_iload_n C 5 dX4_begin_143 rfl ?_
            refine g_iald C (by decide) (ce_mbegun ad cs _ _) (fin' (n := 20) rfl (by omega) (by omega)) dX4_begin_144 ?_
            refine g_ni (fun v217 ev217 => ?_)
            have tv217 := congrArg Int32.toInt ev217
            exact g_iret C hr ⟨trivial, hI, hF, hG⟩ dX4_begin_145
          ·
            have f218 := fnl rfl (by decide : (0 : Int32).toInt = 0) c215
            refine g_iload C 1 dX4_begin_82 rfl ?_
            refine g_if_ne C 104 dX4_begin_84 (by decide) (fun c219 => ?_) (fun c219 => ?_)
            ·
              have f220 := fne rfl (by decide : (0 : Int32).toInt = 0) c219
              refine g_iconst C 1 dX4_begin_104 (by decide) ?_
              refine g_goto C 109 dX4_begin_105 (by decide) ?_
              refine g_istore C [(4, .int 1), (5, .int x5_77), (3, .int x3_4), (2, .int x2_4), (0, .ref (ad 81)), (1, .int x)] dX4_begin_109 (by decide) rfl ?_
              refine g_aload_n C 4 dX4_begin_111 rfl ?_
              refine g_get C (.ref (ad 83)) 2 in_X4_begin_4 (List.mem_of_getElem? (i := 1) rfl) (by decide) (ce_meth ad cs _ _) rfl (by decide) rfl rfl dX4_begin_112 ?_
              refine g_aload_n C 4 dX4_begin_115 rfl ?_
              refine g_get C (.ref (ad 87)) 6 in_X4_begin_4 (List.mem_of_getElem? (i := 2) rfl) (by decide) (ce_meth ad cs _ _) rfl (by decide) rfl rfl dX4_begin_116 ?_
              refine g_iload C 1 dX4_begin_119 rfl ?_
              refine g_iald C (by decide) (ce_mchain ad cs _ _) (fin' (n := 20) rfl (by omega) (by omega)) dX4_begin_121 ?_
              refine g_ni (fun v221 ev221 => ?_)
              have tv221 := congrArg Int32.toInt ev221
              obtain ⟨bv221, dv221⟩ := (show rg 0 19 v221 from (by rw [ev221]; exact hI 87 _))
              refine g_iload C 0 dX4_begin_122 rfl ?_
              refine g_if_eq C 131 dX4_begin_124 (by decide) (fun c222 => absurd c222 (by decide)) (fun _ => ?_)
              refine g_iconst C 2 dX4_begin_127 (by decide) ?_
              refine g_goto C 132 dX4_begin_128 (by decide) ?_
              refine g_iast C (by decide) (ce_mbegun ad cs _ _) (by rw [sI_k]; rfl) (fin' (n := 20) rfl (by omega) (by omega)) dX4_begin_132 ?_
              refine g_nm (fun M223 hM223 => ?_)
              have hI : IC M223 := by rw [hM223]; exact hI.st (bC_free (by decide) (by decide) (by decide) (by decide) (by decide) (by decide) (by decide))
              have hF : ∀ k, k ≠ 83 ∧ k ≠ 87 → M223 k = M k := fun k hk => by (rw [hM223, sI_n _ _ _ (by omega)]; try exact hF k hk)
              obtain ⟨v224, ev224⟩ : ∃ y : Int32, y = x5_77 + (-1) := ⟨_, rfl⟩
              try have fv224 := fadd rfl (by decide : ((-1) : Int32).toInt = (-1)) ev224 (by omega) (by omega)
              refine g_iinc C 1 v224 [(5, .int v224), (4, .int 1), (3, .int x3_4), (2, .int x2_4), (0, .ref (ad 81)), (1, .int x)] dX4_begin_133 rfl (by rw [ev224]; rfl) (by decide) rfl ?_
              refine g_goto C 77 dX4_begin_136 (by decide) ?_
              have z225 : (1 : Int32).toInt = 1 := by decide
              exact ih_77 (v224, 1, M223, L_77) ⟨by show -1 ≤ v224.toInt; omega, by show v224.toInt ≤ 19; omega, hI, hF, hG⟩ (by show (v224.toInt + 1).toNat < (x5_77.toInt + 1).toNat; omega)
            ·
              have f226 := feq rfl (by decide : (0 : Int32).toInt = 0) c219
              refine g_aload_n C 4 dX4_begin_87 rfl ?_
              refine g_get C (.ref (ad 82)) 1 in_X4_begin_4 (List.mem_of_getElem? (i := 4) rfl) (by decide) (ce_meth ad cs _ _) rfl (by decide) rfl rfl dX4_begin_88 ?_
              refine g_aload_n C 4 dX4_begin_91 rfl ?_
              refine g_get C (.ref (ad 87)) 6 in_X4_begin_4 (List.mem_of_getElem? (i := 2) rfl) (by decide) (ce_meth ad cs _ _) rfl (by decide) rfl rfl dX4_begin_92 ?_
              refine g_iload C 0 dX4_begin_95 rfl ?_
              refine g_iald C (by decide) (ce_mchain ad cs _ _) (fin' (n := 20) rfl (by omega) (by omega)) dX4_begin_97 ?_
              refine g_ni (fun v227 ev227 => ?_)
              have tv227 := congrArg Int32.toInt ev227
              obtain ⟨bv227, dv227⟩ := (show rg 0 19 v227 from (by rw [ev227]; exact hI 87 _))
              refine g_iald C (by decide) (ce_mkind ad cs _ _) (fin' (n := 20) rfl (by omega) (by omega)) dX4_begin_98 ?_
              refine g_ni (fun v228 ev228 => ?_)
              have tv228 := congrArg Int32.toInt ev228
              refine g_bipush C 8 dX4_begin_99 (by decide) ?_
              refine g_icmp_ne C 108 dX4_begin_101 (by decide) (fun c229 => ?_) (fun c229 => ?_)
              ·
                have f230 := fne rfl (by decide : (8 : Int32).toInt = 8) c229
                refine g_iconst C 0 dX4_begin_108 (by decide) ?_
                refine g_istore C [(4, .int 0), (5, .int x5_77), (3, .int x3_4), (2, .int x2_4), (0, .ref (ad 81)), (1, .int x)] dX4_begin_109 (by decide) rfl ?_
                refine g_aload_n C 4 dX4_begin_111 rfl ?_
                refine g_get C (.ref (ad 83)) 2 in_X4_begin_4 (List.mem_of_getElem? (i := 1) rfl) (by decide) (ce_meth ad cs _ _) rfl (by decide) rfl rfl dX4_begin_112 ?_
                refine g_aload_n C 4 dX4_begin_115 rfl ?_
                refine g_get C (.ref (ad 87)) 6 in_X4_begin_4 (List.mem_of_getElem? (i := 2) rfl) (by decide) (ce_meth ad cs _ _) rfl (by decide) rfl rfl dX4_begin_116 ?_
                refine g_iload C 1 dX4_begin_119 rfl ?_
                refine g_iald C (by decide) (ce_mchain ad cs _ _) (fin' (n := 20) rfl (by omega) (by omega)) dX4_begin_121 ?_
                refine g_ni (fun v231 ev231 => ?_)
                have tv231 := congrArg Int32.toInt ev231
                obtain ⟨bv231, dv231⟩ := (show rg 0 19 v231 from (by rw [ev231]; exact hI 87 _))
                have uv231 : v231 = v227 := by rw [ev231]; exact ev227.symm
                have wv231 := congrArg Int32.toInt uv231
                refine g_iload C 0 dX4_begin_122 rfl ?_
                refine g_if_eq C 131 dX4_begin_124 (by decide) (fun _ => ?_) (fun c232 => absurd c232 (by decide))
                refine g_iconst C 1 dX4_begin_131 (by decide) ?_
                refine g_iast C (by decide) (ce_mbegun ad cs _ _) (by rw [sI_k]; rfl) (fin' (n := 20) rfl (by omega) (by omega)) dX4_begin_132 ?_
                refine g_nm (fun M233 hM233 => ?_)
                have hI : IC M233 := by rw [hM233]; exact hI.st (bC_free (by decide) (by decide) (by decide) (by decide) (by decide) (by decide) (by decide))
                have hF : ∀ k, k ≠ 83 ∧ k ≠ 87 → M233 k = M k := fun k hk => by (rw [hM233, sI_n _ _ _ (by omega)]; try exact hF k hk)
                obtain ⟨v234, ev234⟩ : ∃ y : Int32, y = x5_77 + (-1) := ⟨_, rfl⟩
                try have fv234 := fadd rfl (by decide : ((-1) : Int32).toInt = (-1)) ev234 (by omega) (by omega)
                refine g_iinc C 1 v234 [(5, .int v234), (4, .int 0), (3, .int x3_4), (2, .int x2_4), (0, .ref (ad 81)), (1, .int x)] dX4_begin_133 rfl (by rw [ev234]; rfl) (by decide) rfl ?_
                refine g_goto C 77 dX4_begin_136 (by decide) ?_
                have z235 : (0 : Int32).toInt = 0 := by decide
                exact ih_77 (v234, 0, M233, L_77) ⟨by show -1 ≤ v234.toInt; omega, by show v234.toInt ≤ 19; omega, hI, hF, hG⟩ (by show (v234.toInt + 1).toNat < (x5_77.toInt + 1).toNat; omega)
              ·
                have f236 := feq rfl (by decide : (8 : Int32).toInt = 8) c229
                refine g_iconst C 1 dX4_begin_104 (by decide) ?_
                refine g_goto C 109 dX4_begin_105 (by decide) ?_
                refine g_istore C [(4, .int 1), (5, .int x5_77), (3, .int x3_4), (2, .int x2_4), (0, .ref (ad 81)), (1, .int x)] dX4_begin_109 (by decide) rfl ?_
                refine g_aload_n C 4 dX4_begin_111 rfl ?_
                refine g_get C (.ref (ad 83)) 2 in_X4_begin_4 (List.mem_of_getElem? (i := 1) rfl) (by decide) (ce_meth ad cs _ _) rfl (by decide) rfl rfl dX4_begin_112 ?_
                refine g_aload_n C 4 dX4_begin_115 rfl ?_
                refine g_get C (.ref (ad 87)) 6 in_X4_begin_4 (List.mem_of_getElem? (i := 2) rfl) (by decide) (ce_meth ad cs _ _) rfl (by decide) rfl rfl dX4_begin_116 ?_
                refine g_iload C 1 dX4_begin_119 rfl ?_
                refine g_iald C (by decide) (ce_mchain ad cs _ _) (fin' (n := 20) rfl (by omega) (by omega)) dX4_begin_121 ?_
                refine g_ni (fun v237 ev237 => ?_)
                have tv237 := congrArg Int32.toInt ev237
                obtain ⟨bv237, dv237⟩ := (show rg 0 19 v237 from (by rw [ev237]; exact hI 87 _))
                have uv237 : v237 = v227 := by rw [ev237]; exact ev227.symm
                have wv237 := congrArg Int32.toInt uv237
                refine g_iload C 0 dX4_begin_122 rfl ?_
                refine g_if_eq C 131 dX4_begin_124 (by decide) (fun c238 => absurd c238 (by decide)) (fun _ => ?_)
                refine g_iconst C 2 dX4_begin_127 (by decide) ?_
                refine g_goto C 132 dX4_begin_128 (by decide) ?_
                refine g_iast C (by decide) (ce_mbegun ad cs _ _) (by rw [sI_k]; rfl) (fin' (n := 20) rfl (by omega) (by omega)) dX4_begin_132 ?_
                refine g_nm (fun M239 hM239 => ?_)
                have hI : IC M239 := by rw [hM239]; exact hI.st (bC_free (by decide) (by decide) (by decide) (by decide) (by decide) (by decide) (by decide))
                have hF : ∀ k, k ≠ 83 ∧ k ≠ 87 → M239 k = M k := fun k hk => by (rw [hM239, sI_n _ _ _ (by omega)]; try exact hF k hk)
                obtain ⟨v240, ev240⟩ : ∃ y : Int32, y = x5_77 + (-1) := ⟨_, rfl⟩
                try have fv240 := fadd rfl (by decide : ((-1) : Int32).toInt = (-1)) ev240 (by omega) (by omega)
                refine g_iinc C 1 v240 [(5, .int v240), (4, .int 1), (3, .int x3_4), (2, .int x2_4), (0, .ref (ad 81)), (1, .int x)] dX4_begin_133 rfl (by rw [ev240]; rfl) (by decide) rfl ?_
                refine g_goto C 77 dX4_begin_136 (by decide) ?_
                have z241 : (1 : Int32).toInt = 1 := by decide
                exact ih_77 (v240, 1, M239, L_77) ⟨by show -1 ≤ v240.toInt; omega, by show v240.toInt ≤ 19; omega, hI, hF, hG⟩ (by show (v240.toInt + 1).toNat < (x5_77.toInt + 1).toNat; omega)
        ·
          have f242 := fne rfl (by decide : (0 : Int32).toInt = 0) c211
          obtain ⟨far208, fbr208⟩ := has_t hr208 c211
          obtain ⟨fcr208, fdr208⟩ := (show rg 0 20 (M_4 81 0) from hI 81 0 rfl)
          refine g_aload_n C 2 dX4_begin_55 rfl ?_
          refine g_get C (.ref (ad 83)) 2 in_X4_begin_4 (List.mem_of_getElem? (i := 1) rfl) (by decide) (ce_meth ad cs _ _) rfl (by decide) rfl rfl dX4_begin_56 ?_
          refine g_iload_n C 0 dX4_begin_59 rfl ?_
          refine g_iald C (by decide) (ce_mbegun ad cs _ _) (fin' (n := 20) rfl (by omega) (by omega)) dX4_begin_60 ?_
          refine g_ni (fun v243 ev243 => ?_)
          have tv243 := congrArg Int32.toInt ev243
          have uv243 : v243 = v205 := by rw [ev243]; exact ev205.symm
          have wv243 := congrArg Int32.toInt uv243
          refine g_iconst C 2 dX4_begin_61 (by decide) ?_
          refine g_icmp_ne C 69 dX4_begin_62 (by decide) (fun c244 => ?_) (fun c244 => ?_)
          ·
            have f245 := fne rfl (by decide : (2 : Int32).toInt = 2) c244
            refine g_iconst C 0 dX4_begin_69 (by decide) ?_
            refine g_istore C [(4, .int 0), (3, .int x3_4), (2, .int x2_4), (0, .ref (ad 81)), (1, .int x)] dX4_begin_70 (by decide) rfl ?_
            refine g_iload_n C 2 dX4_begin_72 rfl ?_
            refine g_iconst C 1 dX4_begin_73 (by decide) ?_
            refine g_isub C dX4_begin_74 ?_
            refine g_ni (fun v246 ev246 => ?_)
            try have fv246 := fsub rfl (by decide : (1 : Int32).toInt = 1) ev246 (by omega) (by omega)
            refine g_istore C [(5, .int v246), (4, .int 0), (3, .int x3_4), (2, .int x2_4), (0, .ref (ad 81)), (1, .int x)] dX4_begin_75 (by decide) rfl ?_
            have zy247 : (0 : Int32).toInt = 0 := by decide
            refine g_loop (α := Int32 × Int32 × MI × ML) (fun a => (a.1.toInt + 1).toNat) (fun a => -1 ≤ a.1.toInt ∧ a.1.toInt ≤ 19 ∧ IC a.2.2.1 ∧ (∀ k, k ≠ 83 ∧ k ≠ 87 → a.2.2.1 k = M k) ∧ (∀ k, 258 ≤ k → a.2.2.2 k = L k)) (fun a => a.2.2.1) (fun a => a.2.2.2) (fun a => [(5, .int a.1), (4, .int a.2.1), (3, .int x3_4), (2, .int x2_4), (0, .ref (ad 81)), (1, .int x)]) (v246, 0, M_4, L_4) ⟨by show -1 ≤ (v246 : Int32).toInt; omega, by show (v246 : Int32).toInt ≤ 19; omega, hI, hF, hG⟩ rfl rfl rfl ?_
            rintro ⟨x5_77, x4_77, M_77, L_77⟩ ⟨j77_0, j77_1, hI, hF, hG⟩ ih_77
            dsimp only at j77_0 j77_1 hI hF hG ih_77 ⊢
            refine g_iload C 0 dX4_begin_77 rfl ?_
            refine g_if_lt C 139 dX4_begin_79 (by decide) (fun c248 => ?_) (fun c248 => ?_)
            ·
              have f249 := fl rfl (by decide : (0 : Int32).toInt = 0) c248
              refine g_aload_n C 4 dX4_begin_139 rfl ?_
              refine g_get C (.ref (ad 83)) 2 in_X4_begin_4 (List.mem_of_getElem? (i := 1) rfl) (by decide) (ce_meth ad cs _ _) rfl (by decide) rfl rfl dX4_begin_140 ?_
              refine g_iload_n C 5 dX4_begin_143 rfl ?_
              refine g_iald C (by decide) (ce_mbegun ad cs _ _) (fin' (n := 20) rfl (by omega) (by omega)) dX4_begin_144 ?_
              refine g_ni (fun v250 ev250 => ?_)
              have tv250 := congrArg Int32.toInt ev250
              exact g_iret C hr ⟨trivial, hI, hF, hG⟩ dX4_begin_145
            ·
              have f251 := fnl rfl (by decide : (0 : Int32).toInt = 0) c248
              refine g_iload C 1 dX4_begin_82 rfl ?_
              refine g_if_ne C 104 dX4_begin_84 (by decide) (fun c252 => ?_) (fun c252 => ?_)
              ·
                have f253 := fne rfl (by decide : (0 : Int32).toInt = 0) c252
                refine g_iconst C 1 dX4_begin_104 (by decide) ?_
                refine g_goto C 109 dX4_begin_105 (by decide) ?_
                refine g_istore C [(4, .int 1), (5, .int x5_77), (3, .int x3_4), (2, .int x2_4), (0, .ref (ad 81)), (1, .int x)] dX4_begin_109 (by decide) rfl ?_
                refine g_aload_n C 4 dX4_begin_111 rfl ?_
                refine g_get C (.ref (ad 83)) 2 in_X4_begin_4 (List.mem_of_getElem? (i := 1) rfl) (by decide) (ce_meth ad cs _ _) rfl (by decide) rfl rfl dX4_begin_112 ?_
                refine g_aload_n C 4 dX4_begin_115 rfl ?_
                refine g_get C (.ref (ad 87)) 6 in_X4_begin_4 (List.mem_of_getElem? (i := 2) rfl) (by decide) (ce_meth ad cs _ _) rfl (by decide) rfl rfl dX4_begin_116 ?_
                refine g_iload C 1 dX4_begin_119 rfl ?_
                refine g_iald C (by decide) (ce_mchain ad cs _ _) (fin' (n := 20) rfl (by omega) (by omega)) dX4_begin_121 ?_
                refine g_ni (fun v254 ev254 => ?_)
                have tv254 := congrArg Int32.toInt ev254
                obtain ⟨bv254, dv254⟩ := (show rg 0 19 v254 from (by rw [ev254]; exact hI 87 _))
                refine g_iload C 0 dX4_begin_122 rfl ?_
                refine g_if_eq C 131 dX4_begin_124 (by decide) (fun c255 => absurd c255 (by decide)) (fun _ => ?_)
                refine g_iconst C 2 dX4_begin_127 (by decide) ?_
                refine g_goto C 132 dX4_begin_128 (by decide) ?_
                refine g_iast C (by decide) (ce_mbegun ad cs _ _) (by rw [sI_k]; rfl) (fin' (n := 20) rfl (by omega) (by omega)) dX4_begin_132 ?_
                refine g_nm (fun M256 hM256 => ?_)
                have hI : IC M256 := by rw [hM256]; exact hI.st (bC_free (by decide) (by decide) (by decide) (by decide) (by decide) (by decide) (by decide))
                have hF : ∀ k, k ≠ 83 ∧ k ≠ 87 → M256 k = M k := fun k hk => by (rw [hM256, sI_n _ _ _ (by omega)]; try exact hF k hk)
                obtain ⟨v257, ev257⟩ : ∃ y : Int32, y = x5_77 + (-1) := ⟨_, rfl⟩
                try have fv257 := fadd rfl (by decide : ((-1) : Int32).toInt = (-1)) ev257 (by omega) (by omega)
                refine g_iinc C 1 v257 [(5, .int v257), (4, .int 1), (3, .int x3_4), (2, .int x2_4), (0, .ref (ad 81)), (1, .int x)] dX4_begin_133 rfl (by rw [ev257]; rfl) (by decide) rfl ?_
                refine g_goto C 77 dX4_begin_136 (by decide) ?_
                have z258 : (1 : Int32).toInt = 1 := by decide
                exact ih_77 (v257, 1, M256, L_77) ⟨by show -1 ≤ v257.toInt; omega, by show v257.toInt ≤ 19; omega, hI, hF, hG⟩ (by show (v257.toInt + 1).toNat < (x5_77.toInt + 1).toNat; omega)
              ·
                have f259 := feq rfl (by decide : (0 : Int32).toInt = 0) c252
                refine g_aload_n C 4 dX4_begin_87 rfl ?_
                refine g_get C (.ref (ad 82)) 1 in_X4_begin_4 (List.mem_of_getElem? (i := 4) rfl) (by decide) (ce_meth ad cs _ _) rfl (by decide) rfl rfl dX4_begin_88 ?_
                refine g_aload_n C 4 dX4_begin_91 rfl ?_
                refine g_get C (.ref (ad 87)) 6 in_X4_begin_4 (List.mem_of_getElem? (i := 2) rfl) (by decide) (ce_meth ad cs _ _) rfl (by decide) rfl rfl dX4_begin_92 ?_
                refine g_iload C 0 dX4_begin_95 rfl ?_
                refine g_iald C (by decide) (ce_mchain ad cs _ _) (fin' (n := 20) rfl (by omega) (by omega)) dX4_begin_97 ?_
                refine g_ni (fun v260 ev260 => ?_)
                have tv260 := congrArg Int32.toInt ev260
                obtain ⟨bv260, dv260⟩ := (show rg 0 19 v260 from (by rw [ev260]; exact hI 87 _))
                refine g_iald C (by decide) (ce_mkind ad cs _ _) (fin' (n := 20) rfl (by omega) (by omega)) dX4_begin_98 ?_
                refine g_ni (fun v261 ev261 => ?_)
                have tv261 := congrArg Int32.toInt ev261
                refine g_bipush C 8 dX4_begin_99 (by decide) ?_
                refine g_icmp_ne C 108 dX4_begin_101 (by decide) (fun c262 => ?_) (fun c262 => ?_)
                ·
                  have f263 := fne rfl (by decide : (8 : Int32).toInt = 8) c262
                  refine g_iconst C 0 dX4_begin_108 (by decide) ?_
                  refine g_istore C [(4, .int 0), (5, .int x5_77), (3, .int x3_4), (2, .int x2_4), (0, .ref (ad 81)), (1, .int x)] dX4_begin_109 (by decide) rfl ?_
                  refine g_aload_n C 4 dX4_begin_111 rfl ?_
                  refine g_get C (.ref (ad 83)) 2 in_X4_begin_4 (List.mem_of_getElem? (i := 1) rfl) (by decide) (ce_meth ad cs _ _) rfl (by decide) rfl rfl dX4_begin_112 ?_
                  refine g_aload_n C 4 dX4_begin_115 rfl ?_
                  refine g_get C (.ref (ad 87)) 6 in_X4_begin_4 (List.mem_of_getElem? (i := 2) rfl) (by decide) (ce_meth ad cs _ _) rfl (by decide) rfl rfl dX4_begin_116 ?_
                  refine g_iload C 1 dX4_begin_119 rfl ?_
                  refine g_iald C (by decide) (ce_mchain ad cs _ _) (fin' (n := 20) rfl (by omega) (by omega)) dX4_begin_121 ?_
                  refine g_ni (fun v264 ev264 => ?_)
                  have tv264 := congrArg Int32.toInt ev264
                  obtain ⟨bv264, dv264⟩ := (show rg 0 19 v264 from (by rw [ev264]; exact hI 87 _))
                  have uv264 : v264 = v260 := by rw [ev264]; exact ev260.symm
                  have wv264 := congrArg Int32.toInt uv264
                  refine g_iload C 0 dX4_begin_122 rfl ?_
                  refine g_if_eq C 131 dX4_begin_124 (by decide) (fun _ => ?_) (fun c265 => absurd c265 (by decide))
                  refine g_iconst C 1 dX4_begin_131 (by decide) ?_
                  refine g_iast C (by decide) (ce_mbegun ad cs _ _) (by rw [sI_k]; rfl) (fin' (n := 20) rfl (by omega) (by omega)) dX4_begin_132 ?_
                  refine g_nm (fun M266 hM266 => ?_)
                  have hI : IC M266 := by rw [hM266]; exact hI.st (bC_free (by decide) (by decide) (by decide) (by decide) (by decide) (by decide) (by decide))
                  have hF : ∀ k, k ≠ 83 ∧ k ≠ 87 → M266 k = M k := fun k hk => by (rw [hM266, sI_n _ _ _ (by omega)]; try exact hF k hk)
                  obtain ⟨v267, ev267⟩ : ∃ y : Int32, y = x5_77 + (-1) := ⟨_, rfl⟩
                  try have fv267 := fadd rfl (by decide : ((-1) : Int32).toInt = (-1)) ev267 (by omega) (by omega)
                  refine g_iinc C 1 v267 [(5, .int v267), (4, .int 0), (3, .int x3_4), (2, .int x2_4), (0, .ref (ad 81)), (1, .int x)] dX4_begin_133 rfl (by rw [ev267]; rfl) (by decide) rfl ?_
                  refine g_goto C 77 dX4_begin_136 (by decide) ?_
                  have z268 : (0 : Int32).toInt = 0 := by decide
                  exact ih_77 (v267, 0, M266, L_77) ⟨by show -1 ≤ v267.toInt; omega, by show v267.toInt ≤ 19; omega, hI, hF, hG⟩ (by show (v267.toInt + 1).toNat < (x5_77.toInt + 1).toNat; omega)
                ·
                  have f269 := feq rfl (by decide : (8 : Int32).toInt = 8) c262
                  refine g_iconst C 1 dX4_begin_104 (by decide) ?_
                  refine g_goto C 109 dX4_begin_105 (by decide) ?_
                  refine g_istore C [(4, .int 1), (5, .int x5_77), (3, .int x3_4), (2, .int x2_4), (0, .ref (ad 81)), (1, .int x)] dX4_begin_109 (by decide) rfl ?_
                  refine g_aload_n C 4 dX4_begin_111 rfl ?_
                  refine g_get C (.ref (ad 83)) 2 in_X4_begin_4 (List.mem_of_getElem? (i := 1) rfl) (by decide) (ce_meth ad cs _ _) rfl (by decide) rfl rfl dX4_begin_112 ?_
                  refine g_aload_n C 4 dX4_begin_115 rfl ?_
                  refine g_get C (.ref (ad 87)) 6 in_X4_begin_4 (List.mem_of_getElem? (i := 2) rfl) (by decide) (ce_meth ad cs _ _) rfl (by decide) rfl rfl dX4_begin_116 ?_
                  refine g_iload C 1 dX4_begin_119 rfl ?_
                  refine g_iald C (by decide) (ce_mchain ad cs _ _) (fin' (n := 20) rfl (by omega) (by omega)) dX4_begin_121 ?_
                  refine g_ni (fun v270 ev270 => ?_)
                  have tv270 := congrArg Int32.toInt ev270
                  obtain ⟨bv270, dv270⟩ := (show rg 0 19 v270 from (by rw [ev270]; exact hI 87 _))
                  have uv270 : v270 = v260 := by rw [ev270]; exact ev260.symm
                  have wv270 := congrArg Int32.toInt uv270
                  refine g_iload C 0 dX4_begin_122 rfl ?_
                  refine g_if_eq C 131 dX4_begin_124 (by decide) (fun c271 => absurd c271 (by decide)) (fun _ => ?_)
                  refine g_iconst C 2 dX4_begin_127 (by decide) ?_
                  refine g_goto C 132 dX4_begin_128 (by decide) ?_
                  refine g_iast C (by decide) (ce_mbegun ad cs _ _) (by rw [sI_k]; rfl) (fin' (n := 20) rfl (by omega) (by omega)) dX4_begin_132 ?_
                  refine g_nm (fun M272 hM272 => ?_)
                  have hI : IC M272 := by rw [hM272]; exact hI.st (bC_free (by decide) (by decide) (by decide) (by decide) (by decide) (by decide) (by decide))
                  have hF : ∀ k, k ≠ 83 ∧ k ≠ 87 → M272 k = M k := fun k hk => by (rw [hM272, sI_n _ _ _ (by omega)]; try exact hF k hk)
                  obtain ⟨v273, ev273⟩ : ∃ y : Int32, y = x5_77 + (-1) := ⟨_, rfl⟩
                  try have fv273 := fadd rfl (by decide : ((-1) : Int32).toInt = (-1)) ev273 (by omega) (by omega)
                  refine g_iinc C 1 v273 [(5, .int v273), (4, .int 1), (3, .int x3_4), (2, .int x2_4), (0, .ref (ad 81)), (1, .int x)] dX4_begin_133 rfl (by rw [ev273]; rfl) (by decide) rfl ?_
                  refine g_goto C 77 dX4_begin_136 (by decide) ?_
                  have z274 : (1 : Int32).toInt = 1 := by decide
                  exact ih_77 (v273, 1, M272, L_77) ⟨by show -1 ≤ v273.toInt; omega, by show v273.toInt ≤ 19; omega, hI, hF, hG⟩ (by show (v273.toInt + 1).toNat < (x5_77.toInt + 1).toNat; omega)
          ·
            have f275 := feq rfl (by decide : (2 : Int32).toInt = 2) c244
            refine g_iconst C 1 dX4_begin_65 (by decide) ?_
            refine g_goto C 70 dX4_begin_66 (by decide) ?_
            refine g_istore C [(4, .int 1), (3, .int x3_4), (2, .int x2_4), (0, .ref (ad 81)), (1, .int x)] dX4_begin_70 (by decide) rfl ?_
            refine g_iload_n C 2 dX4_begin_72 rfl ?_
            refine g_iconst C 1 dX4_begin_73 (by decide) ?_
            refine g_isub C dX4_begin_74 ?_
            refine g_ni (fun v276 ev276 => ?_)
            try have fv276 := fsub rfl (by decide : (1 : Int32).toInt = 1) ev276 (by omega) (by omega)
            refine g_istore C [(5, .int v276), (4, .int 1), (3, .int x3_4), (2, .int x2_4), (0, .ref (ad 81)), (1, .int x)] dX4_begin_75 (by decide) rfl ?_
            have zy277 : (1 : Int32).toInt = 1 := by decide
            refine g_loop (α := Int32 × Int32 × MI × ML) (fun a => (a.1.toInt + 1).toNat) (fun a => -1 ≤ a.1.toInt ∧ a.1.toInt ≤ 19 ∧ IC a.2.2.1 ∧ (∀ k, k ≠ 83 ∧ k ≠ 87 → a.2.2.1 k = M k) ∧ (∀ k, 258 ≤ k → a.2.2.2 k = L k)) (fun a => a.2.2.1) (fun a => a.2.2.2) (fun a => [(5, .int a.1), (4, .int a.2.1), (3, .int x3_4), (2, .int x2_4), (0, .ref (ad 81)), (1, .int x)]) (v276, 1, M_4, L_4) ⟨by show -1 ≤ (v276 : Int32).toInt; omega, by show (v276 : Int32).toInt ≤ 19; omega, hI, hF, hG⟩ rfl rfl rfl ?_
            rintro ⟨x5_77, x4_77, M_77, L_77⟩ ⟨j77_0, j77_1, hI, hF, hG⟩ ih_77
            dsimp only at j77_0 j77_1 hI hF hG ih_77 ⊢
            refine g_iload C 0 dX4_begin_77 rfl ?_
            refine g_if_lt C 139 dX4_begin_79 (by decide) (fun c278 => ?_) (fun c278 => ?_)
            ·
              have f279 := fl rfl (by decide : (0 : Int32).toInt = 0) c278
              refine g_aload_n C 4 dX4_begin_139 rfl ?_
              refine g_get C (.ref (ad 83)) 2 in_X4_begin_4 (List.mem_of_getElem? (i := 1) rfl) (by decide) (ce_meth ad cs _ _) rfl (by decide) rfl rfl dX4_begin_140 ?_
              refine g_iload_n C 5 dX4_begin_143 rfl ?_
              refine g_iald C (by decide) (ce_mbegun ad cs _ _) (fin' (n := 20) rfl (by omega) (by omega)) dX4_begin_144 ?_
              refine g_ni (fun v280 ev280 => ?_)
              have tv280 := congrArg Int32.toInt ev280
              exact g_iret C hr ⟨trivial, hI, hF, hG⟩ dX4_begin_145
            ·
              have f281 := fnl rfl (by decide : (0 : Int32).toInt = 0) c278
              refine g_iload C 1 dX4_begin_82 rfl ?_
              refine g_if_ne C 104 dX4_begin_84 (by decide) (fun c282 => ?_) (fun c282 => ?_)
              ·
                have f283 := fne rfl (by decide : (0 : Int32).toInt = 0) c282
                refine g_iconst C 1 dX4_begin_104 (by decide) ?_
                refine g_goto C 109 dX4_begin_105 (by decide) ?_
                refine g_istore C [(4, .int 1), (5, .int x5_77), (3, .int x3_4), (2, .int x2_4), (0, .ref (ad 81)), (1, .int x)] dX4_begin_109 (by decide) rfl ?_
                refine g_aload_n C 4 dX4_begin_111 rfl ?_
                refine g_get C (.ref (ad 83)) 2 in_X4_begin_4 (List.mem_of_getElem? (i := 1) rfl) (by decide) (ce_meth ad cs _ _) rfl (by decide) rfl rfl dX4_begin_112 ?_
                refine g_aload_n C 4 dX4_begin_115 rfl ?_
                refine g_get C (.ref (ad 87)) 6 in_X4_begin_4 (List.mem_of_getElem? (i := 2) rfl) (by decide) (ce_meth ad cs _ _) rfl (by decide) rfl rfl dX4_begin_116 ?_
                refine g_iload C 1 dX4_begin_119 rfl ?_
                refine g_iald C (by decide) (ce_mchain ad cs _ _) (fin' (n := 20) rfl (by omega) (by omega)) dX4_begin_121 ?_
                refine g_ni (fun v284 ev284 => ?_)
                have tv284 := congrArg Int32.toInt ev284
                obtain ⟨bv284, dv284⟩ := (show rg 0 19 v284 from (by rw [ev284]; exact hI 87 _))
                refine g_iload C 0 dX4_begin_122 rfl ?_
                refine g_if_eq C 131 dX4_begin_124 (by decide) (fun c285 => absurd c285 (by decide)) (fun _ => ?_)
                refine g_iconst C 2 dX4_begin_127 (by decide) ?_
                refine g_goto C 132 dX4_begin_128 (by decide) ?_
                refine g_iast C (by decide) (ce_mbegun ad cs _ _) (by rw [sI_k]; rfl) (fin' (n := 20) rfl (by omega) (by omega)) dX4_begin_132 ?_
                refine g_nm (fun M286 hM286 => ?_)
                have hI : IC M286 := by rw [hM286]; exact hI.st (bC_free (by decide) (by decide) (by decide) (by decide) (by decide) (by decide) (by decide))
                have hF : ∀ k, k ≠ 83 ∧ k ≠ 87 → M286 k = M k := fun k hk => by (rw [hM286, sI_n _ _ _ (by omega)]; try exact hF k hk)
                obtain ⟨v287, ev287⟩ : ∃ y : Int32, y = x5_77 + (-1) := ⟨_, rfl⟩
                try have fv287 := fadd rfl (by decide : ((-1) : Int32).toInt = (-1)) ev287 (by omega) (by omega)
                refine g_iinc C 1 v287 [(5, .int v287), (4, .int 1), (3, .int x3_4), (2, .int x2_4), (0, .ref (ad 81)), (1, .int x)] dX4_begin_133 rfl (by rw [ev287]; rfl) (by decide) rfl ?_
                refine g_goto C 77 dX4_begin_136 (by decide) ?_
                have z288 : (1 : Int32).toInt = 1 := by decide
                exact ih_77 (v287, 1, M286, L_77) ⟨by show -1 ≤ v287.toInt; omega, by show v287.toInt ≤ 19; omega, hI, hF, hG⟩ (by show (v287.toInt + 1).toNat < (x5_77.toInt + 1).toNat; omega)
              ·
                have f289 := feq rfl (by decide : (0 : Int32).toInt = 0) c282
                refine g_aload_n C 4 dX4_begin_87 rfl ?_
                refine g_get C (.ref (ad 82)) 1 in_X4_begin_4 (List.mem_of_getElem? (i := 4) rfl) (by decide) (ce_meth ad cs _ _) rfl (by decide) rfl rfl dX4_begin_88 ?_
                refine g_aload_n C 4 dX4_begin_91 rfl ?_
                refine g_get C (.ref (ad 87)) 6 in_X4_begin_4 (List.mem_of_getElem? (i := 2) rfl) (by decide) (ce_meth ad cs _ _) rfl (by decide) rfl rfl dX4_begin_92 ?_
                refine g_iload C 0 dX4_begin_95 rfl ?_
                refine g_iald C (by decide) (ce_mchain ad cs _ _) (fin' (n := 20) rfl (by omega) (by omega)) dX4_begin_97 ?_
                refine g_ni (fun v290 ev290 => ?_)
                have tv290 := congrArg Int32.toInt ev290
                obtain ⟨bv290, dv290⟩ := (show rg 0 19 v290 from (by rw [ev290]; exact hI 87 _))
                refine g_iald C (by decide) (ce_mkind ad cs _ _) (fin' (n := 20) rfl (by omega) (by omega)) dX4_begin_98 ?_
                refine g_ni (fun v291 ev291 => ?_)
                have tv291 := congrArg Int32.toInt ev291
                refine g_bipush C 8 dX4_begin_99 (by decide) ?_
                refine g_icmp_ne C 108 dX4_begin_101 (by decide) (fun c292 => ?_) (fun c292 => ?_)
                ·
                  have f293 := fne rfl (by decide : (8 : Int32).toInt = 8) c292
                  refine g_iconst C 0 dX4_begin_108 (by decide) ?_
                  refine g_istore C [(4, .int 0), (5, .int x5_77), (3, .int x3_4), (2, .int x2_4), (0, .ref (ad 81)), (1, .int x)] dX4_begin_109 (by decide) rfl ?_
                  refine g_aload_n C 4 dX4_begin_111 rfl ?_
                  refine g_get C (.ref (ad 83)) 2 in_X4_begin_4 (List.mem_of_getElem? (i := 1) rfl) (by decide) (ce_meth ad cs _ _) rfl (by decide) rfl rfl dX4_begin_112 ?_
                  refine g_aload_n C 4 dX4_begin_115 rfl ?_
                  refine g_get C (.ref (ad 87)) 6 in_X4_begin_4 (List.mem_of_getElem? (i := 2) rfl) (by decide) (ce_meth ad cs _ _) rfl (by decide) rfl rfl dX4_begin_116 ?_
                  refine g_iload C 1 dX4_begin_119 rfl ?_
                  refine g_iald C (by decide) (ce_mchain ad cs _ _) (fin' (n := 20) rfl (by omega) (by omega)) dX4_begin_121 ?_
                  refine g_ni (fun v294 ev294 => ?_)
                  have tv294 := congrArg Int32.toInt ev294
                  obtain ⟨bv294, dv294⟩ := (show rg 0 19 v294 from (by rw [ev294]; exact hI 87 _))
                  have uv294 : v294 = v290 := by rw [ev294]; exact ev290.symm
                  have wv294 := congrArg Int32.toInt uv294
                  refine g_iload C 0 dX4_begin_122 rfl ?_
                  refine g_if_eq C 131 dX4_begin_124 (by decide) (fun _ => ?_) (fun c295 => absurd c295 (by decide))
                  refine g_iconst C 1 dX4_begin_131 (by decide) ?_
                  refine g_iast C (by decide) (ce_mbegun ad cs _ _) (by rw [sI_k]; rfl) (fin' (n := 20) rfl (by omega) (by omega)) dX4_begin_132 ?_
                  refine g_nm (fun M296 hM296 => ?_)
                  have hI : IC M296 := by rw [hM296]; exact hI.st (bC_free (by decide) (by decide) (by decide) (by decide) (by decide) (by decide) (by decide))
                  have hF : ∀ k, k ≠ 83 ∧ k ≠ 87 → M296 k = M k := fun k hk => by (rw [hM296, sI_n _ _ _ (by omega)]; try exact hF k hk)
                  obtain ⟨v297, ev297⟩ : ∃ y : Int32, y = x5_77 + (-1) := ⟨_, rfl⟩
                  try have fv297 := fadd rfl (by decide : ((-1) : Int32).toInt = (-1)) ev297 (by omega) (by omega)
                  refine g_iinc C 1 v297 [(5, .int v297), (4, .int 0), (3, .int x3_4), (2, .int x2_4), (0, .ref (ad 81)), (1, .int x)] dX4_begin_133 rfl (by rw [ev297]; rfl) (by decide) rfl ?_
                  refine g_goto C 77 dX4_begin_136 (by decide) ?_
                  have z298 : (0 : Int32).toInt = 0 := by decide
                  exact ih_77 (v297, 0, M296, L_77) ⟨by show -1 ≤ v297.toInt; omega, by show v297.toInt ≤ 19; omega, hI, hF, hG⟩ (by show (v297.toInt + 1).toNat < (x5_77.toInt + 1).toNat; omega)
                ·
                  have f299 := feq rfl (by decide : (8 : Int32).toInt = 8) c292
                  refine g_iconst C 1 dX4_begin_104 (by decide) ?_
                  refine g_goto C 109 dX4_begin_105 (by decide) ?_
                  refine g_istore C [(4, .int 1), (5, .int x5_77), (3, .int x3_4), (2, .int x2_4), (0, .ref (ad 81)), (1, .int x)] dX4_begin_109 (by decide) rfl ?_
                  refine g_aload_n C 4 dX4_begin_111 rfl ?_
                  refine g_get C (.ref (ad 83)) 2 in_X4_begin_4 (List.mem_of_getElem? (i := 1) rfl) (by decide) (ce_meth ad cs _ _) rfl (by decide) rfl rfl dX4_begin_112 ?_
                  refine g_aload_n C 4 dX4_begin_115 rfl ?_
                  refine g_get C (.ref (ad 87)) 6 in_X4_begin_4 (List.mem_of_getElem? (i := 2) rfl) (by decide) (ce_meth ad cs _ _) rfl (by decide) rfl rfl dX4_begin_116 ?_
                  refine g_iload C 1 dX4_begin_119 rfl ?_
                  refine g_iald C (by decide) (ce_mchain ad cs _ _) (fin' (n := 20) rfl (by omega) (by omega)) dX4_begin_121 ?_
                  refine g_ni (fun v300 ev300 => ?_)
                  have tv300 := congrArg Int32.toInt ev300
                  obtain ⟨bv300, dv300⟩ := (show rg 0 19 v300 from (by rw [ev300]; exact hI 87 _))
                  have uv300 : v300 = v290 := by rw [ev300]; exact ev290.symm
                  have wv300 := congrArg Int32.toInt uv300
                  refine g_iload C 0 dX4_begin_122 rfl ?_
                  refine g_if_eq C 131 dX4_begin_124 (by decide) (fun c301 => absurd c301 (by decide)) (fun _ => ?_)
                  refine g_iconst C 2 dX4_begin_127 (by decide) ?_
                  refine g_goto C 132 dX4_begin_128 (by decide) ?_
                  refine g_iast C (by decide) (ce_mbegun ad cs _ _) (by rw [sI_k]; rfl) (fin' (n := 20) rfl (by omega) (by omega)) dX4_begin_132 ?_
                  refine g_nm (fun M302 hM302 => ?_)
                  have hI : IC M302 := by rw [hM302]; exact hI.st (bC_free (by decide) (by decide) (by decide) (by decide) (by decide) (by decide) (by decide))
                  have hF : ∀ k, k ≠ 83 ∧ k ≠ 87 → M302 k = M k := fun k hk => by (rw [hM302, sI_n _ _ _ (by omega)]; try exact hF k hk)
                  obtain ⟨v303, ev303⟩ : ∃ y : Int32, y = x5_77 + (-1) := ⟨_, rfl⟩
                  try have fv303 := fadd rfl (by decide : ((-1) : Int32).toInt = (-1)) ev303 (by omega) (by omega)
                  refine g_iinc C 1 v303 [(5, .int v303), (4, .int 1), (3, .int x3_4), (2, .int x2_4), (0, .ref (ad 81)), (1, .int x)] dX4_begin_133 rfl (by rw [ev303]; rfl) (by decide) rfl ?_
                  refine g_goto C 77 dX4_begin_136 (by decide) ?_
                  have z304 : (1 : Int32).toInt = 1 := by decide
                  exact ih_77 (v303, 1, M302, L_77) ⟨by show -1 ≤ v303.toInt; omega, by show v303.toInt ≤ 19; omega, hI, hF, hG⟩ (by show (v303.toInt + 1).toNat < (x5_77.toInt + 1).toNat; omega)
      ·
        have f305 := feq rfl (by decide : (0 : Int32).toInt = 0) c206
        refine g_aload_n C 2 dX4_begin_27 rfl ?_
        refine g_get C (.ref (ad 87)) 6 in_X4_begin_4 (List.mem_of_getElem? (i := 2) rfl) (by decide) (ce_meth ad cs _ _) rfl (by decide) rfl rfl dX4_begin_28 ?_
        refine g_iload_n C 1 dX4_begin_31 rfl ?_
        refine g_iload_n C 0 dX4_begin_32 rfl ?_
        refine g_iast C (by decide) (ce_mchain ad cs _ _) (by rw [sI_k]; rfl) (fin' (n := 20) rfl (by omega) (by omega)) dX4_begin_33 ?_
        refine g_nm (fun M306 hM306 => ?_)
        have hI : IC M306 := by rw [hM306]; exact hI.st ⟨by first | omega | decide, by first | omega | decide⟩
        have hF : ∀ k, k ≠ 83 ∧ k ≠ 87 → M306 k = M k := fun k hk => by (rw [hM306, sI_n _ _ _ (by omega)]; try exact hF k hk)
        obtain ⟨v307, ev307⟩ : ∃ y : Int32, y = x2_4 + 1 := ⟨_, rfl⟩
        try have fv307 := fadd rfl (by decide : (1 : Int32).toInt = 1) ev307 (by omega) (by omega)
        refine g_iinc C 1 v307 [(2, .int v307), (3, .int x3_4), (0, .ref (ad 81)), (1, .int x)] dX4_begin_34 rfl (by rw [ev307]; rfl) (by decide) rfl ?_
        refine g_aload_n C 2 dX4_begin_37 rfl ?_
        refine g_get C (.ref (ad 84)) 3 in_X4_begin_4 (List.mem_of_getElem? (i := 3) rfl) (by decide) (ce_meth ad cs _ _) rfl (by decide) rfl rfl dX4_begin_38 ?_
        refine g_iload_n C 1 dX4_begin_41 rfl ?_
        refine g_iald C (by decide) (ce_mneed ad cs _ _) (fin' (n := 20) rfl (by omega) (by omega)) dX4_begin_42 ?_
        refine g_ni (fun v308 ev308 => ?_)
        have tv308 := congrArg Int32.toInt ev308
        refine g_istore_n C [(3, .int v308), (2, .int v307), (0, .ref (ad 81)), (1, .int x)] dX4_begin_43 (by decide) rfl ?_
        refine g_goto C 4 dX4_begin_44 (by decide) ?_
        exact ih_4 (v307, v308, M306, L_4) ⟨by show 0 ≤ v307.toInt; omega, by show v307.toInt ≤ 20; omega, hI, hF, hG⟩ (by show (21 - v307.toInt).toNat < (21 - x2_4.toInt).toNat; omega)
theorem dX4_firstNotFailed_0 : decode cX4_firstNotFailed 0 = .ok (.bipush (-9), 2) := by decide +kernel
theorem dX4_firstNotFailed_2 : decode cX4_firstNotFailed 2 = .ok (.istore_n 2, 1) := by decide +kernel
theorem dX4_firstNotFailed_3 : decode cX4_firstNotFailed 3 = .ok (.iconst 0, 1) := by decide +kernel
theorem dX4_firstNotFailed_4 : decode cX4_firstNotFailed 4 = .ok (.istore_n 3, 1) := by decide +kernel
theorem dX4_firstNotFailed_5 : decode cX4_firstNotFailed 5 = .ok (.iload_n 3, 1) := by decide +kernel
theorem dX4_firstNotFailed_6 : decode cX4_firstNotFailed 6 = .ok (.aload_n 0, 1) := by decide +kernel
theorem dX4_firstNotFailed_7 : decode cX4_firstNotFailed 7 = .ok (.getfield 9, 3) := by decide +kernel
theorem in_X4_firstNotFailed_4 : ∀ w ∈ u_ws RX4 TX4 7, w ∈ wsX4_firstNotFailed := fun _ h => List.mem_cons_of_mem _ (List.mem_append_right _ h)
theorem dX4_firstNotFailed_10 : decode cX4_firstNotFailed 10 = .ok (.if_icmp .ge 68, 3) := by decide +kernel
theorem dX4_firstNotFailed_78 : decode cX4_firstNotFailed 78 = .ok (.iload_n 2, 1) := by decide +kernel
theorem dX4_firstNotFailed_79 : decode cX4_firstNotFailed 79 = .ok (.ireturn, 1) := by decide +kernel
theorem dX4_firstNotFailed_13 : decode cX4_firstNotFailed 13 = .ok (.aload_n 0, 1) := by decide +kernel
theorem dX4_firstNotFailed_14 : decode cX4_firstNotFailed 14 = .ok (.getfield 28, 3) := by decide +kernel
theorem dX4_firstNotFailed_17 : decode cX4_firstNotFailed 17 = .ok (.iload_n 3, 1) := by decide +kernel
theorem dX4_firstNotFailed_18 : decode cX4_firstNotFailed 18 = .ok (.iaload, 1) := by decide +kernel
theorem dX4_firstNotFailed_19 : decode cX4_firstNotFailed 19 = .ok (.iload_n 1, 1) := by decide +kernel
theorem dX4_firstNotFailed_20 : decode cX4_firstNotFailed 20 = .ok (.ishr, 1) := by decide +kernel
theorem dX4_firstNotFailed_21 : decode cX4_firstNotFailed 21 = .ok (.iconst 1, 1) := by decide +kernel
theorem dX4_firstNotFailed_22 : decode cX4_firstNotFailed 22 = .ok (.iand, 1) := by decide +kernel
theorem dX4_firstNotFailed_23 : decode cX4_firstNotFailed 23 = .ok (.iconst 1, 1) := by decide +kernel
theorem dX4_firstNotFailed_24 : decode cX4_firstNotFailed 24 = .ok (.if_icmp .ne 17, 3) := by decide +kernel
theorem dX4_firstNotFailed_41 : decode cX4_firstNotFailed 41 = .ok (.iconst 0, 1) := by decide +kernel
theorem dX4_firstNotFailed_42 : decode cX4_firstNotFailed 42 = .ok (.istore 4, 2) := by decide +kernel
theorem dX4_firstNotFailed_44 : decode cX4_firstNotFailed 44 = .ok (.iload 4, 2) := by decide +kernel
theorem dX4_firstNotFailed_46 : decode cX4_firstNotFailed 46 = .ok (.ifCond .eq 26, 3) := by decide +kernel
theorem dX4_firstNotFailed_72 : decode cX4_firstNotFailed 72 = .ok (.iinc 3 1, 3) := by decide +kernel
theorem dX4_firstNotFailed_75 : decode cX4_firstNotFailed 75 = .ok (.goto (-70), 3) := by decide +kernel
theorem dX4_firstNotFailed_27 : decode cX4_firstNotFailed 27 = .ok (.aload_n 0, 1) := by decide +kernel
theorem dX4_firstNotFailed_28 : decode cX4_firstNotFailed 28 = .ok (.getfield 19, 3) := by decide +kernel
theorem dX4_firstNotFailed_31 : decode cX4_firstNotFailed 31 = .ok (.iload_n 3, 1) := by decide +kernel
theorem dX4_firstNotFailed_32 : decode cX4_firstNotFailed 32 = .ok (.iaload, 1) := by decide +kernel
theorem dX4_firstNotFailed_33 : decode cX4_firstNotFailed 33 = .ok (.iconst 2, 1) := by decide +kernel
theorem dX4_firstNotFailed_34 : decode cX4_firstNotFailed 34 = .ok (.if_icmp .eq 7, 3) := by decide +kernel
theorem dX4_firstNotFailed_37 : decode cX4_firstNotFailed 37 = .ok (.iconst 1, 1) := by decide +kernel
theorem dX4_firstNotFailed_38 : decode cX4_firstNotFailed 38 = .ok (.goto 4, 3) := by decide +kernel
theorem dX4_firstNotFailed_49 : decode cX4_firstNotFailed 49 = .ok (.iload_n 2, 1) := by decide +kernel
theorem dX4_firstNotFailed_50 : decode cX4_firstNotFailed 50 = .ok (.bipush (-9), 2) := by decide +kernel
theorem dX4_firstNotFailed_52 : decode cX4_firstNotFailed 52 = .ok (.if_icmp .eq 18, 3) := by decide +kernel
theorem dX4_firstNotFailed_70 : decode cX4_firstNotFailed 70 = .ok (.iload_n 3, 1) := by decide +kernel
theorem dX4_firstNotFailed_71 : decode cX4_firstNotFailed 71 = .ok (.istore_n 2, 1) := by decide +kernel
theorem dX4_firstNotFailed_55 : decode cX4_firstNotFailed 55 = .ok (.aload_n 0, 1) := by decide +kernel
theorem dX4_firstNotFailed_56 : decode cX4_firstNotFailed 56 = .ok (.getfield 25, 3) := by decide +kernel
theorem dX4_firstNotFailed_59 : decode cX4_firstNotFailed 59 = .ok (.iload_n 3, 1) := by decide +kernel
theorem dX4_firstNotFailed_60 : decode cX4_firstNotFailed 60 = .ok (.iaload, 1) := by decide +kernel
theorem dX4_firstNotFailed_61 : decode cX4_firstNotFailed 61 = .ok (.aload_n 0, 1) := by decide +kernel
theorem dX4_firstNotFailed_62 : decode cX4_firstNotFailed 62 = .ok (.getfield 25, 3) := by decide +kernel
theorem dX4_firstNotFailed_65 : decode cX4_firstNotFailed 65 = .ok (.iload_n 2, 1) := by decide +kernel
theorem dX4_firstNotFailed_66 : decode cX4_firstNotFailed 66 = .ok (.iaload, 1) := by decide +kernel
theorem dX4_firstNotFailed_67 : decode cX4_firstNotFailed 67 = .ok (.if_icmp .le 5, 3) := by decide +kernel
set_option maxHeartbeats 4000000 in
set_option maxRecDepth 100000 in
theorem s_X4_fnf (l : Launch) (D : va_G) (ad : Nat → Nat) (cs : Nat → ClassId) (M : MI) (L : ML) (x : Int32) (hI : IC M) : Ci l yX4_firstNotFailed wsX4_firstNotFailed ({ frames := 0, cells := 0, slots := 0, locals := 0 }) D ad cs [.ref (ad 81), .int x] M L (fun r M1 L1 => M1 = M ∧ L1 = L ∧ (r.toInt = -9 ∨ 0 ≤ r.toInt) ∧ r.toInt < 20) := by
  refine enter_i RX4 rfl [(0, .ref (ad 81)), (1, .int x)] rfl (Nat.le_of_ble_eq_true rfl) (by decide +kernel) rfl ?_
  intro p e s m below meth c C hr
  have hF : ∀ k, True → M k = M k := fun _ _ => rfl
  have hG : ∀ k, True → L k = L k := fun _ _ => rfl
  refine g_bipush C (-9) dX4_firstNotFailed_0 (by decide) ?_
  refine g_istore_n C [(2, .int ((-9))), (0, .ref (ad 81)), (1, .int x)] dX4_firstNotFailed_2 (by decide) rfl ?_
  refine g_iconst C 0 dX4_firstNotFailed_3 (by decide) ?_
  refine g_istore_n C [(3, .int 0), (2, .int ((-9))), (0, .ref (ad 81)), (1, .int x)] dX4_firstNotFailed_4 (by decide) rfl ?_
  have zy1 : (0 : Int32).toInt = 0 := by decide
  have zy2 : ((-9) : Int32).toInt = (-9) := by decide
  refine g_loop (α := Int32 × Int32 × MI × ML) (fun a => (21 - a.1.toInt).toNat) (fun a => 0 ≤ a.1.toInt ∧ a.1.toInt ≤ 20 ∧ (a.2.1.toInt = -9 ∨ 0 ≤ a.2.1.toInt) ∧ a.2.1.toInt < 20 ∧ IC a.2.2.1 ∧ (∀ k, True → a.2.2.1 k = M k) ∧ (∀ k, True → a.2.2.2 k = L k)) (fun a => a.2.2.1) (fun a => a.2.2.2) (fun a => [(3, .int a.1), (2, .int a.2.1), (0, .ref (ad 81)), (1, .int x)]) (0, ((-9)), M, L) ⟨by show 0 ≤ (0 : Int32).toInt; omega, by show (0 : Int32).toInt ≤ 20; omega, by show ((((-9)) : Int32).toInt = -9 ∨ 0 ≤ (((-9)) : Int32).toInt); omega, by show (((-9)) : Int32).toInt < 20; omega, hI, hF, hG⟩ rfl rfl rfl ?_
  rintro ⟨x3_5, x2_5, M_5, L_5⟩ ⟨j5_0, j5_1, j5_2, j5_3, hI, hF, hG⟩ ih_5
  dsimp only at j5_0 j5_1 j5_2 j5_3 hI hF hG ih_5 ⊢
  refine g_iload_n C 0 dX4_firstNotFailed_5 rfl ?_
  refine g_aload_n C 2 dX4_firstNotFailed_6 rfl ?_
  refine g_get C (.int (M_5 81 0)) 0 in_X4_firstNotFailed_4 (List.mem_of_getElem? (i := 1) rfl) (by decide) (ce_meth ad cs _ _) rfl (by decide) rfl rfl dX4_firstNotFailed_7 ?_
  refine g_ni (fun v3 ev3 => ?_)
  have tv3 := congrArg Int32.toInt ev3
  obtain ⟨bv3, dv3⟩ := (show rg 0 20 v3 from (by rw [ev3]; exact hI 81 0 rfl))
  refine g_icmp_ge C 78 dX4_firstNotFailed_10 (by decide) (fun c4 => ?_) (fun c4 => ?_)
  ·
    have f5 := fle rfl rfl c4
    refine g_iload_n C 1 dX4_firstNotFailed_78 rfl ?_
    exact g_iret C hr ⟨funext (fun k => hF k trivial), funext (fun k => hG k trivial), by omega, by omega⟩ dX4_firstNotFailed_79
  ·
    have f6 := fnle rfl rfl c4
    refine g_aload_n C 2 dX4_firstNotFailed_13 rfl ?_
    refine g_get C (.ref (ad 86)) 5 in_X4_firstNotFailed_4 (List.mem_of_getElem? (i := 2) rfl) (by decide) (ce_meth ad cs _ _) rfl (by decide) rfl rfl dX4_firstNotFailed_14 ?_
    refine g_iload_n C 0 dX4_firstNotFailed_17 rfl ?_
    refine g_iald C (by decide) (ce_mmarks ad cs _ _) (fin' (n := 20) rfl (by omega) (by omega)) dX4_firstNotFailed_18 ?_
    refine g_ni (fun v7 ev7 => ?_)
    have tv7 := congrArg Int32.toInt ev7
    refine g_iload_n C 3 dX4_firstNotFailed_19 rfl ?_
    refine g_ishr C dX4_firstNotFailed_20 ?_
    refine g_ni (fun v8 ev8 => ?_)
    refine g_iconst C 1 dX4_firstNotFailed_21 (by decide) ?_
    refine g_iand C dX4_firstNotFailed_22 ?_
    refine g_ni (fun v9 ev9 => ?_)
    refine g_iconst C 1 dX4_firstNotFailed_23 (by decide) ?_
    refine g_icmp_ne C 41 dX4_firstNotFailed_24 (by decide) (fun c10 => ?_) (fun c10 => ?_)
    ·
      have f11 := fne rfl (by decide : (1 : Int32).toInt = 1) c10
      refine g_iconst C 0 dX4_firstNotFailed_41 (by decide) ?_
      refine g_istore C [(4, .int 0), (3, .int x3_5), (2, .int x2_5), (0, .ref (ad 81)), (1, .int x)] dX4_firstNotFailed_42 (by decide) rfl ?_
      refine g_iload C 0 dX4_firstNotFailed_44 rfl ?_
      refine g_if_eq C 72 dX4_firstNotFailed_46 (by decide) (fun _ => ?_) (fun c12 => absurd c12 (by decide))
      obtain ⟨v13, ev13⟩ : ∃ y : Int32, y = x3_5 + 1 := ⟨_, rfl⟩
      try have fv13 := fadd rfl (by decide : (1 : Int32).toInt = 1) ev13 (by omega) (by omega)
      refine g_iinc C 1 v13 [(3, .int v13), (4, .int 0), (2, .int x2_5), (0, .ref (ad 81)), (1, .int x)] dX4_firstNotFailed_72 rfl (by rw [ev13]; rfl) (by decide) rfl ?_
      refine g_goto C 5 dX4_firstNotFailed_75 (by decide) ?_
      refine g_lv [0, 2, 3, 4] [(3, .int v13), (2, .int x2_5), (0, .ref (ad 81)), (1, .int x)] rfl ?_
      exact ih_5 (v13, x2_5, M_5, L_5) ⟨by show 0 ≤ v13.toInt; omega, by show v13.toInt ≤ 20; omega, by show (x2_5.toInt = -9 ∨ 0 ≤ x2_5.toInt); omega, by show x2_5.toInt < 20; omega, hI, hF, hG⟩ (by show (21 - v13.toInt).toNat < (21 - x3_5.toInt).toNat; omega)
    ·
      have f14 := feq rfl (by decide : (1 : Int32).toInt = 1) c10
      refine g_aload_n C 2 dX4_firstNotFailed_27 rfl ?_
      refine g_get C (.ref (ad 83)) 2 in_X4_firstNotFailed_4 (List.mem_of_getElem? (i := 3) rfl) (by decide) (ce_meth ad cs _ _) rfl (by decide) rfl rfl dX4_firstNotFailed_28 ?_
      refine g_iload_n C 0 dX4_firstNotFailed_31 rfl ?_
      refine g_iald C (by decide) (ce_mbegun ad cs _ _) (fin' (n := 20) rfl (by omega) (by omega)) dX4_firstNotFailed_32 ?_
      refine g_ni (fun v15 ev15 => ?_)
      have tv15 := congrArg Int32.toInt ev15
      refine g_iconst C 2 dX4_firstNotFailed_33 (by decide) ?_
      refine g_icmp_eq C 41 dX4_firstNotFailed_34 (by decide) (fun c16 => ?_) (fun c16 => ?_)
      ·
        have f17 := feq rfl (by decide : (2 : Int32).toInt = 2) c16
        refine g_iconst C 0 dX4_firstNotFailed_41 (by decide) ?_
        refine g_istore C [(4, .int 0), (3, .int x3_5), (2, .int x2_5), (0, .ref (ad 81)), (1, .int x)] dX4_firstNotFailed_42 (by decide) rfl ?_
        refine g_iload C 0 dX4_firstNotFailed_44 rfl ?_
        refine g_if_eq C 72 dX4_firstNotFailed_46 (by decide) (fun _ => ?_) (fun c18 => absurd c18 (by decide))
        obtain ⟨v19, ev19⟩ : ∃ y : Int32, y = x3_5 + 1 := ⟨_, rfl⟩
        try have fv19 := fadd rfl (by decide : (1 : Int32).toInt = 1) ev19 (by omega) (by omega)
        refine g_iinc C 1 v19 [(3, .int v19), (4, .int 0), (2, .int x2_5), (0, .ref (ad 81)), (1, .int x)] dX4_firstNotFailed_72 rfl (by rw [ev19]; rfl) (by decide) rfl ?_
        refine g_goto C 5 dX4_firstNotFailed_75 (by decide) ?_
        refine g_lv [0, 2, 3, 4] [(3, .int v19), (2, .int x2_5), (0, .ref (ad 81)), (1, .int x)] rfl ?_
        exact ih_5 (v19, x2_5, M_5, L_5) ⟨by show 0 ≤ v19.toInt; omega, by show v19.toInt ≤ 20; omega, by show (x2_5.toInt = -9 ∨ 0 ≤ x2_5.toInt); omega, by show x2_5.toInt < 20; omega, hI, hF, hG⟩ (by show (21 - v19.toInt).toNat < (21 - x3_5.toInt).toNat; omega)
      ·
        have f20 := fne rfl (by decide : (2 : Int32).toInt = 2) c16
        refine g_iconst C 1 dX4_firstNotFailed_37 (by decide) ?_
        refine g_goto C 42 dX4_firstNotFailed_38 (by decide) ?_
        refine g_istore C [(4, .int 1), (3, .int x3_5), (2, .int x2_5), (0, .ref (ad 81)), (1, .int x)] dX4_firstNotFailed_42 (by decide) rfl ?_
        refine g_iload C 0 dX4_firstNotFailed_44 rfl ?_
        refine g_if_eq C 72 dX4_firstNotFailed_46 (by decide) (fun c21 => absurd c21 (by decide)) (fun _ => ?_)
        refine g_iload_n C 2 dX4_firstNotFailed_49 rfl ?_
        refine g_bipush C (-9) dX4_firstNotFailed_50 (by decide) ?_
        refine g_icmp_eq C 70 dX4_firstNotFailed_52 (by decide) (fun c22 => ?_) (fun c22 => ?_)
        ·
          have f23 := feq rfl (by decide : ((-9) : Int32).toInt = (-9)) c22
          refine g_iload_n C 1 dX4_firstNotFailed_70 rfl ?_
          refine g_istore_n C [(2, .int x3_5), (4, .int 1), (3, .int x3_5), (0, .ref (ad 81)), (1, .int x)] dX4_firstNotFailed_71 (by decide) rfl ?_
          obtain ⟨v24, ev24⟩ : ∃ y : Int32, y = x3_5 + 1 := ⟨_, rfl⟩
          try have fv24 := fadd rfl (by decide : (1 : Int32).toInt = 1) ev24 (by omega) (by omega)
          refine g_iinc C 2 v24 [(3, .int v24), (2, .int x3_5), (4, .int 1), (0, .ref (ad 81)), (1, .int x)] dX4_firstNotFailed_72 rfl (by rw [ev24]; rfl) (by decide) rfl ?_
          refine g_goto C 5 dX4_firstNotFailed_75 (by decide) ?_
          refine g_lv [0, 1, 3, 4] [(3, .int v24), (2, .int x3_5), (0, .ref (ad 81)), (1, .int x)] rfl ?_
          exact ih_5 (v24, x3_5, M_5, L_5) ⟨by show 0 ≤ v24.toInt; omega, by show v24.toInt ≤ 20; omega, by show (x3_5.toInt = -9 ∨ 0 ≤ x3_5.toInt); omega, by show x3_5.toInt < 20; omega, hI, hF, hG⟩ (by show (21 - v24.toInt).toNat < (21 - x3_5.toInt).toNat; omega)
        ·
          have f25 := fne rfl (by decide : ((-9) : Int32).toInt = (-9)) c22
          refine g_aload_n C 3 dX4_firstNotFailed_55 rfl ?_
          refine g_get C (.ref (ad 85)) 4 in_X4_firstNotFailed_4 (List.mem_of_getElem? (i := 4) rfl) (by decide) (ce_meth ad cs _ _) rfl (by decide) rfl rfl dX4_firstNotFailed_56 ?_
          refine g_iload_n C 1 dX4_firstNotFailed_59 rfl ?_
          refine g_iald C (by decide) (ce_mrank ad cs _ _) (fin' (n := 20) rfl (by omega) (by omega)) dX4_firstNotFailed_60 ?_
          refine g_ni (fun v26 ev26 => ?_)
          have tv26 := congrArg Int32.toInt ev26
          refine g_aload_n C 3 dX4_firstNotFailed_61 rfl ?_
          refine g_get C (.ref (ad 85)) 4 in_X4_firstNotFailed_4 (List.mem_of_getElem? (i := 4) rfl) (by decide) (ce_meth ad cs _ _) rfl (by decide) rfl rfl dX4_firstNotFailed_62 ?_
          refine g_iload_n C 2 dX4_firstNotFailed_65 rfl ?_
          refine g_iald C (by decide) (ce_mrank ad cs _ _) (fin' (n := 20) rfl (by omega) (by omega)) dX4_firstNotFailed_66 ?_
          refine g_ni (fun v27 ev27 => ?_)
          have tv27 := congrArg Int32.toInt ev27
          refine g_icmp_le C 72 dX4_firstNotFailed_67 (by decide) (fun c28 => ?_) (fun c28 => ?_)
          ·
            have f29 := fle rfl rfl c28
            obtain ⟨v30, ev30⟩ : ∃ y : Int32, y = x3_5 + 1 := ⟨_, rfl⟩
            try have fv30 := fadd rfl (by decide : (1 : Int32).toInt = 1) ev30 (by omega) (by omega)
            refine g_iinc C 1 v30 [(3, .int v30), (4, .int 1), (2, .int x2_5), (0, .ref (ad 81)), (1, .int x)] dX4_firstNotFailed_72 rfl (by rw [ev30]; rfl) (by decide) rfl ?_
            refine g_goto C 5 dX4_firstNotFailed_75 (by decide) ?_
            refine g_lv [0, 2, 3, 4] [(3, .int v30), (2, .int x2_5), (0, .ref (ad 81)), (1, .int x)] rfl ?_
            exact ih_5 (v30, x2_5, M_5, L_5) ⟨by show 0 ≤ v30.toInt; omega, by show v30.toInt ≤ 20; omega, by show (x2_5.toInt = -9 ∨ 0 ≤ x2_5.toInt); omega, by show x2_5.toInt < 20; omega, hI, hF, hG⟩ (by show (21 - v30.toInt).toNat < (21 - x3_5.toInt).toNat; omega)
          ·
            have f31 := fnle rfl rfl c28
            refine g_iload_n C 1 dX4_firstNotFailed_70 rfl ?_
            refine g_istore_n C [(2, .int x3_5), (4, .int 1), (3, .int x3_5), (0, .ref (ad 81)), (1, .int x)] dX4_firstNotFailed_71 (by decide) rfl ?_
            obtain ⟨v32, ev32⟩ : ∃ y : Int32, y = x3_5 + 1 := ⟨_, rfl⟩
            try have fv32 := fadd rfl (by decide : (1 : Int32).toInt = 1) ev32 (by omega) (by omega)
            refine g_iinc C 2 v32 [(3, .int v32), (2, .int x3_5), (4, .int 1), (0, .ref (ad 81)), (1, .int x)] dX4_firstNotFailed_72 rfl (by rw [ev32]; rfl) (by decide) rfl ?_
            refine g_goto C 5 dX4_firstNotFailed_75 (by decide) ?_
            refine g_lv [0, 1, 3, 4] [(3, .int v32), (2, .int x3_5), (0, .ref (ad 81)), (1, .int x)] rfl ?_
            exact ih_5 (v32, x3_5, M_5, L_5) ⟨by show 0 ≤ v32.toInt; omega, by show v32.toInt ≤ 20; omega, by show (x3_5.toInt = -9 ∨ 0 ≤ x3_5.toInt); omega, by show x3_5.toInt < 20; omega, hI, hF, hG⟩ (by show (21 - v32.toInt).toNat < (21 - x3_5.toInt).toNat; omega)
theorem dX4_firstToStart_0 : decode cX4_firstToStart 0 = .ok (.iconst 0, 1) := by decide +kernel
theorem dX4_firstToStart_1 : decode cX4_firstToStart 1 = .ok (.istore_n 2, 1) := by decide +kernel
theorem dX4_firstToStart_2 : decode cX4_firstToStart 2 = .ok (.iload_n 2, 1) := by decide +kernel
theorem dX4_firstToStart_3 : decode cX4_firstToStart 3 = .ok (.aload_n 0, 1) := by decide +kernel
theorem dX4_firstToStart_4 : decode cX4_firstToStart 4 = .ok (.getfield 9, 3) := by decide +kernel
theorem in_X4_firstToStart_4 : ∀ w ∈ u_ws RX4 TX4 7, w ∈ wsX4_firstToStart := fun _ h => List.mem_cons_of_mem _ (List.mem_append_right _ h)
theorem dX4_firstToStart_7 : decode cX4_firstToStart 7 = .ok (.if_icmp .ge 32, 3) := by decide +kernel
theorem dX4_firstToStart_39 : decode cX4_firstToStart 39 = .ok (.bipush (-9), 2) := by decide +kernel
theorem dX4_firstToStart_41 : decode cX4_firstToStart 41 = .ok (.ireturn, 1) := by decide +kernel
theorem dX4_firstToStart_10 : decode cX4_firstToStart 10 = .ok (.aload_n 0, 1) := by decide +kernel
theorem dX4_firstToStart_11 : decode cX4_firstToStart 11 = .ok (.iload_n 1, 1) := by decide +kernel
theorem dX4_firstToStart_12 : decode cX4_firstToStart 12 = .ok (.invokevirtual 38, 3) := by decide +kernel
set_option maxRecDepth 20000 in
theorem ggX4_firstToStart_X4_firstNotFailed : GoodIn wsX4_firstToStart wsX4_firstNotFailed := goodIn_r _ [6, 1, 7, 8, 9, 21, 22, 23, 24, 25, 26, 27] (by decide +kernel) (by decide +kernel)
set_option maxRecDepth 20000 in
theorem gX4_firstToStart_X4_firstNotFailed : GoodIn wsX4_firstToStart (wsV RX4 38 RX4 yX4_firstNotFailed wsX4_firstNotFailed) := goodIn_app (goodIn_of _ (by decide +kernel)) ggX4_firstToStart_X4_firstNotFailed
theorem dX4_firstToStart_15 : decode cX4_firstToStart 15 = .ok (.istore_n 3, 1) := by decide +kernel
theorem dX4_firstToStart_16 : decode cX4_firstToStart 16 = .ok (.iload_n 3, 1) := by decide +kernel
theorem dX4_firstToStart_17 : decode cX4_firstToStart 17 = .ok (.bipush (-9), 2) := by decide +kernel
theorem dX4_firstToStart_19 : decode cX4_firstToStart 19 = .ok (.if_icmp .eq 12, 3) := by decide +kernel
theorem dX4_firstToStart_31 : decode cX4_firstToStart 31 = .ok (.iload_n 3, 1) := by decide +kernel
theorem dX4_firstToStart_32 : decode cX4_firstToStart 32 = .ok (.ireturn, 1) := by decide +kernel
theorem dX4_firstToStart_22 : decode cX4_firstToStart 22 = .ok (.aload_n 0, 1) := by decide +kernel
theorem dX4_firstToStart_23 : decode cX4_firstToStart 23 = .ok (.iload_n 3, 1) := by decide +kernel
theorem dX4_firstToStart_24 : decode cX4_firstToStart 24 = .ok (.invokevirtual 42, 3) := by decide +kernel
set_option maxRecDepth 20000 in
theorem ggX4_firstToStart_X4_begin : GoodIn wsX4_firstToStart wsX4_begin := goodIn_r _ [13, 8, 14, 15, 16, 17, 18, 19, 5, 20, 1, 21, 22, 23, 24, 25, 26, 27] (by decide +kernel) (by decide +kernel)
set_option maxRecDepth 20000 in
theorem gX4_firstToStart_X4_begin : GoodIn wsX4_firstToStart (wsV RX4 42 RX4 yX4_begin wsX4_begin) := goodIn_app (goodIn_of _ (by decide +kernel)) ggX4_firstToStart_X4_begin
theorem dX4_firstToStart_27 : decode cX4_firstToStart 27 = .ok (.iconst 1, 1) := by decide +kernel
theorem dX4_firstToStart_28 : decode cX4_firstToStart 28 = .ok (.if_icmp .ne 5, 3) := by decide +kernel
theorem dX4_firstToStart_33 : decode cX4_firstToStart 33 = .ok (.iinc 2 1, 3) := by decide +kernel
theorem dX4_firstToStart_36 : decode cX4_firstToStart 36 = .ok (.goto (-34), 3) := by decide +kernel
set_option maxHeartbeats 4000000 in
set_option maxRecDepth 100000 in
theorem s_X4_fts (l : Launch) (D : va_G) (ad : Nat → Nat) (cs : Nat → ClassId) (M : MI) (L : ML) (x : Int32) (hI : IC M) : Ci l yX4_firstToStart wsX4_firstToStart ({ frames := 2, cells := 0, slots := 0, locals := 46 }) D ad cs [.ref (ad 81), .int x] M L (fun r M1 L1 => (True) ∧ IC M1 ∧ (∀ k, k ≠ 83 ∧ k ≠ 87 → M1 k = M k) ∧ ∀ k, 258 ≤ k → L1 k = L k) := by
  refine enter_i RX4 rfl [(0, .ref (ad 81)), (1, .int x)] rfl (Nat.le_of_ble_eq_true rfl) (by decide +kernel) rfl ?_
  intro p e s m below meth c C hr
  have hF : ∀ k, k ≠ 83 ∧ k ≠ 87 → M k = M k := fun _ _ => rfl
  have hG : ∀ k, 258 ≤ k → L k = L k := fun _ _ => rfl
  refine g_iconst C 0 dX4_firstToStart_0 (by decide) ?_
  refine g_istore_n C [(2, .int 0), (0, .ref (ad 81)), (1, .int x)] dX4_firstToStart_1 (by decide) rfl ?_
  have zy1 : (0 : Int32).toInt = 0 := by decide
  refine g_loop (α := Int32 × MI × ML) (fun a => (21 - a.1.toInt).toNat) (fun a => 0 ≤ a.1.toInt ∧ a.1.toInt ≤ 20 ∧ IC a.2.1 ∧ (∀ k, k ≠ 83 ∧ k ≠ 87 → a.2.1 k = M k) ∧ (∀ k, 258 ≤ k → a.2.2 k = L k)) (fun a => a.2.1) (fun a => a.2.2) (fun a => [(2, .int a.1), (0, .ref (ad 81)), (1, .int x)]) (0, M, L) ⟨by show 0 ≤ (0 : Int32).toInt; omega, by show (0 : Int32).toInt ≤ 20; omega, hI, hF, hG⟩ rfl rfl rfl ?_
  rintro ⟨x2_2, M_2, L_2⟩ ⟨j2_0, j2_1, hI, hF, hG⟩ ih_2
  dsimp only at j2_0 j2_1 hI hF hG ih_2 ⊢
  refine g_iload_n C 0 dX4_firstToStart_2 rfl ?_
  refine g_aload_n C 1 dX4_firstToStart_3 rfl ?_
  refine g_get C (.int (M_2 81 0)) 0 in_X4_firstToStart_4 (List.mem_of_getElem? (i := 1) rfl) (by decide) (ce_meth ad cs _ _) rfl (by decide) rfl rfl dX4_firstToStart_4 ?_
  refine g_ni (fun v2 ev2 => ?_)
  have tv2 := congrArg Int32.toInt ev2
  obtain ⟨bv2, dv2⟩ := (show rg 0 20 v2 from (by rw [ev2]; exact hI 81 0 rfl))
  refine g_icmp_ge C 39 dX4_firstToStart_7 (by decide) (fun c3 => ?_) (fun c3 => ?_)
  ·
    have f4 := fle rfl rfl c3
    refine g_bipush C (-9) dX4_firstToStart_39 (by decide) ?_
    exact g_iret C hr ⟨trivial, hI, hF, hG⟩ dX4_firstToStart_41
  ·
    have f5 := fnle rfl rfl c3
    refine g_aload_n C 1 dX4_firstToStart_10 rfl ?_
    refine g_iload_n C 2 dX4_firstToStart_11 rfl ?_
    refine g_callVi C (n := 1) (As := [.int x]) (st := []) (s_X4_fnf l D ad cs _ _ x hI) gX4_firstToStart_X4_firstNotFailed rfl rfl rfl (by decide +kernel) ⟨Nat.le_of_ble_eq_true rfl, Nat.le_of_ble_eq_true rfl⟩ rfl (Nat.le_of_ble_eq_true rfl) ⟨Nat.zero_le _, Nat.zero_le _⟩ (by decide) (ce_meth ad cs _ _) rfl rfl dX4_firstToStart_12 (fun r6 M7 L8 hr6 => ?_)
    obtain ⟨hq1, hq2, hr6⟩ := hr6
    obtain rfl := hq1.symm
    obtain rfl := hq2.symm
    obtain ⟨br6, dr6⟩ := hr6
    refine g_istore_n C [(3, .int r6), (2, .int x2_2), (0, .ref (ad 81)), (1, .int x)] dX4_firstToStart_15 (by decide) rfl ?_
    refine g_iload_n C 0 dX4_firstToStart_16 rfl ?_
    refine g_bipush C (-9) dX4_firstToStart_17 (by decide) ?_
    refine g_icmp_eq C 31 dX4_firstToStart_19 (by decide) (fun c9 => ?_) (fun c9 => ?_)
    ·
      have f10 := feq rfl (by decide : ((-9) : Int32).toInt = (-9)) c9
      refine g_iload_n C 0 dX4_firstToStart_31 rfl ?_
      exact g_iret C hr ⟨trivial, hI, hF, hG⟩ dX4_firstToStart_32
    ·
      have f11 := fne rfl (by decide : ((-9) : Int32).toInt = (-9)) c9
      refine g_aload_n C 2 dX4_firstToStart_22 rfl ?_
      refine g_iload_n C 0 dX4_firstToStart_23 rfl ?_
      refine g_callVi C (n := 1) (As := [.int r6]) (st := []) (s_X4_begin l D ad cs _ _ r6 hI ⟨by omega, by omega⟩) gX4_firstToStart_X4_begin rfl rfl rfl (by decide +kernel) ⟨Nat.le_of_ble_eq_true rfl, Nat.le_of_ble_eq_true rfl⟩ rfl (Nat.le_of_ble_eq_true rfl) ⟨Nat.zero_le _, Nat.zero_le _⟩ (by decide) (ce_meth ad cs _ _) rfl rfl dX4_firstToStart_24 (fun r12 M13 L14 hr12 => ?_)
      obtain ⟨hr12, hI, hF1, hG1⟩ := hr12
      have hF : ∀ k, k ≠ 83 ∧ k ≠ 87 → M13 k = M k := fun k hk => by (rw [hF1 k (by omega)]; try exact hF k hk)
      have hG : ∀ k, 258 ≤ k → L14 k = L k := fun k hk => by (rw [hG1 k hk]; try exact hG k hk)
      refine g_iconst C 1 dX4_firstToStart_27 (by decide) ?_
      refine g_icmp_ne C 33 dX4_firstToStart_28 (by decide) (fun c15 => ?_) (fun c15 => ?_)
      ·
        have f16 := fne rfl (by decide : (1 : Int32).toInt = 1) c15
        obtain ⟨v17, ev17⟩ : ∃ y : Int32, y = x2_2 + 1 := ⟨_, rfl⟩
        try have fv17 := fadd rfl (by decide : (1 : Int32).toInt = 1) ev17 (by omega) (by omega)
        refine g_iinc C 1 v17 [(2, .int v17), (3, .int r6), (0, .ref (ad 81)), (1, .int x)] dX4_firstToStart_33 rfl (by rw [ev17]; rfl) (by decide) rfl ?_
        refine g_goto C 2 dX4_firstToStart_36 (by decide) ?_
        refine g_lv [0, 2, 3] [(2, .int v17), (0, .ref (ad 81)), (1, .int x)] rfl ?_
        exact ih_2 (v17, M13, L14) ⟨by show 0 ≤ v17.toInt; omega, by show v17.toInt ≤ 20; omega, hI, hF, hG⟩ (by show (21 - v17.toInt).toNat < (21 - x2_2.toInt).toNat; omega)
      ·
        have f18 := feq rfl (by decide : (1 : Int32).toInt = 1) c15
        refine g_iload_n C 0 dX4_firstToStart_31 rfl ?_
        exact g_iret C hr ⟨trivial, hI, hF, hG⟩ dX4_firstToStart_32
theorem dX1_come_0 : decode cX1_come 0 = .ok (.aload_n 0, 1) := by decide +kernel
theorem dX1_come_1 : decode cX1_come 1 = .ok (.getfield 9, 3) := by decide +kernel
theorem in_X1_come_1 : ∀ w ∈ u_ws RX1 TX1 5, w ∈ wsX1_come := fun _ h => List.mem_cons_of_mem _ (List.mem_append_right _ h)
theorem dX1_come_4 : decode cX1_come 4 = .ok (.bipush 8, 2) := by decide +kernel
theorem dX1_come_6 : decode cX1_come 6 = .ok (.if_icmp .ne 6, 3) := by decide +kernel
theorem dX1_come_12 : decode cX1_come 12 = .ok (.aload_n 0, 1) := by decide +kernel
theorem dX1_come_13 : decode cX1_come 13 = .ok (.getfield 15, 3) := by decide +kernel
theorem dX1_come_16 : decode cX1_come 16 = .ok (.aload_n 0, 1) := by decide +kernel
theorem dX1_come_17 : decode cX1_come 17 = .ok (.getfield 9, 3) := by decide +kernel
theorem dX1_come_20 : decode cX1_come 20 = .ok (.iload_n 1, 1) := by decide +kernel
theorem dX1_come_21 : decode cX1_come 21 = .ok (.iastore, 1) := by decide +kernel
theorem dX1_come_22 : decode cX1_come 22 = .ok (.aload_n 0, 1) := by decide +kernel
theorem dX1_come_23 : decode cX1_come 23 = .ok (.getfield 19, 3) := by decide +kernel
theorem dX1_come_26 : decode cX1_come 26 = .ok (.aload_n 0, 1) := by decide +kernel
theorem dX1_come_27 : decode cX1_come 27 = .ok (.getfield 9, 3) := by decide +kernel
theorem dX1_come_30 : decode cX1_come 30 = .ok (.iload_n 2, 1) := by decide +kernel
theorem dX1_come_31 : decode cX1_come 31 = .ok (.iastore, 1) := by decide +kernel
theorem dX1_come_32 : decode cX1_come 32 = .ok (.iconst 0, 1) := by decide +kernel
theorem dX1_come_33 : decode cX1_come 33 = .ok (.istore_n 3, 1) := by decide +kernel
theorem dX1_come_34 : decode cX1_come 34 = .ok (.iload_n 3, 1) := by decide +kernel
theorem dX1_come_35 : decode cX1_come 35 = .ok (.iload_n 2, 1) := by decide +kernel
theorem dX1_come_36 : decode cX1_come 36 = .ok (.if_icmp .ge 22, 3) := by decide +kernel
theorem dX1_come_58 : decode cX1_come 58 = .ok (.aload_n 0, 1) := by decide +kernel
theorem dX1_come_59 : decode cX1_come 59 = .ok (.dup, 1) := by decide +kernel
theorem dX1_come_60 : decode cX1_come 60 = .ok (.getfield 9, 3) := by decide +kernel
theorem dX1_come_63 : decode cX1_come 63 = .ok (.iconst 1, 1) := by decide +kernel
theorem dX1_come_64 : decode cX1_come 64 = .ok (.iadd, 1) := by decide +kernel
theorem dX1_come_65 : decode cX1_come 65 = .ok (.putfield 9, 3) := by decide +kernel
theorem dX1_come_68 : decode cX1_come 68 = .ok (.aload_n 0, 1) := by decide +kernel
theorem dX1_come_69 : decode cX1_come 69 = .ok (.getfield 9, 3) := by decide +kernel
theorem dX1_come_72 : decode cX1_come 72 = .ok (.iconst 1, 1) := by decide +kernel
theorem dX1_come_73 : decode cX1_come 73 = .ok (.isub, 1) := by decide +kernel
theorem dX1_come_74 : decode cX1_come 74 = .ok (.ireturn, 1) := by decide +kernel
theorem dX1_come_39 : decode cX1_come 39 = .ok (.aload_n 0, 1) := by decide +kernel
theorem dX1_come_40 : decode cX1_come 40 = .ok (.getfield 24, 3) := by decide +kernel
theorem dX1_come_43 : decode cX1_come 43 = .ok (.aload_n 0, 1) := by decide +kernel
theorem dX1_come_44 : decode cX1_come 44 = .ok (.getfield 9, 3) := by decide +kernel
theorem dX1_come_47 : decode cX1_come 47 = .ok (.aaload, 1) := by decide +kernel
theorem dX1_come_48 : decode cX1_come 48 = .ok (.iload_n 3, 1) := by decide +kernel
theorem dX1_come_49 : decode cX1_come 49 = .ok (.bipush (-9), 2) := by decide +kernel
theorem dX1_come_51 : decode cX1_come 51 = .ok (.iastore, 1) := by decide +kernel
theorem dX1_come_52 : decode cX1_come 52 = .ok (.iinc 3 1, 3) := by decide +kernel
theorem dX1_come_55 : decode cX1_come 55 = .ok (.goto (-21), 3) := by decide +kernel
theorem dX1_come_9 : decode cX1_come 9 = .ok (.bipush (-2), 2) := by decide +kernel
theorem dX1_come_11 : decode cX1_come 11 = .ok (.ireturn, 1) := by decide +kernel
set_option maxHeartbeats 4000000 in
set_option maxRecDepth 100000 in
theorem s_X1_come (l : Launch) (D : va_G) (ad : Nat → Nat) (cs : Nat → ClassId) (M : MI) (L : ML) (x : Int32) (n : Int32) (hI : IC M) (hn : 0 ≤ n.toInt ∧ n.toInt ≤ 40) : Ci l yX1_come wsX1_come ({ frames := 0, cells := 0, slots := 0, locals := 0 }) D ad cs [.ref (ad 68), .int x, .int n] M L (fun r M1 L1 => (True) ∧ IC M1 ∧ (∀ k, k ≠ 68 ∧ k ≠ 69 ∧ k ≠ 70 ∧ ¬ (73 ≤ k ∧ k < 81) → M1 k = M k) ∧ ∀ k, 258 ≤ k → L1 k = L k) := by
  refine enter_i RX1 rfl [(0, .ref (ad 68)), (1, .int x), (2, .int n)] rfl (Nat.le_of_ble_eq_true rfl) (by decide +kernel) rfl ?_
  intro p e s m below meth c C hr
  have hF : ∀ k, k ≠ 68 ∧ k ≠ 69 ∧ k ≠ 70 ∧ ¬ (73 ≤ k ∧ k < 81) → M k = M k := fun _ _ => rfl
  have hG : ∀ k, 258 ≤ k → L k = L k := fun _ _ => rfl
  obtain ⟨hn1, hn2⟩ := hn
  refine g_aload_n C 0 dX1_come_0 rfl ?_
  refine g_get C (.int (M 68 0)) 0 in_X1_come_1 (List.mem_of_getElem? (i := 1) rfl) (by decide) (ce_box ad cs _ _) rfl (by decide) rfl rfl dX1_come_1 ?_
  refine g_ni (fun v1 ev1 => ?_)
  have tv1 := congrArg Int32.toInt ev1
  obtain ⟨bv1, dv1⟩ := (show rg 0 8 v1 from (by rw [ev1]; exact hI 68 0 rfl))
  refine g_bipush C 8 dX1_come_4 (by decide) ?_
  refine g_icmp_ne C 12 dX1_come_6 (by decide) (fun c2 => ?_) (fun c2 => ?_)
  ·
    have f3 := fne rfl (by decide : (8 : Int32).toInt = 8) c2
    refine g_aload_n C 0 dX1_come_12 rfl ?_
    refine g_get C (.ref (ad 69)) 1 in_X1_come_1 (List.mem_of_getElem? (i := 2) rfl) (by decide) (ce_box ad cs _ _) rfl (by decide) rfl rfl dX1_come_13 ?_
    refine g_aload_n C 0 dX1_come_16 rfl ?_
    refine g_get C (.int (M 68 0)) 0 in_X1_come_1 (List.mem_of_getElem? (i := 1) rfl) (by decide) (ce_box ad cs _ _) rfl (by decide) rfl rfl dX1_come_17 ?_
    refine g_ni (fun v4 ev4 => ?_)
    have tv4 := congrArg Int32.toInt ev4
    obtain ⟨bv4, dv4⟩ := (show rg 0 8 v4 from (by rw [ev4]; exact hI 68 0 rfl))
    have uv4 : v4 = v1 := by rw [ev4]; exact ev1.symm
    have wv4 := congrArg Int32.toInt uv4
    refine g_iload_n C 1 dX1_come_20 rfl ?_
    refine g_iast C (by decide) (ce_xsort ad cs _ _) (by rw [sI_k]; rfl) (fin' (n := 8) rfl (by omega) (by omega)) dX1_come_21 ?_
    refine g_nm (fun M5 hM5 => ?_)
    have hI : IC M5 := by rw [hM5]; exact hI.st trivial
    have hF : ∀ k, k ≠ 68 ∧ k ≠ 69 ∧ k ≠ 70 ∧ ¬ (73 ≤ k ∧ k < 81) → M5 k = M k := fun k hk => by (rw [hM5, sI_n _ _ _ (by omega)]; try exact hF k hk)
    refine g_aload_n C 0 dX1_come_22 rfl ?_
    refine g_get C (.ref (ad 70)) 2 in_X1_come_1 (List.mem_of_getElem? (i := 3) rfl) (by decide) (ce_box ad cs _ _) rfl (by decide) rfl rfl dX1_come_23 ?_
    refine g_aload_n C 0 dX1_come_26 rfl ?_
    refine g_get C (.int (M5 68 0)) 0 in_X1_come_1 (List.mem_of_getElem? (i := 1) rfl) (by decide) (ce_box ad cs _ _) rfl (by decide) rfl rfl dX1_come_27 ?_
    refine g_ni (fun v6 ev6 => ?_)
    have tv6 := congrArg Int32.toInt ev6
    obtain ⟨bv6, dv6⟩ := (show rg 0 8 v6 from (by rw [ev6]; exact hI 68 0 rfl))
    have uv6 : v6 = v4 := by rw [ev6, hM5, sI_n _ _ _ (by decide)]; exact ev4.symm
    have wv6 := congrArg Int32.toInt uv6
    refine g_iload_n C 2 dX1_come_30 rfl ?_
    refine g_iast C (by decide) (ce_xsize ad cs _ _) (by rw [sI_k]; rfl) (fin' (n := 8) rfl (by omega) (by omega)) dX1_come_31 ?_
    refine g_nm (fun M7 hM7 => ?_)
    have hI : IC M7 := by rw [hM7]; exact hI.st ⟨by first | omega | decide, by first | omega | decide⟩
    have hF : ∀ k, k ≠ 68 ∧ k ≠ 69 ∧ k ≠ 70 ∧ ¬ (73 ≤ k ∧ k < 81) → M7 k = M k := fun k hk => by (rw [hM7, sI_n _ _ _ (by omega)]; try exact hF k hk)
    refine g_iconst C 0 dX1_come_32 (by decide) ?_
    refine g_istore_n C [(3, .int 0), (0, .ref (ad 68)), (1, .int x), (2, .int n)] dX1_come_33 (by decide) rfl ?_
    have zy8 : (0 : Int32).toInt = 0 := by decide
    have uhm9 : M7 68 0 = v6 := by rw [hM7, sI_n _ _ _ (by decide)]; exact ev6.symm
    have hm9 : (M7 68 0).toInt < 8 := by rw [uhm9]; omega
    refine g_loop (α := Int32 × MI × ML) (fun a => (41 - a.1.toInt).toNat) (fun a => 0 ≤ a.1.toInt ∧ a.1.toInt ≤ 40 ∧ (a.2.1 68 0).toInt < 8 ∧ IC a.2.1 ∧ (∀ k, k ≠ 68 ∧ k ≠ 69 ∧ k ≠ 70 ∧ ¬ (73 ≤ k ∧ k < 81) → a.2.1 k = M k) ∧ (∀ k, 258 ≤ k → a.2.2 k = L k)) (fun a => a.2.1) (fun a => a.2.2) (fun a => [(3, .int a.1), (0, .ref (ad 68)), (1, .int x), (2, .int n)]) (0, M7, L) ⟨by show 0 ≤ (0 : Int32).toInt; omega, by show (0 : Int32).toInt ≤ 40; omega, hm9, hI, hF, hG⟩ rfl rfl rfl ?_
    rintro ⟨x3_34, M_34, L_34⟩ ⟨j34_0, j34_1, jm34_0, hI, hF, hG⟩ ih_34
    dsimp only at j34_0 j34_1 jm34_0 hI hF hG ih_34 ⊢
    refine g_iload_n C 0 dX1_come_34 rfl ?_
    refine g_iload_n C 3 dX1_come_35 rfl ?_
    refine g_icmp_ge C 58 dX1_come_36 (by decide) (fun c10 => ?_) (fun c10 => ?_)
    ·
      have f11 := fle rfl rfl c10
      refine g_aload_n C 1 dX1_come_58 rfl ?_
      refine g_dup C dX1_come_59 rfl ?_
      refine g_get C (.int (M_34 68 0)) 0 in_X1_come_1 (List.mem_of_getElem? (i := 1) rfl) (by decide) (ce_box ad cs _ _) rfl (by decide) rfl rfl dX1_come_60 ?_
      refine g_ni (fun v12 ev12 => ?_)
      have tv12 := congrArg Int32.toInt ev12
      obtain ⟨bv12, dv12⟩ := (show rg 0 8 v12 from (by rw [ev12]; exact hI 68 0 rfl))
      refine g_iconst C 1 dX1_come_63 (by decide) ?_
      refine g_iadd C dX1_come_64 ?_
      refine g_ni (fun v13 ev13 => ?_)
      try have fv13 := fadd rfl (by decide : (1 : Int32).toInt = 1) ev13 (by omega) (by omega)
      refine g_putI C 0 in_X1_come_1 (List.mem_of_getElem? (i := 1) rfl) (by decide) (ce_box ad cs _ _) rfl (by decide) rfl tyX1 tyX1_ok nmX1 rfl rfl rfl rfl (Nat.le_of_ble_eq_true rfl) (by rw [sI_k]; rfl) dX1_come_65 ?_
      refine g_nm (fun M14 hM14 => ?_)
      have hI : IC M14 := by rw [hM14]; exact hI.st (fun _ => ⟨by first | omega | decide, by first | omega | decide⟩)
      have hF : ∀ k, k ≠ 68 ∧ k ≠ 69 ∧ k ≠ 70 ∧ ¬ (73 ≤ k ∧ k < 81) → M14 k = M k := fun k hk => by (rw [hM14, sI_n _ _ _ (by omega)]; try exact hF k hk)
      refine g_aload_n C 1 dX1_come_68 rfl ?_
      refine g_get C (.int (M14 68 0)) 0 in_X1_come_1 (List.mem_of_getElem? (i := 1) rfl) (by decide) (ce_box ad cs _ _) rfl (by decide) rfl rfl dX1_come_69 ?_
      refine g_ni (fun v15 ev15 => ?_)
      have tv15 := congrArg Int32.toInt ev15
      obtain ⟨bv15, dv15⟩ := (show rg 0 8 v15 from (by rw [ev15]; exact hI 68 0 rfl))
      have uv15 : v15 = v13 := by rw [ev15, hM14, sI_at, if_pos (by decide)]
      have wv15 := congrArg Int32.toInt uv15
      refine g_iconst C 1 dX1_come_72 (by decide) ?_
      refine g_isub C dX1_come_73 ?_
      refine g_ni (fun v16 ev16 => ?_)
      try have fv16 := fsub rfl (by decide : (1 : Int32).toInt = 1) ev16 (by omega) (by omega)
      exact g_iret C hr ⟨trivial, hI, hF, hG⟩ dX1_come_74
    ·
      have f17 := fnle rfl rfl c10
      refine g_aload_n C 1 dX1_come_39 rfl ?_
      refine g_get C (.ref (ad 71)) 3 in_X1_come_1 (List.mem_of_getElem? (i := 4) rfl) (by decide) (ce_box ad cs _ _) rfl (by decide) rfl rfl dX1_come_40 ?_
      refine g_aload_n C 1 dX1_come_43 rfl ?_
      refine g_get C (.int (M_34 68 0)) 0 in_X1_come_1 (List.mem_of_getElem? (i := 1) rfl) (by decide) (ce_box ad cs _ _) rfl (by decide) rfl rfl dX1_come_44 ?_
      refine g_ni (fun v18 ev18 => ?_)
      have tv18 := congrArg Int32.toInt ev18
      obtain ⟨bv18, dv18⟩ := (show rg 0 8 v18 from (by rw [ev18]; exact hI 68 0 rfl))
      have hi19 : vp_in v18 8 := (fin' (n := 8) rfl (by omega) (by omega))
      have nhi19 := tn hi19
      refine g_aald C (by decide) (ce_xplacem ad cs _ _) rfl hi19 dX1_come_47 ?_
      refine g_iload_n C 0 dX1_come_48 rfl ?_
      refine g_bipush C (-9) dX1_come_49 (by decide) ?_
      refine g_iast C (by omega) (ce_xplace ad cs _ _ nhi19) (by rw [sI_k]; exact (ce_xplace ad cs _ _ nhi19)) (fin' (n := 40) rfl (by omega) (by omega)) dX1_come_51 ?_
      refine g_nm (fun M20 hM20 => ?_)
      have hI : IC M20 := by rw [hM20]; exact hI.st (bC_free (by omega) (by omega) (by omega) (by omega) (by omega) (by omega) (by omega))
      have hF : ∀ k, k ≠ 68 ∧ k ≠ 69 ∧ k ≠ 70 ∧ ¬ (73 ≤ k ∧ k < 81) → M20 k = M k := fun k hk => by (rw [hM20, sI_n _ _ _ (by omega)]; try exact hF k hk)
      obtain ⟨v21, ev21⟩ : ∃ y : Int32, y = x3_34 + 1 := ⟨_, rfl⟩
      try have fv21 := fadd rfl (by decide : (1 : Int32).toInt = 1) ev21 (by omega) (by omega)
      refine g_iinc C 0 v21 [(3, .int v21), (0, .ref (ad 68)), (1, .int x), (2, .int n)] dX1_come_52 rfl (by rw [ev21]; rfl) (by decide) rfl ?_
      refine g_goto C 34 dX1_come_55 (by decide) ?_
      have uhm22 : M20 68 0 = v18 := by rw [hM20, sI_n _ _ _ (by omega)]; exact ev18.symm
      have hm22 : (M20 68 0).toInt < 8 := by rw [uhm22]; omega
      exact ih_34 (v21, M20, L_34) ⟨by show 0 ≤ v21.toInt; omega, by show v21.toInt ≤ 40; omega, hm22, hI, hF, hG⟩ (by show (41 - v21.toInt).toNat < (41 - x3_34.toInt).toNat; omega)
  ·
    have f23 := feq rfl (by decide : (8 : Int32).toInt = 8) c2
    refine g_bipush C (-2) dX1_come_9 (by decide) ?_
    exact g_iret C hr ⟨trivial, hI, hF, hG⟩ dX1_come_11
theorem dX1_copy_0 : decode cX1_copy 0 = .ok (.iconst 0, 1) := by decide +kernel
theorem dX1_copy_1 : decode cX1_copy 1 = .ok (.istore 6, 2) := by decide +kernel
theorem dX1_copy_3 : decode cX1_copy 3 = .ok (.iload 6, 2) := by decide +kernel
theorem dX1_copy_5 : decode cX1_copy 5 = .ok (.iload 5, 2) := by decide +kernel
theorem dX1_copy_7 : decode cX1_copy 7 = .ok (.if_icmp .ge 27, 3) := by decide +kernel
theorem dX1_copy_34 : decode cX1_copy 34 = .ok (.iconst 0, 1) := by decide +kernel
theorem dX1_copy_35 : decode cX1_copy 35 = .ok (.istore 6, 2) := by decide +kernel
theorem dX1_copy_37 : decode cX1_copy 37 = .ok (.iload 6, 2) := by decide +kernel
theorem dX1_copy_39 : decode cX1_copy 39 = .ok (.iload 5, 2) := by decide +kernel
theorem dX1_copy_41 : decode cX1_copy 41 = .ok (.if_icmp .ge 28, 3) := by decide +kernel
theorem dX1_copy_69 : decode cX1_copy 69 = .ok (.return_, 1) := by decide +kernel
theorem dX1_copy_44 : decode cX1_copy 44 = .ok (.aload_n 0, 1) := by decide +kernel
theorem dX1_copy_45 : decode cX1_copy 45 = .ok (.getfield 24, 3) := by decide +kernel
theorem in_X1_copy_1 : ∀ w ∈ u_ws RX1 TX1 5, w ∈ wsX1_copy := fun _ h => List.mem_cons_of_mem _ (List.mem_append_right _ h)
theorem dX1_copy_48 : decode cX1_copy 48 = .ok (.iload_n 3, 1) := by decide +kernel
theorem dX1_copy_49 : decode cX1_copy 49 = .ok (.aaload, 1) := by decide +kernel
theorem dX1_copy_50 : decode cX1_copy 50 = .ok (.iload 4, 2) := by decide +kernel
theorem dX1_copy_52 : decode cX1_copy 52 = .ok (.iload 6, 2) := by decide +kernel
theorem dX1_copy_54 : decode cX1_copy 54 = .ok (.iadd, 1) := by decide +kernel
theorem dX1_copy_55 : decode cX1_copy 55 = .ok (.aload_n 0, 1) := by decide +kernel
theorem dX1_copy_56 : decode cX1_copy 56 = .ok (.getfield 27, 3) := by decide +kernel
theorem dX1_copy_59 : decode cX1_copy 59 = .ok (.iload 6, 2) := by decide +kernel
theorem dX1_copy_61 : decode cX1_copy 61 = .ok (.iaload, 1) := by decide +kernel
theorem dX1_copy_62 : decode cX1_copy 62 = .ok (.iastore, 1) := by decide +kernel
theorem dX1_copy_63 : decode cX1_copy 63 = .ok (.iinc 6 1, 3) := by decide +kernel
theorem dX1_copy_66 : decode cX1_copy 66 = .ok (.goto (-29), 3) := by decide +kernel
theorem dX1_copy_10 : decode cX1_copy 10 = .ok (.aload_n 0, 1) := by decide +kernel
theorem dX1_copy_11 : decode cX1_copy 11 = .ok (.getfield 27, 3) := by decide +kernel
theorem dX1_copy_14 : decode cX1_copy 14 = .ok (.iload 6, 2) := by decide +kernel
theorem dX1_copy_16 : decode cX1_copy 16 = .ok (.aload_n 0, 1) := by decide +kernel
theorem dX1_copy_17 : decode cX1_copy 17 = .ok (.getfield 24, 3) := by decide +kernel
theorem dX1_copy_20 : decode cX1_copy 20 = .ok (.iload_n 1, 1) := by decide +kernel
theorem dX1_copy_21 : decode cX1_copy 21 = .ok (.aaload, 1) := by decide +kernel
theorem dX1_copy_22 : decode cX1_copy 22 = .ok (.iload_n 2, 1) := by decide +kernel
theorem dX1_copy_23 : decode cX1_copy 23 = .ok (.iload 6, 2) := by decide +kernel
theorem dX1_copy_25 : decode cX1_copy 25 = .ok (.iadd, 1) := by decide +kernel
theorem dX1_copy_26 : decode cX1_copy 26 = .ok (.iaload, 1) := by decide +kernel
theorem dX1_copy_27 : decode cX1_copy 27 = .ok (.iastore, 1) := by decide +kernel
theorem dX1_copy_28 : decode cX1_copy 28 = .ok (.iinc 6 1, 3) := by decide +kernel
theorem dX1_copy_31 : decode cX1_copy 31 = .ok (.goto (-28), 3) := by decide +kernel
set_option maxHeartbeats 4000000 in
set_option maxRecDepth 100000 in
theorem s_X1_copy (l : Launch) (D : va_G) (ad : Nat → Nat) (cs : Nat → ClassId) (M : MI) (L : ML) (x : Int32) (i : Int32) (y : Int32) (j : Int32) (n : Int32) (hI : IC M) (hx : 0 ≤ x.toInt ∧ x.toInt < 8) (hy : 0 ≤ y.toInt ∧ y.toInt < 8) (hn : 0 ≤ i.toInt ∧ 0 ≤ j.toInt ∧ 0 ≤ n.toInt ∧ i.toInt + n.toInt ≤ 40 ∧ j.toInt + n.toInt ≤ 40) : Cv l yX1_copy wsX1_copy ({ frames := 0, cells := 0, slots := 0, locals := 0 }) D ad cs [.ref (ad 68), .int x, .int i, .int y, .int j, .int n] M L (fun M1 L1 => IC M1 ∧ (∀ k, k ≠ 72 ∧ ¬ (73 ≤ k ∧ k < 81) → M1 k = M k) ∧ ∀ k, 258 ≤ k → L1 k = L k) := by
  refine enter_v RX1 rfl [(0, .ref (ad 68)), (1, .int x), (2, .int i), (3, .int y), (4, .int j), (5, .int n)] rfl (Nat.le_of_ble_eq_true rfl) (by decide +kernel) rfl ?_
  intro p e s m below meth c C hr
  have hF : ∀ k, k ≠ 72 ∧ ¬ (73 ≤ k ∧ k < 81) → M k = M k := fun _ _ => rfl
  have hG : ∀ k, 258 ≤ k → L k = L k := fun _ _ => rfl
  obtain ⟨hx1, hx2⟩ := hx
  obtain ⟨hy1, hy2⟩ := hy
  obtain ⟨hn1, hn2, hn3, hn4, hn5⟩ := hn
  refine g_iconst C 0 dX1_copy_0 (by decide) ?_
  refine g_istore C [(6, .int 0), (0, .ref (ad 68)), (1, .int x), (2, .int i), (3, .int y), (4, .int j), (5, .int n)] dX1_copy_1 (by decide) rfl ?_
  have zy1 : (0 : Int32).toInt = 0 := by decide
  refine g_loop (α := Int32 × MI × ML) (fun a => (41 - a.1.toInt).toNat) (fun a => 0 ≤ a.1.toInt ∧ a.1.toInt ≤ 40 ∧ IC a.2.1 ∧ (∀ k, k ≠ 72 ∧ ¬ (73 ≤ k ∧ k < 81) → a.2.1 k = M k) ∧ (∀ k, 258 ≤ k → a.2.2 k = L k)) (fun a => a.2.1) (fun a => a.2.2) (fun a => [(6, .int a.1), (0, .ref (ad 68)), (1, .int x), (2, .int i), (3, .int y), (4, .int j), (5, .int n)]) (0, M, L) ⟨by show 0 ≤ (0 : Int32).toInt; omega, by show (0 : Int32).toInt ≤ 40; omega, hI, hF, hG⟩ rfl rfl rfl ?_
  rintro ⟨x6_3, M_3, L_3⟩ ⟨j3_0, j3_1, hI, hF, hG⟩ ih_3
  dsimp only at j3_0 j3_1 hI hF hG ih_3 ⊢
  refine g_iload C 0 dX1_copy_3 rfl ?_
  refine g_iload C 6 dX1_copy_5 rfl ?_
  refine g_icmp_ge C 34 dX1_copy_7 (by decide) (fun c2 => ?_) (fun c2 => ?_)
  ·
    have f3 := fle rfl rfl c2
    refine g_iconst C 0 dX1_copy_34 (by decide) ?_
    refine g_istore C [(6, .int 0), (0, .ref (ad 68)), (1, .int x), (2, .int i), (3, .int y), (4, .int j), (5, .int n)] dX1_copy_35 (by decide) rfl ?_
    have zy4 : (0 : Int32).toInt = 0 := by decide
    refine g_loop (α := Int32 × MI × ML) (fun a => (41 - a.1.toInt).toNat) (fun a => 0 ≤ a.1.toInt ∧ a.1.toInt ≤ 40 ∧ IC a.2.1 ∧ (∀ k, k ≠ 72 ∧ ¬ (73 ≤ k ∧ k < 81) → a.2.1 k = M k) ∧ (∀ k, 258 ≤ k → a.2.2 k = L k)) (fun a => a.2.1) (fun a => a.2.2) (fun a => [(6, .int a.1), (0, .ref (ad 68)), (1, .int x), (2, .int i), (3, .int y), (4, .int j), (5, .int n)]) (0, M_3, L_3) ⟨by show 0 ≤ (0 : Int32).toInt; omega, by show (0 : Int32).toInt ≤ 40; omega, hI, hF, hG⟩ rfl rfl rfl ?_
    rintro ⟨x6_37, M_37, L_37⟩ ⟨j37_0, j37_1, hI, hF, hG⟩ ih_37
    dsimp only at j37_0 j37_1 hI hF hG ih_37 ⊢
    refine g_iload C 0 dX1_copy_37 rfl ?_
    refine g_iload C 6 dX1_copy_39 rfl ?_
    refine g_icmp_ge C 69 dX1_copy_41 (by decide) (fun c5 => ?_) (fun c5 => ?_)
    ·
      have f6 := fle rfl rfl c5
      exact g_vret C hr ⟨hI, hF, hG⟩ dX1_copy_69
    ·
      have f7 := fnle rfl rfl c5
      refine g_aload_n C 1 dX1_copy_44 rfl ?_
      refine g_get C (.ref (ad 71)) 3 in_X1_copy_1 (List.mem_of_getElem? (i := 2) rfl) (by decide) (ce_box ad cs _ _) rfl (by decide) rfl rfl dX1_copy_45 ?_
      refine g_iload_n C 4 dX1_copy_48 rfl ?_
      have hi8 : vp_in y 8 := (fin' (n := 8) rfl (by omega) (by omega))
      have nhi8 := tn hi8
      refine g_aald C (by decide) (ce_xplacem ad cs _ _) rfl hi8 dX1_copy_49 ?_
      refine g_iload C 5 dX1_copy_50 rfl ?_
      refine g_iload C 0 dX1_copy_52 rfl ?_
      refine g_iadd C dX1_copy_54 ?_
      refine g_ni (fun v9 ev9 => ?_)
      try have fv9 := fadd rfl rfl ev9 (by omega) (by omega)
      refine g_aload_n C 1 dX1_copy_55 rfl ?_
      refine g_get C (.ref (ad 72)) 4 in_X1_copy_1 (List.mem_of_getElem? (i := 1) rfl) (by decide) (ce_box ad cs _ _) rfl (by decide) rfl rfl dX1_copy_56 ?_
      refine g_iload C 0 dX1_copy_59 rfl ?_
      refine g_iald C (by decide) (ce_xtaken ad cs _ _) (fin' (n := 40) rfl (by omega) (by omega)) dX1_copy_61 ?_
      refine g_ni (fun v10 ev10 => ?_)
      have tv10 := congrArg Int32.toInt ev10
      refine g_iast C (by omega) (ce_xplace ad cs _ _ nhi8) (by rw [sI_k]; exact (ce_xplace ad cs _ _ nhi8)) (fin' (n := 40) rfl (by omega) (by omega)) dX1_copy_62 ?_
      refine g_nm (fun M11 hM11 => ?_)
      have hI : IC M11 := by rw [hM11]; exact hI.st (bC_free (by omega) (by omega) (by omega) (by omega) (by omega) (by omega) (by omega))
      have hF : ∀ k, k ≠ 72 ∧ ¬ (73 ≤ k ∧ k < 81) → M11 k = M k := fun k hk => by (rw [hM11, sI_n _ _ _ (by omega)]; try exact hF k hk)
      obtain ⟨v12, ev12⟩ : ∃ y : Int32, y = x6_37 + 1 := ⟨_, rfl⟩
      try have fv12 := fadd rfl (by decide : (1 : Int32).toInt = 1) ev12 (by omega) (by omega)
      refine g_iinc C 0 v12 [(6, .int v12), (0, .ref (ad 68)), (1, .int x), (2, .int i), (3, .int y), (4, .int j), (5, .int n)] dX1_copy_63 rfl (by rw [ev12]; rfl) (by decide) rfl ?_
      refine g_goto C 37 dX1_copy_66 (by decide) ?_
      exact ih_37 (v12, M11, L_37) ⟨by show 0 ≤ v12.toInt; omega, by show v12.toInt ≤ 40; omega, hI, hF, hG⟩ (by show (41 - v12.toInt).toNat < (41 - x6_37.toInt).toNat; omega)
  ·
    have f13 := fnle rfl rfl c2
    refine g_aload_n C 1 dX1_copy_10 rfl ?_
    refine g_get C (.ref (ad 72)) 4 in_X1_copy_1 (List.mem_of_getElem? (i := 1) rfl) (by decide) (ce_box ad cs _ _) rfl (by decide) rfl rfl dX1_copy_11 ?_
    refine g_iload C 0 dX1_copy_14 rfl ?_
    refine g_aload_n C 1 dX1_copy_16 rfl ?_
    refine g_get C (.ref (ad 71)) 3 in_X1_copy_1 (List.mem_of_getElem? (i := 2) rfl) (by decide) (ce_box ad cs _ _) rfl (by decide) rfl rfl dX1_copy_17 ?_
    refine g_iload_n C 2 dX1_copy_20 rfl ?_
    have hi14 : vp_in x 8 := (fin' (n := 8) rfl (by omega) (by omega))
    have nhi14 := tn hi14
    refine g_aald C (by decide) (ce_xplacem ad cs _ _) rfl hi14 dX1_copy_21 ?_
    refine g_iload_n C 3 dX1_copy_22 rfl ?_
    refine g_iload C 0 dX1_copy_23 rfl ?_
    refine g_iadd C dX1_copy_25 ?_
    refine g_ni (fun v15 ev15 => ?_)
    try have fv15 := fadd rfl rfl ev15 (by omega) (by omega)
    refine g_iald C (by omega) (ce_xplace ad cs _ _ nhi14) (fin' (n := 40) rfl (by omega) (by omega)) dX1_copy_26 ?_
    refine g_ni (fun v16 ev16 => ?_)
    have tv16 := congrArg Int32.toInt ev16
    refine g_iast C (by decide) (ce_xtaken ad cs _ _) (by rw [sI_k]; rfl) (fin' (n := 40) rfl (by omega) (by omega)) dX1_copy_27 ?_
    refine g_nm (fun M17 hM17 => ?_)
    have hI : IC M17 := by rw [hM17]; exact hI.st (bC_free (by decide) (by decide) (by decide) (by decide) (by decide) (by decide) (by decide))
    have hF : ∀ k, k ≠ 72 ∧ ¬ (73 ≤ k ∧ k < 81) → M17 k = M k := fun k hk => by (rw [hM17, sI_n _ _ _ (by omega)]; try exact hF k hk)
    obtain ⟨v18, ev18⟩ : ∃ y : Int32, y = x6_3 + 1 := ⟨_, rfl⟩
    try have fv18 := fadd rfl (by decide : (1 : Int32).toInt = 1) ev18 (by omega) (by omega)
    refine g_iinc C 0 v18 [(6, .int v18), (0, .ref (ad 68)), (1, .int x), (2, .int i), (3, .int y), (4, .int j), (5, .int n)] dX1_copy_28 rfl (by rw [ev18]; rfl) (by decide) rfl ?_
    refine g_goto C 3 dX1_copy_31 (by decide) ?_
    exact ih_3 (v18, M17, L_3) ⟨by show 0 ≤ v18.toInt; omega, by show v18.toInt ≤ 40; omega, hI, hF, hG⟩ (by show (41 - v18.toInt).toNat < (41 - x6_3.toInt).toNat; omega)
