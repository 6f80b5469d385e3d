theorem dX0_has_0 : decode cX0_has 0 = .ok (.iload_n 1, 1) := dw27 (n := 0) (i := 0) kc_cX0_has_0 (by decide +kernel)
theorem dX0_has_1 : decode cX0_has 1 = .ok (.ifCond .lt 15, 3) := dw155 (n := 0) (i := 1) (a := 0) (b := 15) kc_cX0_has_0 (by decide +kernel) (by decide)
theorem dX0_has_16 : decode cX0_has 16 = .ok (.iconst 0, 1) := dw3 (n := 0) (i := 16) kc_cX0_has_0 (by decide +kernel)
theorem dX0_has_17 : decode cX0_has 17 = .ok (.ireturn, 1) := dw172 (n := 0) (i := 17) kc_cX0_has_0 (by decide +kernel)
theorem dX0_has_4 : decode cX0_has 4 = .ok (.iload_n 1, 1) := dw27 (n := 0) (i := 4) kc_cX0_has_0 (by decide +kernel)
theorem dX0_has_5 : decode cX0_has 5 = .ok (.aload_n 0, 1) := dw42 (n := 0) (i := 5) kc_cX0_has_0 (by decide +kernel)
theorem dX0_has_6 : decode cX0_has 6 = .ok (.getfield 9, 3) := dw180 (n := 0) (i := 6) (a := 0) (b := 9) kc_cX0_has_0 (by decide +kernel) (by decide)
theorem in_X0_has_0 : ∀ w ∈ u_ws RX0 TX0 5, w ∈ wsX0_has := fun _ h => List.mem_cons_of_mem _ (List.mem_append_right _ h)
theorem dX0_has_9 : decode cX0_has 9 = .ok (.if_icmp .ge 7, 3) := dw162 (n := 0) (i := 9) (a := 0) (b := 7) kc_cX0_has_0 (by decide +kernel) (by decide)
theorem dX0_has_12 : decode cX0_has 12 = .ok (.iconst 1, 1) := dw4 (n := 0) (i := 12) kc_cX0_has_0 (by decide +kernel)
theorem dX0_has_13 : decode cX0_has 13 = .ok (.goto 4, 3) := dw167 (n := 0) (i := 13) (a := 0) (b := 4) kc_cX0_has_0 (by decide +kernel) (by decide)
set_option maxHeartbeats 4000000 in
set_option maxRecDepth 100000 in
theorem c_X0_has (l : Launch) (D : va_G) (ad : Nat → Nat) (cs : Nat → ClassId) (M : MI) (L : ML) (i : Int32) : Ci l yX0_has wsX0_has ({ frames := 0, cells := 0, slots := 0, locals := 0 }) D ad cs [.ref (ad 3), .int i] M L (fun r M1 L1 => M1 = M ∧ L1 = L ∧ r = if 0 ≤ i ∧ i < M 3 0 then 1 else 0) := by
  refine enter_i RX0 rfl [(0, .ref (ad 3)), (1, .int i)] rfl (Nat.le_of_ble_eq_true rfl) (by decide +kernel) rfl ?_
  intro p e s m below meth c C hr
  refine g_iload_n C 1 dX0_has_0 rfl ?_
  refine g_if_lt C 16 dX0_has_1 (by decide) (fun c1 => ?_) (fun c1 => ?_)
  ·
    refine g_iconst C 0 dX0_has_16 (by decide) ?_
    exact g_zret C hr rfl ⟨rfl, rfl, by first | rfl | grind⟩ dX0_has_17
  ·
    refine g_iload_n C 1 dX0_has_4 rfl ?_
    refine g_aload_n C 0 dX0_has_5 rfl ?_
    refine g_get C (.int (M 3 0)) 0 in_X0_has_0 (List.mem_of_getElem? (i := 1) rfl) (by decide) (ce_ball ad cs _ _) rfl (by decide) rfl rfl dX0_has_6 ?_
    refine g_ni (fun v2 ev2 => ?_)
    refine g_icmp_ge C 16 dX0_has_9 (by decide) (fun c3 => ?_) (fun c3 => ?_)
    ·
      refine g_iconst C 0 dX0_has_16 (by decide) ?_
      exact g_zret C hr rfl ⟨rfl, rfl, by first | rfl | grind⟩ dX0_has_17
    ·
      refine g_iconst C 1 dX0_has_12 (by decide) ?_
      refine g_goto C 17 dX0_has_13 (by decide) ?_
      exact g_zret C hr rfl ⟨rfl, rfl, by first | rfl | grind⟩ dX0_has_17
theorem dX1_has_0 : decode cX1_has 0 = .ok (.iload_n 1, 1) := dw27 (n := 0) (i := 0) kc_cX1_has_0 (by decide +kernel)
theorem dX1_has_1 : decode cX1_has 1 = .ok (.ifCond .lt 15, 3) := dw155 (n := 0) (i := 1) (a := 0) (b := 15) kc_cX1_has_0 (by decide +kernel) (by decide)
theorem dX1_has_16 : decode cX1_has 16 = .ok (.iconst 0, 1) := dw3 (n := 0) (i := 16) kc_cX1_has_0 (by decide +kernel)
theorem dX1_has_17 : decode cX1_has 17 = .ok (.ireturn, 1) := dw172 (n := 0) (i := 17) kc_cX1_has_0 (by decide +kernel)
theorem dX1_has_4 : decode cX1_has 4 = .ok (.iload_n 1, 1) := dw27 (n := 0) (i := 4) kc_cX1_has_0 (by decide +kernel)
theorem dX1_has_5 : decode cX1_has 5 = .ok (.aload_n 0, 1) := dw42 (n := 0) (i := 5) kc_cX1_has_0 (by decide +kernel)
theorem dX1_has_6 : decode cX1_has 6 = .ok (.getfield 9, 3) := dw180 (n := 0) (i := 6) (a := 0) (b := 9) kc_cX1_has_0 (by decide +kernel) (by decide)
theorem in_X1_has_1 : ∀ w ∈ u_ws RX1 TX1 5, w ∈ wsX1_has := fun _ h => List.mem_cons_of_mem _ (List.mem_append_right _ h)
theorem dX1_has_9 : decode cX1_has 9 = .ok (.if_icmp .ge 7, 3) := dw162 (n := 0) (i := 9) (a := 0) (b := 7) kc_cX1_has_0 (by decide +kernel) (by decide)
theorem dX1_has_12 : decode cX1_has 12 = .ok (.iconst 1, 1) := dw4 (n := 0) (i := 12) kc_cX1_has_0 (by decide +kernel)
theorem dX1_has_13 : decode cX1_has 13 = .ok (.goto 4, 3) := dw167 (n := 0) (i := 13) (a := 0) (b := 4) kc_cX1_has_0 (by decide +kernel) (by decide)
set_option maxHeartbeats 4000000 in
set_option maxRecDepth 100000 in
theorem c_X1_has (l : Launch) (D : va_G) (ad : Nat → Nat) (cs : Nat → ClassId) (M : MI) (L : ML) (i : Int32) : Ci l yX1_has wsX1_has ({ frames := 0, cells := 0, slots := 0, locals := 0 }) D ad cs [.ref (ad 68), .int i] M L (fun r M1 L1 => M1 = M ∧ L1 = L ∧ r = if 0 ≤ i ∧ i < M 68 0 then 1 else 0) := by
  refine enter_i RX1 rfl [(0, .ref (ad 68)), (1, .int i)] rfl (Nat.le_of_ble_eq_true rfl) (by decide +kernel) rfl ?_
  intro p e s m below meth c C hr
  refine g_iload_n C 1 dX1_has_0 rfl ?_
  refine g_if_lt C 16 dX1_has_1 (by decide) (fun c1 => ?_) (fun c1 => ?_)
  ·
    refine g_iconst C 0 dX1_has_16 (by decide) ?_
    exact g_zret C hr rfl ⟨rfl, rfl, by first | rfl | grind⟩ dX1_has_17
  ·
    refine g_iload_n C 1 dX1_has_4 rfl ?_
    refine g_aload_n C 0 dX1_has_5 rfl ?_
    refine g_get C (.int (M 68 0)) 0 in_X1_has_1 (List.mem_of_getElem? (i := 1) rfl) (by decide) (ce_box ad cs _ _) rfl (by decide) rfl rfl dX1_has_6 ?_
    refine g_ni (fun v2 ev2 => ?_)
    refine g_icmp_ge C 16 dX1_has_9 (by decide) (fun c3 => ?_) (fun c3 => ?_)
    ·
      refine g_iconst C 0 dX1_has_16 (by decide) ?_
      exact g_zret C hr rfl ⟨rfl, rfl, by first | rfl | grind⟩ dX1_has_17
    ·
      refine g_iconst C 1 dX1_has_12 (by decide) ?_
      refine g_goto C 17 dX1_has_13 (by decide) ?_
      exact g_zret C hr rfl ⟨rfl, rfl, by first | rfl | grind⟩ dX1_has_17
theorem dX2_has_0 : decode cX2_has 0 = .ok (.iload_n 1, 1) := dw27 (n := 0) (i := 0) kc_cX2_has_0 (by decide +kernel)
theorem dX2_has_1 : decode cX2_has 1 = .ok (.ifCond .lt 15, 3) := dw155 (n := 0) (i := 1) (a := 0) (b := 15) kc_cX2_has_0 (by decide +kernel) (by decide)
theorem dX2_has_16 : decode cX2_has 16 = .ok (.iconst 0, 1) := dw3 (n := 0) (i := 16) kc_cX2_has_0 (by decide +kernel)
theorem dX2_has_17 : decode cX2_has 17 = .ok (.ireturn, 1) := dw172 (n := 0) (i := 17) kc_cX2_has_0 (by decide +kernel)
theorem dX2_has_4 : decode cX2_has 4 = .ok (.iload_n 1, 1) := dw27 (n := 0) (i := 4) kc_cX2_has_0 (by decide +kernel)
theorem dX2_has_5 : decode cX2_has 5 = .ok (.aload_n 0, 1) := dw42 (n := 0) (i := 5) kc_cX2_has_0 (by decide +kernel)
theorem dX2_has_6 : decode cX2_has 6 = .ok (.getfield 9, 3) := dw180 (n := 0) (i := 6) (a := 0) (b := 9) kc_cX2_has_0 (by decide +kernel) (by decide)
theorem in_X2_has_2 : ∀ w ∈ u_ws RX2 TX2 2, w ∈ wsX2_has := fun _ h => List.mem_cons_of_mem _ (List.mem_append_right _ h)
theorem dX2_has_9 : decode cX2_has 9 = .ok (.if_icmp .ge 7, 3) := dw162 (n := 0) (i := 9) (a := 0) (b := 7) kc_cX2_has_0 (by decide +kernel) (by decide)
theorem dX2_has_12 : decode cX2_has 12 = .ok (.iconst 1, 1) := dw4 (n := 0) (i := 12) kc_cX2_has_0 (by decide +kernel)
theorem dX2_has_13 : decode cX2_has 13 = .ok (.goto 4, 3) := dw167 (n := 0) (i := 13) (a := 0) (b := 4) kc_cX2_has_0 (by decide +kernel) (by decide)
set_option maxHeartbeats 4000000 in
set_option maxRecDepth 100000 in
theorem c_X2_has (l : Launch) (D : va_G) (ad : Nat → Nat) (cs : Nat → ClassId) (M : MI) (L : ML) (i : Int32) : Ci l yX2_has wsX2_has ({ frames := 0, cells := 0, slots := 0, locals := 0 }) D ad cs [.ref (ad 1), .int i] M L (fun r M1 L1 => M1 = M ∧ L1 = L ∧ r = if 0 ≤ i ∧ i < M 1 0 then 1 else 0) := by
  refine enter_i RX2 rfl [(0, .ref (ad 1)), (1, .int i)] rfl (Nat.le_of_ble_eq_true rfl) (by decide +kernel) rfl ?_
  intro p e s m below meth c C hr
  refine g_iload_n C 1 dX2_has_0 rfl ?_
  refine g_if_lt C 16 dX2_has_1 (by decide) (fun c1 => ?_) (fun c1 => ?_)
  ·
    refine g_iconst C 0 dX2_has_16 (by decide) ?_
    exact g_zret C hr rfl ⟨rfl, rfl, by first | rfl | grind⟩ dX2_has_17
  ·
    refine g_iload_n C 1 dX2_has_4 rfl ?_
    refine g_aload_n C 0 dX2_has_5 rfl ?_
    refine g_get C (.int (M 1 0)) 0 in_X2_has_2 (List.mem_of_getElem? (i := 1) rfl) (by decide) (ce_cand ad cs _ _) rfl (by decide) rfl rfl dX2_has_6 ?_
    refine g_ni (fun v2 ev2 => ?_)
    refine g_icmp_ge C 16 dX2_has_9 (by decide) (fun c3 => ?_) (fun c3 => ?_)
    ·
      refine g_iconst C 0 dX2_has_16 (by decide) ?_
      exact g_zret C hr rfl ⟨rfl, rfl, by first | rfl | grind⟩ dX2_has_17
    ·
      refine g_iconst C 1 dX2_has_12 (by decide) ?_
      refine g_goto C 17 dX2_has_13 (by decide) ?_
      exact g_zret C hr rfl ⟨rfl, rfl, by first | rfl | grind⟩ dX2_has_17
theorem dX4_has_0 : decode cX4_has 0 = .ok (.iload_n 1, 1) := dw27 (n := 0) (i := 0) kc_cX4_has_0 (by decide +kernel)
theorem dX4_has_1 : decode cX4_has 1 = .ok (.ifCond .lt 15, 3) := dw155 (n := 0) (i := 1) (a := 0) (b := 15) kc_cX4_has_0 (by decide +kernel) (by decide)
theorem dX4_has_16 : decode cX4_has 16 = .ok (.iconst 0, 1) := dw3 (n := 0) (i := 16) kc_cX4_has_0 (by decide +kernel)
theorem dX4_has_17 : decode cX4_has 17 = .ok (.ireturn, 1) := dw172 (n := 0) (i := 17) kc_cX4_has_0 (by decide +kernel)
theorem dX4_has_4 : decode cX4_has 4 = .ok (.iload_n 1, 1) := dw27 (n := 0) (i := 4) kc_cX4_has_0 (by decide +kernel)
theorem dX4_has_5 : decode cX4_has 5 = .ok (.aload_n 0, 1) := dw42 (n := 0) (i := 5) kc_cX4_has_0 (by decide +kernel)
theorem dX4_has_6 : decode cX4_has 6 = .ok (.getfield 9, 3) := dw180 (n := 0) (i := 6) (a := 0) (b := 9) kc_cX4_has_0 (by decide +kernel) (by decide)
theorem in_X4_has_4 : ∀ w ∈ u_ws RX4 TX4 7, w ∈ wsX4_has := fun _ h => List.mem_cons_of_mem _ (List.mem_append_right _ h)
theorem dX4_has_9 : decode cX4_has 9 = .ok (.if_icmp .ge 7, 3) := dw162 (n := 0) (i := 9) (a := 0) (b := 7) kc_cX4_has_0 (by decide +kernel) (by decide)
theorem dX4_has_12 : decode cX4_has 12 = .ok (.iconst 1, 1) := dw4 (n := 0) (i := 12) kc_cX4_has_0 (by decide +kernel)
theorem dX4_has_13 : decode cX4_has 13 = .ok (.goto 4, 3) := dw167 (n := 0) (i := 13) (a := 0) (b := 4) kc_cX4_has_0 (by decide +kernel) (by decide)
set_option maxHeartbeats 4000000 in
set_option maxRecDepth 100000 in
theorem c_X4_has (l : Launch) (D : va_G) (ad : Nat → Nat) (cs : Nat → ClassId) (M : MI) (L : ML) (i : Int32) : Ci l yX4_has wsX4_has ({ frames := 0, cells := 0, slots := 0, locals := 0 }) D ad cs [.ref (ad 81), .int i] M L (fun r M1 L1 => M1 = M ∧ L1 = L ∧ r = if 0 ≤ i ∧ i < M 81 0 then 1 else 0) := by
  refine enter_i RX4 rfl [(0, .ref (ad 81)), (1, .int i)] rfl (Nat.le_of_ble_eq_true rfl) (by decide +kernel) rfl ?_
  intro p e s m below meth c C hr
  refine g_iload_n C 1 dX4_has_0 rfl ?_
  refine g_if_lt C 16 dX4_has_1 (by decide) (fun c1 => ?_) (fun c1 => ?_)
  ·
    refine g_iconst C 0 dX4_has_16 (by decide) ?_
    exact g_zret C hr rfl ⟨rfl, rfl, by first | rfl | grind⟩ dX4_has_17
  ·
    refine g_iload_n C 1 dX4_has_4 rfl ?_
    refine g_aload_n C 0 dX4_has_5 rfl ?_
    refine g_get C (.int (M 81 0)) 0 in_X4_has_4 (List.mem_of_getElem? (i := 1) rfl) (by decide) (ce_meth ad cs _ _) rfl (by decide) rfl rfl dX4_has_6 ?_
    refine g_ni (fun v2 ev2 => ?_)
    refine g_icmp_ge C 16 dX4_has_9 (by decide) (fun c3 => ?_) (fun c3 => ?_)
    ·
      refine g_iconst C 0 dX4_has_16 (by decide) ?_
      exact g_zret C hr rfl ⟨rfl, rfl, by first | rfl | grind⟩ dX4_has_17
    ·
      refine g_iconst C 1 dX4_has_12 (by decide) ?_
      refine g_goto C 17 dX4_has_13 (by decide) ?_
      exact g_zret C hr rfl ⟨rfl, rfl, by first | rfl | grind⟩ dX4_has_17
theorem dX10_isSort_0 : decode cX10_isSort 0 = .ok (.iload_n 0, 1) := dw26 (n := 0) (i := 0) kc_cX10_isSort_0 (by decide +kernel)
theorem dX10_isSort_1 : decode cX10_isSort 1 = .ok (.ifCond .lt 15, 3) := dw155 (n := 0) (i := 1) (a := 0) (b := 15) kc_cX10_isSort_0 (by decide +kernel) (by decide)
theorem dX10_isSort_16 : decode cX10_isSort 16 = .ok (.iconst 0, 1) := dw3 (n := 0) (i := 16) kc_cX10_isSort_0 (by decide +kernel)
theorem dX10_isSort_17 : decode cX10_isSort 17 = .ok (.ireturn, 1) := dw172 (n := 0) (i := 17) kc_cX10_isSort_0 (by decide +kernel)
theorem dX10_isSort_4 : decode cX10_isSort 4 = .ok (.iload_n 0, 1) := dw26 (n := 0) (i := 4) kc_cX10_isSort_0 (by decide +kernel)
theorem dX10_isSort_5 : decode cX10_isSort 5 = .ok (.getstatic 290, 3) := dw178 (n := 0) (i := 5) (a := 1) (b := 34) kc_cX10_isSort_0 (by decide +kernel) (by decide)
theorem dX10_isSort_8 : decode cX10_isSort 8 = .ok (.arraylength, 1) := dw190 (n := 0) (i := 8) kc_cX10_isSort_0 (by decide +kernel)
theorem dX10_isSort_9 : decode cX10_isSort 9 = .ok (.if_icmp .ge 7, 3) := dw162 (n := 0) (i := 9) (a := 0) (b := 7) kc_cX10_isSort_0 (by decide +kernel) (by decide)
theorem dX10_isSort_12 : decode cX10_isSort 12 = .ok (.iconst 1, 1) := dw4 (n := 0) (i := 12) kc_cX10_isSort_0 (by decide +kernel)
theorem dX10_isSort_13 : decode cX10_isSort 13 = .ok (.goto 4, 3) := dw167 (n := 0) (i := 13) (a := 0) (b := 4) kc_cX10_isSort_0 (by decide +kernel) (by decide)
set_option maxHeartbeats 4000000 in
set_option maxRecDepth 100000 in
theorem c_X10_isSort (l : Launch) (D : va_G) (ad : Nat → Nat) (cs : Nat → ClassId) (M : MI) (L : ML) (i : Int32) : Ci l yX10_isSort wsX10_isSort ({ frames := 0, cells := 0, slots := 0, locals := 0 }) D ad cs [.int i] M L (fun r M1 L1 => M1 = M ∧ L1 = L ∧ r = if 0 ≤ i ∧ i < 4 then 1 else 0) := by
  refine enter_i RX10 rfl [(0, .int i)] rfl (Nat.le_of_ble_eq_true rfl) (by decide +kernel) rfl ?_
  intro p e s m below meth c C hr
  refine g_iload_n C 0 dX10_isSort_0 rfl ?_
  refine g_if_lt C 16 dX10_isSort_1 (by decide) (fun c1 => ?_) (fun c1 => ?_)
  ·
    refine g_iconst C 0 dX10_isSort_16 (by decide) ?_
    exact g_zret C hr rfl ⟨rfl, rfl, by first | rfl | grind⟩ dX10_isSort_17
  ·
    refine g_iload_n C 0 dX10_isSort_4 rfl ?_
    refine g_getsS C (List.mem_of_getElem? (i := 1) rfl) dX10_isSort_5 ?_
    refine g_slenS C dX10_isSort_8 ?_
    refine g_icmp_ge C 16 dX10_isSort_9 (by decide) (fun c2 => ?_) (fun c2 => ?_)
    ·
      refine g_iconst C 0 dX10_isSort_16 (by decide) ?_
      exact g_zret C hr rfl ⟨rfl, rfl, by first | rfl | grind⟩ dX10_isSort_17
    ·
      refine g_iconst C 1 dX10_isSort_12 (by decide) ?_
      refine g_goto C 17 dX10_isSort_13 (by decide) ?_
      exact g_zret C hr rfl ⟨rfl, rfl, by first | rfl | grind⟩ dX10_isSort_17
theorem dX10_isKind_0 : decode cX10_isKind 0 = .ok (.iload_n 0, 1) := dw26 (n := 0) (i := 0) kc_cX10_isKind_0 (by decide +kernel)
theorem dX10_isKind_1 : decode cX10_isKind 1 = .ok (.ifCond .lt 15, 3) := dw155 (n := 0) (i := 1) (a := 0) (b := 15) kc_cX10_isKind_0 (by decide +kernel) (by decide)
theorem dX10_isKind_16 : decode cX10_isKind 16 = .ok (.iconst 0, 1) := dw3 (n := 0) (i := 16) kc_cX10_isKind_0 (by decide +kernel)
theorem dX10_isKind_17 : decode cX10_isKind 17 = .ok (.ireturn, 1) := dw172 (n := 0) (i := 17) kc_cX10_isKind_0 (by decide +kernel)
theorem dX10_isKind_4 : decode cX10_isKind 4 = .ok (.iload_n 0, 1) := dw26 (n := 0) (i := 4) kc_cX10_isKind_0 (by decide +kernel)
theorem dX10_isKind_5 : decode cX10_isKind 5 = .ok (.getstatic 193, 3) := dw178 (n := 0) (i := 5) (a := 0) (b := 193) kc_cX10_isKind_0 (by decide +kernel) (by decide)
theorem dX10_isKind_8 : decode cX10_isKind 8 = .ok (.arraylength, 1) := dw190 (n := 0) (i := 8) kc_cX10_isKind_0 (by decide +kernel)
theorem dX10_isKind_9 : decode cX10_isKind 9 = .ok (.if_icmp .ge 7, 3) := dw162 (n := 0) (i := 9) (a := 0) (b := 7) kc_cX10_isKind_0 (by decide +kernel) (by decide)
theorem dX10_isKind_12 : decode cX10_isKind 12 = .ok (.iconst 1, 1) := dw4 (n := 0) (i := 12) kc_cX10_isKind_0 (by decide +kernel)
theorem dX10_isKind_13 : decode cX10_isKind 13 = .ok (.goto 4, 3) := dw167 (n := 0) (i := 13) (a := 0) (b := 4) kc_cX10_isKind_0 (by decide +kernel) (by decide)
set_option maxHeartbeats 4000000 in
set_option maxRecDepth 100000 in
theorem c_X10_isKind (l : Launch) (D : va_G) (ad : Nat → Nat) (cs : Nat → ClassId) (M : MI) (L : ML) (i : Int32) : Ci l yX10_isKind wsX10_isKind ({ frames := 0, cells := 0, slots := 0, locals := 0 }) D ad cs [.int i] M L (fun r M1 L1 => M1 = M ∧ L1 = L ∧ r = if 0 ≤ i ∧ i < 9 then 1 else 0) := by
  refine enter_i RX10 rfl [(0, .int i)] rfl (Nat.le_of_ble_eq_true rfl) (by decide +kernel) rfl ?_
  intro p e s m below meth c C hr
  refine g_iload_n C 0 dX10_isKind_0 rfl ?_
  refine g_if_lt C 16 dX10_isKind_1 (by decide) (fun c1 => ?_) (fun c1 => ?_)
  ·
    refine g_iconst C 0 dX10_isKind_16 (by decide) ?_
    exact g_zret C hr rfl ⟨rfl, rfl, by first | rfl | grind⟩ dX10_isKind_17
  ·
    refine g_iload_n C 0 dX10_isKind_4 rfl ?_
    refine g_getsK C (List.mem_of_getElem? (i := 1) rfl) dX10_isKind_5 ?_
    refine g_slenK C dX10_isKind_8 ?_
    refine g_icmp_ge C 16 dX10_isKind_9 (by decide) (fun c2 => ?_) (fun c2 => ?_)
    ·
      refine g_iconst C 0 dX10_isKind_16 (by decide) ?_
      exact g_zret C hr rfl ⟨rfl, rfl, by first | rfl | grind⟩ dX10_isKind_17
    ·
      refine g_iconst C 1 dX10_isKind_12 (by decide) ?_
      refine g_goto C 17 dX10_isKind_13 (by decide) ?_
      exact g_zret C hr rfl ⟨rfl, rfl, by first | rfl | grind⟩ dX10_isKind_17
theorem dX11_in_0 : decode cX11_in 0 = .ok (.iload_n 0, 1) := dw26 (n := 0) (i := 0) kc_cX11_in_0 (by decide +kernel)
theorem dX11_in_1 : decode cX11_in 1 = .ok (.iload_n 1, 1) := dw27 (n := 0) (i := 1) kc_cX11_in_0 (by decide +kernel)
theorem dX11_in_2 : decode cX11_in 2 = .ok (.if_icmp .lt 12, 3) := dw161 (n := 0) (i := 2) (a := 0) (b := 12) kc_cX11_in_0 (by decide +kernel) (by decide)
theorem dX11_in_14 : decode cX11_in 14 = .ok (.iconst 0, 1) := dw3 (n := 0) (i := 14) kc_cX11_in_0 (by decide +kernel)
theorem dX11_in_15 : decode cX11_in 15 = .ok (.ireturn, 1) := dw172 (n := 0) (i := 15) kc_cX11_in_0 (by decide +kernel)
theorem dX11_in_5 : decode cX11_in 5 = .ok (.iload_n 0, 1) := dw26 (n := 0) (i := 5) kc_cX11_in_0 (by decide +kernel)
theorem dX11_in_6 : decode cX11_in 6 = .ok (.iload_n 2, 1) := dw28 (n := 0) (i := 6) kc_cX11_in_0 (by decide +kernel)
theorem dX11_in_7 : decode cX11_in 7 = .ok (.if_icmp .gt 7, 3) := dw163 (n := 0) (i := 7) (a := 0) (b := 7) kc_cX11_in_0 (by decide +kernel) (by decide)
theorem dX11_in_10 : decode cX11_in 10 = .ok (.iconst 1, 1) := dw4 (n := 0) (i := 10) kc_cX11_in_0 (by decide +kernel)
theorem dX11_in_11 : decode cX11_in 11 = .ok (.goto 4, 3) := dw167 (n := 0) (i := 11) (a := 0) (b := 4) kc_cX11_in_0 (by decide +kernel) (by decide)
set_option maxHeartbeats 4000000 in
set_option maxRecDepth 100000 in
theorem c_X11_in (l : Launch) (D : va_G) (ad : Nat → Nat) (cs : Nat → ClassId) (M : MI) (L : ML) (v : Int32) (a : Int32) (b : Int32) : Ci l yX11_in wsX11_in ({ frames := 0, cells := 0, slots := 0, locals := 0 }) D ad cs [.int v, .int a, .int b] M L (fun r M1 L1 => M1 = M ∧ L1 = L ∧ r = if a ≤ v ∧ v ≤ b then 1 else 0) := by
  refine enter_i RX11 rfl [(0, .int v), (1, .int a), (2, .int b)] rfl (Nat.le_of_ble_eq_true rfl) (by decide +kernel) rfl ?_
  intro p e s m below meth c C hr
  refine g_iload_n C 0 dX11_in_0 rfl ?_
  refine g_iload_n C 1 dX11_in_1 rfl ?_
  refine g_icmp_lt C 14 dX11_in_2 (by decide) (fun c1 => ?_) (fun c1 => ?_)
  ·
    refine g_iconst C 0 dX11_in_14 (by decide) ?_
    exact g_zret C hr rfl ⟨rfl, rfl, by first | rfl | grind⟩ dX11_in_15
  ·
    refine g_iload_n C 0 dX11_in_5 rfl ?_
    refine g_iload_n C 2 dX11_in_6 rfl ?_
    refine g_icmp_gt C 14 dX11_in_7 (by decide) (fun c2 => ?_) (fun c2 => ?_)
    ·
      refine g_iconst C 0 dX11_in_14 (by decide) ?_
      exact g_zret C hr rfl ⟨rfl, rfl, by first | rfl | grind⟩ dX11_in_15
    ·
      refine g_iconst C 1 dX11_in_10 (by decide) ?_
      refine g_goto C 15 dX11_in_11 (by decide) ?_
      exact g_zret C hr rfl ⟨rfl, rfl, by first | rfl | grind⟩ dX11_in_15
