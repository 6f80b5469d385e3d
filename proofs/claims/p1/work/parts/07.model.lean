theorem dX11_isCandidate_0 : decode cX11_isCandidate 0 = .ok (.iload_n 1, 1) := by decide +kernel
theorem dX11_isCandidate_1 : decode cX11_isCandidate 1 = .ok (.iconst 0, 1) := by decide +kernel
theorem dX11_isCandidate_2 : decode cX11_isCandidate 2 = .ok (.aload_n 0, 1) := by decide +kernel
theorem dX11_isCandidate_3 : decode cX11_isCandidate 3 = .ok (.getfield 137, 3) := by decide +kernel
theorem in_X11_isCandidate_11 : ∀ w ∈ u_ws RX11 TX11 53, w ∈ wsX11_isCandidate := fun _ h => List.mem_cons_of_mem _ (List.mem_append_right _ h)
theorem dX11_isCandidate_6 : decode cX11_isCandidate 6 = .ok (.iconst 1, 1) := by decide +kernel
theorem dX11_isCandidate_7 : decode cX11_isCandidate 7 = .ok (.isub, 1) := by decide +kernel
theorem dX11_isCandidate_8 : decode cX11_isCandidate 8 = .ok (.invokestatic 133, 3) := by decide +kernel
set_option maxRecDepth 20000 in
theorem ggX11_isCandidate_X11_in : GoodIn wsX11_isCandidate wsX11_in := goodIn_r _ [5] (by decide +kernel) (by decide +kernel)
set_option maxRecDepth 20000 in
theorem gX11_isCandidate_X11_in : GoodIn wsX11_isCandidate (va_wsS RX11 133 yX11_in wsX11_in) := goodIn_app (goodIn_of _ (by decide +kernel)) ggX11_isCandidate_X11_in
theorem dX11_isCandidate_11 : decode cX11_isCandidate 11 = .ok (.ireturn, 1) := by decide +kernel
set_option maxHeartbeats 4000000 in
set_option maxRecDepth 100000 in
theorem c_X11_isCandidate0 (l : Launch) (D : va_G) (ad : Nat → Nat) (cs : Nat → ClassId) (M : MI) (L : ML) (x1 : Int32) (hm : ∀ k, 258 ≤ k → k < 297 → M k = M0 k) : Ci l yX11_isCandidate wsX11_isCandidate ({ frames := 1, cells := 0, slots := 0, locals := 22 }) D ad cs [.ref (ad 258), .int x1] M L (fun r M1 L1 => M1 = M ∧ L1 = L ∧ r = 0) := by
  refine enter_i RX11 rfl [(0, .ref (ad 258)), (1, .int x1)] rfl (Nat.le_of_ble_eq_true rfl) (by decide +kernel) rfl ?_
  intro p e s m below meth c C hr
  refine g_iload_n C 1 dX11_isCandidate_0 rfl ?_
  refine g_iconst C 0 dX11_isCandidate_1 (by decide) ?_
  refine g_aload_n C 0 dX11_isCandidate_2 rfl ?_
  refine g_get C (.int (M 258 2)) 2 in_X11_isCandidate_11 (List.mem_of_getElem? (i := 1) rfl) (by decide) (ce_model ad cs _ _) rfl (by decide) rfl rfl dX11_isCandidate_3 ?_
  refine g_ti 0 (by (rw [hm 258 (by decide) (by decide)]; try rfl)) ?_
  refine g_iconst C 1 dX11_isCandidate_6 (by decide) ?_
  refine g_isub C dX11_isCandidate_7 ?_
  refine g_ti ((-1)) (by decide) ?_
  refine g_callSi C (n := 3) (As := [.int x1, .int 0, .int ((-1))]) (st := []) (c_X11_in l D ad cs _ _ x1 0 ((-1))) gX11_isCandidate_X11_in rfl rfl rfl (by decide +kernel) ⟨Nat.le_of_ble_eq_true rfl, Nat.le_of_ble_eq_true rfl⟩ rfl (Nat.le_of_ble_eq_true rfl) ⟨Nat.zero_le _, Nat.zero_le _⟩ rfl dX11_isCandidate_8 (fun r1 M2 L3 hr1 => ?_)
  obtain ⟨hq1, hq2, hr1⟩ := hr1
  obtain rfl := hq1.symm
  obtain rfl := hq2.symm
  exact g_zret C hr (by first | rfl | (have e8 : r1 = 0 := (by grind); rw [e8]; rfl)) ⟨rfl, rfl, by first | rfl | grind⟩ dX11_isCandidate_11
theorem dX11_isBallot_0 : decode cX11_isBallot 0 = .ok (.iload_n 1, 1) := by decide +kernel
theorem dX11_isBallot_1 : decode cX11_isBallot 1 = .ok (.iconst 0, 1) := by decide +kernel
theorem dX11_isBallot_2 : decode cX11_isBallot 2 = .ok (.aload_n 0, 1) := by decide +kernel
theorem dX11_isBallot_3 : decode cX11_isBallot 3 = .ok (.getfield 144, 3) := by decide +kernel
theorem in_X11_isBallot_11 : ∀ w ∈ u_ws RX11 TX11 53, w ∈ wsX11_isBallot := fun _ h => List.mem_cons_of_mem _ (List.mem_append_right _ h)
theorem dX11_isBallot_6 : decode cX11_isBallot 6 = .ok (.iconst 1, 1) := by decide +kernel
theorem dX11_isBallot_7 : decode cX11_isBallot 7 = .ok (.isub, 1) := by decide +kernel
theorem dX11_isBallot_8 : decode cX11_isBallot 8 = .ok (.invokestatic 133, 3) := by decide +kernel
set_option maxRecDepth 20000 in
theorem ggX11_isBallot_X11_in : GoodIn wsX11_isBallot wsX11_in := goodIn_r _ [5] (by decide +kernel) (by decide +kernel)
set_option maxRecDepth 20000 in
theorem gX11_isBallot_X11_in : GoodIn wsX11_isBallot (va_wsS RX11 133 yX11_in wsX11_in) := goodIn_app (goodIn_of _ (by decide +kernel)) ggX11_isBallot_X11_in
theorem dX11_isBallot_11 : decode cX11_isBallot 11 = .ok (.ireturn, 1) := by decide +kernel
set_option maxHeartbeats 4000000 in
set_option maxRecDepth 100000 in
theorem c_X11_isBallot0 (l : Launch) (D : va_G) (ad : Nat → Nat) (cs : Nat → ClassId) (M : MI) (L : ML) (x1 : Int32) (hm : ∀ k, 258 ≤ k → k < 297 → M k = M0 k) : Ci l yX11_isBallot wsX11_isBallot ({ frames := 1, cells := 0, slots := 0, locals := 22 }) D ad cs [.ref (ad 258), .int x1] M L (fun r M1 L1 => M1 = M ∧ L1 = L ∧ r = 0) := by
  refine enter_i RX11 rfl [(0, .ref (ad 258)), (1, .int x1)] rfl (Nat.le_of_ble_eq_true rfl) (by decide +kernel) rfl ?_
  intro p e s m below meth c C hr
  refine g_iload_n C 1 dX11_isBallot_0 rfl ?_
  refine g_iconst C 0 dX11_isBallot_1 (by decide) ?_
  refine g_aload_n C 0 dX11_isBallot_2 rfl ?_
  refine g_get C (.int (M 258 4)) 4 in_X11_isBallot_11 (List.mem_of_getElem? (i := 1) rfl) (by decide) (ce_model ad cs _ _) rfl (by decide) rfl rfl dX11_isBallot_3 ?_
  refine g_ti 0 (by (rw [hm 258 (by decide) (by decide)]; try rfl)) ?_
  refine g_iconst C 1 dX11_isBallot_6 (by decide) ?_
  refine g_isub C dX11_isBallot_7 ?_
  refine g_ti ((-1)) (by decide) ?_
  refine g_callSi C (n := 3) (As := [.int x1, .int 0, .int ((-1))]) (st := []) (c_X11_in l D ad cs _ _ x1 0 ((-1))) gX11_isBallot_X11_in rfl rfl rfl (by decide +kernel) ⟨Nat.le_of_ble_eq_true rfl, Nat.le_of_ble_eq_true rfl⟩ rfl (Nat.le_of_ble_eq_true rfl) ⟨Nat.zero_le _, Nat.zero_le _⟩ rfl dX11_isBallot_8 (fun r1 M2 L3 hr1 => ?_)
  obtain ⟨hq1, hq2, hr1⟩ := hr1
  obtain rfl := hq1.symm
  obtain rfl := hq2.symm
  exact g_zret C hr (by first | rfl | (have e8 : r1 = 0 := (by grind); rw [e8]; rfl)) ⟨rfl, rfl, by first | rfl | grind⟩ dX11_isBallot_11
theorem dX11_isBox_0 : decode cX11_isBox 0 = .ok (.iload_n 1, 1) := by decide +kernel
theorem dX11_isBox_1 : decode cX11_isBox 1 = .ok (.iconst 0, 1) := by decide +kernel
theorem dX11_isBox_2 : decode cX11_isBox 2 = .ok (.aload_n 0, 1) := by decide +kernel
theorem dX11_isBox_3 : decode cX11_isBox 3 = .ok (.getfield 163, 3) := by decide +kernel
theorem in_X11_isBox_11 : ∀ w ∈ u_ws RX11 TX11 53, w ∈ wsX11_isBox := fun _ h => List.mem_cons_of_mem _ (List.mem_append_right _ h)
theorem dX11_isBox_6 : decode cX11_isBox 6 = .ok (.iconst 1, 1) := by decide +kernel
theorem dX11_isBox_7 : decode cX11_isBox 7 = .ok (.isub, 1) := by decide +kernel
theorem dX11_isBox_8 : decode cX11_isBox 8 = .ok (.invokestatic 133, 3) := by decide +kernel
set_option maxRecDepth 20000 in
theorem ggX11_isBox_X11_in : GoodIn wsX11_isBox wsX11_in := goodIn_r _ [5] (by decide +kernel) (by decide +kernel)
set_option maxRecDepth 20000 in
theorem gX11_isBox_X11_in : GoodIn wsX11_isBox (va_wsS RX11 133 yX11_in wsX11_in) := goodIn_app (goodIn_of _ (by decide +kernel)) ggX11_isBox_X11_in
theorem dX11_isBox_11 : decode cX11_isBox 11 = .ok (.ireturn, 1) := by decide +kernel
set_option maxHeartbeats 4000000 in
set_option maxRecDepth 100000 in
theorem c_X11_isBox0 (l : Launch) (D : va_G) (ad : Nat → Nat) (cs : Nat → ClassId) (M : MI) (L : ML) (x1 : Int32) (hm : ∀ k, 258 ≤ k → k < 297 → M k = M0 k) : Ci l yX11_isBox wsX11_isBox ({ frames := 1, cells := 0, slots := 0, locals := 22 }) D ad cs [.ref (ad 258), .int x1] M L (fun r M1 L1 => M1 = M ∧ L1 = L ∧ r = 0) := by
  refine enter_i RX11 rfl [(0, .ref (ad 258)), (1, .int x1)] rfl (Nat.le_of_ble_eq_true rfl) (by decide +kernel) rfl ?_
  intro p e s m below meth c C hr
  refine g_iload_n C 1 dX11_isBox_0 rfl ?_
  refine g_iconst C 0 dX11_isBox_1 (by decide) ?_
  refine g_aload_n C 0 dX11_isBox_2 rfl ?_
  refine g_get C (.int (M 258 9)) 9 in_X11_isBox_11 (List.mem_of_getElem? (i := 1) rfl) (by decide) (ce_model ad cs _ _) rfl (by decide) rfl rfl dX11_isBox_3 ?_
  refine g_ti 0 (by (rw [hm 258 (by decide) (by decide)]; try rfl)) ?_
  refine g_iconst C 1 dX11_isBox_6 (by decide) ?_
  refine g_isub C dX11_isBox_7 ?_
  refine g_ti ((-1)) (by decide) ?_
  refine g_callSi C (n := 3) (As := [.int x1, .int 0, .int ((-1))]) (st := []) (c_X11_in l D ad cs _ _ x1 0 ((-1))) gX11_isBox_X11_in rfl rfl rfl (by decide +kernel) ⟨Nat.le_of_ble_eq_true rfl, Nat.le_of_ble_eq_true rfl⟩ rfl (Nat.le_of_ble_eq_true rfl) ⟨Nat.zero_le _, Nat.zero_le _⟩ rfl dX11_isBox_8 (fun r1 M2 L3 hr1 => ?_)
  obtain ⟨hq1, hq2, hr1⟩ := hr1
  obtain rfl := hq1.symm
  obtain rfl := hq2.symm
  exact g_zret C hr (by first | rfl | (have e8 : r1 = 0 := (by grind); rw [e8]; rfl)) ⟨rfl, rfl, by first | rfl | grind⟩ dX11_isBox_11
theorem dX11_isMethod_0 : decode cX11_isMethod 0 = .ok (.iload_n 1, 1) := by decide +kernel
theorem dX11_isMethod_1 : decode cX11_isMethod 1 = .ok (.iconst 0, 1) := by decide +kernel
theorem dX11_isMethod_2 : decode cX11_isMethod 2 = .ok (.aload_n 0, 1) := by decide +kernel
theorem dX11_isMethod_3 : decode cX11_isMethod 3 = .ok (.getfield 175, 3) := by decide +kernel
theorem in_X11_isMethod_11 : ∀ w ∈ u_ws RX11 TX11 53, w ∈ wsX11_isMethod := fun _ h => List.mem_cons_of_mem _ (List.mem_append_right _ h)
theorem dX11_isMethod_6 : decode cX11_isMethod 6 = .ok (.iconst 1, 1) := by decide +kernel
theorem dX11_isMethod_7 : decode cX11_isMethod 7 = .ok (.isub, 1) := by decide +kernel
theorem dX11_isMethod_8 : decode cX11_isMethod 8 = .ok (.invokestatic 133, 3) := by decide +kernel
set_option maxRecDepth 20000 in
theorem ggX11_isMethod_X11_in : GoodIn wsX11_isMethod wsX11_in := goodIn_r _ [5] (by decide +kernel) (by decide +kernel)
set_option maxRecDepth 20000 in
theorem gX11_isMethod_X11_in : GoodIn wsX11_isMethod (va_wsS RX11 133 yX11_in wsX11_in) := goodIn_app (goodIn_of _ (by decide +kernel)) ggX11_isMethod_X11_in
theorem dX11_isMethod_11 : decode cX11_isMethod 11 = .ok (.ireturn, 1) := by decide +kernel
set_option maxHeartbeats 4000000 in
set_option maxRecDepth 100000 in
theorem c_X11_isMethod0 (l : Launch) (D : va_G) (ad : Nat → Nat) (cs : Nat → ClassId) (M : MI) (L : ML) (x1 : Int32) (hm : ∀ k, 258 ≤ k → k < 297 → M k = M0 k) : Ci l yX11_isMethod wsX11_isMethod ({ frames := 1, cells := 0, slots := 0, locals := 22 }) D ad cs [.ref (ad 258), .int x1] M L (fun r M1 L1 => M1 = M ∧ L1 = L ∧ r = 0) := by
  refine enter_i RX11 rfl [(0, .ref (ad 258)), (1, .int x1)] rfl (Nat.le_of_ble_eq_true rfl) (by decide +kernel) rfl ?_
  intro p e s m below meth c C hr
  refine g_iload_n C 1 dX11_isMethod_0 rfl ?_
  refine g_iconst C 0 dX11_isMethod_1 (by decide) ?_
  refine g_aload_n C 0 dX11_isMethod_2 rfl ?_
  refine g_get C (.int (M 258 14)) 14 in_X11_isMethod_11 (List.mem_of_getElem? (i := 1) rfl) (by decide) (ce_model ad cs _ _) rfl (by decide) rfl rfl dX11_isMethod_3 ?_
  refine g_ti 0 (by (rw [hm 258 (by decide) (by decide)]; try rfl)) ?_
  refine g_iconst C 1 dX11_isMethod_6 (by decide) ?_
  refine g_isub C dX11_isMethod_7 ?_
  refine g_ti ((-1)) (by decide) ?_
  refine g_callSi C (n := 3) (As := [.int x1, .int 0, .int ((-1))]) (st := []) (c_X11_in l D ad cs _ _ x1 0 ((-1))) gX11_isMethod_X11_in rfl rfl rfl (by decide +kernel) ⟨Nat.le_of_ble_eq_true rfl, Nat.le_of_ble_eq_true rfl⟩ rfl (Nat.le_of_ble_eq_true rfl) ⟨Nat.zero_le _, Nat.zero_le _⟩ rfl dX11_isMethod_8 (fun r1 M2 L3 hr1 => ?_)
  obtain ⟨hq1, hq2, hr1⟩ := hr1
  obtain rfl := hq1.symm
  obtain rfl := hq2.symm
  exact g_zret C hr (by first | rfl | (have e8 : r1 = 0 := (by grind); rw [e8]; rfl)) ⟨rfl, rfl, by first | rfl | grind⟩ dX11_isMethod_11
theorem dX11_meets_0 : decode cX11_meets 0 = .ok (.aload_n 0, 1) := by decide +kernel
theorem dX11_meets_1 : decode cX11_meets 1 = .ok (.iload_n 1, 1) := by decide +kernel
theorem dX11_meets_2 : decode cX11_meets 2 = .ok (.putfield 130, 3) := by decide +kernel
theorem in_X11_meets_11 : ∀ w ∈ u_ws RX11 TX11 53, w ∈ wsX11_meets := fun _ h => List.mem_cons_of_mem _ (List.mem_append_right _ h)
theorem dX11_meets_5 : decode cX11_meets 5 = .ok (.aload_n 0, 1) := by decide +kernel
theorem dX11_meets_6 : decode cX11_meets 6 = .ok (.getfield 7, 3) := by decide +kernel
theorem dX11_meets_9 : decode cX11_meets 9 = .ok (.iload_n 1, 1) := by decide +kernel
theorem dX11_meets_10 : decode cX11_meets 10 = .ok (.dup2, 1) := by decide +kernel
theorem dX11_meets_11 : decode cX11_meets 11 = .ok (.iaload, 1) := by decide +kernel
theorem dX11_meets_12 : decode cX11_meets 12 = .ok (.iconst 1, 1) := by decide +kernel
theorem dX11_meets_13 : decode cX11_meets 13 = .ok (.iadd, 1) := by decide +kernel
theorem dX11_meets_14 : decode cX11_meets 14 = .ok (.iastore, 1) := by decide +kernel
theorem dX11_meets_15 : decode cX11_meets 15 = .ok (.bipush (-3), 2) := by decide +kernel
theorem dX11_meets_17 : decode cX11_meets 17 = .ok (.ireturn, 1) := by decide +kernel
set_option maxHeartbeats 4000000 in
set_option maxRecDepth 100000 in
theorem c_X11_meets0 (l : Launch) (D : va_G) (ad : Nat → Nat) (cs : Nat → ClassId) (M : MI) (L : ML) (x1 : Int32) (h_in_x1 : vp_in x1 7) : Ci l yX11_meets wsX11_meets ({ frames := 0, cells := 0, slots := 0, locals := 0 }) D ad cs [.ref (ad 258), .int x1] M L (fun r M1 L1 => r = -3) := by
  refine enter_i RX11 rfl [(0, .ref (ad 258)), (1, .int x1)] rfl (Nat.le_of_ble_eq_true rfl) (by decide +kernel) rfl ?_
  intro p e s m below meth c C hr
  refine g_aload_n C 0 dX11_meets_0 rfl ?_
  refine g_iload_n C 1 dX11_meets_1 rfl ?_
  refine g_putI C 0 in_X11_meets_11 (List.mem_of_getElem? (i := 1) rfl) (by decide) (ce_model ad cs _ _) rfl (by decide) rfl tyX11 tyX11_ok nmX11 rfl rfl rfl rfl (Nat.le_of_ble_eq_true rfl) (by rw [sI_k]; rfl) dX11_meets_2 ?_
  refine g_nm (fun M1 hM1 => ?_)
  refine g_aload_n C 0 dX11_meets_5 rfl ?_
  refine g_get C (.ref (ad 259)) 1 in_X11_meets_11 (List.mem_of_getElem? (i := 2) rfl) (by decide) (ce_model ad cs _ _) rfl (by decide) rfl rfl dX11_meets_6 ?_
  refine g_iload_n C 1 dX11_meets_9 rfl ?_
  refine g_dup2 C dX11_meets_10 rfl rfl ?_
  refine g_iald C (by decide) (ce_m_came ad cs _ _) (h_in_x1) dX11_meets_11 ?_
  refine g_ni (fun v2 ev2 => ?_)
  refine g_iconst C 1 dX11_meets_12 (by decide) ?_
  refine g_iadd C dX11_meets_13 ?_
  refine g_ni (fun v3 ev3 => ?_)
  refine g_iast C (by decide) (ce_m_came ad cs _ _) (by rw [sI_k]; rfl) (h_in_x1) dX11_meets_14 ?_
  refine g_nm (fun M4 hM4 => ?_)
  refine g_bipush C (-3) dX11_meets_15 (by decide) ?_
  exact g_iret C hr (by first | rfl | grind) dX11_meets_17
theorem dX11_stand_0 : decode cX11_stand 0 = .ok (.aload_n 0, 1) := by decide +kernel
theorem dX11_stand_1 : decode cX11_stand 1 = .ok (.getfield 137, 3) := by decide +kernel
theorem in_X11_stand_11 : ∀ w ∈ u_ws RX11 TX11 53, w ∈ wsX11_stand := fun _ h => List.mem_cons_of_mem _ (List.mem_append_right _ h)
theorem dX11_stand_4 : decode cX11_stand 4 = .ok (.bipush 10, 2) := by decide +kernel
theorem dX11_stand_6 : decode cX11_stand 6 = .ok (.if_icmp .ne 6, 3) := by decide +kernel
theorem dX11_stand_12 : decode cX11_stand 12 = .ok (.aload_n 0, 1) := by decide +kernel
theorem dX11_stand_13 : decode cX11_stand 13 = .ok (.getfield 13, 3) := by decide +kernel
theorem dX11_stand_16 : decode cX11_stand 16 = .ok (.aload_n 0, 1) := by decide +kernel
theorem dX11_stand_17 : decode cX11_stand 17 = .ok (.getfield 137, 3) := by decide +kernel
theorem dX11_stand_20 : decode cX11_stand 20 = .ok (.aload_n 0, 1) := by decide +kernel
theorem dX11_stand_21 : decode cX11_stand 21 = .ok (.getfield 137, 3) := by decide +kernel
theorem dX11_stand_24 : decode cX11_stand 24 = .ok (.iastore, 1) := by decide +kernel
theorem dX11_stand_25 : decode cX11_stand 25 = .ok (.aload_n 0, 1) := by decide +kernel
theorem dX11_stand_26 : decode cX11_stand 26 = .ok (.dup, 1) := by decide +kernel
theorem dX11_stand_27 : decode cX11_stand 27 = .ok (.getfield 137, 3) := by decide +kernel
theorem dX11_stand_30 : decode cX11_stand 30 = .ok (.iconst 1, 1) := by decide +kernel
theorem dX11_stand_31 : decode cX11_stand 31 = .ok (.iadd, 1) := by decide +kernel
theorem dX11_stand_32 : decode cX11_stand 32 = .ok (.putfield 137, 3) := by decide +kernel
theorem dX11_stand_35 : decode cX11_stand 35 = .ok (.aload_n 0, 1) := by decide +kernel
theorem dX11_stand_36 : decode cX11_stand 36 = .ok (.getfield 137, 3) := by decide +kernel
theorem dX11_stand_39 : decode cX11_stand 39 = .ok (.iconst 1, 1) := by decide +kernel
theorem dX11_stand_40 : decode cX11_stand 40 = .ok (.isub, 1) := by decide +kernel
theorem dX11_stand_41 : decode cX11_stand 41 = .ok (.ireturn, 1) := by decide +kernel
set_option maxHeartbeats 4000000 in
set_option maxRecDepth 100000 in
theorem p_X11_stand (l : Launch) (D : va_G) (ad : Nat → Nat) (cs : Nat → ClassId) (M : MI) (L : ML)  (hm : ∀ k, 258 ≤ k → k < 297 → M k = M0 k) : Ci l yX11_stand wsX11_stand ({ frames := 0, cells := 0, slots := 0, locals := 0 }) D ad cs [.ref (ad 258)] M L (fun r M1 L1 => r = (0)) := by
  refine enter_i RX11 rfl [(0, .ref (ad 258))] rfl (Nat.le_of_ble_eq_true rfl) (by decide +kernel) rfl ?_
  intro p e s m below meth c C hr
  refine g_aload_n C 0 dX11_stand_0 rfl ?_
  refine g_get C (.int (M 258 2)) 2 in_X11_stand_11 (List.mem_of_getElem? (i := 1) rfl) (by decide) (ce_model ad cs _ _) rfl (by decide) rfl rfl dX11_stand_1 ?_
  refine g_ti 0 (by (rw [hm 258 (by decide) (by decide)]; try rfl)) ?_
  refine g_bipush C 10 dX11_stand_4 (by decide) ?_
  refine g_icmp_ne C 12 dX11_stand_6 (by decide) (fun _ => ?_) (fun c1 => absurd c1 (by decide))
  refine g_aload_n C 0 dX11_stand_12 rfl ?_
  refine g_get C (.ref (ad 260)) 3 in_X11_stand_11 (List.mem_of_getElem? (i := 2) rfl) (by decide) (ce_model ad cs _ _) rfl (by decide) rfl rfl dX11_stand_13 ?_
  refine g_aload_n C 0 dX11_stand_16 rfl ?_
  refine g_get C (.int (M 258 2)) 2 in_X11_stand_11 (List.mem_of_getElem? (i := 1) rfl) (by decide) (ce_model ad cs _ _) rfl (by decide) rfl rfl dX11_stand_17 ?_
  refine g_ti 0 (by (rw [hm 258 (by decide) (by decide)]; try rfl)) ?_
  refine g_aload_n C 0 dX11_stand_20 rfl ?_
  refine g_get C (.int (M 258 2)) 2 in_X11_stand_11 (List.mem_of_getElem? (i := 1) rfl) (by decide) (ce_model ad cs _ _) rfl (by decide) rfl rfl dX11_stand_21 ?_
  refine g_ti 0 (by (rw [hm 258 (by decide) (by decide)]; try rfl)) ?_
  refine g_iast C (by decide) (ce_m_draw ad cs _ _) (by rw [sI_k]; rfl) (by unfold vp_in; decide) dX11_stand_24 ?_
  refine g_nm (fun M2 hM2 => ?_)
  refine g_aload_n C 0 dX11_stand_25 rfl ?_
  refine g_dup C dX11_stand_26 rfl ?_
  refine g_get C (.int (M2 258 2)) 2 in_X11_stand_11 (List.mem_of_getElem? (i := 1) rfl) (by decide) (ce_model ad cs _ _) rfl (by decide) rfl rfl dX11_stand_27 ?_
  refine g_ti 0 (by (rw [hM2, sI_at, if_neg (by decide), hm 258 (by decide) (by decide)]; try rfl)) ?_
  refine g_iconst C 1 dX11_stand_30 (by decide) ?_
  refine g_iadd C dX11_stand_31 ?_
  refine g_ti 1 (by decide) ?_
  refine g_putI C 2 in_X11_stand_11 (List.mem_of_getElem? (i := 1) rfl) (by decide) (ce_model ad cs _ _) rfl (by decide) rfl tyX11 tyX11_ok nmX11 rfl rfl rfl rfl (Nat.le_of_ble_eq_true rfl) (by rw [sI_k]; rfl) dX11_stand_32 ?_
  refine g_nm (fun M3 hM3 => ?_)
  refine g_aload_n C 0 dX11_stand_35 rfl ?_
  refine g_get C (.int (M3 258 2)) 2 in_X11_stand_11 (List.mem_of_getElem? (i := 1) rfl) (by decide) (ce_model ad cs _ _) rfl (by decide) rfl rfl dX11_stand_36 ?_
  refine g_ti 1 (by (rw [hM3, sI_at, if_pos (by decide)]; try rfl)) ?_
  refine g_iconst C 1 dX11_stand_39 (by decide) ?_
  refine g_isub C dX11_stand_40 ?_
  refine g_ti 0 (by decide) ?_
  exact g_iret C hr (by first | rfl | grind) dX11_stand_41
theorem dX11_draw_0 : decode cX11_draw 0 = .ok (.aload_n 0, 1) := by decide +kernel
theorem dX11_draw_1 : decode cX11_draw 1 = .ok (.iload_n 1, 1) := by decide +kernel
theorem dX11_draw_2 : decode cX11_draw 2 = .ok (.invokevirtual 140, 3) := by decide +kernel
set_option maxRecDepth 20000 in
theorem ggX11_draw_X11_isCandidate : GoodIn wsX11_draw wsX11_isCandidate := goodIn_r _ [6, 7, 8, 9, 5, 10, 11, 12, 13, 14, 15, 16, 17, 18, 19, 20, 21, 22, 23, 24, 25, 26, 27, 28, 29, 30, 31, 32, 33, 34, 35, 36, 37, 38, 39, 40, 41, 42, 43, 44, 45, 46, 47, 48, 49, 50, 51, 52, 53, 54, 55, 56, 57, 58, 59, 60, 61, 62, 63] (by decide +kernel) (by decide +kernel)
set_option maxRecDepth 20000 in
theorem gX11_draw_X11_isCandidate : GoodIn wsX11_draw (wsV RX11 140 RX11 yX11_isCandidate wsX11_isCandidate) := goodIn_app (goodIn_of _ (by decide +kernel)) ggX11_draw_X11_isCandidate
theorem dX11_draw_5 : decode cX11_draw 5 = .ok (.ifCond .eq 11, 3) := by decide +kernel
theorem dX11_draw_16 : decode cX11_draw 16 = .ok (.iconst (-1), 1) := by decide +kernel
theorem dX11_draw_17 : decode cX11_draw 17 = .ok (.ireturn, 1) := by decide +kernel
set_option maxHeartbeats 4000000 in
set_option maxRecDepth 100000 in
theorem p_X11_draw (l : Launch) (D : va_G) (ad : Nat → Nat) (cs : Nat → ClassId) (M : MI) (L : ML) (x1 : Int32) (x2 : Int32) (hm : ∀ k, 258 ≤ k → k < 297 → M k = M0 k) : Ci l yX11_draw wsX11_draw ({ frames := 2, cells := 0, slots := 0, locals := 43 }) D ad cs [.ref (ad 258), .int x1, .int x2] M L (fun r M1 L1 => r = (-1)) := by
  refine enter_i RX11 rfl [(0, .ref (ad 258)), (1, .int x1), (2, .int x2)] rfl (Nat.le_of_ble_eq_true rfl) (by decide +kernel) rfl ?_
  intro p e s m below meth c C hr
  refine g_aload_n C 0 dX11_draw_0 rfl ?_
  refine g_iload_n C 1 dX11_draw_1 rfl ?_
  refine g_callVi C (n := 1) (As := [.int x1]) (st := []) (c_X11_isCandidate0 l D ad cs _ _ x1 (hm)) gX11_draw_X11_isCandidate rfl rfl rfl (by decide +kernel) ⟨Nat.le_of_ble_eq_true rfl, Nat.le_of_ble_eq_true rfl⟩ rfl (Nat.le_of_ble_eq_true rfl) ⟨Nat.zero_le _, Nat.zero_le _⟩ (by decide) (ce_model ad cs _ _) rfl rfl dX11_draw_2 (fun r1 M2 L3 hr1 => ?_)
  obtain ⟨hq1, hq2, rfl⟩ := hr1
  obtain rfl := hq1.symm
  obtain rfl := hq2.symm
  refine g_if_eq C 16 dX11_draw_5 (by decide) (fun _ => ?_) (fun c4 => absurd c4 (by decide))
  refine g_iconst C (-1) dX11_draw_16 (by decide) ?_
  exact g_iret C hr (by first | rfl | grind) dX11_draw_17
theorem dX11_drawn_0 : decode cX11_drawn 0 = .ok (.aload_n 0, 1) := by decide +kernel
theorem dX11_drawn_1 : decode cX11_drawn 1 = .ok (.iload_n 1, 1) := by decide +kernel
theorem dX11_drawn_2 : decode cX11_drawn 2 = .ok (.invokevirtual 140, 3) := by decide +kernel
set_option maxRecDepth 20000 in
theorem ggX11_drawn_X11_isCandidate : GoodIn wsX11_drawn wsX11_isCandidate := goodIn_r _ [6, 7, 8, 9, 5, 10, 11, 12, 13, 14, 15, 16, 17, 18, 19, 20, 21, 22, 23, 24, 25, 26, 27, 28, 29, 30, 31, 32, 33, 34, 35, 36, 37, 38, 39, 40, 41, 42, 43, 44, 45, 46, 47, 48, 49, 50, 51, 52, 53, 54, 55, 56, 57, 58, 59, 60, 61, 62, 63] (by decide +kernel) (by decide +kernel)
set_option maxRecDepth 20000 in
theorem gX11_drawn_X11_isCandidate : GoodIn wsX11_drawn (wsV RX11 140 RX11 yX11_isCandidate wsX11_isCandidate) := goodIn_app (goodIn_of _ (by decide +kernel)) ggX11_drawn_X11_isCandidate
theorem dX11_drawn_5 : decode cX11_drawn 5 = .ok (.ifCond .eq 12, 3) := by decide +kernel
theorem dX11_drawn_17 : decode cX11_drawn 17 = .ok (.iconst (-1), 1) := by decide +kernel
theorem dX11_drawn_18 : decode cX11_drawn 18 = .ok (.ireturn, 1) := by decide +kernel
set_option maxHeartbeats 4000000 in
set_option maxRecDepth 100000 in
theorem p_X11_drawn (l : Launch) (D : va_G) (ad : Nat → Nat) (cs : Nat → ClassId) (M : MI) (L : ML) (x1 : Int32) (hm : ∀ k, 258 ≤ k → k < 297 → M k = M0 k) : Ci l yX11_drawn wsX11_drawn ({ frames := 2, cells := 0, slots := 0, locals := 43 }) D ad cs [.ref (ad 258), .int x1] M L (fun r M1 L1 => r = (-1)) := by
  refine enter_i RX11 rfl [(0, .ref (ad 258)), (1, .int x1)] rfl (Nat.le_of_ble_eq_true rfl) (by decide +kernel) rfl ?_
  intro p e s m below meth c C hr
  refine g_aload_n C 0 dX11_drawn_0 rfl ?_
  refine g_iload_n C 1 dX11_drawn_1 rfl ?_
  refine g_callVi C (n := 1) (As := [.int x1]) (st := []) (c_X11_isCandidate0 l D ad cs _ _ x1 (hm)) gX11_drawn_X11_isCandidate rfl rfl rfl (by decide +kernel) ⟨Nat.le_of_ble_eq_true rfl, Nat.le_of_ble_eq_true rfl⟩ rfl (Nat.le_of_ble_eq_true rfl) ⟨Nat.zero_le _, Nat.zero_le _⟩ (by decide) (ce_model ad cs _ _) rfl rfl dX11_drawn_2 (fun r1 M2 L3 hr1 => ?_)
  obtain ⟨hq1, hq2, rfl⟩ := hr1
  obtain rfl := hq1.symm
  obtain rfl := hq2.symm
  refine g_if_eq C 17 dX11_drawn_5 (by decide) (fun _ => ?_) (fun c4 => absurd c4 (by decide))
  refine g_iconst C (-1) dX11_drawn_17 (by decide) ?_
  exact g_iret C hr (by first | rfl | grind) dX11_drawn_18
theorem dX11_ballot_0 : decode cX11_ballot 0 = .ok (.iload_n 1, 1) := by decide +kernel
theorem dX11_ballot_1 : decode cX11_ballot 1 = .ok (.iconst 0, 1) := by decide +kernel
theorem dX11_ballot_2 : decode cX11_ballot 2 = .ok (.iconst 3, 1) := by decide +kernel
theorem dX11_ballot_3 : decode cX11_ballot 3 = .ok (.invokestatic 133, 3) := by decide +kernel
set_option maxRecDepth 20000 in
theorem ggX11_ballot_X11_in : GoodIn wsX11_ballot wsX11_in := goodIn_r _ [8] (by decide +kernel) (by decide +kernel)
set_option maxRecDepth 20000 in
theorem gX11_ballot_X11_in : GoodIn wsX11_ballot (va_wsS RX11 133 yX11_in wsX11_in) := goodIn_app (goodIn_of _ (by decide +kernel)) ggX11_ballot_X11_in
theorem dX11_ballot_6 : decode cX11_ballot 6 = .ok (.ifCond .eq 13, 3) := by decide +kernel
theorem dX11_ballot_19 : decode cX11_ballot 19 = .ok (.iconst (-1), 1) := by decide +kernel
theorem dX11_ballot_20 : decode cX11_ballot 20 = .ok (.ireturn, 1) := by decide +kernel
theorem dX11_ballot_9 : decode cX11_ballot 9 = .ok (.iload_n 2, 1) := by decide +kernel
theorem dX11_ballot_10 : decode cX11_ballot 10 = .ok (.iconst 1, 1) := by decide +kernel
theorem dX11_ballot_11 : decode cX11_ballot 11 = .ok (.ldc 147, 2) := by decide +kernel
theorem dX11_ballot_13 : decode cX11_ballot 13 = .ok (.invokestatic 133, 3) := by decide +kernel
theorem dX11_ballot_16 : decode cX11_ballot 16 = .ok (.ifCond .ne 5, 3) := by decide +kernel
theorem dX11_ballot_21 : decode cX11_ballot 21 = .ok (.aload_n 0, 1) := by decide +kernel
theorem dX11_ballot_22 : decode cX11_ballot 22 = .ok (.getfield 144, 3) := by decide +kernel
theorem in_X11_ballot_11 : ∀ w ∈ u_ws RX11 TX11 53, w ∈ wsX11_ballot := fun _ h => List.mem_cons_of_mem _ (List.mem_append_right _ h)
theorem dX11_ballot_25 : decode cX11_ballot 25 = .ok (.bipush 60, 2) := by decide +kernel
theorem dX11_ballot_27 : decode cX11_ballot 27 = .ok (.if_icmp .ne 6, 3) := by decide +kernel
theorem dX11_ballot_33 : decode cX11_ballot 33 = .ok (.aload_n 0, 1) := by decide +kernel
theorem dX11_ballot_34 : decode cX11_ballot 34 = .ok (.getfield 16, 3) := by decide +kernel
theorem dX11_ballot_37 : decode cX11_ballot 37 = .ok (.aload_n 0, 1) := by decide +kernel
theorem dX11_ballot_38 : decode cX11_ballot 38 = .ok (.getfield 144, 3) := by decide +kernel
theorem dX11_ballot_41 : decode cX11_ballot 41 = .ok (.iload_n 1, 1) := by decide +kernel
theorem dX11_ballot_42 : decode cX11_ballot 42 = .ok (.iastore, 1) := by decide +kernel
theorem dX11_ballot_43 : decode cX11_ballot 43 = .ok (.aload_n 0, 1) := by decide +kernel
theorem dX11_ballot_44 : decode cX11_ballot 44 = .ok (.getfield 19, 3) := by decide +kernel
theorem dX11_ballot_47 : decode cX11_ballot 47 = .ok (.aload_n 0, 1) := by decide +kernel
theorem dX11_ballot_48 : decode cX11_ballot 48 = .ok (.getfield 144, 3) := by decide +kernel
theorem dX11_ballot_51 : decode cX11_ballot 51 = .ok (.iload_n 2, 1) := by decide +kernel
theorem dX11_ballot_52 : decode cX11_ballot 52 = .ok (.iastore, 1) := by decide +kernel
theorem dX11_ballot_53 : decode cX11_ballot 53 = .ok (.aload_n 0, 1) := by decide +kernel
theorem dX11_ballot_54 : decode cX11_ballot 54 = .ok (.dup, 1) := by decide +kernel
theorem dX11_ballot_55 : decode cX11_ballot 55 = .ok (.getfield 144, 3) := by decide +kernel
theorem dX11_ballot_58 : decode cX11_ballot 58 = .ok (.iconst 1, 1) := by decide +kernel
theorem dX11_ballot_59 : decode cX11_ballot 59 = .ok (.iadd, 1) := by decide +kernel
theorem dX11_ballot_60 : decode cX11_ballot 60 = .ok (.putfield 144, 3) := by decide +kernel
theorem dX11_ballot_63 : decode cX11_ballot 63 = .ok (.aload_n 0, 1) := by decide +kernel
theorem dX11_ballot_64 : decode cX11_ballot 64 = .ok (.getfield 144, 3) := by decide +kernel
theorem dX11_ballot_67 : decode cX11_ballot 67 = .ok (.iconst 1, 1) := by decide +kernel
theorem dX11_ballot_68 : decode cX11_ballot 68 = .ok (.isub, 1) := by decide +kernel
theorem dX11_ballot_69 : decode cX11_ballot 69 = .ok (.ireturn, 1) := by decide +kernel
set_option maxHeartbeats 4000000 in
set_option maxRecDepth 100000 in
theorem p_X11_ballot (l : Launch) (D : va_G) (ad : Nat → Nat) (cs : Nat → ClassId) (M : MI) (L : ML) (x1 : Int32) (x2 : Int32) (hm : ∀ k, 258 ≤ k → k < 297 → M k = M0 k) : Ci l yX11_ballot wsX11_ballot ({ frames := 1, cells := 0, slots := 0, locals := 22 }) D ad cs [.ref (ad 258), .int x1, .int x2] M L (fun r M1 L1 => r = (if 0 ≤ x1 ∧ x1 < 4 ∧ 1 ≤ x2 ∧ x2 ≤ 100000 then 0 else -1)) := by
  refine enter_i RX11 rfl [(0, .ref (ad 258)), (1, .int x1), (2, .int x2)] rfl (Nat.le_of_ble_eq_true rfl) (by decide +kernel) rfl ?_
  intro p e s m below meth c C hr
  refine g_iload_n C 1 dX11_ballot_0 rfl ?_
  refine g_iconst C 0 dX11_ballot_1 (by decide) ?_
  refine g_iconst C 3 dX11_ballot_2 (by decide) ?_
  refine g_callSi C (n := 3) (As := [.int x1, .int 0, .int 3]) (st := []) (c_X11_in l D ad cs _ _ x1 0 3) gX11_ballot_X11_in rfl rfl rfl (by decide +kernel) ⟨Nat.le_of_ble_eq_true rfl, Nat.le_of_ble_eq_true rfl⟩ rfl (Nat.le_of_ble_eq_true rfl) ⟨Nat.zero_le _, Nat.zero_le _⟩ rfl dX11_ballot_3 (fun r1 M2 L3 hr1 => ?_)
  obtain ⟨hq1, hq2, hr1⟩ := hr1
  obtain rfl := hq1.symm
  obtain rfl := hq2.symm
  refine g_if_eq C 19 dX11_ballot_6 (by decide) (fun c4 => ?_) (fun c4 => ?_)
  ·
    refine g_iconst C (-1) dX11_ballot_19 (by decide) ?_
    exact g_iret C hr (by first | rfl | grind) dX11_ballot_20
  ·
    refine g_iload_n C 2 dX11_ballot_9 rfl ?_
    refine g_iconst C 1 dX11_ballot_10 (by decide) ?_
    refine g_ldc C 100000 (List.mem_of_getElem? (i := 1) rfl) dX11_ballot_11 ?_
    refine g_callSi C (n := 3) (As := [.int x2, .int 1, .int 100000]) (st := []) (c_X11_in l D ad cs _ _ x2 1 100000) gX11_ballot_X11_in rfl rfl rfl (by decide +kernel) ⟨Nat.le_of_ble_eq_true rfl, Nat.le_of_ble_eq_true rfl⟩ rfl (Nat.le_of_ble_eq_true rfl) ⟨Nat.zero_le _, Nat.zero_le _⟩ rfl dX11_ballot_13 (fun r5 M6 L7 hr5 => ?_)
    obtain ⟨hq1, hq2, hr5⟩ := hr5
    obtain rfl := hq1.symm
    obtain rfl := hq2.symm
    refine g_if_ne C 21 dX11_ballot_16 (by decide) (fun c8 => ?_) (fun c8 => ?_)
    ·
      refine g_aload_n C 0 dX11_ballot_21 rfl ?_
      refine g_get C (.int (M 258 4)) 4 in_X11_ballot_11 (List.mem_of_getElem? (i := 2) rfl) (by decide) (ce_model ad cs _ _) rfl (by decide) rfl rfl dX11_ballot_22 ?_
      refine g_ti 0 (by (rw [hm 258 (by decide) (by decide)]; try rfl)) ?_
      refine g_bipush C 60 dX11_ballot_25 (by decide) ?_
      refine g_icmp_ne C 33 dX11_ballot_27 (by decide) (fun _ => ?_) (fun c9 => absurd c9 (by decide))
      refine g_aload_n C 0 dX11_ballot_33 rfl ?_
      refine g_get C (.ref (ad 261)) 5 in_X11_ballot_11 (List.mem_of_getElem? (i := 3) rfl) (by decide) (ce_model ad cs _ _) rfl (by decide) rfl rfl dX11_ballot_34 ?_
      refine g_aload_n C 0 dX11_ballot_37 rfl ?_
      refine g_get C (.int (M 258 4)) 4 in_X11_ballot_11 (List.mem_of_getElem? (i := 2) rfl) (by decide) (ce_model ad cs _ _) rfl (by decide) rfl rfl dX11_ballot_38 ?_
      refine g_ti 0 (by (rw [hm 258 (by decide) (by decide)]; try rfl)) ?_
      refine g_iload_n C 1 dX11_ballot_41 rfl ?_
      refine g_iast C (by decide) (ce_m_sortOf ad cs _ _) (by rw [sI_k]; rfl) (by unfold vp_in; decide) dX11_ballot_42 ?_
      refine g_nm (fun M10 hM10 => ?_)
      refine g_aload_n C 0 dX11_ballot_43 rfl ?_
      refine g_get C (.ref (ad 262)) 6 in_X11_ballot_11 (List.mem_of_getElem? (i := 4) rfl) (by decide) (ce_model ad cs _ _) rfl (by decide) rfl rfl dX11_ballot_44 ?_
      refine g_aload_n C 0 dX11_ballot_47 rfl ?_
      refine g_get C (.int (M10 258 4)) 4 in_X11_ballot_11 (List.mem_of_getElem? (i := 2) rfl) (by decide) (ce_model ad cs _ _) rfl (by decide) rfl rfl dX11_ballot_48 ?_
      refine g_ti 0 (by (rw [hM10, sI_at, if_neg (by decide), hm 258 (by decide) (by decide)]; try rfl)) ?_
      refine g_iload_n C 2 dX11_ballot_51 rfl ?_
      refine g_iast C (by decide) (ce_m_papersOf ad cs _ _) (by rw [sI_k]; rfl) (by unfold vp_in; decide) dX11_ballot_52 ?_
      refine g_nm (fun M11 hM11 => ?_)
      refine g_aload_n C 0 dX11_ballot_53 rfl ?_
      refine g_dup C dX11_ballot_54 rfl ?_
      refine g_get C (.int (M11 258 4)) 4 in_X11_ballot_11 (List.mem_of_getElem? (i := 2) rfl) (by decide) (ce_model ad cs _ _) rfl (by decide) rfl rfl dX11_ballot_55 ?_
      refine g_ti 0 (by (rw [hM11, sI_at, if_neg (by decide), hM10, sI_at, if_neg (by decide), hm 258 (by decide) (by decide)]; try rfl)) ?_
      refine g_iconst C 1 dX11_ballot_58 (by decide) ?_
      refine g_iadd C dX11_ballot_59 ?_
      refine g_ti 1 (by decide) ?_
      refine g_putI C 4 in_X11_ballot_11 (List.mem_of_getElem? (i := 2) rfl) (by decide) (ce_model ad cs _ _) rfl (by decide) rfl tyX11 tyX11_ok nmX11 rfl rfl rfl rfl (Nat.le_of_ble_eq_true rfl) (by rw [sI_k]; rfl) dX11_ballot_60 ?_
      refine g_nm (fun M12 hM12 => ?_)
      refine g_aload_n C 0 dX11_ballot_63 rfl ?_
      refine g_get C (.int (M12 258 4)) 4 in_X11_ballot_11 (List.mem_of_getElem? (i := 2) rfl) (by decide) (ce_model ad cs _ _) rfl (by decide) rfl rfl dX11_ballot_64 ?_
      refine g_ti 1 (by (rw [hM12, sI_at, if_pos (by decide)]; try rfl)) ?_
      refine g_iconst C 1 dX11_ballot_67 (by decide) ?_
      refine g_isub C dX11_ballot_68 ?_
      refine g_ti 0 (by decide) ?_
      exact g_iret C hr (by first | rfl | grind) dX11_ballot_69
    ·
      refine g_iconst C (-1) dX11_ballot_19 (by decide) ?_
      exact g_iret C hr (by first | rfl | grind) dX11_ballot_20
theorem dX11_rank_0 : decode cX11_rank 0 = .ok (.aload_n 0, 1) := by decide +kernel
theorem dX11_rank_1 : decode cX11_rank 1 = .ok (.iload_n 1, 1) := by decide +kernel
theorem dX11_rank_2 : decode cX11_rank 2 = .ok (.invokevirtual 148, 3) := by decide +kernel
set_option maxRecDepth 20000 in
theorem ggX11_rank_X11_isBallot : GoodIn wsX11_rank wsX11_isBallot := goodIn_r _ [8, 9, 10, 11, 7, 12, 31, 32, 33, 34, 35, 36, 37, 38, 39, 40, 41, 42, 43, 44, 45, 46, 47, 48, 49, 50, 51, 52, 53, 54, 55, 56, 57, 58, 59, 60, 61, 62, 63, 64, 65, 66, 67, 68, 69, 70, 71, 72, 73, 74, 75, 76, 77, 78, 79, 80, 81, 82, 83] (by decide +kernel) (by decide +kernel)
set_option maxRecDepth 20000 in
theorem gX11_rank_X11_isBallot : GoodIn wsX11_rank (wsV RX11 148 RX11 yX11_isBallot wsX11_isBallot) := goodIn_app (goodIn_of _ (by decide +kernel)) ggX11_rank_X11_isBallot
theorem dX11_rank_5 : decode cX11_rank 5 = .ok (.ifCond .eq 11, 3) := by decide +kernel
theorem dX11_rank_16 : decode cX11_rank 16 = .ok (.iconst (-1), 1) := by decide +kernel
theorem dX11_rank_17 : decode cX11_rank 17 = .ok (.ireturn, 1) := by decide +kernel
set_option maxHeartbeats 4000000 in
set_option maxRecDepth 100000 in
theorem p_X11_rank (l : Launch) (D : va_G) (ad : Nat → Nat) (cs : Nat → ClassId) (M : MI) (L : ML) (x1 : Int32) (x2 : Int32) (hm : ∀ k, 258 ≤ k → k < 297 → M k = M0 k) : Ci l yX11_rank wsX11_rank ({ frames := 2, cells := 0, slots := 0, locals := 43 }) D ad cs [.ref (ad 258), .int x1, .int x2] M L (fun r M1 L1 => r = (-1)) := by
  refine enter_i RX11 rfl [(0, .ref (ad 258)), (1, .int x1), (2, .int x2)] rfl (Nat.le_of_ble_eq_true rfl) (by decide +kernel) rfl ?_
  intro p e s m below meth c C hr
  refine g_aload_n C 0 dX11_rank_0 rfl ?_
  refine g_iload_n C 1 dX11_rank_1 rfl ?_
  refine g_callVi C (n := 1) (As := [.int x1]) (st := []) (c_X11_isBallot0 l D ad cs _ _ x1 (hm)) gX11_rank_X11_isBallot rfl rfl rfl (by decide +kernel) ⟨Nat.le_of_ble_eq_true rfl, Nat.le_of_ble_eq_true rfl⟩ rfl (Nat.le_of_ble_eq_true rfl) ⟨Nat.zero_le _, Nat.zero_le _⟩ (by decide) (ce_model ad cs _ _) rfl rfl dX11_rank_2 (fun r1 M2 L3 hr1 => ?_)
  obtain ⟨hq1, hq2, rfl⟩ := hr1
  obtain rfl := hq1.symm
  obtain rfl := hq2.symm
  refine g_if_eq C 16 dX11_rank_5 (by decide) (fun _ => ?_) (fun c4 => absurd c4 (by decide))
  refine g_iconst C (-1) dX11_rank_16 (by decide) ?_
  exact g_iret C hr (by first | rfl | grind) dX11_rank_17
theorem dX11_score_0 : decode cX11_score 0 = .ok (.aload_n 0, 1) := by decide +kernel
theorem dX11_score_1 : decode cX11_score 1 = .ok (.iload_n 1, 1) := by decide +kernel
theorem dX11_score_2 : decode cX11_score 2 = .ok (.invokevirtual 148, 3) := by decide +kernel
set_option maxRecDepth 20000 in
theorem ggX11_score_X11_isBallot : GoodIn wsX11_score wsX11_isBallot := goodIn_r _ [7, 8, 9, 10, 6, 11, 23, 24, 25, 26, 27, 28, 29, 30, 31, 32, 33, 34, 35, 36, 37, 38, 39, 40, 41, 42, 43, 44, 45, 46, 47, 48, 49, 50, 51, 52, 53, 54, 55, 56, 57, 58, 59, 60, 61, 62, 63, 64, 65, 66, 67, 68, 69, 70, 71, 72, 73, 74, 75] (by decide +kernel) (by decide +kernel)
set_option maxRecDepth 20000 in
theorem gX11_score_X11_isBallot : GoodIn wsX11_score (wsV RX11 148 RX11 yX11_isBallot wsX11_isBallot) := goodIn_app (goodIn_of _ (by decide +kernel)) ggX11_score_X11_isBallot
theorem dX11_score_5 : decode cX11_score 5 = .ok (.ifCond .eq 21, 3) := by decide +kernel
theorem dX11_score_26 : decode cX11_score 26 = .ok (.iconst (-1), 1) := by decide +kernel
theorem dX11_score_27 : decode cX11_score 27 = .ok (.ireturn, 1) := by decide +kernel
set_option maxHeartbeats 4000000 in
set_option maxRecDepth 100000 in
theorem p_X11_score (l : Launch) (D : va_G) (ad : Nat → Nat) (cs : Nat → ClassId) (M : MI) (L : ML) (x1 : Int32) (x2 : Int32) (x3 : Int32) (hm : ∀ k, 258 ≤ k → k < 297 → M k = M0 k) : Ci l yX11_score wsX11_score ({ frames := 2, cells := 0, slots := 0, locals := 43 }) D ad cs [.ref (ad 258), .int x1, .int x2, .int x3] M L (fun r M1 L1 => r = (-1)) := by
  refine enter_i RX11 rfl [(0, .ref (ad 258)), (1, .int x1), (2, .int x2), (3, .int x3)] rfl (Nat.le_of_ble_eq_true rfl) (by decide +kernel) rfl ?_
  intro p e s m below meth c C hr
  refine g_aload_n C 0 dX11_score_0 rfl ?_
  refine g_iload_n C 1 dX11_score_1 rfl ?_
  refine g_callVi C (n := 1) (As := [.int x1]) (st := []) (c_X11_isBallot0 l D ad cs _ _ x1 (hm)) gX11_score_X11_isBallot rfl rfl rfl (by decide +kernel) ⟨Nat.le_of_ble_eq_true rfl, Nat.le_of_ble_eq_true rfl⟩ rfl (Nat.le_of_ble_eq_true rfl) ⟨Nat.zero_le _, Nat.zero_le _⟩ (by decide) (ce_model ad cs _ _) rfl rfl dX11_score_2 (fun r1 M2 L3 hr1 => ?_)
  obtain ⟨hq1, hq2, rfl⟩ := hr1
  obtain rfl := hq1.symm
  obtain rfl := hq2.symm
  refine g_if_eq C 26 dX11_score_5 (by decide) (fun _ => ?_) (fun c4 => absurd c4 (by decide))
  refine g_iconst C (-1) dX11_score_26 (by decide) ?_
  exact g_iret C hr (by first | rfl | grind) dX11_score_27
theorem dX11_told_0 : decode cX11_told 0 = .ok (.aload_n 0, 1) := by decide +kernel
theorem dX11_told_1 : decode cX11_told 1 = .ok (.iload_n 1, 1) := by decide +kernel
theorem dX11_told_2 : decode cX11_told 2 = .ok (.invokevirtual 148, 3) := by decide +kernel
set_option maxRecDepth 20000 in
theorem ggX11_told_X11_isBallot : GoodIn wsX11_told wsX11_isBallot := goodIn_r _ [10, 11, 12, 13, 9, 14, 15, 16, 17, 18, 19, 20, 21, 22, 23, 24, 25, 26, 27, 28, 29, 30, 31, 32, 33, 34, 35, 36, 37, 38, 39, 40, 41, 42, 43, 44, 45, 46, 47, 48, 49, 50, 51, 52, 53, 54, 55, 56, 57, 58, 59, 60, 61, 62, 63, 64, 65, 66, 67] (by decide +kernel) (by decide +kernel)
set_option maxRecDepth 20000 in
theorem gX11_told_X11_isBallot : GoodIn wsX11_told (wsV RX11 148 RX11 yX11_isBallot wsX11_isBallot) := goodIn_app (goodIn_of _ (by decide +kernel)) ggX11_told_X11_isBallot
theorem dX11_told_5 : decode cX11_told 5 = .ok (.ifCond .eq 7, 3) := by decide +kernel
theorem dX11_told_12 : decode cX11_told 12 = .ok (.iconst (-1), 1) := by decide +kernel
theorem dX11_told_13 : decode cX11_told 13 = .ok (.ireturn, 1) := by decide +kernel
set_option maxHeartbeats 4000000 in
set_option maxRecDepth 100000 in
theorem p_X11_told (l : Launch) (D : va_G) (ad : Nat → Nat) (cs : Nat → ClassId) (M : MI) (L : ML) (x1 : Int32) (x2 : Int32) (hm : ∀ k, 258 ≤ k → k < 297 → M k = M0 k) : Ci l yX11_told wsX11_told ({ frames := 2, cells := 0, slots := 0, locals := 43 }) D ad cs [.ref (ad 258), .int x1, .int x2] M L (fun r M1 L1 => r = (-1)) := by
  refine enter_i RX11 rfl [(0, .ref (ad 258)), (1, .int x1), (2, .int x2)] rfl (Nat.le_of_ble_eq_true rfl) (by decide +kernel) rfl ?_
  intro p e s m below meth c C hr
  refine g_aload_n C 0 dX11_told_0 rfl ?_
  refine g_iload_n C 1 dX11_told_1 rfl ?_
  refine g_callVi C (n := 1) (As := [.int x1]) (st := []) (c_X11_isBallot0 l D ad cs _ _ x1 (hm)) gX11_told_X11_isBallot rfl rfl rfl (by decide +kernel) ⟨Nat.le_of_ble_eq_true rfl, Nat.le_of_ble_eq_true rfl⟩ rfl (Nat.le_of_ble_eq_true rfl) ⟨Nat.zero_le _, Nat.zero_le _⟩ (by decide) (ce_model ad cs _ _) rfl rfl dX11_told_2 (fun r1 M2 L3 hr1 => ?_)
  obtain ⟨hq1, hq2, rfl⟩ := hr1
  obtain rfl := hq1.symm
  obtain rfl := hq2.symm
  refine g_if_eq C 12 dX11_told_5 (by decide) (fun _ => ?_) (fun c4 => absurd c4 (by decide))
  refine g_iconst C (-1) dX11_told_12 (by decide) ?_
  exact g_iret C hr (by first | rfl | grind) dX11_told_13
theorem dX11_is_0 : decode cX11_is 0 = .ok (.aload_n 0, 1) := by decide +kernel
theorem dX11_is_1 : decode cX11_is 1 = .ok (.iload_n 1, 1) := by decide +kernel
theorem dX11_is_2 : decode cX11_is 2 = .ok (.invokevirtual 148, 3) := by decide +kernel
set_option maxRecDepth 20000 in
theorem ggX11_is_X11_isBallot : GoodIn wsX11_is wsX11_isBallot := goodIn_r _ [6, 7, 8, 9, 5, 10, 14, 15, 16, 17, 18, 19, 20, 21, 22, 23, 24, 25, 26, 27, 28, 29, 30, 31, 32, 33, 34, 35, 36, 37, 38, 39, 40, 41, 42, 43, 44, 45, 46, 47, 48, 49, 50, 51, 52, 53, 54, 55, 56, 57, 58, 59, 60, 61, 62, 63, 64, 65, 66] (by decide +kernel) (by decide +kernel)
set_option maxRecDepth 20000 in
theorem gX11_is_X11_isBallot : GoodIn wsX11_is (wsV RX11 148 RX11 yX11_isBallot wsX11_isBallot) := goodIn_app (goodIn_of _ (by decide +kernel)) ggX11_is_X11_isBallot
theorem dX11_is_5 : decode cX11_is 5 = .ok (.ifCond .eq 12, 3) := by decide +kernel
theorem dX11_is_17 : decode cX11_is 17 = .ok (.iconst (-1), 1) := by decide +kernel
theorem dX11_is_18 : decode cX11_is 18 = .ok (.goto 21, 3) := by decide +kernel
theorem dX11_is_39 : decode cX11_is 39 = .ok (.ireturn, 1) := by decide +kernel
set_option maxHeartbeats 4000000 in
set_option maxRecDepth 100000 in
theorem p_X11_is (l : Launch) (D : va_G) (ad : Nat → Nat) (cs : Nat → ClassId) (M : MI) (L : ML) (x1 : Int32) (x2 : Int32) (hm : ∀ k, 258 ≤ k → k < 297 → M k = M0 k) : Ci l yX11_is wsX11_is ({ frames := 2, cells := 0, slots := 0, locals := 43 }) D ad cs [.ref (ad 258), .int x1, .int x2] M L (fun r M1 L1 => r = (-1)) := by
  refine enter_i RX11 rfl [(0, .ref (ad 258)), (1, .int x1), (2, .int x2)] rfl (Nat.le_of_ble_eq_true rfl) (by decide +kernel) rfl ?_
  intro p e s m below meth c C hr
  refine g_aload_n C 0 dX11_is_0 rfl ?_
  refine g_iload_n C 1 dX11_is_1 rfl ?_
  refine g_callVi C (n := 1) (As := [.int x1]) (st := []) (c_X11_isBallot0 l D ad cs _ _ x1 (hm)) gX11_is_X11_isBallot rfl rfl rfl (by decide +kernel) ⟨Nat.le_of_ble_eq_true rfl, Nat.le_of_ble_eq_true rfl⟩ rfl (Nat.le_of_ble_eq_true rfl) ⟨Nat.zero_le _, Nat.zero_le _⟩ (by decide) (ce_model ad cs _ _) rfl rfl dX11_is_2 (fun r1 M2 L3 hr1 => ?_)
  obtain ⟨hq1, hq2, rfl⟩ := hr1
  obtain rfl := hq1.symm
  obtain rfl := hq2.symm
  refine g_if_eq C 17 dX11_is_5 (by decide) (fun _ => ?_) (fun c4 => absurd c4 (by decide))
  refine g_iconst C (-1) dX11_is_17 (by decide) ?_
  refine g_goto C 39 dX11_is_18 (by decide) ?_
  exact g_iret C hr (by first | rfl | grind) dX11_is_39
theorem dX11_put_0 : decode cX11_put 0 = .ok (.aload_n 0, 1) := by decide +kernel
theorem dX11_put_1 : decode cX11_put 1 = .ok (.iload_n 1, 1) := by decide +kernel
theorem dX11_put_2 : decode cX11_put 2 = .ok (.invokevirtual 166, 3) := by decide +kernel
set_option maxRecDepth 20000 in
theorem ggX11_put_X11_isBox : GoodIn wsX11_put wsX11_isBox := goodIn_r _ [9, 10, 11, 12, 8, 13, 28, 29, 30, 31, 32, 33, 34, 35, 36, 37, 38, 39, 40, 41, 42, 43, 44, 45, 46, 47, 48, 49, 50, 51, 52, 53, 54, 55, 56, 57, 58, 59, 60, 61, 62, 63, 64, 65, 66, 67, 68, 69, 70, 71, 72, 73, 74, 75, 76, 77, 78, 79, 80] (by decide +kernel) (by decide +kernel)
set_option maxRecDepth 20000 in
theorem gX11_put_X11_isBox : GoodIn wsX11_put (wsV RX11 166 RX11 yX11_isBox wsX11_isBox) := goodIn_app (goodIn_of _ (by decide +kernel)) ggX11_put_X11_isBox
theorem dX11_put_5 : decode cX11_put 5 = .ok (.ifCond .eq 17, 3) := by decide +kernel
theorem dX11_put_22 : decode cX11_put 22 = .ok (.iconst (-1), 1) := by decide +kernel
theorem dX11_put_23 : decode cX11_put 23 = .ok (.ireturn, 1) := by decide +kernel
set_option maxHeartbeats 4000000 in
set_option maxRecDepth 100000 in
theorem p_X11_put (l : Launch) (D : va_G) (ad : Nat → Nat) (cs : Nat → ClassId) (M : MI) (L : ML) (x1 : Int32) (x2 : Int32) (x3 : Int32) (hm : ∀ k, 258 ≤ k → k < 297 → M k = M0 k) : Ci l yX11_put wsX11_put ({ frames := 2, cells := 0, slots := 0, locals := 43 }) D ad cs [.ref (ad 258), .int x1, .int x2, .int x3] M L (fun r M1 L1 => r = (-1)) := by
  refine enter_i RX11 rfl [(0, .ref (ad 258)), (1, .int x1), (2, .int x2), (3, .int x3)] rfl (Nat.le_of_ble_eq_true rfl) (by decide +kernel) rfl ?_
  intro p e s m below meth c C hr
  refine g_aload_n C 0 dX11_put_0 rfl ?_
  refine g_iload_n C 1 dX11_put_1 rfl ?_
  refine g_callVi C (n := 1) (As := [.int x1]) (st := []) (c_X11_isBox0 l D ad cs _ _ x1 (hm)) gX11_put_X11_isBox rfl rfl rfl (by decide +kernel) ⟨Nat.le_of_ble_eq_true rfl, Nat.le_of_ble_eq_true rfl⟩ rfl (Nat.le_of_ble_eq_true rfl) ⟨Nat.zero_le _, Nat.zero_le _⟩ (by decide) (ce_model ad cs _ _) rfl rfl dX11_put_2 (fun r1 M2 L3 hr1 => ?_)
  obtain ⟨hq1, hq2, rfl⟩ := hr1
  obtain rfl := hq1.symm
  obtain rfl := hq2.symm
  refine g_if_eq C 22 dX11_put_5 (by decide) (fun _ => ?_) (fun c4 => absurd c4 (by decide))
  refine g_iconst C (-1) dX11_put_22 (by decide) ?_
  exact g_iret C hr (by first | rfl | grind) dX11_put_23
theorem dX11_pour_0 : decode cX11_pour 0 = .ok (.aload_n 0, 1) := by decide +kernel
theorem dX11_pour_1 : decode cX11_pour 1 = .ok (.iload_n 1, 1) := by decide +kernel
theorem dX11_pour_2 : decode cX11_pour 2 = .ok (.invokevirtual 166, 3) := by decide +kernel
set_option maxRecDepth 20000 in
theorem ggX11_pour_X11_isBox : GoodIn wsX11_pour wsX11_isBox := goodIn_r _ [9, 10, 11, 12, 8, 13, 20, 21, 22, 23, 24, 25, 26, 27, 28, 29, 30, 31, 32, 33, 34, 35, 36, 37, 38, 39, 40, 41, 42, 43, 44, 45, 46, 47, 48, 49, 50, 51, 52, 53, 54, 55, 56, 57, 58, 59, 60, 61, 62, 63, 64, 65, 66, 67, 68, 69, 70, 71, 72] (by decide +kernel) (by decide +kernel)
set_option maxRecDepth 20000 in
theorem gX11_pour_X11_isBox : GoodIn wsX11_pour (wsV RX11 166 RX11 yX11_isBox wsX11_isBox) := goodIn_app (goodIn_of _ (by decide +kernel)) ggX11_pour_X11_isBox
theorem dX11_pour_5 : decode cX11_pour 5 = .ok (.ifCond .eq 11, 3) := by decide +kernel
theorem dX11_pour_16 : decode cX11_pour 16 = .ok (.iconst (-1), 1) := by decide +kernel
theorem dX11_pour_17 : decode cX11_pour 17 = .ok (.ireturn, 1) := by decide +kernel
set_option maxHeartbeats 4000000 in
set_option maxRecDepth 100000 in
theorem p_X11_pour (l : Launch) (D : va_G) (ad : Nat → Nat) (cs : Nat → ClassId) (M : MI) (L : ML) (x1 : Int32) (x2 : Int32) (x3 : Int32) (x4 : Int32) (x5 : Int32) (hm : ∀ k, 258 ≤ k → k < 297 → M k = M0 k) : Ci l yX11_pour wsX11_pour ({ frames := 2, cells := 0, slots := 0, locals := 43 }) D ad cs [.ref (ad 258), .int x1, .int x2, .int x3, .int x4, .int x5] M L (fun r M1 L1 => r = (-1)) := by
  refine enter_i RX11 rfl [(0, .ref (ad 258)), (1, .int x1), (2, .int x2), (3, .int x3), (4, .int x4), (5, .int x5)] rfl (Nat.le_of_ble_eq_true rfl) (by decide +kernel) rfl ?_
  intro p e s m below meth c C hr
  refine g_aload_n C 0 dX11_pour_0 rfl ?_
  refine g_iload_n C 1 dX11_pour_1 rfl ?_
  refine g_callVi C (n := 1) (As := [.int x1]) (st := []) (c_X11_isBox0 l D ad cs _ _ x1 (hm)) gX11_pour_X11_isBox rfl rfl rfl (by decide +kernel) ⟨Nat.le_of_ble_eq_true rfl, Nat.le_of_ble_eq_true rfl⟩ rfl (Nat.le_of_ble_eq_true rfl) ⟨Nat.zero_le _, Nat.zero_le _⟩ (by decide) (ce_model ad cs _ _) rfl rfl dX11_pour_2 (fun r1 M2 L3 hr1 => ?_)
  obtain ⟨hq1, hq2, rfl⟩ := hr1
  obtain rfl := hq1.symm
  obtain rfl := hq2.symm
  refine g_if_eq C 16 dX11_pour_5 (by decide) (fun _ => ?_) (fun c4 => absurd c4 (by decide))
  refine g_iconst C (-1) dX11_pour_16 (by decide) ?_
  exact g_iret C hr (by first | rfl | grind) dX11_pour_17
theorem dX11_at_0 : decode cX11_at 0 = .ok (.aload_n 0, 1) := by decide +kernel
theorem dX11_at_1 : decode cX11_at 1 = .ok (.iload_n 1, 1) := by decide +kernel
theorem dX11_at_2 : decode cX11_at 2 = .ok (.invokevirtual 166, 3) := by decide +kernel
set_option maxRecDepth 20000 in
theorem ggX11_at_X11_isBox : GoodIn wsX11_at wsX11_isBox := goodIn_r _ [6, 7, 8, 9, 5, 10, 22, 23, 24, 25, 26, 27, 28, 29, 30, 31, 32, 33, 34, 35, 36, 37, 38, 39, 40, 41, 42, 43, 44, 45, 46, 47, 48, 49, 50, 51, 52, 53, 54, 55, 56, 57, 58, 59, 60, 61, 62, 63, 64, 65, 66, 67, 68, 69, 70, 71, 72, 73, 74] (by decide +kernel) (by decide +kernel)
set_option maxRecDepth 20000 in
theorem gX11_at_X11_isBox : GoodIn wsX11_at (wsV RX11 166 RX11 yX11_isBox wsX11_isBox) := goodIn_app (goodIn_of _ (by decide +kernel)) ggX11_at_X11_isBox
theorem dX11_at_5 : decode cX11_at 5 = .ok (.ifCond .ne 5, 3) := by decide +kernel
theorem dX11_at_8 : decode cX11_at 8 = .ok (.iconst (-1), 1) := by decide +kernel
theorem dX11_at_9 : decode cX11_at 9 = .ok (.ireturn, 1) := by decide +kernel
set_option maxHeartbeats 4000000 in
set_option maxRecDepth 100000 in
theorem p_X11_at (l : Launch) (D : va_G) (ad : Nat → Nat) (cs : Nat → ClassId) (M : MI) (L : ML) (x1 : Int32) (x2 : Int32) (hm : ∀ k, 258 ≤ k → k < 297 → M k = M0 k) : Ci l yX11_at wsX11_at ({ frames := 2, cells := 0, slots := 0, locals := 43 }) D ad cs [.ref (ad 258), .int x1, .int x2] M L (fun r M1 L1 => r = (-1)) := by
  refine enter_i RX11 rfl [(0, .ref (ad 258)), (1, .int x1), (2, .int x2)] rfl (Nat.le_of_ble_eq_true rfl) (by decide +kernel) rfl ?_
  intro p e s m below meth c C hr
  refine g_aload_n C 0 dX11_at_0 rfl ?_
  refine g_iload_n C 1 dX11_at_1 rfl ?_
  refine g_callVi C (n := 1) (As := [.int x1]) (st := []) (c_X11_isBox0 l D ad cs _ _ x1 (hm)) gX11_at_X11_isBox rfl rfl rfl (by decide +kernel) ⟨Nat.le_of_ble_eq_true rfl, Nat.le_of_ble_eq_true rfl⟩ rfl (Nat.le_of_ble_eq_true rfl) ⟨Nat.zero_le _, Nat.zero_le _⟩ (by decide) (ce_model ad cs _ _) rfl rfl dX11_at_2 (fun r1 M2 L3 hr1 => ?_)
  obtain ⟨hq1, hq2, rfl⟩ := hr1
  obtain rfl := hq1.symm
  obtain rfl := hq2.symm
  refine g_if_ne C 10 dX11_at_5 (by decide) (fun c4 => absurd c4 (by decide)) (fun _ => ?_)
  refine g_iconst C (-1) dX11_at_8 (by decide) ?_
  exact g_iret C hr (by first | rfl | grind) dX11_at_9
theorem dX11_share_0 : decode cX11_share 0 = .ok (.aload_n 0, 1) := by decide +kernel
theorem dX11_share_1 : decode cX11_share 1 = .ok (.iload_n 1, 1) := by decide +kernel
theorem dX11_share_2 : decode cX11_share 2 = .ok (.invokevirtual 166, 3) := by decide +kernel
set_option maxRecDepth 20000 in
theorem ggX11_share_X11_isBox : GoodIn wsX11_share wsX11_isBox := goodIn_r _ [7, 8, 9, 10, 6, 11, 27, 28, 29, 30, 31, 32, 33, 34, 35, 36, 37, 38, 39, 40, 41, 42, 43, 44, 45, 46, 47, 48, 49, 50, 51, 52, 53, 54, 55, 56, 57, 58, 59, 60, 61, 62, 63, 64, 65, 66, 67, 68, 69, 70, 71, 72, 73, 74, 75, 76, 77, 78, 79] (by decide +kernel) (by decide +kernel)
set_option maxRecDepth 20000 in
theorem gX11_share_X11_isBox : GoodIn wsX11_share (wsV RX11 166 RX11 yX11_isBox wsX11_isBox) := goodIn_app (goodIn_of _ (by decide +kernel)) ggX11_share_X11_isBox
theorem dX11_share_5 : decode cX11_share 5 = .ok (.ifCond .ne 5, 3) := by decide +kernel
theorem dX11_share_8 : decode cX11_share 8 = .ok (.iconst (-1), 1) := by decide +kernel
theorem dX11_share_9 : decode cX11_share 9 = .ok (.ireturn, 1) := by decide +kernel
set_option maxHeartbeats 4000000 in
set_option maxRecDepth 100000 in
theorem p_X11_share (l : Launch) (D : va_G) (ad : Nat → Nat) (cs : Nat → ClassId) (M : MI) (L : ML) (x1 : Int32) (x2 : Int32) (hm : ∀ k, 258 ≤ k → k < 297 → M k = M0 k) : Ci l yX11_share wsX11_share ({ frames := 2, cells := 0, slots := 0, locals := 43 }) D ad cs [.ref (ad 258), .int x1, .int x2] M L (fun r M1 L1 => r = (-1)) := by
  refine enter_i RX11 rfl [(0, .ref (ad 258)), (1, .int x1), (2, .int x2)] rfl (Nat.le_of_ble_eq_true rfl) (by decide +kernel) rfl ?_
  intro p e s m below meth c C hr
  refine g_aload_n C 0 dX11_share_0 rfl ?_
  refine g_iload_n C 1 dX11_share_1 rfl ?_
  refine g_callVi C (n := 1) (As := [.int x1]) (st := []) (c_X11_isBox0 l D ad cs _ _ x1 (hm)) gX11_share_X11_isBox rfl rfl rfl (by decide +kernel) ⟨Nat.le_of_ble_eq_true rfl, Nat.le_of_ble_eq_true rfl⟩ rfl (Nat.le_of_ble_eq_true rfl) ⟨Nat.zero_le _, Nat.zero_le _⟩ (by decide) (ce_model ad cs _ _) rfl rfl dX11_share_2 (fun r1 M2 L3 hr1 => ?_)
  obtain ⟨hq1, hq2, rfl⟩ := hr1
  obtain rfl := hq1.symm
  obtain rfl := hq2.symm
  refine g_if_ne C 10 dX11_share_5 (by decide) (fun c4 => absurd c4 (by decide)) (fun _ => ?_)
  refine g_iconst C (-1) dX11_share_8 (by decide) ?_
  exact g_iret C hr (by first | rfl | grind) dX11_share_9
theorem dX11_weight_0 : decode cX11_weight 0 = .ok (.aload_n 0, 1) := by decide +kernel
theorem dX11_weight_1 : decode cX11_weight 1 = .ok (.iload_n 1, 1) := by decide +kernel
theorem dX11_weight_2 : decode cX11_weight 2 = .ok (.invokevirtual 148, 3) := by decide +kernel
set_option maxRecDepth 20000 in
theorem ggX11_weight_X11_isBallot : GoodIn wsX11_weight wsX11_isBallot := goodIn_r _ [8, 9, 10, 11, 7, 12, 23, 24, 25, 26, 27, 28, 29, 30, 31, 32, 33, 34, 35, 36, 37, 38, 39, 40, 41, 42, 43, 44, 45, 46, 47, 48, 49, 50, 51, 52, 53, 54, 55, 56, 57, 58, 59, 60, 61, 62, 63, 64, 65, 66, 67, 68, 69, 70, 71, 72, 73, 74, 75] (by decide +kernel) (by decide +kernel)
set_option maxRecDepth 20000 in
theorem gX11_weight_X11_isBallot : GoodIn wsX11_weight (wsV RX11 148 RX11 yX11_isBallot wsX11_isBallot) := goodIn_app (goodIn_of _ (by decide +kernel)) ggX11_weight_X11_isBallot
theorem dX11_weight_5 : decode cX11_weight 5 = .ok (.ifCond .eq 11, 3) := by decide +kernel
theorem dX11_weight_16 : decode cX11_weight 16 = .ok (.iconst (-1), 1) := by decide +kernel
theorem dX11_weight_17 : decode cX11_weight 17 = .ok (.ireturn, 1) := by decide +kernel
set_option maxHeartbeats 4000000 in
set_option maxRecDepth 100000 in
theorem p_X11_weight (l : Launch) (D : va_G) (ad : Nat → Nat) (cs : Nat → ClassId) (M : MI) (L : ML) (x1 : Int32) (x2 : Int32) (hm : ∀ k, 258 ≤ k → k < 297 → M k = M0 k) : Ci l yX11_weight wsX11_weight ({ frames := 2, cells := 0, slots := 0, locals := 43 }) D ad cs [.ref (ad 258), .int x1, .int x2] M L (fun r M1 L1 => r = (-1)) := by
  refine enter_i RX11 rfl [(0, .ref (ad 258)), (1, .int x1), (2, .int x2)] rfl (Nat.le_of_ble_eq_true rfl) (by decide +kernel) rfl ?_
  intro p e s m below meth c C hr
  refine g_aload_n C 0 dX11_weight_0 rfl ?_
  refine g_iload_n C 1 dX11_weight_1 rfl ?_
  refine g_callVi C (n := 1) (As := [.int x1]) (st := []) (c_X11_isBallot0 l D ad cs _ _ x1 (hm)) gX11_weight_X11_isBallot rfl rfl rfl (by decide +kernel) ⟨Nat.le_of_ble_eq_true rfl, Nat.le_of_ble_eq_true rfl⟩ rfl (Nat.le_of_ble_eq_true rfl) ⟨Nat.zero_le _, Nat.zero_le _⟩ (by decide) (ce_model ad cs _ _) rfl rfl dX11_weight_2 (fun r1 M2 L3 hr1 => ?_)
  obtain ⟨hq1, hq2, rfl⟩ := hr1
  obtain rfl := hq1.symm
  obtain rfl := hq2.symm
  refine g_if_eq C 16 dX11_weight_5 (by decide) (fun _ => ?_) (fun c4 => absurd c4 (by decide))
  refine g_iconst C (-1) dX11_weight_16 (by decide) ?_
  exact g_iret C hr (by first | rfl | grind) dX11_weight_17
theorem dX11_method_0 : decode cX11_method 0 = .ok (.iload_n 1, 1) := by decide +kernel
theorem dX11_method_1 : decode cX11_method 1 = .ok (.iconst 0, 1) := by decide +kernel
theorem dX11_method_2 : decode cX11_method 2 = .ok (.bipush 8, 2) := by decide +kernel
theorem dX11_method_4 : decode cX11_method 4 = .ok (.invokestatic 133, 3) := by decide +kernel
set_option maxRecDepth 20000 in
theorem ggX11_method_X11_in : GoodIn wsX11_method wsX11_in := goodIn_r _ [9] (by decide +kernel) (by decide +kernel)
set_option maxRecDepth 20000 in
theorem gX11_method_X11_in : GoodIn wsX11_method (va_wsS RX11 133 yX11_in wsX11_in) := goodIn_app (goodIn_of _ (by decide +kernel)) ggX11_method_X11_in
theorem dX11_method_7 : decode cX11_method 7 = .ok (.ifCond .eq 30, 3) := by decide +kernel
theorem dX11_method_37 : decode cX11_method 37 = .ok (.iconst (-1), 1) := by decide +kernel
theorem dX11_method_38 : decode cX11_method 38 = .ok (.ireturn, 1) := by decide +kernel
theorem dX11_method_10 : decode cX11_method 10 = .ok (.iload_n 3, 1) := by decide +kernel
theorem dX11_method_11 : decode cX11_method 11 = .ok (.iconst 0, 1) := by decide +kernel
theorem dX11_method_12 : decode cX11_method 12 = .ok (.sipush 255, 3) := by decide +kernel
theorem dX11_method_15 : decode cX11_method 15 = .ok (.invokestatic 133, 3) := by decide +kernel
theorem dX11_method_18 : decode cX11_method 18 = .ok (.ifCond .eq 19, 3) := by decide +kernel
theorem dX11_method_21 : decode cX11_method 21 = .ok (.iload 4, 2) := by decide +kernel
theorem dX11_method_23 : decode cX11_method 23 = .ok (.bipush (-9), 2) := by decide +kernel
theorem dX11_method_25 : decode cX11_method 25 = .ok (.if_icmp .eq 14, 3) := by decide +kernel
theorem dX11_method_39 : decode cX11_method 39 = .ok (.aload_n 0, 1) := by decide +kernel
theorem dX11_method_40 : decode cX11_method 40 = .ok (.getfield 175, 3) := by decide +kernel
theorem in_X11_method_11 : ∀ w ∈ u_ws RX11 TX11 53, w ∈ wsX11_method := fun _ h => List.mem_cons_of_mem _ (List.mem_append_right _ h)
theorem dX11_method_43 : decode cX11_method 43 = .ok (.bipush 20, 2) := by decide +kernel
theorem dX11_method_45 : decode cX11_method 45 = .ok (.if_icmp .ne 6, 3) := by decide +kernel
theorem dX11_method_51 : decode cX11_method 51 = .ok (.aload_n 0, 1) := by decide +kernel
theorem dX11_method_52 : decode cX11_method 52 = .ok (.getfield 40, 3) := by decide +kernel
theorem dX11_method_55 : decode cX11_method 55 = .ok (.aload_n 0, 1) := by decide +kernel
theorem dX11_method_56 : decode cX11_method 56 = .ok (.getfield 175, 3) := by decide +kernel
theorem dX11_method_59 : decode cX11_method 59 = .ok (.iload_n 1, 1) := by decide +kernel
theorem dX11_method_60 : decode cX11_method 60 = .ok (.iastore, 1) := by decide +kernel
theorem dX11_method_61 : decode cX11_method 61 = .ok (.aload_n 0, 1) := by decide +kernel
theorem dX11_method_62 : decode cX11_method 62 = .ok (.getfield 43, 3) := by decide +kernel
theorem dX11_method_65 : decode cX11_method 65 = .ok (.aload_n 0, 1) := by decide +kernel
theorem dX11_method_66 : decode cX11_method 66 = .ok (.getfield 175, 3) := by decide +kernel
theorem dX11_method_69 : decode cX11_method 69 = .ok (.iload_n 2, 1) := by decide +kernel
theorem dX11_method_70 : decode cX11_method 70 = .ok (.iastore, 1) := by decide +kernel
theorem dX11_method_71 : decode cX11_method 71 = .ok (.aload_n 0, 1) := by decide +kernel
theorem dX11_method_72 : decode cX11_method 72 = .ok (.getfield 46, 3) := by decide +kernel
theorem dX11_method_75 : decode cX11_method 75 = .ok (.aload_n 0, 1) := by decide +kernel
theorem dX11_method_76 : decode cX11_method 76 = .ok (.getfield 175, 3) := by decide +kernel
theorem dX11_method_79 : decode cX11_method 79 = .ok (.iload_n 3, 1) := by decide +kernel
theorem dX11_method_80 : decode cX11_method 80 = .ok (.iastore, 1) := by decide +kernel
theorem dX11_method_81 : decode cX11_method 81 = .ok (.aload_n 0, 1) := by decide +kernel
theorem dX11_method_82 : decode cX11_method 82 = .ok (.getfield 49, 3) := by decide +kernel
theorem dX11_method_85 : decode cX11_method 85 = .ok (.aload_n 0, 1) := by decide +kernel
theorem dX11_method_86 : decode cX11_method 86 = .ok (.getfield 175, 3) := by decide +kernel
theorem dX11_method_89 : decode cX11_method 89 = .ok (.iload 4, 2) := by decide +kernel
theorem dX11_method_91 : decode cX11_method 91 = .ok (.iastore, 1) := by decide +kernel
theorem dX11_method_92 : decode cX11_method 92 = .ok (.aload_n 0, 1) := by decide +kernel
theorem dX11_method_93 : decode cX11_method 93 = .ok (.dup, 1) := by decide +kernel
theorem dX11_method_94 : decode cX11_method 94 = .ok (.getfield 175, 3) := by decide +kernel
theorem dX11_method_97 : decode cX11_method 97 = .ok (.iconst 1, 1) := by decide +kernel
theorem dX11_method_98 : decode cX11_method 98 = .ok (.iadd, 1) := by decide +kernel
theorem dX11_method_99 : decode cX11_method 99 = .ok (.putfield 175, 3) := by decide +kernel
theorem dX11_method_102 : decode cX11_method 102 = .ok (.aload_n 0, 1) := by decide +kernel
theorem dX11_method_103 : decode cX11_method 103 = .ok (.getfield 175, 3) := by decide +kernel
theorem dX11_method_106 : decode cX11_method 106 = .ok (.iconst 1, 1) := by decide +kernel
theorem dX11_method_107 : decode cX11_method 107 = .ok (.isub, 1) := by decide +kernel
theorem dX11_method_108 : decode cX11_method 108 = .ok (.ireturn, 1) := by decide +kernel
theorem dX11_method_28 : decode cX11_method 28 = .ok (.aload_n 0, 1) := by decide +kernel
theorem dX11_method_29 : decode cX11_method 29 = .ok (.iload 4, 2) := by decide +kernel
theorem dX11_method_31 : decode cX11_method 31 = .ok (.invokevirtual 178, 3) := by decide +kernel
set_option maxRecDepth 20000 in
theorem ggX11_method_X11_isMethod : GoodIn wsX11_method wsX11_isMethod := goodIn_r _ [13, 1, 6, 7, 8, 9, 14, 15, 16, 17, 18, 19, 20, 21, 22, 23, 24, 25, 26, 27, 28, 29, 30, 31, 32, 33, 34, 35, 36, 37, 38, 39, 40, 41, 42, 43, 44, 45, 46, 47, 48, 49, 50, 51, 52, 53, 54, 55, 56, 57, 58, 59, 60, 61, 62, 63, 64, 65, 66] (by decide +kernel) (by decide +kernel)
set_option maxRecDepth 20000 in
theorem gX11_method_X11_isMethod : GoodIn wsX11_method (wsV RX11 178 RX11 yX11_isMethod wsX11_isMethod) := goodIn_app (goodIn_of _ (by decide +kernel)) ggX11_method_X11_isMethod
theorem dX11_method_34 : decode cX11_method 34 = .ok (.ifCond .ne 5, 3) := by decide +kernel
set_option maxHeartbeats 4000000 in
set_option maxRecDepth 100000 in
theorem p_X11_method (l : Launch) (D : va_G) (ad : Nat → Nat) (cs : Nat → ClassId) (M : MI) (L : ML) (x1 : Int32) (x2 : Int32) (x3 : Int32) (x4 : Int32) (hm : ∀ k, 258 ≤ k → k < 297 → M k = M0 k) : Ci l yX11_method wsX11_method ({ frames := 2, cells := 0, slots := 0, locals := 43 }) D ad cs [.ref (ad 258), .int x1, .int x2, .int x3, .int x4] M L (fun r M1 L1 => r = (if 0 ≤ x1 ∧ x1 < 9 ∧ 0 ≤ x3 ∧ x3 ≤ 255 ∧ x4 = -9 then 0 else -1)) := by
  refine enter_i RX11 rfl [(0, .ref (ad 258)), (1, .int x1), (2, .int x2), (3, .int x3), (4, .int x4)] rfl (Nat.le_of_ble_eq_true rfl) (by decide +kernel) rfl ?_
  intro p e s m below meth c C hr
  refine g_iload_n C 1 dX11_method_0 rfl ?_
  refine g_iconst C 0 dX11_method_1 (by decide) ?_
  refine g_bipush C 8 dX11_method_2 (by decide) ?_
  refine g_callSi C (n := 3) (As := [.int x1, .int 0, .int 8]) (st := []) (c_X11_in l D ad cs _ _ x1 0 8) gX11_method_X11_in rfl rfl rfl (by decide +kernel) ⟨Nat.le_of_ble_eq_true rfl, Nat.le_of_ble_eq_true rfl⟩ rfl (Nat.le_of_ble_eq_true rfl) ⟨Nat.zero_le _, Nat.zero_le _⟩ rfl dX11_method_4 (fun r1 M2 L3 hr1 => ?_)
  obtain ⟨hq1, hq2, hr1⟩ := hr1
  obtain rfl := hq1.symm
  obtain rfl := hq2.symm
  refine g_if_eq C 37 dX11_method_7 (by decide) (fun c4 => ?_) (fun c4 => ?_)
  ·
    refine g_iconst C (-1) dX11_method_37 (by decide) ?_
    exact g_iret C hr (by first | rfl | grind) dX11_method_38
  ·
    refine g_iload_n C 3 dX11_method_10 rfl ?_
    refine g_iconst C 0 dX11_method_11 (by decide) ?_
    refine g_sipush C 255 dX11_method_12 (by decide) ?_
    refine g_callSi C (n := 3) (As := [.int x3, .int 0, .int 255]) (st := []) (c_X11_in l D ad cs _ _ x3 0 255) gX11_method_X11_in rfl rfl rfl (by decide +kernel) ⟨Nat.le_of_ble_eq_true rfl, Nat.le_of_ble_eq_true rfl⟩ rfl (Nat.le_of_ble_eq_true rfl) ⟨Nat.zero_le _, Nat.zero_le _⟩ rfl dX11_method_15 (fun r5 M6 L7 hr5 => ?_)
    obtain ⟨hq1, hq2, hr5⟩ := hr5
    obtain rfl := hq1.symm
    obtain rfl := hq2.symm
    refine g_if_eq C 37 dX11_method_18 (by decide) (fun c8 => ?_) (fun c8 => ?_)
    ·
      refine g_iconst C (-1) dX11_method_37 (by decide) ?_
      exact g_iret C hr (by first | rfl | grind) dX11_method_38
    ·
      refine g_iload C 4 dX11_method_21 rfl ?_
      refine g_bipush C (-9) dX11_method_23 (by decide) ?_
      refine g_icmp_eq C 39 dX11_method_25 (by decide) (fun c9 => ?_) (fun c9 => ?_)
      ·
        refine g_aload_n C 0 dX11_method_39 rfl ?_
        refine g_get C (.int (M 258 14)) 14 in_X11_method_11 (List.mem_of_getElem? (i := 1) rfl) (by decide) (ce_model ad cs _ _) rfl (by decide) rfl rfl dX11_method_40 ?_
        refine g_ti 0 (by (rw [hm 258 (by decide) (by decide)]; try rfl)) ?_
        refine g_bipush C 20 dX11_method_43 (by decide) ?_
        refine g_icmp_ne C 51 dX11_method_45 (by decide) (fun _ => ?_) (fun c10 => absurd c10 (by decide))
        refine g_aload_n C 0 dX11_method_51 rfl ?_
        refine g_get C (.ref (ad 269)) 15 in_X11_method_11 (List.mem_of_getElem? (i := 2) rfl) (by decide) (ce_model ad cs _ _) rfl (by decide) rfl rfl dX11_method_52 ?_
        refine g_aload_n C 0 dX11_method_55 rfl ?_
        refine g_get C (.int (M 258 14)) 14 in_X11_method_11 (List.mem_of_getElem? (i := 1) rfl) (by decide) (ce_model ad cs _ _) rfl (by decide) rfl rfl dX11_method_56 ?_
        refine g_ti 0 (by (rw [hm 258 (by decide) (by decide)]; try rfl)) ?_
        refine g_iload_n C 1 dX11_method_59 rfl ?_
        refine g_iast C (by decide) (ce_m_kindOf ad cs _ _) (by rw [sI_k]; rfl) (by unfold vp_in; decide) dX11_method_60 ?_
        refine g_nm (fun M11 hM11 => ?_)
        refine g_aload_n C 0 dX11_method_61 rfl ?_
        refine g_get C (.ref (ad 270)) 16 in_X11_method_11 (List.mem_of_getElem? (i := 3) rfl) (by decide) (ce_model ad cs _ _) rfl (by decide) rfl rfl dX11_method_62 ?_
        refine g_aload_n C 0 dX11_method_65 rfl ?_
        refine g_get C (.int (M11 258 14)) 14 in_X11_method_11 (List.mem_of_getElem? (i := 1) rfl) (by decide) (ce_model ad cs _ _) rfl (by decide) rfl rfl dX11_method_66 ?_
        refine g_ti 0 (by (rw [hM11, sI_at, if_neg (by decide), hm 258 (by decide) (by decide)]; try rfl)) ?_
        refine g_iload_n C 2 dX11_method_69 rfl ?_
        refine g_iast C (by decide) (ce_m_rankOf ad cs _ _) (by rw [sI_k]; rfl) (by unfold vp_in; decide) dX11_method_70 ?_
        refine g_nm (fun M12 hM12 => ?_)
        refine g_aload_n C 0 dX11_method_71 rfl ?_
        refine g_get C (.ref (ad 271)) 17 in_X11_method_11 (List.mem_of_getElem? (i := 4) rfl) (by decide) (ce_model ad cs _ _) rfl (by decide) rfl rfl dX11_method_72 ?_
        refine g_aload_n C 0 dX11_method_75 rfl ?_
        refine g_get C (.int (M12 258 14)) 14 in_X11_method_11 (List.mem_of_getElem? (i := 1) rfl) (by decide) (ce_model ad cs _ _) rfl (by decide) rfl rfl dX11_method_76 ?_
        refine g_ti 0 (by (rw [hM12, sI_at, if_neg (by decide), hM11, sI_at, if_neg (by decide), hm 258 (by decide) (by decide)]; try rfl)) ?_
        refine g_iload_n C 3 dX11_method_79 rfl ?_
        refine g_iast C (by decide) (ce_m_marksOf ad cs _ _) (by rw [sI_k]; rfl) (by unfold vp_in; decide) dX11_method_80 ?_
        refine g_nm (fun M13 hM13 => ?_)
        refine g_aload_n C 0 dX11_method_81 rfl ?_
        refine g_get C (.ref (ad 272)) 18 in_X11_method_11 (List.mem_of_getElem? (i := 5) rfl) (by decide) (ce_model ad cs _ _) rfl (by decide) rfl rfl dX11_method_82 ?_
        refine g_aload_n C 0 dX11_method_85 rfl ?_
        refine g_get C (.int (M13 258 14)) 14 in_X11_method_11 (List.mem_of_getElem? (i := 1) rfl) (by decide) (ce_model ad cs _ _) rfl (by decide) rfl rfl dX11_method_86 ?_
        refine g_ti 0 (by (rw [hM13, sI_at, if_neg (by decide), hM12, sI_at, if_neg (by decide), hM11, sI_at, if_neg (by decide), hm 258 (by decide) (by decide)]; try rfl)) ?_
        refine g_iload C 4 dX11_method_89 rfl ?_
        refine g_iast C (by decide) (ce_m_needOf ad cs _ _) (by rw [sI_k]; rfl) (by unfold vp_in; decide) dX11_method_91 ?_
        refine g_nm (fun M14 hM14 => ?_)
        refine g_aload_n C 0 dX11_method_92 rfl ?_
        refine g_dup C dX11_method_93 rfl ?_
        refine g_get C (.int (M14 258 14)) 14 in_X11_method_11 (List.mem_of_getElem? (i := 1) rfl) (by decide) (ce_model ad cs _ _) rfl (by decide) rfl rfl dX11_method_94 ?_
        refine g_ti 0 (by (rw [hM14, sI_at, if_neg (by decide), hM13, sI_at, if_neg (by decide), hM12, sI_at, if_neg (by decide), hM11, sI_at, if_neg (by decide), hm 258 (by decide) (by decide)]; try rfl)) ?_
        refine g_iconst C 1 dX11_method_97 (by decide) ?_
        refine g_iadd C dX11_method_98 ?_
        refine g_ti 1 (by decide) ?_
        refine g_putI C 14 in_X11_method_11 (List.mem_of_getElem? (i := 1) rfl) (by decide) (ce_model ad cs _ _) rfl (by decide) rfl tyX11 tyX11_ok nmX11 rfl rfl rfl rfl (Nat.le_of_ble_eq_true rfl) (by rw [sI_k]; rfl) dX11_method_99 ?_
        refine g_nm (fun M15 hM15 => ?_)
        refine g_aload_n C 0 dX11_method_102 rfl ?_
        refine g_get C (.int (M15 258 14)) 14 in_X11_method_11 (List.mem_of_getElem? (i := 1) rfl) (by decide) (ce_model ad cs _ _) rfl (by decide) rfl rfl dX11_method_103 ?_
        refine g_ti 1 (by (rw [hM15, sI_at, if_pos (by decide)]; try rfl)) ?_
        refine g_iconst C 1 dX11_method_106 (by decide) ?_
        refine g_isub C dX11_method_107 ?_
        refine g_ti 0 (by decide) ?_
        exact g_iret C hr (by first | rfl | grind) dX11_method_108
      ·
        refine g_aload_n C 0 dX11_method_28 rfl ?_
        refine g_iload C 4 dX11_method_29 rfl ?_
        refine g_callVi C (n := 1) (As := [.int x4]) (st := []) (c_X11_isMethod0 l D ad cs _ _ x4 (hm)) gX11_method_X11_isMethod rfl rfl rfl (by decide +kernel) ⟨Nat.le_of_ble_eq_true rfl, Nat.le_of_ble_eq_true rfl⟩ rfl (Nat.le_of_ble_eq_true rfl) ⟨Nat.zero_le _, Nat.zero_le _⟩ (by decide) (ce_model ad cs _ _) rfl rfl dX11_method_31 (fun r16 M17 L18 hr16 => ?_)
        obtain ⟨hq1, hq2, rfl⟩ := hr16
        obtain rfl := hq1.symm
        obtain rfl := hq2.symm
        refine g_if_ne C 39 dX11_method_34 (by decide) (fun c19 => absurd c19 (by decide)) (fun _ => ?_)
        refine g_iconst C (-1) dX11_method_37 (by decide) ?_
        exact g_iret C hr (by first | rfl | grind) dX11_method_38
theorem dX11_methodOf_0 : decode cX11_methodOf 0 = .ok (.aload_n 0, 1) := by decide +kernel
theorem dX11_methodOf_1 : decode cX11_methodOf 1 = .ok (.iload_n 1, 1) := by decide +kernel
theorem dX11_methodOf_2 : decode cX11_methodOf 2 = .ok (.invokevirtual 178, 3) := by decide +kernel
set_option maxRecDepth 20000 in
theorem ggX11_methodOf_X11_isMethod : GoodIn wsX11_methodOf wsX11_isMethod := goodIn_r _ [9, 10, 11, 12, 8, 13, 14, 15, 16, 17, 18, 19, 20, 21, 22, 23, 24, 25, 26, 27, 28, 29, 30, 31, 32, 33, 34, 35, 36, 37, 38, 39, 40, 41, 42, 43, 44, 45, 46, 47, 48, 49, 50, 51, 52, 53, 54, 55, 56, 57, 58, 59, 60, 61, 62, 63, 64, 65, 66] (by decide +kernel) (by decide +kernel)
set_option maxRecDepth 20000 in
theorem gX11_methodOf_X11_isMethod : GoodIn wsX11_methodOf (wsV RX11 178 RX11 yX11_isMethod wsX11_isMethod) := goodIn_app (goodIn_of _ (by decide +kernel)) ggX11_methodOf_X11_isMethod
theorem dX11_methodOf_5 : decode cX11_methodOf 5 = .ok (.ifCond .eq 12, 3) := by decide +kernel
theorem dX11_methodOf_17 : decode cX11_methodOf 17 = .ok (.iconst (-1), 1) := by decide +kernel
theorem dX11_methodOf_18 : decode cX11_methodOf 18 = .ok (.ireturn, 1) := by decide +kernel
set_option maxHeartbeats 4000000 in
set_option maxRecDepth 100000 in
theorem p_X11_methodOf (l : Launch) (D : va_G) (ad : Nat → Nat) (cs : Nat → ClassId) (M : MI) (L : ML) (x1 : Int32) (x2 : Int32) (hm : ∀ k, 258 ≤ k → k < 297 → M k = M0 k) : Ci l yX11_methodOf wsX11_methodOf ({ frames := 2, cells := 0, slots := 0, locals := 43 }) D ad cs [.ref (ad 258), .int x1, .int x2] M L (fun r M1 L1 => r = (-1)) := by
  refine enter_i RX11 rfl [(0, .ref (ad 258)), (1, .int x1), (2, .int x2)] rfl (Nat.le_of_ble_eq_true rfl) (by decide +kernel) rfl ?_
  intro p e s m below meth c C hr
  refine g_aload_n C 0 dX11_methodOf_0 rfl ?_
  refine g_iload_n C 1 dX11_methodOf_1 rfl ?_
  refine g_callVi C (n := 1) (As := [.int x1]) (st := []) (c_X11_isMethod0 l D ad cs _ _ x1 (hm)) gX11_methodOf_X11_isMethod rfl rfl rfl (by decide +kernel) ⟨Nat.le_of_ble_eq_true rfl, Nat.le_of_ble_eq_true rfl⟩ rfl (Nat.le_of_ble_eq_true rfl) ⟨Nat.zero_le _, Nat.zero_le _⟩ (by decide) (ce_model ad cs _ _) rfl rfl dX11_methodOf_2 (fun r1 M2 L3 hr1 => ?_)
  obtain ⟨hq1, hq2, rfl⟩ := hr1
  obtain rfl := hq1.symm
  obtain rfl := hq2.symm
  refine g_if_eq C 17 dX11_methodOf_5 (by decide) (fun _ => ?_) (fun c4 => absurd c4 (by decide))
  refine g_iconst C (-1) dX11_methodOf_17 (by decide) ?_
  exact g_iret C hr (by first | rfl | grind) dX11_methodOf_18
theorem dX11_under_0 : decode cX11_under 0 = .ok (.aload_n 0, 1) := by decide +kernel
theorem dX11_under_1 : decode cX11_under 1 = .ok (.iload_n 1, 1) := by decide +kernel
theorem dX11_under_2 : decode cX11_under 2 = .ok (.invokevirtual 178, 3) := by decide +kernel
set_option maxRecDepth 20000 in
theorem ggX11_under_X11_isMethod : GoodIn wsX11_under wsX11_isMethod := goodIn_r _ [6, 7, 8, 9, 5, 10, 11, 12, 13, 14, 15, 16, 17, 18, 19, 20, 21, 22, 23, 24, 25, 26, 27, 28, 29, 30, 31, 32, 33, 34, 35, 36, 37, 38, 39, 40, 41, 42, 43, 44, 45, 46, 47, 48, 49, 50, 51, 52, 53, 54, 55, 56, 57, 58, 59, 60, 61, 62, 63] (by decide +kernel) (by decide +kernel)
set_option maxRecDepth 20000 in
theorem gX11_under_X11_isMethod : GoodIn wsX11_under (wsV RX11 178 RX11 yX11_isMethod wsX11_isMethod) := goodIn_app (goodIn_of _ (by decide +kernel)) ggX11_under_X11_isMethod
theorem dX11_under_5 : decode cX11_under 5 = .ok (.ifCond .eq 13, 3) := by decide +kernel
theorem dX11_under_18 : decode cX11_under 18 = .ok (.iconst (-1), 1) := by decide +kernel
theorem dX11_under_19 : decode cX11_under 19 = .ok (.ireturn, 1) := by decide +kernel
set_option maxHeartbeats 4000000 in
set_option maxRecDepth 100000 in
theorem p_X11_under (l : Launch) (D : va_G) (ad : Nat → Nat) (cs : Nat → ClassId) (M : MI) (L : ML) (x1 : Int32) (x2 : Int32) (hm : ∀ k, 258 ≤ k → k < 297 → M k = M0 k) : Ci l yX11_under wsX11_under ({ frames := 2, cells := 0, slots := 0, locals := 43 }) D ad cs [.ref (ad 258), .int x1, .int x2] M L (fun r M1 L1 => r = (-1)) := by
  refine enter_i RX11 rfl [(0, .ref (ad 258)), (1, .int x1), (2, .int x2)] rfl (Nat.le_of_ble_eq_true rfl) (by decide +kernel) rfl ?_
  intro p e s m below meth c C hr
  refine g_aload_n C 0 dX11_under_0 rfl ?_
  refine g_iload_n C 1 dX11_under_1 rfl ?_
  refine g_callVi C (n := 1) (As := [.int x1]) (st := []) (c_X11_isMethod0 l D ad cs _ _ x1 (hm)) gX11_under_X11_isMethod rfl rfl rfl (by decide +kernel) ⟨Nat.le_of_ble_eq_true rfl, Nat.le_of_ble_eq_true rfl⟩ rfl (Nat.le_of_ble_eq_true rfl) ⟨Nat.zero_le _, Nat.zero_le _⟩ (by decide) (ce_model ad cs _ _) rfl rfl dX11_under_2 (fun r1 M2 L3 hr1 => ?_)
  obtain ⟨hq1, hq2, rfl⟩ := hr1
  obtain rfl := hq1.symm
  obtain rfl := hq2.symm
  refine g_if_eq C 18 dX11_under_5 (by decide) (fun _ => ?_) (fun c4 => absurd c4 (by decide))
  refine g_iconst C (-1) dX11_under_18 (by decide) ?_
  exact g_iret C hr (by first | rfl | grind) dX11_under_19
theorem dX11_start_0 : decode cX11_start 0 = .ok (.aload_n 0, 1) := by decide +kernel
theorem dX11_start_1 : decode cX11_start 1 = .ok (.iload_n 1, 1) := by decide +kernel
theorem dX11_start_2 : decode cX11_start 2 = .ok (.invokevirtual 178, 3) := by decide +kernel
set_option maxRecDepth 20000 in
theorem ggX11_start_X11_isMethod : GoodIn wsX11_start wsX11_isMethod := goodIn_r _ [5, 6, 7, 8, 4, 9, 19, 20, 21, 22, 23, 24, 25, 26, 27, 28, 29, 30, 31, 32, 33, 34, 35, 36, 37, 38, 39, 40, 41, 42, 43, 44, 45, 46, 47, 48, 49, 50, 51, 52, 53, 54, 55, 56, 57, 58, 59, 60, 61, 62, 63, 64, 65, 66, 67, 68, 69, 70, 71] (by decide +kernel) (by decide +kernel)
set_option maxRecDepth 20000 in
theorem gX11_start_X11_isMethod : GoodIn wsX11_start (wsV RX11 178 RX11 yX11_isMethod wsX11_isMethod) := goodIn_app (goodIn_of _ (by decide +kernel)) ggX11_start_X11_isMethod
theorem dX11_start_5 : decode cX11_start 5 = .ok (.ifCond .eq 11, 3) := by decide +kernel
theorem dX11_start_16 : decode cX11_start 16 = .ok (.iconst (-1), 1) := by decide +kernel
theorem dX11_start_17 : decode cX11_start 17 = .ok (.ireturn, 1) := by decide +kernel
set_option maxHeartbeats 4000000 in
set_option maxRecDepth 100000 in
theorem p_X11_start (l : Launch) (D : va_G) (ad : Nat → Nat) (cs : Nat → ClassId) (M : MI) (L : ML) (x1 : Int32) (hm : ∀ k, 258 ≤ k → k < 297 → M k = M0 k) : Ci l yX11_start wsX11_start ({ frames := 2, cells := 0, slots := 0, locals := 43 }) D ad cs [.ref (ad 258), .int x1] M L (fun r M1 L1 => r = (-1)) := by
  refine enter_i RX11 rfl [(0, .ref (ad 258)), (1, .int x1)] rfl (Nat.le_of_ble_eq_true rfl) (by decide +kernel) rfl ?_
  intro p e s m below meth c C hr
  refine g_aload_n C 0 dX11_start_0 rfl ?_
  refine g_iload_n C 1 dX11_start_1 rfl ?_
  refine g_callVi C (n := 1) (As := [.int x1]) (st := []) (c_X11_isMethod0 l D ad cs _ _ x1 (hm)) gX11_start_X11_isMethod rfl rfl rfl (by decide +kernel) ⟨Nat.le_of_ble_eq_true rfl, Nat.le_of_ble_eq_true rfl⟩ rfl (Nat.le_of_ble_eq_true rfl) ⟨Nat.zero_le _, Nat.zero_le _⟩ (by decide) (ce_model ad cs _ _) rfl rfl dX11_start_2 (fun r1 M2 L3 hr1 => ?_)
  obtain ⟨hq1, hq2, rfl⟩ := hr1
  obtain rfl := hq1.symm
  obtain rfl := hq2.symm
  refine g_if_eq C 16 dX11_start_5 (by decide) (fun _ => ?_) (fun c4 => absurd c4 (by decide))
  refine g_iconst C (-1) dX11_start_16 (by decide) ?_
  exact g_iret C hr (by first | rfl | grind) dX11_start_17
theorem dX11_find_0 : decode cX11_find 0 = .ok (.iload_n 1, 1) := by decide +kernel
theorem dX11_find_1 : decode cX11_find 1 = .ok (.iconst 0, 1) := by decide +kernel
theorem dX11_find_2 : decode cX11_find 2 = .ok (.bipush 7, 2) := by decide +kernel
theorem dX11_find_4 : decode cX11_find 4 = .ok (.invokestatic 133, 3) := by decide +kernel
set_option maxRecDepth 20000 in
theorem ggX11_find_X11_in : GoodIn wsX11_find wsX11_in := goodIn_r _ [8] (by decide +kernel) (by decide +kernel)
set_option maxRecDepth 20000 in
theorem gX11_find_X11_in : GoodIn wsX11_find (va_wsS RX11 133 yX11_in wsX11_in) := goodIn_app (goodIn_of _ (by decide +kernel)) ggX11_find_X11_in
theorem dX11_find_7 : decode cX11_find 7 = .ok (.ifCond .ne 5, 3) := by decide +kernel
theorem dX11_find_12 : decode cX11_find 12 = .ok (.iconst 0, 1) := by decide +kernel
theorem dX11_find_13 : decode cX11_find 13 = .ok (.istore_n 2, 1) := by decide +kernel
theorem dX11_find_14 : decode cX11_find 14 = .ok (.iload_n 2, 1) := by decide +kernel
theorem dX11_find_15 : decode cX11_find 15 = .ok (.aload_n 0, 1) := by decide +kernel
theorem dX11_find_16 : decode cX11_find 16 = .ok (.getfield 175, 3) := by decide +kernel
theorem in_X11_find_11 : ∀ w ∈ u_ws RX11 TX11 53, w ∈ wsX11_find := fun _ h => List.mem_cons_of_mem _ (List.mem_append_right _ h)
theorem dX11_find_19 : decode cX11_find 19 = .ok (.if_icmp .ge 33, 3) := by decide +kernel
theorem dX11_find_52 : decode cX11_find 52 = .ok (.iconst 1, 1) := by decide +kernel
theorem dX11_find_53 : decode cX11_find 53 = .ok (.istore_n 2, 1) := by decide +kernel
theorem dX11_find_54 : decode cX11_find 54 = .ok (.iload_n 2, 1) := by decide +kernel
theorem dX11_find_55 : decode cX11_find 55 = .ok (.ifCond .eq 100, 3) := by decide +kernel
theorem dX11_find_58 : decode cX11_find 58 = .ok (.bipush (-9), 2) := by decide +kernel
theorem dX11_find_60 : decode cX11_find 60 = .ok (.istore_n 3, 1) := by decide +kernel
theorem dX11_find_61 : decode cX11_find 61 = .ok (.iconst 0, 1) := by decide +kernel
theorem dX11_find_62 : decode cX11_find 62 = .ok (.istore 4, 2) := by decide +kernel
theorem dX11_find_64 : decode cX11_find 64 = .ok (.iload 4, 2) := by decide +kernel
theorem dX11_find_66 : decode cX11_find 66 = .ok (.aload_n 0, 1) := by decide +kernel
theorem dX11_find_67 : decode cX11_find 67 = .ok (.getfield 175, 3) := by decide +kernel
theorem dX11_find_70 : decode cX11_find 70 = .ok (.if_icmp .ge 48, 3) := by decide +kernel
theorem dX11_find_118 : decode cX11_find 118 = .ok (.iload_n 3, 1) := by decide +kernel
theorem dX11_find_119 : decode cX11_find 119 = .ok (.bipush (-9), 2) := by decide +kernel
theorem dX11_find_121 : decode cX11_find 121 = .ok (.if_icmp .eq 7, 3) := by decide +kernel
theorem dX11_find_128 : decode cX11_find 128 = .ok (.iconst 0, 1) := by decide +kernel
theorem dX11_find_129 : decode cX11_find 129 = .ok (.istore_n 2, 1) := by decide +kernel
theorem dX11_find_130 : decode cX11_find 130 = .ok (.iload_n 2, 1) := by decide +kernel
theorem dX11_find_131 : decode cX11_find 131 = .ok (.ifCond .eq 21, 3) := by decide +kernel
theorem dX11_find_152 : decode cX11_find 152 = .ok (.goto (-98), 3) := by decide +kernel
theorem dX11_find_155 : decode cX11_find 155 = .ok (.bipush (-9), 2) := by decide +kernel
theorem dX11_find_157 : decode cX11_find 157 = .ok (.ireturn, 1) := by decide +kernel
theorem dX11_find_10 : decode cX11_find 10 = .ok (.iconst (-1), 1) := by decide +kernel
theorem dX11_find_11 : decode cX11_find 11 = .ok (.ireturn, 1) := by decide +kernel
set_option maxHeartbeats 4000000 in
set_option maxRecDepth 100000 in
theorem p_X11_find (l : Launch) (D : va_G) (ad : Nat → Nat) (cs : Nat → ClassId) (M : MI) (L : ML) (x1 : Int32) (hm : ∀ k, 258 ≤ k → k < 297 → M k = M0 k) : Ci l yX11_find wsX11_find ({ frames := 1, cells := 0, slots := 0, locals := 22 }) D ad cs [.ref (ad 258), .int x1] M L (fun r M1 L1 => r = (if 0 ≤ x1 ∧ x1 < 8 then -9 else -1)) := by
  refine enter_i RX11 rfl [(0, .ref (ad 258)), (1, .int x1)] rfl (Nat.le_of_ble_eq_true rfl) (by decide +kernel) rfl ?_
  intro p e s m below meth c C hr
  refine g_iload_n C 1 dX11_find_0 rfl ?_
  refine g_iconst C 0 dX11_find_1 (by decide) ?_
  refine g_bipush C 7 dX11_find_2 (by decide) ?_
  refine g_callSi C (n := 3) (As := [.int x1, .int 0, .int 7]) (st := []) (c_X11_in l D ad cs _ _ x1 0 7) gX11_find_X11_in rfl rfl rfl (by decide +kernel) ⟨Nat.le_of_ble_eq_true rfl, Nat.le_of_ble_eq_true rfl⟩ rfl (Nat.le_of_ble_eq_true rfl) ⟨Nat.zero_le _, Nat.zero_le _⟩ rfl dX11_find_4 (fun r1 M2 L3 hr1 => ?_)
  obtain ⟨hq1, hq2, hr1⟩ := hr1
  obtain rfl := hq1.symm
  obtain rfl := hq2.symm
  refine g_if_ne C 12 dX11_find_7 (by decide) (fun c4 => ?_) (fun c4 => ?_)
  ·
    refine g_iconst C 0 dX11_find_12 (by decide) ?_
    refine g_istore_n C [(2, .int 0), (0, .ref (ad 258)), (1, .int x1)] dX11_find_13 (by decide) rfl ?_
    refine g_iload_n C 0 dX11_find_14 rfl ?_
    refine g_aload_n C 1 dX11_find_15 rfl ?_
    refine g_get C (.int (M 258 14)) 14 in_X11_find_11 (List.mem_of_getElem? (i := 1) rfl) (by decide) (ce_model ad cs _ _) rfl (by decide) rfl rfl dX11_find_16 ?_
    refine g_ti 0 (by (rw [hm 258 (by decide) (by decide)]; try rfl)) ?_
    refine g_icmp_ge C 52 dX11_find_19 (by decide) (fun _ => ?_) (fun c5 => absurd c5 (by decide))
    refine g_iconst C 1 dX11_find_52 (by decide) ?_
    refine g_istore_n C [(2, .int 1), (0, .ref (ad 258)), (1, .int x1)] dX11_find_53 (by decide) rfl ?_
    refine g_iload_n C 0 dX11_find_54 rfl ?_
    refine g_if_eq C 155 dX11_find_55 (by decide) (fun c6 => absurd c6 (by decide)) (fun _ => ?_)
    refine g_bipush C (-9) dX11_find_58 (by decide) ?_
    refine g_istore_n C [(3, .int ((-9))), (2, .int 1), (0, .ref (ad 258)), (1, .int x1)] dX11_find_60 (by decide) rfl ?_
    refine g_iconst C 0 dX11_find_61 (by decide) ?_
    refine g_istore C [(4, .int 0), (3, .int ((-9))), (2, .int 1), (0, .ref (ad 258)), (1, .int x1)] dX11_find_62 (by decide) rfl ?_
    refine g_iload C 0 dX11_find_64 rfl ?_
    refine g_aload_n C 3 dX11_find_66 rfl ?_
    refine g_get C (.int (M 258 14)) 14 in_X11_find_11 (List.mem_of_getElem? (i := 1) rfl) (by decide) (ce_model ad cs _ _) rfl (by decide) rfl rfl dX11_find_67 ?_
    refine g_ti 0 (by (rw [hm 258 (by decide) (by decide)]; try rfl)) ?_
    refine g_icmp_ge C 118 dX11_find_70 (by decide) (fun _ => ?_) (fun c7 => absurd c7 (by decide))
    refine g_iload_n C 1 dX11_find_118 rfl ?_
    refine g_bipush C (-9) dX11_find_119 (by decide) ?_
    refine g_icmp_eq C 128 dX11_find_121 (by decide) (fun _ => ?_) (fun c8 => absurd c8 (by decide))
    refine g_iconst C 0 dX11_find_128 (by decide) ?_
    refine g_istore_n C [(2, .int 0), (4, .int 0), (3, .int ((-9))), (0, .ref (ad 258)), (1, .int x1)] dX11_find_129 (by decide) rfl ?_
    refine g_iload_n C 0 dX11_find_130 rfl ?_
    refine g_if_eq C 152 dX11_find_131 (by decide) (fun _ => ?_) (fun c9 => absurd c9 (by decide))
    refine g_goto C 54 dX11_find_152 (by decide) ?_
    refine g_iload_n C 0 dX11_find_54 rfl ?_
    refine g_if_eq C 155 dX11_find_55 (by decide) (fun _ => ?_) (fun c10 => absurd c10 (by decide))
    refine g_bipush C (-9) dX11_find_155 (by decide) ?_
    exact g_iret C hr (by first | rfl | grind) dX11_find_157
  ·
    refine g_iconst C (-1) dX11_find_10 (by decide) ?_
    exact g_iret C hr (by first | rfl | grind) dX11_find_11
theorem where0 {M : MI} (hm : ∀ k, 258 ≤ k → k < 297 → M k = M0 k) : ∀ k, 258 ≤ k → k < 297 → sI M 258 26 (-9) k = M0 k := by
  intro k h1 h2
  by_cases e : k = 258
  · subst e
    rw [sI_k, hm 258 h1 h2]
    funext i
    by_cases e2 : i = 26
    · subst e2; rfl
    · simp only [upd, if_neg e2]
  · rw [sI_n _ _ _ e]; exact hm k h1 h2
theorem dX11_count_0 : decode cX11_count 0 = .ok (.aload_n 0, 1) := by decide +kernel
theorem dX11_count_1 : decode cX11_count 1 = .ok (.bipush (-9), 2) := by decide +kernel
theorem dX11_count_3 : decode cX11_count 3 = .ok (.putfield 126, 3) := by decide +kernel
theorem in_X11_count_11 : ∀ w ∈ u_ws RX11 TX11 53, w ∈ wsX11_count := fun _ h => List.mem_cons_of_mem _ (List.mem_append_right _ h)
theorem dX11_count_6 : decode cX11_count 6 = .ok (.aload_n 0, 1) := by decide +kernel
theorem dX11_count_7 : decode cX11_count 7 = .ok (.iload_n 1, 1) := by decide +kernel
theorem dX11_count_8 : decode cX11_count 8 = .ok (.invokevirtual 178, 3) := by decide +kernel
set_option maxRecDepth 20000 in
theorem ggX11_count_X11_isMethod : GoodIn wsX11_count wsX11_isMethod := goodIn_r _ [10, 11, 12, 13, 9, 14, 189, 190, 191, 192, 193, 194, 195, 196, 197, 198, 199, 200, 201, 202, 203, 204, 205, 206, 207, 208, 209, 210, 211, 212, 213, 214, 215, 216, 217, 218, 219, 220, 221, 222, 223, 224, 225, 226, 227, 228, 229, 230, 231, 232, 233, 234, 235, 236, 237, 238, 239, 240, 241] (by decide +kernel) (by decide +kernel)
set_option maxRecDepth 20000 in
theorem gX11_count_X11_isMethod : GoodIn wsX11_count (wsV RX11 178 RX11 yX11_isMethod wsX11_isMethod) := goodIn_app (goodIn_of _ (by decide +kernel)) ggX11_count_X11_isMethod
theorem dX11_count_11 : decode cX11_count 11 = .ok (.ifCond .eq 28, 3) := by decide +kernel
theorem dX11_count_39 : decode cX11_count 39 = .ok (.iconst (-1), 1) := by decide +kernel
theorem dX11_count_40 : decode cX11_count 40 = .ok (.ireturn, 1) := by decide +kernel
set_option maxHeartbeats 4000000 in
set_option maxRecDepth 100000 in
theorem p_X11_count (l : Launch) (D : va_G) (ad : Nat → Nat) (cs : Nat → ClassId) (M : MI) (L : ML) (x1 : Int32) (x2 : Int32) (x3 : Int32) (hm : ∀ k, 258 ≤ k → k < 297 → M k = M0 k) : Ci l yX11_count wsX11_count ({ frames := 2, cells := 0, slots := 0, locals := 43 }) D ad cs [.ref (ad 258), .int x1, .int x2, .int x3] M L (fun r M1 L1 => r = (-1)) := by
  refine enter_i RX11 rfl [(0, .ref (ad 258)), (1, .int x1), (2, .int x2), (3, .int x3)] rfl (Nat.le_of_ble_eq_true rfl) (by decide +kernel) rfl ?_
  intro p e s m below meth c C hr
  refine g_aload_n C 0 dX11_count_0 rfl ?_
  refine g_bipush C (-9) dX11_count_1 (by decide) ?_
  refine g_putI C 26 in_X11_count_11 (List.mem_of_getElem? (i := 1) rfl) (by decide) (ce_model ad cs _ _) rfl (by decide) rfl tyX11 tyX11_ok nmX11 rfl rfl rfl rfl (Nat.le_of_ble_eq_true rfl) (by rw [sI_k]; rfl) dX11_count_3 ?_
  refine g_nm (fun M1 hM1 => ?_)
  refine g_aload_n C 0 dX11_count_6 rfl ?_
  refine g_iload_n C 1 dX11_count_7 rfl ?_
  refine g_callVi C (n := 1) (As := [.int x1]) (st := []) (c_X11_isMethod0 l D ad cs _ _ x1 (fun k h1 h2 => by rw [hM1]; exact where0 hm k h1 h2)) gX11_count_X11_isMethod rfl rfl rfl (by decide +kernel) ⟨Nat.le_of_ble_eq_true rfl, Nat.le_of_ble_eq_true rfl⟩ rfl (Nat.le_of_ble_eq_true rfl) ⟨Nat.zero_le _, Nat.zero_le _⟩ (by decide) (ce_model ad cs _ _) rfl rfl dX11_count_8 (fun r2 M3 L4 hr2 => ?_)
  obtain ⟨hq1, hq2, rfl⟩ := hr2
  obtain rfl := hq1.symm
  obtain rfl := hq2.symm
  refine g_if_eq C 39 dX11_count_11 (by decide) (fun _ => ?_) (fun c5 => absurd c5 (by decide))
  refine g_iconst C (-1) dX11_count_39 (by decide) ?_
  exact g_iret C hr (by first | rfl | grind) dX11_count_40
theorem dX11_where_0 : decode cX11_where 0 = .ok (.aload_n 0, 1) := by decide +kernel
theorem dX11_where_1 : decode cX11_where 1 = .ok (.getfield 126, 3) := by decide +kernel
theorem in_X11_where_11 : ∀ w ∈ u_ws RX11 TX11 53, w ∈ wsX11_where := fun _ h => List.mem_cons_of_mem _ (List.mem_append_right _ h)
theorem dX11_where_4 : decode cX11_where 4 = .ok (.ireturn, 1) := by decide +kernel
set_option maxHeartbeats 4000000 in
set_option maxRecDepth 100000 in
theorem p_X11_where (l : Launch) (D : va_G) (ad : Nat → Nat) (cs : Nat → ClassId) (M : MI) (L : ML)  (hm : ∀ k, 258 ≤ k → k < 297 → M k = M0 k) : Ci l yX11_where wsX11_where ({ frames := 0, cells := 0, slots := 0, locals := 0 }) D ad cs [.ref (ad 258)] M L (fun r M1 L1 => r = (-9)) := by
  refine enter_i RX11 rfl [(0, .ref (ad 258))] rfl (Nat.le_of_ble_eq_true rfl) (by decide +kernel) rfl ?_
  intro p e s m below meth c C hr
  refine g_aload_n C 0 dX11_where_0 rfl ?_
  refine g_get C (.int (M 258 26)) 26 in_X11_where_11 (List.mem_of_getElem? (i := 1) rfl) (by decide) (ce_model ad cs _ _) rfl (by decide) rfl rfl dX11_where_1 ?_
  refine g_ti (-9) (by (rw [hm 258 (by decide) (by decide)]; try rfl)) ?_
  exact g_iret C hr (by first | rfl | grind) dX11_where_4
theorem dX11_seat_0 : decode cX11_seat 0 = .ok (.iload_n 1, 1) := by decide +kernel
theorem dX11_seat_1 : decode cX11_seat 1 = .ok (.iconst 0, 1) := by decide +kernel
theorem dX11_seat_2 : decode cX11_seat 2 = .ok (.aload_n 0, 1) := by decide +kernel
theorem dX11_seat_3 : decode cX11_seat 3 = .ok (.getfield 290, 3) := by decide +kernel
theorem in_X11_seat_11 : ∀ w ∈ u_ws RX11 TX11 53, w ∈ wsX11_seat := fun _ h => List.mem_cons_of_mem _ (List.mem_append_right _ h)
theorem dX11_seat_6 : decode cX11_seat 6 = .ok (.iconst 1, 1) := by decide +kernel
theorem dX11_seat_7 : decode cX11_seat 7 = .ok (.isub, 1) := by decide +kernel
theorem dX11_seat_8 : decode cX11_seat 8 = .ok (.invokestatic 133, 3) := by decide +kernel
set_option maxRecDepth 20000 in
theorem ggX11_seat_X11_in : GoodIn wsX11_seat wsX11_in := goodIn_r _ [6] (by decide +kernel) (by decide +kernel)
set_option maxRecDepth 20000 in
theorem gX11_seat_X11_in : GoodIn wsX11_seat (va_wsS RX11 133 yX11_in wsX11_in) := goodIn_app (goodIn_of _ (by decide +kernel)) ggX11_seat_X11_in
theorem dX11_seat_11 : decode cX11_seat 11 = .ok (.ifCond .eq 12, 3) := by decide +kernel
theorem dX11_seat_23 : decode cX11_seat 23 = .ok (.bipush (-9), 2) := by decide +kernel
theorem dX11_seat_25 : decode cX11_seat 25 = .ok (.ireturn, 1) := by decide +kernel
set_option maxHeartbeats 4000000 in
set_option maxRecDepth 100000 in
theorem p_X11_seat (l : Launch) (D : va_G) (ad : Nat → Nat) (cs : Nat → ClassId) (M : MI) (L : ML) (x1 : Int32) (hm : ∀ k, 258 ≤ k → k < 297 → M k = M0 k) : Ci l yX11_seat wsX11_seat ({ frames := 1, cells := 0, slots := 0, locals := 22 }) D ad cs [.ref (ad 258), .int x1] M L (fun r M1 L1 => r = (-9)) := by
  refine enter_i RX11 rfl [(0, .ref (ad 258)), (1, .int x1)] rfl (Nat.le_of_ble_eq_true rfl) (by decide +kernel) rfl ?_
  intro p e s m below meth c C hr
  refine g_iload_n C 1 dX11_seat_0 rfl ?_
  refine g_iconst C 0 dX11_seat_1 (by decide) ?_
  refine g_aload_n C 0 dX11_seat_2 rfl ?_
  refine g_get C (.int (M 258 42)) 42 in_X11_seat_11 (List.mem_of_getElem? (i := 1) rfl) (by decide) (ce_model ad cs _ _) rfl (by decide) rfl rfl dX11_seat_3 ?_
  refine g_ti 0 (by (rw [hm 258 (by decide) (by decide)]; try rfl)) ?_
  refine g_iconst C 1 dX11_seat_6 (by decide) ?_
  refine g_isub C dX11_seat_7 ?_
  refine g_ti ((-1)) (by decide) ?_
  refine g_callSi C (n := 3) (As := [.int x1, .int 0, .int ((-1))]) (st := []) (c_X11_in l D ad cs _ _ x1 0 ((-1))) gX11_seat_X11_in rfl rfl rfl (by decide +kernel) ⟨Nat.le_of_ble_eq_true rfl, Nat.le_of_ble_eq_true rfl⟩ rfl (Nat.le_of_ble_eq_true rfl) ⟨Nat.zero_le _, Nat.zero_le _⟩ rfl dX11_seat_8 (fun r1 M2 L3 hr1 => ?_)
  obtain ⟨hq1, hq2, hr1⟩ := hr1
  obtain rfl := hq1.symm
  obtain rfl := hq2.symm
  refine g_if_eq C 23 dX11_seat_11 (by decide) (fun c4 => ?_) (fun c4 => ?_)
  ·
    refine g_bipush C (-9) dX11_seat_23 (by decide) ?_
    exact g_iret C hr (by first | rfl | grind) dX11_seat_25
  ·
    exact False.elim (by grind)
theorem dX11_rounds_0 : decode cX11_rounds 0 = .ok (.aload_n 0, 1) := by decide +kernel
theorem dX11_rounds_1 : decode cX11_rounds 1 = .ok (.getfield 293, 3) := by decide +kernel
theorem in_X11_rounds_11 : ∀ w ∈ u_ws RX11 TX11 53, w ∈ wsX11_rounds := fun _ h => List.mem_cons_of_mem _ (List.mem_append_right _ h)
theorem dX11_rounds_4 : decode cX11_rounds 4 = .ok (.ireturn, 1) := by decide +kernel
set_option maxHeartbeats 4000000 in
set_option maxRecDepth 100000 in
theorem p_X11_rounds (l : Launch) (D : va_G) (ad : Nat → Nat) (cs : Nat → ClassId) (M : MI) (L : ML)  (hm : ∀ k, 258 ≤ k → k < 297 → M k = M0 k) : Ci l yX11_rounds wsX11_rounds ({ frames := 0, cells := 0, slots := 0, locals := 0 }) D ad cs [.ref (ad 258)] M L (fun r M1 L1 => r = (0)) := by
  refine enter_i RX11 rfl [(0, .ref (ad 258))] rfl (Nat.le_of_ble_eq_true rfl) (by decide +kernel) rfl ?_
  intro p e s m below meth c C hr
  refine g_aload_n C 0 dX11_rounds_0 rfl ?_
  refine g_get C (.int (M 258 44)) 44 in_X11_rounds_11 (List.mem_of_getElem? (i := 1) rfl) (by decide) (ce_model ad cs _ _) rfl (by decide) rfl rfl dX11_rounds_1 ?_
  refine g_ti 0 (by (rw [hm 258 (by decide) (by decide)]; try rfl)) ?_
  exact g_iret C hr (by first | rfl | grind) dX11_rounds_4
theorem dX11_round_0 : decode cX11_round 0 = .ok (.iload_n 2, 1) := by decide +kernel
theorem dX11_round_1 : decode cX11_round 1 = .ok (.iconst 0, 1) := by decide +kernel
theorem dX11_round_2 : decode cX11_round 2 = .ok (.iconst 1, 1) := by decide +kernel
theorem dX11_round_3 : decode cX11_round 3 = .ok (.invokestatic 133, 3) := by decide +kernel
set_option maxRecDepth 20000 in
theorem ggX11_round_X11_in : GoodIn wsX11_round wsX11_in := goodIn_r _ [7] (by decide +kernel) (by decide +kernel)
set_option maxRecDepth 20000 in
theorem gX11_round_X11_in : GoodIn wsX11_round (va_wsS RX11 133 yX11_in wsX11_in) := goodIn_app (goodIn_of _ (by decide +kernel)) ggX11_round_X11_in
theorem dX11_round_6 : decode cX11_round 6 = .ok (.ifCond .ne 7, 3) := by decide +kernel
theorem dX11_round_13 : decode cX11_round 13 = .ok (.iload_n 1, 1) := by decide +kernel
theorem dX11_round_14 : decode cX11_round 14 = .ok (.iconst 0, 1) := by decide +kernel
theorem dX11_round_15 : decode cX11_round 15 = .ok (.aload_n 0, 1) := by decide +kernel
theorem dX11_round_16 : decode cX11_round 16 = .ok (.getfield 293, 3) := by decide +kernel
theorem in_X11_round_11 : ∀ w ∈ u_ws RX11 TX11 53, w ∈ wsX11_round := fun _ h => List.mem_cons_of_mem _ (List.mem_append_right _ h)
theorem dX11_round_19 : decode cX11_round 19 = .ok (.iconst 1, 1) := by decide +kernel
theorem dX11_round_20 : decode cX11_round 20 = .ok (.isub, 1) := by decide +kernel
theorem dX11_round_21 : decode cX11_round 21 = .ok (.invokestatic 133, 3) := by decide +kernel
theorem dX11_round_24 : decode cX11_round 24 = .ok (.ifCond .ne 8, 3) := by decide +kernel
theorem dX11_round_27 : decode cX11_round 27 = .ok (.bipush (-9), 2) := by decide +kernel
theorem dX11_round_29 : decode cX11_round 29 = .ok (.goto 22, 3) := by decide +kernel
theorem dX11_round_51 : decode cX11_round 51 = .ok (.ireturn, 1) := by decide +kernel
theorem dX11_round_9 : decode cX11_round 9 = .ok (.iconst (-1), 1) := by decide +kernel
theorem dX11_round_10 : decode cX11_round 10 = .ok (.goto 41, 3) := by decide +kernel
set_option maxHeartbeats 4000000 in
set_option maxRecDepth 100000 in
theorem p_X11_round (l : Launch) (D : va_G) (ad : Nat → Nat) (cs : Nat → ClassId) (M : MI) (L : ML) (x1 : Int32) (x2 : Int32) (hm : ∀ k, 258 ≤ k → k < 297 → M k = M0 k) : Ci l yX11_round wsX11_round ({ frames := 1, cells := 0, slots := 0, locals := 22 }) D ad cs [.ref (ad 258), .int x1, .int x2] M L (fun r M1 L1 => r = (if x2 = 0 ∨ x2 = 1 then -9 else -1)) := by
  refine enter_i RX11 rfl [(0, .ref (ad 258)), (1, .int x1), (2, .int x2)] rfl (Nat.le_of_ble_eq_true rfl) (by decide +kernel) rfl ?_
  intro p e s m below meth c C hr
  refine g_iload_n C 2 dX11_round_0 rfl ?_
  refine g_iconst C 0 dX11_round_1 (by decide) ?_
  refine g_iconst C 1 dX11_round_2 (by decide) ?_
  refine g_callSi C (n := 3) (As := [.int x2, .int 0, .int 1]) (st := []) (c_X11_in l D ad cs _ _ x2 0 1) gX11_round_X11_in rfl rfl rfl (by decide +kernel) ⟨Nat.le_of_ble_eq_true rfl, Nat.le_of_ble_eq_true rfl⟩ rfl (Nat.le_of_ble_eq_true rfl) ⟨Nat.zero_le _, Nat.zero_le _⟩ rfl dX11_round_3 (fun r1 M2 L3 hr1 => ?_)
  obtain ⟨hq1, hq2, hr1⟩ := hr1
  obtain rfl := hq1.symm
  obtain rfl := hq2.symm
  refine g_if_ne C 13 dX11_round_6 (by decide) (fun c4 => ?_) (fun c4 => ?_)
  ·
    refine g_iload_n C 1 dX11_round_13 rfl ?_
    refine g_iconst C 0 dX11_round_14 (by decide) ?_
    refine g_aload_n C 0 dX11_round_15 rfl ?_
    refine g_get C (.int (M 258 44)) 44 in_X11_round_11 (List.mem_of_getElem? (i := 1) rfl) (by decide) (ce_model ad cs _ _) rfl (by decide) rfl rfl dX11_round_16 ?_
    refine g_ti 0 (by (rw [hm 258 (by decide) (by decide)]; try rfl)) ?_
    refine g_iconst C 1 dX11_round_19 (by decide) ?_
    refine g_isub C dX11_round_20 ?_
    refine g_ti ((-1)) (by decide) ?_
    refine g_callSi C (n := 3) (As := [.int x1, .int 0, .int ((-1))]) (st := []) (c_X11_in l D ad cs _ _ x1 0 ((-1))) gX11_round_X11_in rfl rfl rfl (by decide +kernel) ⟨Nat.le_of_ble_eq_true rfl, Nat.le_of_ble_eq_true rfl⟩ rfl (Nat.le_of_ble_eq_true rfl) ⟨Nat.zero_le _, Nat.zero_le _⟩ rfl dX11_round_21 (fun r5 M6 L7 hr5 => ?_)
    obtain ⟨hq1, hq2, hr5⟩ := hr5
    obtain rfl := hq1.symm
    obtain rfl := hq2.symm
    refine g_if_ne C 32 dX11_round_24 (by decide) (fun c8 => ?_) (fun c8 => ?_)
    ·
      exact False.elim (by grind)
    ·
      refine g_bipush C (-9) dX11_round_27 (by decide) ?_
      refine g_goto C 51 dX11_round_29 (by decide) ?_
      exact g_iret C hr (by first | rfl | grind) dX11_round_51
  ·
    refine g_iconst C (-1) dX11_round_9 (by decide) ?_
    refine g_goto C 51 dX11_round_10 (by decide) ?_
    exact g_iret C hr (by first | rfl | grind) dX11_round_51
theorem dX11_tally_0 : decode cX11_tally 0 = .ok (.aload_n 0, 1) := by decide +kernel
theorem dX11_tally_1 : decode cX11_tally 1 = .ok (.iload_n 2, 1) := by decide +kernel
theorem dX11_tally_2 : decode cX11_tally 2 = .ok (.invokevirtual 140, 3) := by decide +kernel
set_option maxRecDepth 20000 in
theorem ggX11_tally_X11_isCandidate : GoodIn wsX11_tally wsX11_isCandidate := goodIn_r _ [10, 11, 12, 13, 9, 14, 15, 16, 17, 18, 19, 20, 21, 22, 23, 24, 25, 26, 27, 28, 29, 30, 31, 32, 33, 34, 35, 36, 37, 38, 39, 40, 41, 42, 43, 44, 45, 46, 47, 48, 49, 50, 51, 52, 53, 54, 55, 56, 57, 58, 59, 60, 61, 62, 63, 64, 65, 66, 67] (by decide +kernel) (by decide +kernel)
set_option maxRecDepth 20000 in
theorem gX11_tally_X11_isCandidate : GoodIn wsX11_tally (wsV RX11 140 RX11 yX11_isCandidate wsX11_isCandidate) := goodIn_app (goodIn_of _ (by decide +kernel)) ggX11_tally_X11_isCandidate
theorem dX11_tally_5 : decode cX11_tally 5 = .ok (.ifCond .ne 9, 3) := by decide +kernel
theorem dX11_tally_8 : decode cX11_tally 8 = .ok (.ldc2_w 308, 3) := by decide +kernel
theorem dX11_tally_11 : decode cX11_tally 11 = .ok (.goto 52, 3) := by decide +kernel
theorem dX11_tally_63 : decode cX11_tally 63 = .ok (.lreturn, 1) := by decide +kernel
set_option maxHeartbeats 4000000 in
set_option maxRecDepth 100000 in
theorem p_X11_tally (l : Launch) (D : va_G) (ad : Nat → Nat) (cs : Nat → ClassId) (M : MI) (L : ML) (x1 : Int32) (x2 : Int32) (x3 : Int32) (hm : ∀ k, 258 ≤ k → k < 297 → M k = M0 k) : Cl l yX11_tally wsX11_tally ({ frames := 2, cells := 0, slots := 0, locals := 43 }) D ad cs [.ref (ad 258), .int x1, .int x2, .int x3] M L (fun r M1 L1 => r = (-1)) := by
  refine enter_l RX11 rfl [(0, .ref (ad 258)), (1, .int x1), (2, .int x2), (3, .int x3)] rfl (Nat.le_of_ble_eq_true rfl) (by decide +kernel) rfl ?_
  intro p e s m below meth c C hr
  refine g_aload_n C 0 dX11_tally_0 rfl ?_
  refine g_iload_n C 2 dX11_tally_1 rfl ?_
  refine g_callVi C (n := 1) (As := [.int x2]) (st := []) (c_X11_isCandidate0 l D ad cs _ _ x2 (hm)) gX11_tally_X11_isCandidate rfl rfl rfl (by decide +kernel) ⟨Nat.le_of_ble_eq_true rfl, Nat.le_of_ble_eq_true rfl⟩ rfl (Nat.le_of_ble_eq_true rfl) ⟨Nat.zero_le _, Nat.zero_le _⟩ (by decide) (ce_model ad cs _ _) rfl rfl dX11_tally_2 (fun r1 M2 L3 hr1 => ?_)
  obtain ⟨hq1, hq2, rfl⟩ := hr1
  obtain rfl := hq1.symm
  obtain rfl := hq2.symm
  refine g_if_ne C 14 dX11_tally_5 (by decide) (fun c4 => absurd c4 (by decide)) (fun _ => ?_)
  refine g_ldc2 C (-1) (List.mem_of_getElem? (i := 1) rfl) dX11_tally_8 ?_
  refine g_goto C 63 dX11_tally_11 (by decide) ?_
  exact g_lret C hr (by first | rfl | grind) dX11_tally_63
theorem dX11_many_0 : decode cX11_many 0 = .ok (.iload_n 1, 1) := by decide +kernel
theorem dX11_many_1 : decode cX11_many 1 = .ok (.tableswitch 60 0 4 #[35, 40, 45, 50, 55], 35) := by decide +kernel
theorem dX11_many_61 : decode cX11_many 61 = .ok (.iconst (-1), 1) := by decide +kernel
theorem dX11_many_62 : decode cX11_many 62 = .ok (.ireturn, 1) := by decide +kernel
theorem dX11_many_36 : decode cX11_many 36 = .ok (.aload_n 0, 1) := by decide +kernel
theorem dX11_many_37 : decode cX11_many 37 = .ok (.getfield 137, 3) := by decide +kernel
theorem in_X11_many_11 : ∀ w ∈ u_ws RX11 TX11 53, w ∈ wsX11_many := fun _ h => List.mem_cons_of_mem _ (List.mem_append_right _ h)
theorem dX11_many_40 : decode cX11_many 40 = .ok (.ireturn, 1) := by decide +kernel
theorem dX11_many_41 : decode cX11_many 41 = .ok (.aload_n 0, 1) := by decide +kernel
theorem dX11_many_42 : decode cX11_many 42 = .ok (.getfield 144, 3) := by decide +kernel
theorem dX11_many_45 : decode cX11_many 45 = .ok (.ireturn, 1) := by decide +kernel
theorem dX11_many_46 : decode cX11_many 46 = .ok (.aload_n 0, 1) := by decide +kernel
theorem dX11_many_47 : decode cX11_many 47 = .ok (.getfield 163, 3) := by decide +kernel
theorem dX11_many_50 : decode cX11_many 50 = .ok (.ireturn, 1) := by decide +kernel
theorem dX11_many_51 : decode cX11_many 51 = .ok (.aload_n 0, 1) := by decide +kernel
theorem dX11_many_52 : decode cX11_many 52 = .ok (.getfield 175, 3) := by decide +kernel
theorem dX11_many_55 : decode cX11_many 55 = .ok (.ireturn, 1) := by decide +kernel
theorem dX11_many_56 : decode cX11_many 56 = .ok (.aload_n 0, 1) := by decide +kernel
theorem dX11_many_57 : decode cX11_many 57 = .ok (.getfield 290, 3) := by decide +kernel
theorem dX11_many_60 : decode cX11_many 60 = .ok (.ireturn, 1) := by decide +kernel
set_option maxHeartbeats 4000000 in
set_option maxRecDepth 100000 in
theorem p_X11_many (l : Launch) (D : va_G) (ad : Nat → Nat) (cs : Nat → ClassId) (M : MI) (L : ML) (x1 : Int32) (hm : ∀ k, 258 ≤ k → k < 297 → M k = M0 k) : Ci l yX11_many wsX11_many ({ frames := 0, cells := 0, slots := 0, locals := 0 }) D ad cs [.ref (ad 258), .int x1] M L (fun r M1 L1 => r = (if 0 ≤ x1.toInt ∧ x1.toInt ≤ 4 then 0 else -1)) := by
  refine enter_i RX11 rfl [(0, .ref (ad 258)), (1, .int x1)] rfl (Nat.le_of_ble_eq_true rfl) (by decide +kernel) rfl ?_
  intro p e s m below meth c C hr
  refine g_iload_n C 1 dX11_many_0 rfl ?_
  by_cases hsw : x1.toInt < 0 ∨ 4 < x1.toInt
  ·
    refine g_tableOut C 61 dX11_many_1 hsw (by decide) ?_
    refine g_iconst C (-1) dX11_many_61 (by decide) ?_
    exact g_iret C hr (by first | rfl | grind) dX11_many_62
  ·
    have hsw1 : ¬ x1.toInt < 0 := fun h => hsw (Or.inl h)
    have hsw2 : ¬ 4 < x1.toInt := fun h => hsw (Or.inr h)
    rcases (show x1.toInt = 0 ∨ x1.toInt = 1 ∨ x1.toInt = 2 ∨ x1.toInt = 3 ∨ x1.toInt = 4 by omega) with hq | hq | hq | hq | hq
    ·
      refine g_tableIn C 36 dX11_many_1 hsw1 hsw2 (off := 35) (by rw [hq]; rfl) (by decide) ?_
      refine g_aload_n C 0 dX11_many_36 rfl ?_
      refine g_get C (.int (M 258 2)) 2 in_X11_many_11 (List.mem_of_getElem? (i := 1) rfl) (by decide) (ce_model ad cs _ _) rfl (by decide) rfl rfl dX11_many_37 ?_
      refine g_ti 0 (by (rw [hm 258 (by decide) (by decide)]; try rfl)) ?_
      exact g_iret C hr (by first | rfl | grind) dX11_many_40
    ·
      refine g_tableIn C 41 dX11_many_1 hsw1 hsw2 (off := 40) (by rw [hq]; rfl) (by decide) ?_
      refine g_aload_n C 0 dX11_many_41 rfl ?_
      refine g_get C (.int (M 258 4)) 4 in_X11_many_11 (List.mem_of_getElem? (i := 2) rfl) (by decide) (ce_model ad cs _ _) rfl (by decide) rfl rfl dX11_many_42 ?_
      refine g_ti 0 (by (rw [hm 258 (by decide) (by decide)]; try rfl)) ?_
      exact g_iret C hr (by first | rfl | grind) dX11_many_45
    ·
      refine g_tableIn C 46 dX11_many_1 hsw1 hsw2 (off := 45) (by rw [hq]; rfl) (by decide) ?_
      refine g_aload_n C 0 dX11_many_46 rfl ?_
      refine g_get C (.int (M 258 9)) 9 in_X11_many_11 (List.mem_of_getElem? (i := 3) rfl) (by decide) (ce_model ad cs _ _) rfl (by decide) rfl rfl dX11_many_47 ?_
      refine g_ti 0 (by (rw [hm 258 (by decide) (by decide)]; try rfl)) ?_
      exact g_iret C hr (by first | rfl | grind) dX11_many_50
    ·
      refine g_tableIn C 51 dX11_many_1 hsw1 hsw2 (off := 50) (by rw [hq]; rfl) (by decide) ?_
      refine g_aload_n C 0 dX11_many_51 rfl ?_
      refine g_get C (.int (M 258 14)) 14 in_X11_many_11 (List.mem_of_getElem? (i := 4) rfl) (by decide) (ce_model ad cs _ _) rfl (by decide) rfl rfl dX11_many_52 ?_
      refine g_ti 0 (by (rw [hm 258 (by decide) (by decide)]; try rfl)) ?_
      exact g_iret C hr (by first | rfl | grind) dX11_many_55
    ·
      refine g_tableIn C 56 dX11_many_1 hsw1 hsw2 (off := 55) (by rw [hq]; rfl) (by decide) ?_
      refine g_aload_n C 0 dX11_many_56 rfl ?_
      refine g_get C (.int (M 258 42)) 42 in_X11_many_11 (List.mem_of_getElem? (i := 5) rfl) (by decide) (ce_model ad cs _ _) rfl (by decide) rfl rfl dX11_many_57 ?_
      refine g_ti 0 (by (rw [hm 258 (by decide) (by decide)]; try rfl)) ?_
      exact g_iret C hr (by first | rfl | grind) dX11_many_60
theorem dX11_finding_0 : decode cX11_finding 0 = .ok (.aload_n 0, 1) := by decide +kernel
theorem dX11_finding_1 : decode cX11_finding 1 = .ok (.getfield 130, 3) := by decide +kernel
theorem in_X11_finding_11 : ∀ w ∈ u_ws RX11 TX11 53, w ∈ wsX11_finding := fun _ h => List.mem_cons_of_mem _ (List.mem_append_right _ h)
theorem dX11_finding_4 : decode cX11_finding 4 = .ok (.ireturn, 1) := by decide +kernel
set_option maxHeartbeats 4000000 in
set_option maxRecDepth 100000 in
theorem p_X11_finding (l : Launch) (D : va_G) (ad : Nat → Nat) (cs : Nat → ClassId) (M : MI) (L : ML)  (hm : ∀ k, 258 ≤ k → k < 297 → M k = M0 k) : Ci l yX11_finding wsX11_finding ({ frames := 0, cells := 0, slots := 0, locals := 0 }) D ad cs [.ref (ad 258)] M L (fun r M1 L1 => r = (0)) := by
  refine enter_i RX11 rfl [(0, .ref (ad 258))] rfl (Nat.le_of_ble_eq_true rfl) (by decide +kernel) rfl ?_
  intro p e s m below meth c C hr
  refine g_aload_n C 0 dX11_finding_0 rfl ?_
  refine g_get C (.int (M 258 0)) 0 in_X11_finding_11 (List.mem_of_getElem? (i := 1) rfl) (by decide) (ce_model ad cs _ _) rfl (by decide) rfl rfl dX11_finding_1 ?_
  refine g_ti 0 (by (rw [hm 258 (by decide) (by decide)]; try rfl)) ?_
  exact g_iret C hr (by first | rfl | grind) dX11_finding_4
theorem dX11_findings_0 : decode cX11_findings 0 = .ok (.iload_n 1, 1) := by decide +kernel
theorem dX11_findings_1 : decode cX11_findings 1 = .ok (.iconst 1, 1) := by decide +kernel
theorem dX11_findings_2 : decode cX11_findings 2 = .ok (.bipush 6, 2) := by decide +kernel
theorem dX11_findings_4 : decode cX11_findings 4 = .ok (.invokestatic 133, 3) := by decide +kernel
set_option maxRecDepth 20000 in
theorem ggX11_findings_X11_in : GoodIn wsX11_findings wsX11_in := goodIn_r _ [5] (by decide +kernel) (by decide +kernel)
set_option maxRecDepth 20000 in
theorem gX11_findings_X11_in : GoodIn wsX11_findings (va_wsS RX11 133 yX11_in wsX11_in) := goodIn_app (goodIn_of _ (by decide +kernel)) ggX11_findings_X11_in
theorem dX11_findings_7 : decode cX11_findings 7 = .ok (.ifCond .eq 12, 3) := by decide +kernel
theorem dX11_findings_19 : decode cX11_findings 19 = .ok (.iconst (-1), 1) := by decide +kernel
theorem dX11_findings_20 : decode cX11_findings 20 = .ok (.ireturn, 1) := by decide +kernel
theorem dX11_findings_10 : decode cX11_findings 10 = .ok (.aload_n 0, 1) := by decide +kernel
theorem dX11_findings_11 : decode cX11_findings 11 = .ok (.getfield 7, 3) := by decide +kernel
theorem in_X11_findings_11 : ∀ w ∈ u_ws RX11 TX11 53, w ∈ wsX11_findings := fun _ h => List.mem_cons_of_mem _ (List.mem_append_right _ h)
theorem dX11_findings_14 : decode cX11_findings 14 = .ok (.iload_n 1, 1) := by decide +kernel
theorem dX11_findings_15 : decode cX11_findings 15 = .ok (.iaload, 1) := by decide +kernel
theorem dX11_findings_16 : decode cX11_findings 16 = .ok (.goto 4, 3) := by decide +kernel
set_option maxHeartbeats 4000000 in
set_option maxRecDepth 100000 in
theorem p_X11_findings (l : Launch) (D : va_G) (ad : Nat → Nat) (cs : Nat → ClassId) (M : MI) (L : ML) (x1 : Int32) (hm : ∀ k, 258 ≤ k → k < 297 → M k = M0 k) : Ci l yX11_findings wsX11_findings ({ frames := 1, cells := 0, slots := 0, locals := 22 }) D ad cs [.ref (ad 258), .int x1] M L (fun r M1 L1 => r = (if 1 ≤ x1 ∧ x1 ≤ 6 then 0 else -1)) := by
  refine enter_i RX11 rfl [(0, .ref (ad 258)), (1, .int x1)] rfl (Nat.le_of_ble_eq_true rfl) (by decide +kernel) rfl ?_
  intro p e s m below meth c C hr
  refine g_iload_n C 1 dX11_findings_0 rfl ?_
  refine g_iconst C 1 dX11_findings_1 (by decide) ?_
  refine g_bipush C 6 dX11_findings_2 (by decide) ?_
  refine g_callSi C (n := 3) (As := [.int x1, .int 1, .int 6]) (st := []) (c_X11_in l D ad cs _ _ x1 1 6) gX11_findings_X11_in rfl rfl rfl (by decide +kernel) ⟨Nat.le_of_ble_eq_true rfl, Nat.le_of_ble_eq_true rfl⟩ rfl (Nat.le_of_ble_eq_true rfl) ⟨Nat.zero_le _, Nat.zero_le _⟩ rfl dX11_findings_4 (fun r1 M2 L3 hr1 => ?_)
  obtain ⟨hq1, hq2, hr1⟩ := hr1
  obtain rfl := hq1.symm
  obtain rfl := hq2.symm
  refine g_if_eq C 19 dX11_findings_7 (by decide) (fun c4 => ?_) (fun c4 => ?_)
  ·
    refine g_iconst C (-1) dX11_findings_19 (by decide) ?_
    exact g_iret C hr (by first | rfl | grind) dX11_findings_20
  ·
    have h_in_x1 : vp_in x1 7 := in_of 1 6 (by grind) (by grind) (by decide) (by decide)
    refine g_aload_n C 0 dX11_findings_10 rfl ?_
    refine g_get C (.ref (ad 259)) 1 in_X11_findings_11 (List.mem_of_getElem? (i := 1) rfl) (by decide) (ce_model ad cs _ _) rfl (by decide) rfl rfl dX11_findings_11 ?_
    refine g_iload_n C 1 dX11_findings_14 rfl ?_
    refine g_iald C (by decide) (ce_m_came ad cs _ _) (h_in_x1) dX11_findings_15 ?_
    refine g_ti 0 (by (rw [hm 259 (by decide) (by decide)]; try rfl)) ?_
    refine g_goto C 20 dX11_findings_16 (by decide) ?_
    exact g_iret C hr (by first | rfl | grind) dX11_findings_20
theorem dX11_digest_0 : decode cX11_digest 0 = .ok (.ldc2_w 312, 3) := by decide +kernel
theorem dX11_digest_3 : decode cX11_digest 3 = .ok (.lstore_n 1, 1) := by decide +kernel
theorem dX11_digest_4 : decode cX11_digest 4 = .ok (.iconst 0, 1) := by decide +kernel
theorem dX11_digest_5 : decode cX11_digest 5 = .ok (.istore_n 3, 1) := by decide +kernel
theorem dX11_digest_6 : decode cX11_digest 6 = .ok (.iload_n 3, 1) := by decide +kernel
theorem dX11_digest_7 : decode cX11_digest 7 = .ok (.aload_n 0, 1) := by decide +kernel
theorem dX11_digest_8 : decode cX11_digest 8 = .ok (.getfield 137, 3) := by decide +kernel
theorem in_X11_digest_11 : ∀ w ∈ u_ws RX11 TX11 53, w ∈ wsX11_digest := fun _ h => List.mem_cons_of_mem _ (List.mem_append_right _ h)
theorem dX11_digest_11 : decode cX11_digest 11 = .ok (.if_icmp .ge 23, 3) := by decide +kernel
theorem dX11_digest_34 : decode cX11_digest 34 = .ok (.iconst 0, 1) := by decide +kernel
theorem dX11_digest_35 : decode cX11_digest 35 = .ok (.istore_n 3, 1) := by decide +kernel
theorem dX11_digest_36 : decode cX11_digest 36 = .ok (.iload_n 3, 1) := by decide +kernel
theorem dX11_digest_37 : decode cX11_digest 37 = .ok (.aload_n 0, 1) := by decide +kernel
theorem dX11_digest_38 : decode cX11_digest 38 = .ok (.getfield 144, 3) := by decide +kernel
theorem dX11_digest_41 : decode cX11_digest 41 = .ok (.if_icmp .ge 108, 3) := by decide +kernel
theorem dX11_digest_149 : decode cX11_digest 149 = .ok (.iconst 0, 1) := by decide +kernel
theorem dX11_digest_150 : decode cX11_digest 150 = .ok (.istore_n 3, 1) := by decide +kernel
theorem dX11_digest_151 : decode cX11_digest 151 = .ok (.iload_n 3, 1) := by decide +kernel
theorem dX11_digest_152 : decode cX11_digest 152 = .ok (.aload_n 0, 1) := by decide +kernel
theorem dX11_digest_153 : decode cX11_digest 153 = .ok (.getfield 163, 3) := by decide +kernel
theorem dX11_digest_156 : decode cX11_digest 156 = .ok (.if_icmp .ge 49, 3) := by decide +kernel
theorem dX11_digest_205 : decode cX11_digest 205 = .ok (.iconst 0, 1) := by decide +kernel
theorem dX11_digest_206 : decode cX11_digest 206 = .ok (.istore_n 3, 1) := by decide +kernel
theorem dX11_digest_207 : decode cX11_digest 207 = .ok (.iload_n 3, 1) := by decide +kernel
theorem dX11_digest_208 : decode cX11_digest 208 = .ok (.aload_n 0, 1) := by decide +kernel
theorem dX11_digest_209 : decode cX11_digest 209 = .ok (.getfield 175, 3) := by decide +kernel
theorem dX11_digest_212 : decode cX11_digest 212 = .ok (.if_icmp .ge 39, 3) := by decide +kernel
theorem dX11_digest_251 : decode cX11_digest 251 = .ok (.lload_n 1, 1) := by decide +kernel
theorem dX11_digest_252 : decode cX11_digest 252 = .ok (.lreturn, 1) := by decide +kernel
set_option maxHeartbeats 4000000 in
set_option maxRecDepth 100000 in
theorem p_X11_digest (l : Launch) (D : va_G) (ad : Nat → Nat) (cs : Nat → ClassId) (M : MI) (L : ML)  (hm : ∀ k, 258 ≤ k → k < 297 → M k = M0 k) : Cl l yX11_digest wsX11_digest ({ frames := 0, cells := 0, slots := 0, locals := 0 }) D ad cs [.ref (ad 258)] M L (fun r M1 L1 => r = (17)) := by
  refine enter_l RX11 rfl [(0, .ref (ad 258))] rfl (Nat.le_of_ble_eq_true rfl) (by decide +kernel) rfl ?_
  intro p e s m below meth c C hr
  refine g_ldc2 C 17 (List.mem_of_getElem? (i := 1) rfl) dX11_digest_0 ?_
  refine g_lstore_n C [(1, .long 17), (0, .ref (ad 258))] dX11_digest_3 (by decide) rfl ?_
  refine g_iconst C 0 dX11_digest_4 (by decide) ?_
  refine g_istore_n C [(3, .int 0), (1, .long 17), (0, .ref (ad 258))] dX11_digest_5 (by decide) rfl ?_
  refine g_iload_n C 0 dX11_digest_6 rfl ?_
  refine g_aload_n C 2 dX11_digest_7 rfl ?_
  refine g_get C (.int (M 258 2)) 2 in_X11_digest_11 (List.mem_of_getElem? (i := 2) rfl) (by decide) (ce_model ad cs _ _) rfl (by decide) rfl rfl dX11_digest_8 ?_
  refine g_ti 0 (by (rw [hm 258 (by decide) (by decide)]; try rfl)) ?_
  refine g_icmp_ge C 34 dX11_digest_11 (by decide) (fun _ => ?_) (fun c1 => absurd c1 (by decide))
  refine g_iconst C 0 dX11_digest_34 (by decide) ?_
  refine g_istore_n C [(3, .int 0), (1, .long 17), (0, .ref (ad 258))] dX11_digest_35 (by decide) rfl ?_
  refine g_iload_n C 0 dX11_digest_36 rfl ?_
  refine g_aload_n C 2 dX11_digest_37 rfl ?_
  refine g_get C (.int (M 258 4)) 4 in_X11_digest_11 (List.mem_of_getElem? (i := 5) rfl) (by decide) (ce_model ad cs _ _) rfl (by decide) rfl rfl dX11_digest_38 ?_
  refine g_ti 0 (by (rw [hm 258 (by decide) (by decide)]; try rfl)) ?_
  refine g_icmp_ge C 149 dX11_digest_41 (by decide) (fun _ => ?_) (fun c2 => absurd c2 (by decide))
  refine g_iconst C 0 dX11_digest_149 (by decide) ?_
  refine g_istore_n C [(3, .int 0), (1, .long 17), (0, .ref (ad 258))] dX11_digest_150 (by decide) rfl ?_
  refine g_iload_n C 0 dX11_digest_151 rfl ?_
  refine g_aload_n C 2 dX11_digest_152 rfl ?_
  refine g_get C (.int (M 258 9)) 9 in_X11_digest_11 (List.mem_of_getElem? (i := 10) rfl) (by decide) (ce_model ad cs _ _) rfl (by decide) rfl rfl dX11_digest_153 ?_
  refine g_ti 0 (by (rw [hm 258 (by decide) (by decide)]; try rfl)) ?_
  refine g_icmp_ge C 205 dX11_digest_156 (by decide) (fun _ => ?_) (fun c3 => absurd c3 (by decide))
  refine g_iconst C 0 dX11_digest_205 (by decide) ?_
  refine g_istore_n C [(3, .int 0), (1, .long 17), (0, .ref (ad 258))] dX11_digest_206 (by decide) rfl ?_
  refine g_iload_n C 0 dX11_digest_207 rfl ?_
  refine g_aload_n C 2 dX11_digest_208 rfl ?_
  refine g_get C (.int (M 258 14)) 14 in_X11_digest_11 (List.mem_of_getElem? (i := 13) rfl) (by decide) (ce_model ad cs _ _) rfl (by decide) rfl rfl dX11_digest_209 ?_
  refine g_ti 0 (by (rw [hm 258 (by decide) (by decide)]; try rfl)) ?_
  refine g_icmp_ge C 251 dX11_digest_212 (by decide) (fun _ => ?_) (fun c4 => absurd c4 (by decide))
  refine g_lload_n C 1 dX11_digest_251 rfl ?_
  exact g_lret C hr (by first | rfl | grind) dX11_digest_252
theorem dX11_box_0 : decode cX11_box 0 = .ok (.iload_n 1, 1) := by decide +kernel
theorem dX11_box_1 : decode cX11_box 1 = .ok (.iconst 0, 1) := by decide +kernel
theorem dX11_box_2 : decode cX11_box 2 = .ok (.iconst 3, 1) := by decide +kernel
theorem dX11_box_3 : decode cX11_box 3 = .ok (.invokestatic 133, 3) := by decide +kernel
set_option maxRecDepth 20000 in
theorem ggX11_box_X11_in : GoodIn wsX11_box wsX11_in := goodIn_r _ [8] (by decide +kernel) (by decide +kernel)
set_option maxRecDepth 20000 in
theorem gX11_box_X11_in : GoodIn wsX11_box (va_wsS RX11 133 yX11_in wsX11_in) := goodIn_app (goodIn_of _ (by decide +kernel)) ggX11_box_X11_in
theorem dX11_box_6 : decode cX11_box 6 = .ok (.ifCond .eq 9, 3) := by decide +kernel
theorem dX11_box_15 : decode cX11_box 15 = .ok (.iconst (-1), 1) := by decide +kernel
theorem dX11_box_16 : decode cX11_box 16 = .ok (.ireturn, 1) := by decide +kernel
theorem dX11_box_9 : decode cX11_box 9 = .ok (.iload_n 2, 1) := by decide +kernel
theorem dX11_box_10 : decode cX11_box 10 = .ok (.bipush 40, 2) := by decide +kernel
theorem dX11_box_12 : decode cX11_box 12 = .ok (.if_icmp .le 5, 3) := by decide +kernel
theorem dX11_box_17 : decode cX11_box 17 = .ok (.aload_n 0, 1) := by decide +kernel
theorem dX11_box_18 : decode cX11_box 18 = .ok (.getfield 163, 3) := by decide +kernel
theorem in_X11_box_11 : ∀ w ∈ u_ws RX11 TX11 53, w ∈ wsX11_box := fun _ h => List.mem_cons_of_mem _ (List.mem_append_right _ h)
theorem dX11_box_21 : decode cX11_box 21 = .ok (.bipush 8, 2) := by decide +kernel
theorem dX11_box_23 : decode cX11_box 23 = .ok (.if_icmp .ne 6, 3) := by decide +kernel
theorem dX11_box_29 : decode cX11_box 29 = .ok (.iload_n 2, 1) := by decide +kernel
theorem dX11_box_30 : decode cX11_box 30 = .ok (.ifCond .ge 9, 3) := by decide +kernel
theorem dX11_box_39 : decode cX11_box 39 = .ok (.aload_n 0, 1) := by decide +kernel
theorem dX11_box_40 : decode cX11_box 40 = .ok (.getfield 28, 3) := by decide +kernel
theorem dX11_box_43 : decode cX11_box 43 = .ok (.aload_n 0, 1) := by decide +kernel
theorem dX11_box_44 : decode cX11_box 44 = .ok (.getfield 163, 3) := by decide +kernel
theorem dX11_box_47 : decode cX11_box 47 = .ok (.iload_n 1, 1) := by decide +kernel
theorem dX11_box_48 : decode cX11_box 48 = .ok (.iastore, 1) := by decide +kernel
theorem dX11_box_49 : decode cX11_box 49 = .ok (.aload_n 0, 1) := by decide +kernel
theorem dX11_box_50 : decode cX11_box 50 = .ok (.getfield 31, 3) := by decide +kernel
theorem dX11_box_53 : decode cX11_box 53 = .ok (.aload_n 0, 1) := by decide +kernel
theorem dX11_box_54 : decode cX11_box 54 = .ok (.getfield 163, 3) := by decide +kernel
theorem dX11_box_57 : decode cX11_box 57 = .ok (.iload_n 2, 1) := by decide +kernel
theorem dX11_box_58 : decode cX11_box 58 = .ok (.iastore, 1) := by decide +kernel
theorem dX11_box_59 : decode cX11_box 59 = .ok (.iconst 0, 1) := by decide +kernel
theorem dX11_box_60 : decode cX11_box 60 = .ok (.istore_n 3, 1) := by decide +kernel
theorem dX11_box_61 : decode cX11_box 61 = .ok (.iload_n 3, 1) := by decide +kernel
theorem dX11_box_62 : decode cX11_box 62 = .ok (.bipush 40, 2) := by decide +kernel
theorem dX11_box_64 : decode cX11_box 64 = .ok (.if_icmp .ge 25, 3) := by decide +kernel
theorem dX11_box_89 : decode cX11_box 89 = .ok (.aload_n 0, 1) := by decide +kernel
theorem dX11_box_90 : decode cX11_box 90 = .ok (.dup, 1) := by decide +kernel
theorem dX11_box_91 : decode cX11_box 91 = .ok (.getfield 163, 3) := by decide +kernel
theorem dX11_box_94 : decode cX11_box 94 = .ok (.iconst 1, 1) := by decide +kernel
theorem dX11_box_95 : decode cX11_box 95 = .ok (.iadd, 1) := by decide +kernel
theorem dX11_box_96 : decode cX11_box 96 = .ok (.putfield 163, 3) := by decide +kernel
theorem dX11_box_99 : decode cX11_box 99 = .ok (.aload_n 0, 1) := by decide +kernel
theorem dX11_box_100 : decode cX11_box 100 = .ok (.getfield 163, 3) := by decide +kernel
theorem dX11_box_103 : decode cX11_box 103 = .ok (.iconst 1, 1) := by decide +kernel
theorem dX11_box_104 : decode cX11_box 104 = .ok (.isub, 1) := by decide +kernel
theorem dX11_box_105 : decode cX11_box 105 = .ok (.ireturn, 1) := by decide +kernel
theorem dX11_box_67 : decode cX11_box 67 = .ok (.aload_n 0, 1) := by decide +kernel
theorem dX11_box_68 : decode cX11_box 68 = .ok (.getfield 34, 3) := by decide +kernel
theorem dX11_box_71 : decode cX11_box 71 = .ok (.bipush 40, 2) := by decide +kernel
theorem dX11_box_73 : decode cX11_box 73 = .ok (.aload_n 0, 1) := by decide +kernel
theorem dX11_box_74 : decode cX11_box 74 = .ok (.getfield 163, 3) := by decide +kernel
theorem dX11_box_77 : decode cX11_box 77 = .ok (.imul, 1) := by decide +kernel
theorem dX11_box_78 : decode cX11_box 78 = .ok (.iload_n 3, 1) := by decide +kernel
theorem dX11_box_79 : decode cX11_box 79 = .ok (.iadd, 1) := by decide +kernel
theorem dX11_box_80 : decode cX11_box 80 = .ok (.bipush (-9), 2) := by decide +kernel
theorem dX11_box_82 : decode cX11_box 82 = .ok (.iastore, 1) := by decide +kernel
theorem dX11_box_83 : decode cX11_box 83 = .ok (.iinc 3 1, 3) := by decide +kernel
theorem dX11_box_86 : decode cX11_box 86 = .ok (.goto (-25), 3) := by decide +kernel
theorem dX11_box_33 : decode cX11_box 33 = .ok (.aload_n 0, 1) := by decide +kernel
theorem dX11_box_34 : decode cX11_box 34 = .ok (.iconst 5, 1) := by decide +kernel
theorem dX11_box_35 : decode cX11_box 35 = .ok (.invokevirtual 155, 3) := by decide +kernel
set_option maxRecDepth 20000 in
theorem ggX11_box_X11_meets : GoodIn wsX11_box wsX11_meets := goodIn_r _ [12, 13, 14, 15, 16, 17, 18, 19, 20, 21, 22, 23, 24, 25, 26, 27, 28, 29, 30, 31, 32, 33, 34, 35, 36, 37, 38, 39, 40, 41, 42, 43, 44, 45, 46, 47, 48, 49, 50, 51, 52, 53, 54, 55, 56, 57, 58, 59, 60, 61, 62, 63, 64, 65, 66, 67] (by decide +kernel) (by decide +kernel)
set_option maxRecDepth 20000 in
theorem gX11_box_X11_meets : GoodIn wsX11_box (wsV RX11 155 RX11 yX11_meets wsX11_meets) := goodIn_app (goodIn_of _ (by decide +kernel)) ggX11_box_X11_meets
theorem dX11_box_38 : decode cX11_box 38 = .ok (.ireturn, 1) := by decide +kernel
set_option maxHeartbeats 4000000 in
set_option maxRecDepth 100000 in
theorem p_X11_box (l : Launch) (D : va_G) (ad : Nat → Nat) (cs : Nat → ClassId) (M : MI) (L : ML) (x1 : Int32) (x2 : Int32) (hm : ∀ k, 258 ≤ k → k < 297 → M k = M0 k) : Ci l yX11_box wsX11_box ({ frames := 1, cells := 0, slots := 0, locals := 22 }) D ad cs [.ref (ad 258), .int x1, .int x2] M L (fun r M1 L1 => r = (if 0 ≤ x1 ∧ x1 < 4 ∧ x2 ≤ 40 then (if x2 < 0 then -3 else 0) else -1)) := by
  refine enter_i RX11 rfl [(0, .ref (ad 258)), (1, .int x1), (2, .int x2)] rfl (Nat.le_of_ble_eq_true rfl) (by decide +kernel) rfl ?_
  intro p e s m below meth c C hr
  refine g_iload_n C 1 dX11_box_0 rfl ?_
  refine g_iconst C 0 dX11_box_1 (by decide) ?_
  refine g_iconst C 3 dX11_box_2 (by decide) ?_
  refine g_callSi C (n := 3) (As := [.int x1, .int 0, .int 3]) (st := []) (c_X11_in l D ad cs _ _ x1 0 3) gX11_box_X11_in rfl rfl rfl (by decide +kernel) ⟨Nat.le_of_ble_eq_true rfl, Nat.le_of_ble_eq_true rfl⟩ rfl (Nat.le_of_ble_eq_true rfl) ⟨Nat.zero_le _, Nat.zero_le _⟩ rfl dX11_box_3 (fun r1 M2 L3 hr1 => ?_)
  obtain ⟨hq1, hq2, hr1⟩ := hr1
  obtain rfl := hq1.symm
  obtain rfl := hq2.symm
  refine g_if_eq C 15 dX11_box_6 (by decide) (fun c4 => ?_) (fun c4 => ?_)
  ·
    refine g_iconst C (-1) dX11_box_15 (by decide) ?_
    exact g_iret C hr (by first | rfl | grind) dX11_box_16
  ·
    refine g_iload_n C 2 dX11_box_9 rfl ?_
    refine g_bipush C 40 dX11_box_10 (by decide) ?_
    refine g_icmp_le C 17 dX11_box_12 (by decide) (fun c5 => ?_) (fun c5 => ?_)
    ·
      refine g_aload_n C 0 dX11_box_17 rfl ?_
      refine g_get C (.int (M 258 9)) 9 in_X11_box_11 (List.mem_of_getElem? (i := 1) rfl) (by decide) (ce_model ad cs _ _) rfl (by decide) rfl rfl dX11_box_18 ?_
      refine g_ti 0 (by (rw [hm 258 (by decide) (by decide)]; try rfl)) ?_
      refine g_bipush C 8 dX11_box_21 (by decide) ?_
      refine g_icmp_ne C 29 dX11_box_23 (by decide) (fun _ => ?_) (fun c6 => absurd c6 (by decide))
      refine g_iload_n C 2 dX11_box_29 rfl ?_
      refine g_if_ge C 39 dX11_box_30 (by decide) (fun c7 => ?_) (fun c7 => ?_)
      ·
        refine g_aload_n C 0 dX11_box_39 rfl ?_
        refine g_get C (.ref (ad 265)) 10 in_X11_box_11 (List.mem_of_getElem? (i := 2) rfl) (by decide) (ce_model ad cs _ _) rfl (by decide) rfl rfl dX11_box_40 ?_
        refine g_aload_n C 0 dX11_box_43 rfl ?_
        refine g_get C (.int (M 258 9)) 9 in_X11_box_11 (List.mem_of_getElem? (i := 1) rfl) (by decide) (ce_model ad cs _ _) rfl (by decide) rfl rfl dX11_box_44 ?_
        refine g_ti 0 (by (rw [hm 258 (by decide) (by decide)]; try rfl)) ?_
        refine g_iload_n C 1 dX11_box_47 rfl ?_
        refine g_iast C (by decide) (ce_m_boxSort ad cs _ _) (by rw [sI_k]; rfl) (by unfold vp_in; decide) dX11_box_48 ?_
        refine g_nm (fun M8 hM8 => ?_)
        refine g_aload_n C 0 dX11_box_49 rfl ?_
        refine g_get C (.ref (ad 266)) 11 in_X11_box_11 (List.mem_of_getElem? (i := 3) rfl) (by decide) (ce_model ad cs _ _) rfl (by decide) rfl rfl dX11_box_50 ?_
        refine g_aload_n C 0 dX11_box_53 rfl ?_
        refine g_get C (.int (M8 258 9)) 9 in_X11_box_11 (List.mem_of_getElem? (i := 1) rfl) (by decide) (ce_model ad cs _ _) rfl (by decide) rfl rfl dX11_box_54 ?_
        refine g_ti 0 (by (rw [hM8, sI_at, if_neg (by decide), hm 258 (by decide) (by decide)]; try rfl)) ?_
        refine g_iload_n C 2 dX11_box_57 rfl ?_
        refine g_iast C (by decide) (ce_m_boxSize ad cs _ _) (by rw [sI_k]; rfl) (by unfold vp_in; decide) dX11_box_58 ?_
        refine g_nm (fun M9 hM9 => ?_)
        refine g_iconst C 0 dX11_box_59 (by decide) ?_
        refine g_istore_n C [(3, .int 0), (0, .ref (ad 258)), (1, .int x1), (2, .int x2)] dX11_box_60 (by decide) rfl ?_
        have hI0 : M9 258 9 = 0 := by (rw [hM9, sI_at, if_neg (by decide), hM8, sI_at, if_neg (by decide), hm 258 (by decide) (by decide)]; try rfl)
        have hI1 : ∀ k, 1000 ≤ k → M9 k = M k := fun k hk => by rw [hM9, sI_n _ _ _ (by omega), hM8, sI_n _ _ _ (by omega)]
        refine g_loop (α := Int32 × MI) (fun a => (41 - a.1.toInt).toNat) (fun a => 0 ≤ a.1.toInt ∧ a.1.toInt ≤ 40 ∧ a.2 258 9 = 0 ∧ ∀ k, 1000 ≤ k → a.2 k = M k) (fun a => a.2) (fun _ => L) (fun a => [(3, .int a.1), (0, .ref (ad 258)), (1, .int x1), (2, .int x2)]) (0, M9) ⟨by show 0 ≤ (0 : Int32).toInt; decide, by show (0 : Int32).toInt ≤ 40; decide, hI0, hI1⟩ rfl rfl rfl ?_
        rintro ⟨x, Mx⟩ ⟨h0, h1, hI⟩ ih
        dsimp only at h0 h1 hI ih ⊢
        refine g_iload_n C 0 dX11_box_61 rfl ?_
        refine g_bipush C 40 dX11_box_62 (by decide) ?_
        refine g_icmp_ge C 89 dX11_box_64 (by decide) (fun c10 => ?_) (fun c10 => ?_)
        ·
          refine g_aload_n C 1 dX11_box_89 rfl ?_
          refine g_dup C dX11_box_90 rfl ?_
          refine g_get C (.int (Mx 258 9)) 9 in_X11_box_11 (List.mem_of_getElem? (i := 1) rfl) (by decide) (ce_model ad cs _ _) rfl (by decide) rfl rfl dX11_box_91 ?_
          refine g_ti 0 (by (rw [hI.1]; try rfl)) ?_
          refine g_iconst C 1 dX11_box_94 (by decide) ?_
          refine g_iadd C dX11_box_95 ?_
          refine g_ti 1 (by decide) ?_
          refine g_putI C 9 in_X11_box_11 (List.mem_of_getElem? (i := 1) rfl) (by decide) (ce_model ad cs _ _) rfl (by decide) rfl tyX11 tyX11_ok nmX11 rfl rfl rfl rfl (Nat.le_of_ble_eq_true rfl) (by rw [sI_k]; rfl) dX11_box_96 ?_
          refine g_nm (fun M11 hM11 => ?_)
          refine g_aload_n C 1 dX11_box_99 rfl ?_
          refine g_get C (.int (M11 258 9)) 9 in_X11_box_11 (List.mem_of_getElem? (i := 1) rfl) (by decide) (ce_model ad cs _ _) rfl (by decide) rfl rfl dX11_box_100 ?_
          refine g_ti 1 (by (rw [hM11, sI_at, if_pos (by decide)]; try rfl)) ?_
          refine g_iconst C 1 dX11_box_103 (by decide) ?_
          refine g_isub C dX11_box_104 ?_
          refine g_ti 0 (by decide) ?_
          exact g_iret C hr (by first | rfl | grind) dX11_box_105
        ·
          have jx : x.toInt < 40 := by have h := c10; rw [Int32.le_iff_toInt_le, show (40 : Int32).toInt = 40 by decide] at h; omega
          refine g_aload_n C 1 dX11_box_67 rfl ?_
          refine g_get C (.ref (ad 267)) 12 in_X11_box_11 (List.mem_of_getElem? (i := 4) rfl) (by decide) (ce_model ad cs _ _) rfl (by decide) rfl rfl dX11_box_68 ?_
          refine g_bipush C 40 dX11_box_71 (by decide) ?_
          refine g_aload_n C 1 dX11_box_73 rfl ?_
          refine g_get C (.int (Mx 258 9)) 9 in_X11_box_11 (List.mem_of_getElem? (i := 1) rfl) (by decide) (ce_model ad cs _ _) rfl (by decide) rfl rfl dX11_box_74 ?_
          refine g_ti 0 (by (rw [hI.1]; try rfl)) ?_
          refine g_imul C dX11_box_77 ?_
          refine g_ti 0 (by decide) ?_
          refine g_iload_n C 0 dX11_box_78 rfl ?_
          refine g_iadd C dX11_box_79 ?_
          refine g_ni (fun v12 ev12 => ?_)
          have h_in_v12 : vp_in v12 320 := by rw [ev12, Int32.zero_add]; exact vp_in_iff.mpr ⟨h0, by omega⟩
          refine g_bipush C (-9) dX11_box_80 (by decide) ?_
          refine g_iast C (by decide) (ce_m_boxed ad cs _ _) (by rw [sI_k]; rfl) (h_in_v12) dX11_box_82 ?_
          refine g_nm (fun M13 hM13 => ?_)
          obtain ⟨v14, ev14⟩ : ∃ y : Int32, y = x + 1 := ⟨_, rfl⟩
          refine g_iinc C 0 v14 [(3, .int v14), (0, .ref (ad 258)), (1, .int x1), (2, .int x2)] dX11_box_83 rfl (by rw [ev14]; rfl) (by decide) rfl ?_
          refine g_goto C 61 dX11_box_86 (by decide) ?_
          have j0 : v14.toInt = x.toInt + 1 := by rw [ev14, i_succ (by omega)]
          have j1 : M13 258 9 = 0 := by rw [hM13, sI_n _ _ _ (by decide)]; exact hI.1
          have j2 : ∀ k, 1000 ≤ k → M13 k = M k := fun k hk => by rw [hM13, sI_n _ _ _ (by omega)]; exact hI.2 k hk
          have j3 : x.toInt < 40 := jx
          exact ih (v14, M13) ⟨by show 0 ≤ v14.toInt; omega, by show v14.toInt ≤ 40; omega, j1, j2⟩ (by show (41 - v14.toInt).toNat < (41 - x.toInt).toNat; omega)
      ·
        refine g_aload_n C 0 dX11_box_33 rfl ?_
        refine g_iconst C 5 dX11_box_34 (by decide) ?_
        refine g_callVi C (n := 1) (As := [.int 5]) (st := []) (c_X11_meets0 l D ad cs _ _ 5 (by unfold vp_in; decide)) gX11_box_X11_meets rfl rfl rfl (by decide +kernel) ⟨Nat.le_of_ble_eq_true rfl, Nat.le_of_ble_eq_true rfl⟩ rfl (Nat.le_of_ble_eq_true rfl) ⟨Nat.zero_le _, Nat.zero_le _⟩ (by decide) (ce_model ad cs _ _) rfl rfl dX11_box_35 (fun r15 M16 L17 hr15 => ?_)
        exact g_iret C hr (by have e7 := hr15; grind) dX11_box_38
    ·
      refine g_iconst C (-1) dX11_box_15 (by decide) ?_
      exact g_iret C hr (by first | rfl | grind) dX11_box_16
