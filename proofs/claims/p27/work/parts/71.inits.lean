theorem dX2_init_0 : decode cX2_init 0 = .ok (.aload_n 0, 1) := dw42 (n := 0) (i := 0) kc_cX2_init_0 (by decide +kernel)
theorem dX2_init_1 : decode cX2_init 1 = .ok (.invokespecial 3, 3) := dw183 (n := 0) (i := 1) (a := 0) (b := 3) kc_cX2_init_0 (by decide +kernel) (by decide)
theorem dX2_init_4 : decode cX2_init 4 = .ok (.aload_n 0, 1) := dw42 (n := 0) (i := 4) kc_cX2_init_0 (by decide +kernel)
theorem dX2_init_5 : decode cX2_init 5 = .ok (.iconst 0, 1) := dw3 (n := 0) (i := 5) kc_cX2_init_0 (by decide +kernel)
theorem dX2_init_6 : decode cX2_init 6 = .ok (.putfield 9, 3) := dw181 (n := 0) (i := 6) (a := 0) (b := 9) kc_cX2_init_0 (by decide +kernel) (by decide)
theorem in_X2_init_2 : ∀ w ∈ u_ws RX2 TX2 2, w ∈ wsX2_init := fun _ h => List.mem_cons_of_mem _ (List.mem_append_right _ h)
theorem dX2_init_9 : decode cX2_init 9 = .ok (.aload_n 0, 1) := dw42 (n := 0) (i := 9) kc_cX2_init_0 (by decide +kernel)
theorem dX2_init_10 : decode cX2_init 10 = .ok (.bipush 10, 2) := dw16 (n := 0) (i := 10) (a := 10) kc_cX2_init_0 (by decide +kernel) (by decide)
theorem dX2_init_12 : decode cX2_init 12 = .ok (.newarray .int, 2) := by decide +kernel
theorem dX2_init_14 : decode cX2_init 14 = .ok (.putfield 15, 3) := dw181 (n := 0) (i := 14) (a := 0) (b := 15) kc_cX2_init_0 (by decide +kernel) (by decide)
theorem dX2_init_17 : decode cX2_init 17 = .ok (.return_, 1) := dw177 (n := 0) (i := 17) kc_cX2_init_0 (by decide +kernel)
def w_cand (cs : Nat → ClassId) (a r r2 : Nat → Nat) (x y : Nat) : va_W := [(a 0, .inr (2, [.int 0, .ref (a 1)])), (a 1, .inl (cs 0, 10, .inl (fun _ => 0)))]
set_option maxHeartbeats 4000000 in
set_option maxRecDepth 100000 in
theorem k_X2 (l : Launch) (D : va_G) (cs : Nat → ClassId) (h : Nat) (sz : Nat) : Kc l yX2_init wsX2_init ({ frames := 1, cells := 1, slots := 10, locals := 12 }) D cs h [] (.inr (2, [.int 0, .null])) sz 1 10 (fun u => ∃ (a r r2 : Nat → Nat), a 0 = h ∧ u = w_cand cs a r r2 0 0) := by
  refine enterI RX2 rfl rfl [(0, .ref h)] rfl (Nat.le_of_ble_eq_true rfl) (by decide +kernel) rfl ?_
  intro p e s m below meth c C hr hini
  refine i_aload_n C 0 dX2_init_0 rfl ?_
  refine i_objInit C (List.mem_of_getElem? (i := 1) rfl) (List.mem_of_getElem? (i := 2) rfl) (List.mem_of_getElem? (i := 3) rfl) dX2_init_1 (Nat.le_of_ble_eq_true rfl) (Nat.le_of_ble_eq_true rfl) ?_
  refine i_aload_n C 0 dX2_init_4 rfl ?_
  refine i_iconst C 0 dX2_init_5 (by decide) ?_
  refine i_put C 0 in_X2_init_2 (List.mem_of_getElem? (i := 4) rfl) rfl (by decide) rfl tyX2 tyX2_ok nmX2 rfl rfl rfl rfl (Nat.le_of_ble_eq_true rfl) dX2_init_6 ?_
  refine i_fs [.int 0, .null] rfl ?_
  refine i_aload_n C 0 dX2_init_9 rfl ?_
  refine i_bipush C 10 dX2_init_10 (by decide) ?_
  refine i_newa C (atype := .int) (ty := .int) (N9 := 10) (t := 0) (a0 := (10, .inl (fun _ => 0))) (List.mem_of_getElem? (i := 5) rfl) rfl rfl (fun _ => rfl) (fun _ => rfl) (by decide) (by decide) (Nat.le_of_ble_eq_true rfl) (Nat.le_of_ble_eq_true rfl) (Nat.le_of_ble_eq_true rfl) dX2_init_12 (fun q1 => ?_)
  refine i_widen 1 10 (Nat.le_of_ble_eq_true rfl) (Nat.le_of_ble_eq_true rfl) ?_
  refine i_putF C 1 in_X2_init_2 (List.mem_of_getElem? (i := 6) rfl) rfl (by decide) rfl tyX2 tyX2_ok nmX2 rfl rfl hini rfl rfl rfl (Nat.le_of_ble_eq_true rfl) dX2_init_14 ?_
  refine i_fs [.int 0, .ref q1] rfl ?_
  refine i_widen 1 10 (Nat.le_of_ble_eq_true rfl) (Nat.le_of_ble_eq_true rfl) ?_
  exact i_vret C hr ⟨fun j => ([h, q1] : List Nat).getD j 0, fun _ => 0, fun _ => 0, rfl, rfl⟩ dX2_init_17
theorem dX0_init_0 : decode cX0_init 0 = .ok (.aload_n 0, 1) := dw42 (n := 0) (i := 0) kc_cX0_init_0 (by decide +kernel)
theorem dX0_init_1 : decode cX0_init 1 = .ok (.invokespecial 3, 3) := dw183 (n := 0) (i := 1) (a := 0) (b := 3) kc_cX0_init_0 (by decide +kernel) (by decide)
theorem dX0_init_4 : decode cX0_init 4 = .ok (.aload_n 0, 1) := dw42 (n := 0) (i := 4) kc_cX0_init_0 (by decide +kernel)
theorem dX0_init_5 : decode cX0_init 5 = .ok (.iconst 0, 1) := dw3 (n := 0) (i := 5) kc_cX0_init_0 (by decide +kernel)
theorem dX0_init_6 : decode cX0_init 6 = .ok (.putfield 9, 3) := dw181 (n := 0) (i := 6) (a := 0) (b := 9) kc_cX0_init_0 (by decide +kernel) (by decide)
theorem in_X0_init_0 : ∀ w ∈ u_ws RX0 TX0 5, w ∈ wsX0_init := fun _ h => List.mem_cons_of_mem _ (List.mem_append_right _ h)
theorem dX0_init_9 : decode cX0_init 9 = .ok (.aload_n 0, 1) := dw42 (n := 0) (i := 9) kc_cX0_init_0 (by decide +kernel)
theorem dX0_init_10 : decode cX0_init 10 = .ok (.bipush 60, 2) := dw16 (n := 0) (i := 10) (a := 60) kc_cX0_init_0 (by decide +kernel) (by decide)
theorem dX0_init_12 : decode cX0_init 12 = .ok (.newarray .int, 2) := by decide +kernel
theorem dX0_init_14 : decode cX0_init 14 = .ok (.putfield 15, 3) := dw181 (n := 0) (i := 14) (a := 0) (b := 15) kc_cX0_init_0 (by decide +kernel) (by decide)
theorem dX0_init_17 : decode cX0_init 17 = .ok (.aload_n 0, 1) := dw42 (n := 0) (i := 17) kc_cX0_init_0 (by decide +kernel)
theorem dX0_init_18 : decode cX0_init 18 = .ok (.bipush 60, 2) := dw16 (n := 0) (i := 18) (a := 60) kc_cX0_init_0 (by decide +kernel) (by decide)
theorem dX0_init_20 : decode cX0_init 20 = .ok (.newarray .int, 2) := by decide +kernel
theorem dX0_init_22 : decode cX0_init 22 = .ok (.putfield 19, 3) := dw181 (n := 0) (i := 22) (a := 0) (b := 19) kc_cX0_init_0 (by decide +kernel) (by decide)
theorem dX0_init_25 : decode cX0_init 25 = .ok (.aload_n 0, 1) := dw42 (n := 0) (i := 25) kc_cX0_init_0 (by decide +kernel)
theorem dX0_init_26 : decode cX0_init 26 = .ok (.bipush 60, 2) := dw16 (n := 0) (i := 26) (a := 60) kc_cX0_init_0 (by decide +kernel) (by decide)
theorem dX0_init_28 : decode cX0_init 28 = .ok (.newarray .int, 2) := by decide +kernel
theorem dX0_init_30 : decode cX0_init 30 = .ok (.putfield 22, 3) := dw181 (n := 0) (i := 30) (a := 0) (b := 22) kc_cX0_init_0 (by decide +kernel) (by decide)
theorem dX0_init_33 : decode cX0_init 33 = .ok (.aload_n 0, 1) := dw42 (n := 32) (i := 1) kc_cX0_init_1 (by decide +kernel)
theorem dX0_init_34 : decode cX0_init 34 = .ok (.bipush 60, 2) := dw16 (n := 32) (i := 2) (a := 60) kc_cX0_init_1 (by decide +kernel) (by decide)
theorem dX0_init_36 : decode cX0_init 36 = .ok (.bipush 10, 2) := dw16 (n := 32) (i := 4) (a := 10) kc_cX0_init_1 (by decide +kernel) (by decide)
theorem dX0_init_38 : decode cX0_init 38 = .ok (.multianewarray 25 2, 4) := by decide +kernel
theorem dX0_init_42 : decode cX0_init 42 = .ok (.putfield 27, 3) := dw181 (n := 32) (i := 10) (a := 0) (b := 27) kc_cX0_init_1 (by decide +kernel) (by decide)
theorem dX0_init_45 : decode cX0_init 45 = .ok (.return_, 1) := dw177 (n := 32) (i := 13) kc_cX0_init_1 (by decide +kernel)
def w_ball (cs : Nat → ClassId) (a r r2 : Nat → Nat) (x y : Nat) : va_W := [(a 0, .inr (0, [.int 0, .ref (a 1), .ref (a 2), .ref (a 3), .ref (a 4)])), (a 1, .inl (cs 0, 60, .inl (fun _ => 0))), (a 2, .inl (cs 0, 60, .inl (fun _ => 0))), (a 3, .inl (cs 0, 60, .inl (fun _ => 0))), (a 4, .inl (cs 3, 60, .inr (.inr (.inr (.inr (fun i => if i < 60 then some (r i) else none))))))] ++ (List.range 60).map (fun i => (r i, .inl (cs 0, 10, .inl (fun _ => 0))))
set_option maxHeartbeats 4000000 in
set_option maxRecDepth 100000 in
theorem k_X0 (l : Launch) (D : va_G) (cs : Nat → ClassId) (h : Nat) (sz : Nat) : Kc l yX0_init wsX0_init ({ frames := 1, cells := 64, slots := 840, locals := 12 }) D cs h [] (.inr (0, [.int 0, .null, .null, .null, .null])) sz 64 840 (fun u => ∃ (a r r2 : Nat → Nat), a 0 = h ∧ u = w_ball cs a r r2 0 0) := by
  refine enterI RX0 rfl rfl [(0, .ref h)] rfl (Nat.le_of_ble_eq_true rfl) (by decide +kernel) rfl ?_
  intro p e s m below meth c C hr hini
  refine i_aload_n C 0 dX0_init_0 rfl ?_
  refine i_objInit C (List.mem_of_getElem? (i := 1) rfl) (List.mem_of_getElem? (i := 2) rfl) (List.mem_of_getElem? (i := 3) rfl) dX0_init_1 (Nat.le_of_ble_eq_true rfl) (Nat.le_of_ble_eq_true rfl) ?_
  refine i_aload_n C 0 dX0_init_4 rfl ?_
  refine i_iconst C 0 dX0_init_5 (by decide) ?_
  refine i_put C 0 in_X0_init_0 (List.mem_of_getElem? (i := 4) rfl) rfl (by decide) rfl tyX0 tyX0_ok nmX0 rfl rfl rfl rfl (Nat.le_of_ble_eq_true rfl) dX0_init_6 ?_
  refine i_fs [.int 0, .null, .null, .null, .null] rfl ?_
  refine i_aload_n C 0 dX0_init_9 rfl ?_
  refine i_bipush C 60 dX0_init_10 (by decide) ?_
  refine i_newa C (atype := .int) (ty := .int) (N9 := 60) (t := 0) (a0 := (60, .inl (fun _ => 0))) (List.mem_of_getElem? (i := 5) rfl) rfl rfl (fun _ => rfl) (fun _ => rfl) (by decide) (by decide) (Nat.le_of_ble_eq_true rfl) (Nat.le_of_ble_eq_true rfl) (Nat.le_of_ble_eq_true rfl) dX0_init_12 (fun q1 => ?_)
  refine i_widen 1 60 (Nat.le_of_ble_eq_true rfl) (Nat.le_of_ble_eq_true rfl) ?_
  refine i_putF C 1 in_X0_init_0 (List.mem_of_getElem? (i := 6) rfl) rfl (by decide) rfl tyX0 tyX0_ok nmX0 rfl rfl hini rfl rfl rfl (Nat.le_of_ble_eq_true rfl) dX0_init_14 ?_
  refine i_fs [.int 0, .ref q1, .null, .null, .null] rfl ?_
  refine i_aload_n C 0 dX0_init_17 rfl ?_
  refine i_bipush C 60 dX0_init_18 (by decide) ?_
  refine i_newa C (atype := .int) (ty := .int) (N9 := 60) (t := 0) (a0 := (60, .inl (fun _ => 0))) (List.mem_of_getElem? (i := 5) rfl) rfl rfl (fun _ => rfl) (fun _ => rfl) (by decide) (by decide) (Nat.le_of_ble_eq_true rfl) (Nat.le_of_ble_eq_true rfl) (Nat.le_of_ble_eq_true rfl) dX0_init_20 (fun q2 => ?_)
  refine i_widen 2 120 (Nat.le_of_ble_eq_true rfl) (Nat.le_of_ble_eq_true rfl) ?_
  refine i_putF C 2 in_X0_init_0 (List.mem_of_getElem? (i := 7) rfl) rfl (by decide) rfl tyX0 tyX0_ok nmX0 rfl rfl hini rfl rfl rfl (Nat.le_of_ble_eq_true rfl) dX0_init_22 ?_
  refine i_fs [.int 0, .ref q1, .ref q2, .null, .null] rfl ?_
  refine i_aload_n C 0 dX0_init_25 rfl ?_
  refine i_bipush C 60 dX0_init_26 (by decide) ?_
  refine i_newa C (atype := .int) (ty := .int) (N9 := 60) (t := 0) (a0 := (60, .inl (fun _ => 0))) (List.mem_of_getElem? (i := 5) rfl) rfl rfl (fun _ => rfl) (fun _ => rfl) (by decide) (by decide) (Nat.le_of_ble_eq_true rfl) (Nat.le_of_ble_eq_true rfl) (Nat.le_of_ble_eq_true rfl) dX0_init_28 (fun q3 => ?_)
  refine i_widen 3 180 (Nat.le_of_ble_eq_true rfl) (Nat.le_of_ble_eq_true rfl) ?_
  refine i_putF C 3 in_X0_init_0 (List.mem_of_getElem? (i := 8) rfl) rfl (by decide) rfl tyX0 tyX0_ok nmX0 rfl rfl hini rfl rfl rfl (Nat.le_of_ble_eq_true rfl) dX0_init_30 ?_
  refine i_fs [.int 0, .ref q1, .ref q2, .ref q3, .null] rfl ?_
  refine i_aload_n C 0 dX0_init_33 rfl ?_
  refine i_bipush C 60 dX0_init_34 (by decide) ?_
  refine i_bipush C 10 dX0_init_36 (by decide) ?_
  refine i_pool (fun _ => .inl (cs 0, 0, .inl (fun _ => 0))) ?_
  refine i_mna C (N9 := 60) (K9 := 10) (ty := .int) (t := 0) (t1 := 3) (z := (10, .inl (fun _ => 0))) (by rw [show ("[" ++ (FieldType.array .int).toString) = "[[I" by decide +kernel]; exact List.mem_of_getElem? (i := 9) rfl) C.2.2.2.2.2.2.2.1.1.1 (List.mem_of_getElem? (i := 5) rfl) (C.2.2.2.2.2.2.1.2 0 _ rfl).2 rfl (fun _ => rfl) (by decide) (by decide) (by decide) (by decide) (Nat.le_of_ble_eq_true rfl) (Nat.le_of_ble_eq_true rfl) (Nat.le_of_ble_eq_true rfl) rfl rfl (Nat.le_of_ble_eq_true rfl) (Nat.le_of_ble_eq_true rfl) (fun c9 => arrV_new c9 _ _) dX0_init_38 (fun q4 r1 hn1 => ?_)
  refine i_widen 64 840 (Nat.le_of_ble_eq_true rfl) (Nat.le_of_ble_eq_true rfl) ?_
  refine i_putF C 4 in_X0_init_0 (List.mem_of_getElem? (i := 10) rfl) rfl (by decide) rfl tyX0 tyX0_ok nmX0 rfl rfl hini rfl rfl rfl (Nat.le_of_ble_eq_true rfl) dX0_init_42 ?_
  refine i_fs [.int 0, .ref q1, .ref q2, .ref q3, .ref q4] rfl ?_
  refine i_widen 64 840 (Nat.le_of_ble_eq_true rfl) (Nat.le_of_ble_eq_true rfl) ?_
  exact i_vret C hr ⟨fun j => ([h, q1, q2, q3, q4] : List Nat).getD j 0, r1, fun _ => 0, rfl, by rw [pool1]; rfl⟩ dX0_init_45
theorem dX1_init_0 : decode cX1_init 0 = .ok (.aload_n 0, 1) := dw42 (n := 0) (i := 0) kc_cX1_init_0 (by decide +kernel)
theorem dX1_init_1 : decode cX1_init 1 = .ok (.invokespecial 3, 3) := dw183 (n := 0) (i := 1) (a := 0) (b := 3) kc_cX1_init_0 (by decide +kernel) (by decide)
theorem dX1_init_4 : decode cX1_init 4 = .ok (.aload_n 0, 1) := dw42 (n := 0) (i := 4) kc_cX1_init_0 (by decide +kernel)
theorem dX1_init_5 : decode cX1_init 5 = .ok (.iconst 0, 1) := dw3 (n := 0) (i := 5) kc_cX1_init_0 (by decide +kernel)
theorem dX1_init_6 : decode cX1_init 6 = .ok (.putfield 9, 3) := dw181 (n := 0) (i := 6) (a := 0) (b := 9) kc_cX1_init_0 (by decide +kernel) (by decide)
theorem in_X1_init_1 : ∀ w ∈ u_ws RX1 TX1 5, w ∈ wsX1_init := fun _ h => List.mem_cons_of_mem _ (List.mem_append_right _ h)
theorem dX1_init_9 : decode cX1_init 9 = .ok (.aload_n 0, 1) := dw42 (n := 0) (i := 9) kc_cX1_init_0 (by decide +kernel)
theorem dX1_init_10 : decode cX1_init 10 = .ok (.bipush 8, 2) := dw16 (n := 0) (i := 10) (a := 8) kc_cX1_init_0 (by decide +kernel) (by decide)
theorem dX1_init_12 : decode cX1_init 12 = .ok (.newarray .int, 2) := by decide +kernel
theorem dX1_init_14 : decode cX1_init 14 = .ok (.putfield 15, 3) := dw181 (n := 0) (i := 14) (a := 0) (b := 15) kc_cX1_init_0 (by decide +kernel) (by decide)
theorem dX1_init_17 : decode cX1_init 17 = .ok (.aload_n 0, 1) := dw42 (n := 0) (i := 17) kc_cX1_init_0 (by decide +kernel)
theorem dX1_init_18 : decode cX1_init 18 = .ok (.bipush 8, 2) := dw16 (n := 0) (i := 18) (a := 8) kc_cX1_init_0 (by decide +kernel) (by decide)
theorem dX1_init_20 : decode cX1_init 20 = .ok (.newarray .int, 2) := by decide +kernel
theorem dX1_init_22 : decode cX1_init 22 = .ok (.putfield 19, 3) := dw181 (n := 0) (i := 22) (a := 0) (b := 19) kc_cX1_init_0 (by decide +kernel) (by decide)
theorem dX1_init_25 : decode cX1_init 25 = .ok (.aload_n 0, 1) := dw42 (n := 0) (i := 25) kc_cX1_init_0 (by decide +kernel)
theorem dX1_init_26 : decode cX1_init 26 = .ok (.bipush 8, 2) := dw16 (n := 0) (i := 26) (a := 8) kc_cX1_init_0 (by decide +kernel) (by decide)
theorem dX1_init_28 : decode cX1_init 28 = .ok (.bipush 40, 2) := dw16 (n := 0) (i := 28) (a := 40) kc_cX1_init_0 (by decide +kernel) (by decide)
theorem dX1_init_30 : decode cX1_init 30 = .ok (.multianewarray 22 2, 4) := by decide +kernel
theorem dX1_init_34 : decode cX1_init 34 = .ok (.putfield 24, 3) := dw181 (n := 32) (i := 2) (a := 0) (b := 24) kc_cX1_init_1 (by decide +kernel) (by decide)
theorem dX1_init_37 : decode cX1_init 37 = .ok (.aload_n 0, 1) := dw42 (n := 32) (i := 5) kc_cX1_init_1 (by decide +kernel)
theorem dX1_init_38 : decode cX1_init 38 = .ok (.bipush 40, 2) := dw16 (n := 32) (i := 6) (a := 40) kc_cX1_init_1 (by decide +kernel) (by decide)
theorem dX1_init_40 : decode cX1_init 40 = .ok (.newarray .int, 2) := by decide +kernel
theorem dX1_init_42 : decode cX1_init 42 = .ok (.putfield 27, 3) := dw181 (n := 32) (i := 10) (a := 0) (b := 27) kc_cX1_init_1 (by decide +kernel) (by decide)
theorem dX1_init_45 : decode cX1_init 45 = .ok (.return_, 1) := dw177 (n := 32) (i := 13) kc_cX1_init_1 (by decide +kernel)
def w_box (cs : Nat → ClassId) (a r r2 : Nat → Nat) (x y : Nat) : va_W := [(a 0, .inr (1, [.int 0, .ref (a 1), .ref (a 2), .ref (a 3), .ref (a 4)])), (a 1, .inl (cs 0, 8, .inl (fun _ => 0))), (a 2, .inl (cs 0, 8, .inl (fun _ => 0))), (a 3, .inl (cs 3, 8, .inr (.inr (.inr (.inr (fun i => if i < 8 then some (r i) else none)))))), (a 4, .inl (cs 0, 40, .inl (fun _ => 0)))] ++ (List.range 8).map (fun i => (r i, .inl (cs 0, 40, .inl (fun _ => 0))))
set_option maxHeartbeats 4000000 in
set_option maxRecDepth 100000 in
theorem k_X1 (l : Launch) (D : va_G) (cs : Nat → ClassId) (h : Nat) (sz : Nat) : Kc l yX1_init wsX1_init ({ frames := 1, cells := 12, slots := 384, locals := 12 }) D cs h [] (.inr (1, [.int 0, .null, .null, .null, .null])) sz 12 384 (fun u => ∃ (a r r2 : Nat → Nat), a 0 = h ∧ u = w_box cs a r r2 0 0) := by
  refine enterI RX1 rfl rfl [(0, .ref h)] rfl (Nat.le_of_ble_eq_true rfl) (by decide +kernel) rfl ?_
  intro p e s m below meth c C hr hini
  refine i_aload_n C 0 dX1_init_0 rfl ?_
  refine i_objInit C (List.mem_of_getElem? (i := 1) rfl) (List.mem_of_getElem? (i := 2) rfl) (List.mem_of_getElem? (i := 3) rfl) dX1_init_1 (Nat.le_of_ble_eq_true rfl) (Nat.le_of_ble_eq_true rfl) ?_
  refine i_aload_n C 0 dX1_init_4 rfl ?_
  refine i_iconst C 0 dX1_init_5 (by decide) ?_
  refine i_put C 0 in_X1_init_1 (List.mem_of_getElem? (i := 4) rfl) rfl (by decide) rfl tyX1 tyX1_ok nmX1 rfl rfl rfl rfl (Nat.le_of_ble_eq_true rfl) dX1_init_6 ?_
  refine i_fs [.int 0, .null, .null, .null, .null] rfl ?_
  refine i_aload_n C 0 dX1_init_9 rfl ?_
  refine i_bipush C 8 dX1_init_10 (by decide) ?_
  refine i_newa C (atype := .int) (ty := .int) (N9 := 8) (t := 0) (a0 := (8, .inl (fun _ => 0))) (List.mem_of_getElem? (i := 5) rfl) rfl rfl (fun _ => rfl) (fun _ => rfl) (by decide) (by decide) (Nat.le_of_ble_eq_true rfl) (Nat.le_of_ble_eq_true rfl) (Nat.le_of_ble_eq_true rfl) dX1_init_12 (fun q1 => ?_)
  refine i_widen 1 8 (Nat.le_of_ble_eq_true rfl) (Nat.le_of_ble_eq_true rfl) ?_
  refine i_putF C 1 in_X1_init_1 (List.mem_of_getElem? (i := 6) rfl) rfl (by decide) rfl tyX1 tyX1_ok nmX1 rfl rfl hini rfl rfl rfl (Nat.le_of_ble_eq_true rfl) dX1_init_14 ?_
  refine i_fs [.int 0, .ref q1, .null, .null, .null] rfl ?_
  refine i_aload_n C 0 dX1_init_17 rfl ?_
  refine i_bipush C 8 dX1_init_18 (by decide) ?_
  refine i_newa C (atype := .int) (ty := .int) (N9 := 8) (t := 0) (a0 := (8, .inl (fun _ => 0))) (List.mem_of_getElem? (i := 5) rfl) rfl rfl (fun _ => rfl) (fun _ => rfl) (by decide) (by decide) (Nat.le_of_ble_eq_true rfl) (Nat.le_of_ble_eq_true rfl) (Nat.le_of_ble_eq_true rfl) dX1_init_20 (fun q2 => ?_)
  refine i_widen 2 16 (Nat.le_of_ble_eq_true rfl) (Nat.le_of_ble_eq_true rfl) ?_
  refine i_putF C 2 in_X1_init_1 (List.mem_of_getElem? (i := 7) rfl) rfl (by decide) rfl tyX1 tyX1_ok nmX1 rfl rfl hini rfl rfl rfl (Nat.le_of_ble_eq_true rfl) dX1_init_22 ?_
  refine i_fs [.int 0, .ref q1, .ref q2, .null, .null] rfl ?_
  refine i_aload_n C 0 dX1_init_25 rfl ?_
  refine i_bipush C 8 dX1_init_26 (by decide) ?_
  refine i_bipush C 40 dX1_init_28 (by decide) ?_
  refine i_pool (fun _ => .inl (cs 0, 0, .inl (fun _ => 0))) ?_
  refine i_mna C (N9 := 8) (K9 := 40) (ty := .int) (t := 0) (t1 := 3) (z := (40, .inl (fun _ => 0))) (by rw [show ("[" ++ (FieldType.array .int).toString) = "[[I" by decide +kernel]; exact List.mem_of_getElem? (i := 8) rfl) C.2.2.2.2.2.2.2.1.1.1 (List.mem_of_getElem? (i := 5) rfl) (C.2.2.2.2.2.2.1.2 0 _ rfl).2 rfl (fun _ => rfl) (by decide) (by decide) (by decide) (by decide) (Nat.le_of_ble_eq_true rfl) (Nat.le_of_ble_eq_true rfl) (Nat.le_of_ble_eq_true rfl) rfl rfl (Nat.le_of_ble_eq_true rfl) (Nat.le_of_ble_eq_true rfl) (fun c9 => arrV_new c9 _ _) dX1_init_30 (fun q3 r1 hn1 => ?_)
  refine i_widen 11 344 (Nat.le_of_ble_eq_true rfl) (Nat.le_of_ble_eq_true rfl) ?_
  refine i_putF C 3 in_X1_init_1 (List.mem_of_getElem? (i := 9) rfl) rfl (by decide) rfl tyX1 tyX1_ok nmX1 rfl rfl hini rfl rfl rfl (Nat.le_of_ble_eq_true rfl) dX1_init_34 ?_
  refine i_fs [.int 0, .ref q1, .ref q2, .ref q3, .null] rfl ?_
  refine i_aload_n C 0 dX1_init_37 rfl ?_
  refine i_bipush C 40 dX1_init_38 (by decide) ?_
  refine i_newaP C (atype := .int) (ty := .int) (N9 := 40) (t := 0) (a0 := (40, .inl (fun _ => 0))) (List.mem_of_getElem? (i := 5) rfl) rfl rfl (fun _ => rfl) (fun _ => rfl) (by decide) (by decide) (Nat.le_of_ble_eq_true rfl) (Nat.le_of_ble_eq_true rfl) (Nat.le_of_ble_eq_true rfl) dX1_init_40 (fun q4 => ?_)
  refine i_widen 12 384 (Nat.le_of_ble_eq_true rfl) (Nat.le_of_ble_eq_true rfl) ?_
  refine i_putF C 4 in_X1_init_1 (List.mem_of_getElem? (i := 10) rfl) rfl (by decide) rfl tyX1 tyX1_ok nmX1 rfl rfl hini rfl rfl rfl (Nat.le_of_ble_eq_true rfl) dX1_init_42 ?_
  refine i_fs [.int 0, .ref q1, .ref q2, .ref q3, .ref q4] rfl ?_
  refine i_widen 12 384 (Nat.le_of_ble_eq_true rfl) (Nat.le_of_ble_eq_true rfl) ?_
  exact i_vret C hr ⟨fun j => ([h, q1, q2, q3, q4] : List Nat).getD j 0, r1, fun _ => 0, rfl, by rw [pool1]; rfl⟩ dX1_init_45
theorem dX4_init_0 : decode cX4_init 0 = .ok (.aload_n 0, 1) := dw42 (n := 0) (i := 0) kc_cX4_init_0 (by decide +kernel)
theorem dX4_init_1 : decode cX4_init 1 = .ok (.invokespecial 3, 3) := dw183 (n := 0) (i := 1) (a := 0) (b := 3) kc_cX4_init_0 (by decide +kernel) (by decide)
theorem dX4_init_4 : decode cX4_init 4 = .ok (.aload_n 0, 1) := dw42 (n := 0) (i := 4) kc_cX4_init_0 (by decide +kernel)
theorem dX4_init_5 : decode cX4_init 5 = .ok (.iconst 0, 1) := dw3 (n := 0) (i := 5) kc_cX4_init_0 (by decide +kernel)
theorem dX4_init_6 : decode cX4_init 6 = .ok (.putfield 9, 3) := dw181 (n := 0) (i := 6) (a := 0) (b := 9) kc_cX4_init_0 (by decide +kernel) (by decide)
theorem in_X4_init_4 : ∀ w ∈ u_ws RX4 TX4 7, w ∈ wsX4_init := fun _ h => List.mem_cons_of_mem _ (List.mem_append_right _ h)
theorem dX4_init_9 : decode cX4_init 9 = .ok (.aload_n 0, 1) := dw42 (n := 0) (i := 9) kc_cX4_init_0 (by decide +kernel)
theorem dX4_init_10 : decode cX4_init 10 = .ok (.bipush 20, 2) := dw16 (n := 0) (i := 10) (a := 20) kc_cX4_init_0 (by decide +kernel) (by decide)
theorem dX4_init_12 : decode cX4_init 12 = .ok (.newarray .int, 2) := by decide +kernel
theorem dX4_init_14 : decode cX4_init 14 = .ok (.putfield 15, 3) := dw181 (n := 0) (i := 14) (a := 0) (b := 15) kc_cX4_init_0 (by decide +kernel) (by decide)
theorem dX4_init_17 : decode cX4_init 17 = .ok (.aload_n 0, 1) := dw42 (n := 0) (i := 17) kc_cX4_init_0 (by decide +kernel)
theorem dX4_init_18 : decode cX4_init 18 = .ok (.bipush 20, 2) := dw16 (n := 0) (i := 18) (a := 20) kc_cX4_init_0 (by decide +kernel) (by decide)
theorem dX4_init_20 : decode cX4_init 20 = .ok (.newarray .int, 2) := by decide +kernel
theorem dX4_init_22 : decode cX4_init 22 = .ok (.putfield 19, 3) := dw181 (n := 0) (i := 22) (a := 0) (b := 19) kc_cX4_init_0 (by decide +kernel) (by decide)
theorem dX4_init_25 : decode cX4_init 25 = .ok (.aload_n 0, 1) := dw42 (n := 0) (i := 25) kc_cX4_init_0 (by decide +kernel)
theorem dX4_init_26 : decode cX4_init 26 = .ok (.bipush 20, 2) := dw16 (n := 0) (i := 26) (a := 20) kc_cX4_init_0 (by decide +kernel) (by decide)
theorem dX4_init_28 : decode cX4_init 28 = .ok (.newarray .int, 2) := by decide +kernel
theorem dX4_init_30 : decode cX4_init 30 = .ok (.putfield 22, 3) := dw181 (n := 0) (i := 30) (a := 0) (b := 22) kc_cX4_init_0 (by decide +kernel) (by decide)
theorem dX4_init_33 : decode cX4_init 33 = .ok (.aload_n 0, 1) := dw42 (n := 32) (i := 1) kc_cX4_init_1 (by decide +kernel)
theorem dX4_init_34 : decode cX4_init 34 = .ok (.bipush 20, 2) := dw16 (n := 32) (i := 2) (a := 20) kc_cX4_init_1 (by decide +kernel) (by decide)
theorem dX4_init_36 : decode cX4_init 36 = .ok (.newarray .int, 2) := by decide +kernel
theorem dX4_init_38 : decode cX4_init 38 = .ok (.putfield 25, 3) := dw181 (n := 32) (i := 6) (a := 0) (b := 25) kc_cX4_init_1 (by decide +kernel) (by decide)
theorem dX4_init_41 : decode cX4_init 41 = .ok (.aload_n 0, 1) := dw42 (n := 32) (i := 9) kc_cX4_init_1 (by decide +kernel)
theorem dX4_init_42 : decode cX4_init 42 = .ok (.bipush 20, 2) := dw16 (n := 32) (i := 10) (a := 20) kc_cX4_init_1 (by decide +kernel) (by decide)
theorem dX4_init_44 : decode cX4_init 44 = .ok (.newarray .int, 2) := by decide +kernel
theorem dX4_init_46 : decode cX4_init 46 = .ok (.putfield 28, 3) := dw181 (n := 32) (i := 14) (a := 0) (b := 28) kc_cX4_init_1 (by decide +kernel) (by decide)
theorem dX4_init_49 : decode cX4_init 49 = .ok (.aload_n 0, 1) := dw42 (n := 32) (i := 17) kc_cX4_init_1 (by decide +kernel)
theorem dX4_init_50 : decode cX4_init 50 = .ok (.bipush 20, 2) := dw16 (n := 32) (i := 18) (a := 20) kc_cX4_init_1 (by decide +kernel) (by decide)
theorem dX4_init_52 : decode cX4_init 52 = .ok (.newarray .int, 2) := by decide +kernel
theorem dX4_init_54 : decode cX4_init 54 = .ok (.putfield 31, 3) := dw181 (n := 32) (i := 22) (a := 0) (b := 31) kc_cX4_init_1 (by decide +kernel) (by decide)
theorem dX4_init_57 : decode cX4_init 57 = .ok (.return_, 1) := dw177 (n := 32) (i := 25) kc_cX4_init_1 (by decide +kernel)
def w_meth (cs : Nat → ClassId) (a r r2 : Nat → Nat) (x y : Nat) : va_W := [(a 0, .inr (4, [.int 0, .ref (a 1), .ref (a 2), .ref (a 3), .ref (a 4), .ref (a 5), .ref (a 6)])), (a 1, .inl (cs 0, 20, .inl (fun _ => 0))), (a 2, .inl (cs 0, 20, .inl (fun _ => 0))), (a 3, .inl (cs 0, 20, .inl (fun _ => 0))), (a 4, .inl (cs 0, 20, .inl (fun _ => 0))), (a 5, .inl (cs 0, 20, .inl (fun _ => 0))), (a 6, .inl (cs 0, 20, .inl (fun _ => 0)))]
set_option maxHeartbeats 4000000 in
set_option maxRecDepth 100000 in
theorem k_X4 (l : Launch) (D : va_G) (cs : Nat → ClassId) (h : Nat) (sz : Nat) : Kc l yX4_init wsX4_init ({ frames := 1, cells := 6, slots := 120, locals := 12 }) D cs h [] (.inr (4, [.int 0, .null, .null, .null, .null, .null, .null])) sz 6 120 (fun u => ∃ (a r r2 : Nat → Nat), a 0 = h ∧ u = w_meth cs a r r2 0 0) := by
  refine enterI RX4 rfl rfl [(0, .ref h)] rfl (Nat.le_of_ble_eq_true rfl) (by decide +kernel) rfl ?_
  intro p e s m below meth c C hr hini
  refine i_aload_n C 0 dX4_init_0 rfl ?_
  refine i_objInit C (List.mem_of_getElem? (i := 1) rfl) (List.mem_of_getElem? (i := 2) rfl) (List.mem_of_getElem? (i := 3) rfl) dX4_init_1 (Nat.le_of_ble_eq_true rfl) (Nat.le_of_ble_eq_true rfl) ?_
  refine i_aload_n C 0 dX4_init_4 rfl ?_
  refine i_iconst C 0 dX4_init_5 (by decide) ?_
  refine i_put C 0 in_X4_init_4 (List.mem_of_getElem? (i := 4) rfl) rfl (by decide) rfl tyX4 tyX4_ok nmX4 rfl rfl rfl rfl (Nat.le_of_ble_eq_true rfl) dX4_init_6 ?_
  refine i_fs [.int 0, .null, .null, .null, .null, .null, .null] rfl ?_
  refine i_aload_n C 0 dX4_init_9 rfl ?_
  refine i_bipush C 20 dX4_init_10 (by decide) ?_
  refine i_newa C (atype := .int) (ty := .int) (N9 := 20) (t := 0) (a0 := (20, .inl (fun _ => 0))) (List.mem_of_getElem? (i := 5) rfl) rfl rfl (fun _ => rfl) (fun _ => rfl) (by decide) (by decide) (Nat.le_of_ble_eq_true rfl) (Nat.le_of_ble_eq_true rfl) (Nat.le_of_ble_eq_true rfl) dX4_init_12 (fun q1 => ?_)
  refine i_widen 1 20 (Nat.le_of_ble_eq_true rfl) (Nat.le_of_ble_eq_true rfl) ?_
  refine i_putF C 1 in_X4_init_4 (List.mem_of_getElem? (i := 6) rfl) rfl (by decide) rfl tyX4 tyX4_ok nmX4 rfl rfl hini rfl rfl rfl (Nat.le_of_ble_eq_true rfl) dX4_init_14 ?_
  refine i_fs [.int 0, .ref q1, .null, .null, .null, .null, .null] rfl ?_
  refine i_aload_n C 0 dX4_init_17 rfl ?_
  refine i_bipush C 20 dX4_init_18 (by decide) ?_
  refine i_newa C (atype := .int) (ty := .int) (N9 := 20) (t := 0) (a0 := (20, .inl (fun _ => 0))) (List.mem_of_getElem? (i := 5) rfl) rfl rfl (fun _ => rfl) (fun _ => rfl) (by decide) (by decide) (Nat.le_of_ble_eq_true rfl) (Nat.le_of_ble_eq_true rfl) (Nat.le_of_ble_eq_true rfl) dX4_init_20 (fun q2 => ?_)
  refine i_widen 2 40 (Nat.le_of_ble_eq_true rfl) (Nat.le_of_ble_eq_true rfl) ?_
  refine i_putF C 2 in_X4_init_4 (List.mem_of_getElem? (i := 7) rfl) rfl (by decide) rfl tyX4 tyX4_ok nmX4 rfl rfl hini rfl rfl rfl (Nat.le_of_ble_eq_true rfl) dX4_init_22 ?_
  refine i_fs [.int 0, .ref q1, .ref q2, .null, .null, .null, .null] rfl ?_
  refine i_aload_n C 0 dX4_init_25 rfl ?_
  refine i_bipush C 20 dX4_init_26 (by decide) ?_
  refine i_newa C (atype := .int) (ty := .int) (N9 := 20) (t := 0) (a0 := (20, .inl (fun _ => 0))) (List.mem_of_getElem? (i := 5) rfl) rfl rfl (fun _ => rfl) (fun _ => rfl) (by decide) (by decide) (Nat.le_of_ble_eq_true rfl) (Nat.le_of_ble_eq_true rfl) (Nat.le_of_ble_eq_true rfl) dX4_init_28 (fun q3 => ?_)
  refine i_widen 3 60 (Nat.le_of_ble_eq_true rfl) (Nat.le_of_ble_eq_true rfl) ?_
  refine i_putF C 3 in_X4_init_4 (List.mem_of_getElem? (i := 8) rfl) rfl (by decide) rfl tyX4 tyX4_ok nmX4 rfl rfl hini rfl rfl rfl (Nat.le_of_ble_eq_true rfl) dX4_init_30 ?_
  refine i_fs [.int 0, .ref q1, .ref q2, .ref q3, .null, .null, .null] rfl ?_
  refine i_aload_n C 0 dX4_init_33 rfl ?_
  refine i_bipush C 20 dX4_init_34 (by decide) ?_
  refine i_newa C (atype := .int) (ty := .int) (N9 := 20) (t := 0) (a0 := (20, .inl (fun _ => 0))) (List.mem_of_getElem? (i := 5) rfl) rfl rfl (fun _ => rfl) (fun _ => rfl) (by decide) (by decide) (Nat.le_of_ble_eq_true rfl) (Nat.le_of_ble_eq_true rfl) (Nat.le_of_ble_eq_true rfl) dX4_init_36 (fun q4 => ?_)
  refine i_widen 4 80 (Nat.le_of_ble_eq_true rfl) (Nat.le_of_ble_eq_true rfl) ?_
  refine i_putF C 4 in_X4_init_4 (List.mem_of_getElem? (i := 9) rfl) rfl (by decide) rfl tyX4 tyX4_ok nmX4 rfl rfl hini rfl rfl rfl (Nat.le_of_ble_eq_true rfl) dX4_init_38 ?_
  refine i_fs [.int 0, .ref q1, .ref q2, .ref q3, .ref q4, .null, .null] rfl ?_
  refine i_aload_n C 0 dX4_init_41 rfl ?_
  refine i_bipush C 20 dX4_init_42 (by decide) ?_
  refine i_newa C (atype := .int) (ty := .int) (N9 := 20) (t := 0) (a0 := (20, .inl (fun _ => 0))) (List.mem_of_getElem? (i := 5) rfl) rfl rfl (fun _ => rfl) (fun _ => rfl) (by decide) (by decide) (Nat.le_of_ble_eq_true rfl) (Nat.le_of_ble_eq_true rfl) (Nat.le_of_ble_eq_true rfl) dX4_init_44 (fun q5 => ?_)
  refine i_widen 5 100 (Nat.le_of_ble_eq_true rfl) (Nat.le_of_ble_eq_true rfl) ?_
  refine i_putF C 5 in_X4_init_4 (List.mem_of_getElem? (i := 10) rfl) rfl (by decide) rfl tyX4 tyX4_ok nmX4 rfl rfl hini rfl rfl rfl (Nat.le_of_ble_eq_true rfl) dX4_init_46 ?_
  refine i_fs [.int 0, .ref q1, .ref q2, .ref q3, .ref q4, .ref q5, .null] rfl ?_
  refine i_aload_n C 0 dX4_init_49 rfl ?_
  refine i_bipush C 20 dX4_init_50 (by decide) ?_
  refine i_newa C (atype := .int) (ty := .int) (N9 := 20) (t := 0) (a0 := (20, .inl (fun _ => 0))) (List.mem_of_getElem? (i := 5) rfl) rfl rfl (fun _ => rfl) (fun _ => rfl) (by decide) (by decide) (Nat.le_of_ble_eq_true rfl) (Nat.le_of_ble_eq_true rfl) (Nat.le_of_ble_eq_true rfl) dX4_init_52 (fun q6 => ?_)
  refine i_widen 6 120 (Nat.le_of_ble_eq_true rfl) (Nat.le_of_ble_eq_true rfl) ?_
  refine i_putF C 6 in_X4_init_4 (List.mem_of_getElem? (i := 11) rfl) rfl (by decide) rfl tyX4 tyX4_ok nmX4 rfl rfl hini rfl rfl rfl (Nat.le_of_ble_eq_true rfl) dX4_init_54 ?_
  refine i_fs [.int 0, .ref q1, .ref q2, .ref q3, .ref q4, .ref q5, .ref q6] rfl ?_
  refine i_widen 6 120 (Nat.le_of_ble_eq_true rfl) (Nat.le_of_ble_eq_true rfl) ?_
  exact i_vret C hr ⟨fun j => ([h, q1, q2, q3, q4, q5, q6] : List Nat).getD j 0, fun _ => 0, fun _ => 0, rfl, rfl⟩ dX4_init_57
theorem dX6_init_0 : decode cX6_init 0 = .ok (.aload_n 0, 1) := dw42 (n := 0) (i := 0) kc_cX6_init_0 (by decide +kernel)
theorem dX6_init_1 : decode cX6_init 1 = .ok (.invokespecial 3, 3) := dw183 (n := 0) (i := 1) (a := 0) (b := 3) kc_cX6_init_0 (by decide +kernel) (by decide)
theorem dX6_init_4 : decode cX6_init 4 = .ok (.aload_n 0, 1) := dw42 (n := 0) (i := 4) kc_cX6_init_0 (by decide +kernel)
theorem dX6_init_5 : decode cX6_init 5 = .ok (.bipush 40, 2) := dw16 (n := 0) (i := 5) (a := 40) kc_cX6_init_0 (by decide +kernel) (by decide)
theorem dX6_init_7 : decode cX6_init 7 = .ok (.newarray .int, 2) := by decide +kernel
theorem dX6_init_9 : decode cX6_init 9 = .ok (.putfield 9, 3) := dw181 (n := 0) (i := 9) (a := 0) (b := 9) kc_cX6_init_0 (by decide +kernel) (by decide)
theorem in_X6_init_6 : ∀ w ∈ u_ws RX6 TX6 8, w ∈ wsX6_init := fun _ h => List.mem_cons_of_mem _ (List.mem_append_right _ h)
theorem dX6_init_12 : decode cX6_init 12 = .ok (.aload_n 0, 1) := dw42 (n := 0) (i := 12) kc_cX6_init_0 (by decide +kernel)
theorem dX6_init_13 : decode cX6_init 13 = .ok (.iconst 0, 1) := dw3 (n := 0) (i := 13) kc_cX6_init_0 (by decide +kernel)
theorem dX6_init_14 : decode cX6_init 14 = .ok (.putfield 15, 3) := dw181 (n := 0) (i := 14) (a := 0) (b := 15) kc_cX6_init_0 (by decide +kernel) (by decide)
theorem dX6_init_17 : decode cX6_init 17 = .ok (.aload_n 0, 1) := dw42 (n := 0) (i := 17) kc_cX6_init_0 (by decide +kernel)
theorem dX6_init_18 : decode cX6_init 18 = .ok (.iconst 0, 1) := dw3 (n := 0) (i := 18) kc_cX6_init_0 (by decide +kernel)
theorem dX6_init_19 : decode cX6_init 19 = .ok (.putfield 19, 3) := dw181 (n := 0) (i := 19) (a := 0) (b := 19) kc_cX6_init_0 (by decide +kernel) (by decide)
theorem dX6_init_22 : decode cX6_init 22 = .ok (.aload_n 0, 1) := dw42 (n := 0) (i := 22) kc_cX6_init_0 (by decide +kernel)
theorem dX6_init_23 : decode cX6_init 23 = .ok (.bipush 10, 2) := dw16 (n := 0) (i := 23) (a := 10) kc_cX6_init_0 (by decide +kernel) (by decide)
theorem dX6_init_25 : decode cX6_init 25 = .ok (.newarray .boolean, 2) := by decide +kernel
theorem dX6_init_27 : decode cX6_init 27 = .ok (.putfield 22, 3) := dw181 (n := 0) (i := 27) (a := 0) (b := 22) kc_cX6_init_0 (by decide +kernel) (by decide)
theorem dX6_init_30 : decode cX6_init 30 = .ok (.aload_n 0, 1) := dw42 (n := 0) (i := 30) kc_cX6_init_0 (by decide +kernel)
theorem dX6_init_31 : decode cX6_init 31 = .ok (.bipush 10, 2) := dw16 (n := 0) (i := 31) (a := 10) kc_cX6_init_0 (by decide +kernel) (by decide)
theorem dX6_init_33 : decode cX6_init 33 = .ok (.newarray .long, 2) := by decide +kernel
theorem dX6_init_35 : decode cX6_init 35 = .ok (.putfield 26, 3) := dw181 (n := 32) (i := 3) (a := 0) (b := 26) kc_cX6_init_1 (by decide +kernel) (by decide)
theorem dX6_init_38 : decode cX6_init 38 = .ok (.aload_n 0, 1) := dw42 (n := 32) (i := 6) kc_cX6_init_1 (by decide +kernel)
theorem dX6_init_39 : decode cX6_init 39 = .ok (.bipush 10, 2) := dw16 (n := 32) (i := 7) (a := 10) kc_cX6_init_1 (by decide +kernel) (by decide)
theorem dX6_init_41 : decode cX6_init 41 = .ok (.newarray .long, 2) := by decide +kernel
theorem dX6_init_43 : decode cX6_init 43 = .ok (.putfield 30, 3) := dw181 (n := 32) (i := 11) (a := 0) (b := 30) kc_cX6_init_1 (by decide +kernel) (by decide)
theorem dX6_init_46 : decode cX6_init 46 = .ok (.aload_n 0, 1) := dw42 (n := 32) (i := 14) kc_cX6_init_1 (by decide +kernel)
theorem dX6_init_47 : decode cX6_init 47 = .ok (.aload_n 1, 1) := dw43 (n := 32) (i := 15) kc_cX6_init_1 (by decide +kernel)
theorem dX6_init_48 : decode cX6_init 48 = .ok (.putfield 33, 3) := dw181 (n := 32) (i := 16) (a := 0) (b := 33) kc_cX6_init_1 (by decide +kernel) (by decide)
theorem dX6_init_51 : decode cX6_init 51 = .ok (.aload_n 0, 1) := dw42 (n := 32) (i := 19) kc_cX6_init_1 (by decide +kernel)
theorem dX6_init_52 : decode cX6_init 52 = .ok (.aload_n 2, 1) := dw44 (n := 32) (i := 20) kc_cX6_init_1 (by decide +kernel)
theorem dX6_init_53 : decode cX6_init 53 = .ok (.putfield 37, 3) := dw181 (n := 32) (i := 21) (a := 0) (b := 37) kc_cX6_init_1 (by decide +kernel) (by decide)
theorem dX6_init_56 : decode cX6_init 56 = .ok (.return_, 1) := dw177 (n := 32) (i := 24) kc_cX6_init_1 (by decide +kernel)
def w_poll (cs : Nat → ClassId) (a r r2 : Nat → Nat) (x y : Nat) : va_W := [(a 0, .inr (6, [.ref x, .ref y, .ref (a 1), .int 0, .int 0, .ref (a 2), .ref (a 3), .ref (a 4)])), (a 1, .inl (cs 0, 40, .inl (fun _ => 0))), (a 2, .inl (cs 2, 10, .inl (fun _ => 0))), (a 3, .inl (cs 1, 10, .inr (.inl (fun _ => 0)))), (a 4, .inl (cs 1, 10, .inr (.inl (fun _ => 0))))]
set_option maxHeartbeats 4000000 in
set_option maxRecDepth 100000 in
theorem k_X6 (l : Launch) (D : va_G) (cs : Nat → ClassId) (h x y : Nat) (sz : Nat) : Kc l yX6_init wsX6_init ({ frames := 1, cells := 4, slots := 70, locals := 12 }) D cs h [.ref x, .ref y] (.inr (6, [.null, .null, .null, .int 0, .int 0, .null, .null, .null])) sz 4 70 (fun u => ∃ (a r r2 : Nat → Nat), a 0 = h ∧ u = w_poll cs a r r2 x y) := by
  refine enterI RX6 rfl rfl [(0, .ref h), (1, .ref x), (2, .ref y)] rfl (Nat.le_of_ble_eq_true rfl) (by decide +kernel) rfl ?_
  intro p e s m below meth c C hr hini
  refine i_aload_n C 0 dX6_init_0 rfl ?_
  refine i_objInit C (List.mem_of_getElem? (i := 1) rfl) (List.mem_of_getElem? (i := 2) rfl) (List.mem_of_getElem? (i := 3) rfl) dX6_init_1 (Nat.le_of_ble_eq_true rfl) (Nat.le_of_ble_eq_true rfl) ?_
  refine i_aload_n C 0 dX6_init_4 rfl ?_
  refine i_bipush C 40 dX6_init_5 (by decide) ?_
  refine i_newa C (atype := .int) (ty := .int) (N9 := 40) (t := 0) (a0 := (40, .inl (fun _ => 0))) (List.mem_of_getElem? (i := 4) rfl) rfl rfl (fun _ => rfl) (fun _ => rfl) (by decide) (by decide) (Nat.le_of_ble_eq_true rfl) (Nat.le_of_ble_eq_true rfl) (Nat.le_of_ble_eq_true rfl) dX6_init_7 (fun q1 => ?_)
  refine i_widen 1 40 (Nat.le_of_ble_eq_true rfl) (Nat.le_of_ble_eq_true rfl) ?_
  refine i_putF C 2 in_X6_init_6 (List.mem_of_getElem? (i := 5) rfl) rfl (by decide) rfl tyX6 tyX6_ok nmX6 rfl rfl hini rfl rfl rfl (Nat.le_of_ble_eq_true rfl) dX6_init_9 ?_
  refine i_fs [.null, .null, .ref q1, .int 0, .int 0, .null, .null, .null] rfl ?_
  refine i_aload_n C 0 dX6_init_12 rfl ?_
  refine i_iconst C 0 dX6_init_13 (by decide) ?_
  refine i_put C 3 in_X6_init_6 (List.mem_of_getElem? (i := 6) rfl) rfl (by decide) rfl tyX6 tyX6_ok nmX6 rfl rfl rfl rfl (Nat.le_of_ble_eq_true rfl) dX6_init_14 ?_
  refine i_fs [.null, .null, .ref q1, .int 0, .int 0, .null, .null, .null] rfl ?_
  refine i_aload_n C 0 dX6_init_17 rfl ?_
  refine i_iconst C 0 dX6_init_18 (by decide) ?_
  refine i_put C 4 in_X6_init_6 (List.mem_of_getElem? (i := 7) rfl) rfl (by decide) rfl tyX6 tyX6_ok nmX6 rfl rfl rfl rfl (Nat.le_of_ble_eq_true rfl) dX6_init_19 ?_
  refine i_fs [.null, .null, .ref q1, .int 0, .int 0, .null, .null, .null] rfl ?_
  refine i_aload_n C 0 dX6_init_22 rfl ?_
  refine i_bipush C 10 dX6_init_23 (by decide) ?_
  refine i_newa C (atype := .boolean) (ty := .boolean) (N9 := 10) (t := 2) (a0 := (10, .inl (fun _ => 0))) (List.mem_of_getElem? (i := 8) rfl) rfl rfl (fun _ => rfl) (fun _ => rfl) (by decide) (by decide) (Nat.le_of_ble_eq_true rfl) (Nat.le_of_ble_eq_true rfl) (Nat.le_of_ble_eq_true rfl) dX6_init_25 (fun q2 => ?_)
  refine i_widen 2 50 (Nat.le_of_ble_eq_true rfl) (Nat.le_of_ble_eq_true rfl) ?_
  refine i_putF C 5 in_X6_init_6 (List.mem_of_getElem? (i := 9) rfl) rfl (by decide) rfl tyX6 tyX6_ok nmX6 rfl rfl hini rfl rfl rfl (Nat.le_of_ble_eq_true rfl) dX6_init_27 ?_
  refine i_fs [.null, .null, .ref q1, .int 0, .int 0, .ref q2, .null, .null] rfl ?_
  refine i_aload_n C 0 dX6_init_30 rfl ?_
  refine i_bipush C 10 dX6_init_31 (by decide) ?_
  refine i_newa C (atype := .long) (ty := .long) (N9 := 10) (t := 1) (a0 := (10, .inr (.inl (fun _ => 0)))) (List.mem_of_getElem? (i := 10) rfl) rfl rfl (fun _ => rfl) (fun _ => rfl) (by decide) (by decide) (Nat.le_of_ble_eq_true rfl) (Nat.le_of_ble_eq_true rfl) (Nat.le_of_ble_eq_true rfl) dX6_init_33 (fun q3 => ?_)
  refine i_widen 3 60 (Nat.le_of_ble_eq_true rfl) (Nat.le_of_ble_eq_true rfl) ?_
  refine i_putF C 6 in_X6_init_6 (List.mem_of_getElem? (i := 11) rfl) rfl (by decide) rfl tyX6 tyX6_ok nmX6 rfl rfl hini rfl rfl rfl (Nat.le_of_ble_eq_true rfl) dX6_init_35 ?_
  refine i_fs [.null, .null, .ref q1, .int 0, .int 0, .ref q2, .ref q3, .null] rfl ?_
  refine i_aload_n C 0 dX6_init_38 rfl ?_
  refine i_bipush C 10 dX6_init_39 (by decide) ?_
  refine i_newa C (atype := .long) (ty := .long) (N9 := 10) (t := 1) (a0 := (10, .inr (.inl (fun _ => 0)))) (List.mem_of_getElem? (i := 10) rfl) rfl rfl (fun _ => rfl) (fun _ => rfl) (by decide) (by decide) (Nat.le_of_ble_eq_true rfl) (Nat.le_of_ble_eq_true rfl) (Nat.le_of_ble_eq_true rfl) dX6_init_41 (fun q4 => ?_)
  refine i_widen 4 70 (Nat.le_of_ble_eq_true rfl) (Nat.le_of_ble_eq_true rfl) ?_
  refine i_putF C 7 in_X6_init_6 (List.mem_of_getElem? (i := 12) rfl) rfl (by decide) rfl tyX6 tyX6_ok nmX6 rfl rfl hini rfl rfl rfl (Nat.le_of_ble_eq_true rfl) dX6_init_43 ?_
  refine i_fs [.null, .null, .ref q1, .int 0, .int 0, .ref q2, .ref q3, .ref q4] rfl ?_
  refine i_aload_n C 0 dX6_init_46 rfl ?_
  refine i_aload_n C 1 dX6_init_47 rfl ?_
  refine i_putF C 0 in_X6_init_6 (List.mem_of_getElem? (i := 13) rfl) rfl (by decide) rfl tyX6 tyX6_ok nmX6 rfl rfl hini rfl rfl rfl (Nat.le_of_ble_eq_true rfl) dX6_init_48 ?_
  refine i_fs [.ref x, .null, .ref q1, .int 0, .int 0, .ref q2, .ref q3, .ref q4] rfl ?_
  refine i_aload_n C 0 dX6_init_51 rfl ?_
  refine i_aload_n C 2 dX6_init_52 rfl ?_
  refine i_putF C 1 in_X6_init_6 (List.mem_of_getElem? (i := 14) rfl) rfl (by decide) rfl tyX6 tyX6_ok nmX6 rfl rfl hini rfl rfl rfl (Nat.le_of_ble_eq_true rfl) dX6_init_53 ?_
  refine i_fs [.ref x, .ref y, .ref q1, .int 0, .int 0, .ref q2, .ref q3, .ref q4] rfl ?_
  refine i_widen 4 70 (Nat.le_of_ble_eq_true rfl) (Nat.le_of_ble_eq_true rfl) ?_
  exact i_vret C hr ⟨fun j => ([h, q1, q2, q3, q4] : List Nat).getD j 0, fun _ => 0, fun _ => 0, rfl, rfl⟩ dX6_init_56
theorem dX5_init_0 : decode cX5_init 0 = .ok (.aload_n 0, 1) := dw42 (n := 0) (i := 0) kc_cX5_init_0 (by decide +kernel)
theorem dX5_init_1 : decode cX5_init 1 = .ok (.invokespecial 3, 3) := dw183 (n := 0) (i := 1) (a := 0) (b := 3) kc_cX5_init_0 (by decide +kernel) (by decide)
theorem dX5_init_4 : decode cX5_init 4 = .ok (.aload_n 0, 1) := dw42 (n := 0) (i := 4) kc_cX5_init_0 (by decide +kernel)
theorem dX5_init_5 : decode cX5_init 5 = .ok (.bipush 10, 2) := dw16 (n := 0) (i := 5) (a := 10) kc_cX5_init_0 (by decide +kernel) (by decide)
theorem dX5_init_7 : decode cX5_init 7 = .ok (.newarray .int, 2) := by decide +kernel
theorem dX5_init_9 : decode cX5_init 9 = .ok (.putfield 9, 3) := dw181 (n := 0) (i := 9) (a := 0) (b := 9) kc_cX5_init_0 (by decide +kernel) (by decide)
theorem in_X5_init_5 : ∀ w ∈ u_ws RX5 TX5 3, w ∈ wsX5_init := fun _ h => List.mem_cons_of_mem _ (List.mem_append_right _ h)
theorem dX5_init_12 : decode cX5_init 12 = .ok (.aload_n 0, 1) := dw42 (n := 0) (i := 12) kc_cX5_init_0 (by decide +kernel)
theorem dX5_init_13 : decode cX5_init 13 = .ok (.bipush 10, 2) := dw16 (n := 0) (i := 13) (a := 10) kc_cX5_init_0 (by decide +kernel) (by decide)
theorem dX5_init_15 : decode cX5_init 15 = .ok (.newarray .int, 2) := by decide +kernel
theorem dX5_init_17 : decode cX5_init 17 = .ok (.putfield 15, 3) := dw181 (n := 0) (i := 17) (a := 0) (b := 15) kc_cX5_init_0 (by decide +kernel) (by decide)
theorem dX5_init_20 : decode cX5_init 20 = .ok (.aload_n 0, 1) := dw42 (n := 0) (i := 20) kc_cX5_init_0 (by decide +kernel)
theorem dX5_init_21 : decode cX5_init 21 = .ok (.aload_n 1, 1) := dw43 (n := 0) (i := 21) kc_cX5_init_0 (by decide +kernel)
theorem dX5_init_22 : decode cX5_init 22 = .ok (.putfield 18, 3) := dw181 (n := 0) (i := 22) (a := 0) (b := 18) kc_cX5_init_0 (by decide +kernel) (by decide)
theorem dX5_init_25 : decode cX5_init 25 = .ok (.return_, 1) := dw177 (n := 0) (i := 25) kc_cX5_init_0 (by decide +kernel)
def w_plain (cs : Nat → ClassId) (a r r2 : Nat → Nat) (x y : Nat) : va_W := [(a 0, .inr (5, [.ref x, .ref (a 1), .ref (a 2)])), (a 1, .inl (cs 0, 10, .inl (fun _ => 0))), (a 2, .inl (cs 0, 10, .inl (fun _ => 0)))]
set_option maxHeartbeats 4000000 in
set_option maxRecDepth 100000 in
theorem k_X5 (l : Launch) (D : va_G) (cs : Nat → ClassId) (h x : Nat) (sz : Nat) : Kc l yX5_init wsX5_init ({ frames := 1, cells := 2, slots := 20, locals := 12 }) D cs h [.ref x] (.inr (5, [.null, .null, .null])) sz 2 20 (fun u => ∃ (a r r2 : Nat → Nat), a 0 = h ∧ u = w_plain cs a r r2 x 0) := by
  refine enterI RX5 rfl rfl [(0, .ref h), (1, .ref x)] rfl (Nat.le_of_ble_eq_true rfl) (by decide +kernel) rfl ?_
  intro p e s m below meth c C hr hini
  refine i_aload_n C 0 dX5_init_0 rfl ?_
  refine i_objInit C (List.mem_of_getElem? (i := 1) rfl) (List.mem_of_getElem? (i := 2) rfl) (List.mem_of_getElem? (i := 3) rfl) dX5_init_1 (Nat.le_of_ble_eq_true rfl) (Nat.le_of_ble_eq_true rfl) ?_
  refine i_aload_n C 0 dX5_init_4 rfl ?_
  refine i_bipush C 10 dX5_init_5 (by decide) ?_
  refine i_newa C (atype := .int) (ty := .int) (N9 := 10) (t := 0) (a0 := (10, .inl (fun _ => 0))) (List.mem_of_getElem? (i := 4) rfl) rfl rfl (fun _ => rfl) (fun _ => rfl) (by decide) (by decide) (Nat.le_of_ble_eq_true rfl) (Nat.le_of_ble_eq_true rfl) (Nat.le_of_ble_eq_true rfl) dX5_init_7 (fun q1 => ?_)
  refine i_widen 1 10 (Nat.le_of_ble_eq_true rfl) (Nat.le_of_ble_eq_true rfl) ?_
  refine i_putF C 1 in_X5_init_5 (List.mem_of_getElem? (i := 5) rfl) rfl (by decide) rfl tyX5 tyX5_ok nmX5 rfl rfl hini rfl rfl rfl (Nat.le_of_ble_eq_true rfl) dX5_init_9 ?_
  refine i_fs [.null, .ref q1, .null] rfl ?_
  refine i_aload_n C 0 dX5_init_12 rfl ?_
  refine i_bipush C 10 dX5_init_13 (by decide) ?_
  refine i_newa C (atype := .int) (ty := .int) (N9 := 10) (t := 0) (a0 := (10, .inl (fun _ => 0))) (List.mem_of_getElem? (i := 4) rfl) rfl rfl (fun _ => rfl) (fun _ => rfl) (by decide) (by decide) (Nat.le_of_ble_eq_true rfl) (Nat.le_of_ble_eq_true rfl) (Nat.le_of_ble_eq_true rfl) dX5_init_15 (fun q2 => ?_)
  refine i_widen 2 20 (Nat.le_of_ble_eq_true rfl) (Nat.le_of_ble_eq_true rfl) ?_
  refine i_putF C 2 in_X5_init_5 (List.mem_of_getElem? (i := 6) rfl) rfl (by decide) rfl tyX5 tyX5_ok nmX5 rfl rfl hini rfl rfl rfl (Nat.le_of_ble_eq_true rfl) dX5_init_17 ?_
  refine i_fs [.null, .ref q1, .ref q2] rfl ?_
  refine i_aload_n C 0 dX5_init_20 rfl ?_
  refine i_aload_n C 1 dX5_init_21 rfl ?_
  refine i_putF C 0 in_X5_init_5 (List.mem_of_getElem? (i := 7) rfl) rfl (by decide) rfl tyX5 tyX5_ok nmX5 rfl rfl hini rfl rfl rfl (Nat.le_of_ble_eq_true rfl) dX5_init_22 ?_
  refine i_fs [.ref x, .ref q1, .ref q2] rfl ?_
  refine i_widen 2 20 (Nat.le_of_ble_eq_true rfl) (Nat.le_of_ble_eq_true rfl) ?_
  exact i_vret C hr ⟨fun j => ([h, q1, q2] : List Nat).getD j 0, fun _ => 0, fun _ => 0, rfl, rfl⟩ dX5_init_25
theorem dX9_init_0 : decode cX9_init 0 = .ok (.aload_n 0, 1) := dw42 (n := 0) (i := 0) kc_cX9_init_0 (by decide +kernel)
theorem dX9_init_1 : decode cX9_init 1 = .ok (.invokespecial 3, 3) := dw183 (n := 0) (i := 1) (a := 0) (b := 3) kc_cX9_init_0 (by decide +kernel) (by decide)
theorem dX9_init_4 : decode cX9_init 4 = .ok (.aload_n 0, 1) := dw42 (n := 0) (i := 4) kc_cX9_init_0 (by decide +kernel)
theorem dX9_init_5 : decode cX9_init 5 = .ok (.bipush 10, 2) := dw16 (n := 0) (i := 5) (a := 10) kc_cX9_init_0 (by decide +kernel) (by decide)
theorem dX9_init_7 : decode cX9_init 7 = .ok (.newarray .int, 2) := by decide +kernel
theorem dX9_init_9 : decode cX9_init 9 = .ok (.putfield 9, 3) := dw181 (n := 0) (i := 9) (a := 0) (b := 9) kc_cX9_init_0 (by decide +kernel) (by decide)
theorem in_X9_init_9 : ∀ w ∈ u_ws RX9 TX9 4, w ∈ wsX9_init := fun _ h => List.mem_cons_of_mem _ (List.mem_append_right _ h)
theorem dX9_init_12 : decode cX9_init 12 = .ok (.aload_n 0, 1) := dw42 (n := 0) (i := 12) kc_cX9_init_0 (by decide +kernel)
theorem dX9_init_13 : decode cX9_init 13 = .ok (.bipush 10, 2) := dw16 (n := 0) (i := 13) (a := 10) kc_cX9_init_0 (by decide +kernel) (by decide)
theorem dX9_init_15 : decode cX9_init 15 = .ok (.bipush 10, 2) := dw16 (n := 0) (i := 15) (a := 10) kc_cX9_init_0 (by decide +kernel) (by decide)
theorem dX9_init_17 : decode cX9_init 17 = .ok (.multianewarray 15 2, 4) := by decide +kernel
theorem dX9_init_21 : decode cX9_init 21 = .ok (.putfield 17, 3) := dw181 (n := 0) (i := 21) (a := 0) (b := 17) kc_cX9_init_0 (by decide +kernel) (by decide)
theorem dX9_init_24 : decode cX9_init 24 = .ok (.aload_n 0, 1) := dw42 (n := 0) (i := 24) kc_cX9_init_0 (by decide +kernel)
theorem dX9_init_25 : decode cX9_init 25 = .ok (.bipush 10, 2) := dw16 (n := 0) (i := 25) (a := 10) kc_cX9_init_0 (by decide +kernel) (by decide)
theorem dX9_init_27 : decode cX9_init 27 = .ok (.bipush 10, 2) := dw16 (n := 0) (i := 27) (a := 10) kc_cX9_init_0 (by decide +kernel) (by decide)
theorem dX9_init_29 : decode cX9_init 29 = .ok (.multianewarray 15 2, 4) := by decide +kernel
theorem dX9_init_33 : decode cX9_init 33 = .ok (.putfield 20, 3) := dw181 (n := 32) (i := 1) (a := 0) (b := 20) kc_cX9_init_1 (by decide +kernel) (by decide)
theorem dX9_init_36 : decode cX9_init 36 = .ok (.aload_n 0, 1) := dw42 (n := 32) (i := 4) kc_cX9_init_1 (by decide +kernel)
theorem dX9_init_37 : decode cX9_init 37 = .ok (.aload_n 1, 1) := dw43 (n := 32) (i := 5) kc_cX9_init_1 (by decide +kernel)
theorem dX9_init_38 : decode cX9_init 38 = .ok (.putfield 23, 3) := dw181 (n := 32) (i := 6) (a := 0) (b := 23) kc_cX9_init_1 (by decide +kernel) (by decide)
theorem dX9_init_41 : decode cX9_init 41 = .ok (.return_, 1) := dw177 (n := 32) (i := 9) kc_cX9_init_1 (by decide +kernel)
def w_ways (cs : Nat → ClassId) (a r r2 : Nat → Nat) (x y : Nat) : va_W := [(a 0, .inr (9, [.ref x, .ref (a 1), .ref (a 2), .ref (a 3)])), (a 1, .inl (cs 0, 10, .inl (fun _ => 0))), (a 2, .inl (cs 3, 10, .inr (.inr (.inr (.inr (fun i => if i < 10 then some (r i) else none)))))), (a 3, .inl (cs 3, 10, .inr (.inr (.inr (.inr (fun i => if i < 10 then some (r2 i) else none))))))] ++ ((List.range 10).map (fun i => (r i, .inl (cs 0, 10, .inl (fun _ => 0)))) ++ (List.range 10).map (fun i => (r2 i, .inl (cs 0, 10, .inl (fun _ => 0)))))
set_option maxHeartbeats 4000000 in
set_option maxRecDepth 100000 in
theorem k_X9 (l : Launch) (D : va_G) (cs : Nat → ClassId) (h x : Nat) (sz : Nat) : Kc l yX9_init wsX9_init ({ frames := 1, cells := 23, slots := 230, locals := 12 }) D cs h [.ref x] (.inr (9, [.null, .null, .null, .null])) sz 23 230 (fun u => ∃ (a r r2 : Nat → Nat), a 0 = h ∧ u = w_ways cs a r r2 x 0) := by
  refine enterI RX9 rfl rfl [(0, .ref h), (1, .ref x)] rfl (Nat.le_of_ble_eq_true rfl) (by decide +kernel) rfl ?_
  intro p e s m below meth c C hr hini
  refine i_aload_n C 0 dX9_init_0 rfl ?_
  refine i_objInit C (List.mem_of_getElem? (i := 1) rfl) (List.mem_of_getElem? (i := 2) rfl) (List.mem_of_getElem? (i := 3) rfl) dX9_init_1 (Nat.le_of_ble_eq_true rfl) (Nat.le_of_ble_eq_true rfl) ?_
  refine i_aload_n C 0 dX9_init_4 rfl ?_
  refine i_bipush C 10 dX9_init_5 (by decide) ?_
  refine i_newa C (atype := .int) (ty := .int) (N9 := 10) (t := 0) (a0 := (10, .inl (fun _ => 0))) (List.mem_of_getElem? (i := 4) rfl) rfl rfl (fun _ => rfl) (fun _ => rfl) (by decide) (by decide) (Nat.le_of_ble_eq_true rfl) (Nat.le_of_ble_eq_true rfl) (Nat.le_of_ble_eq_true rfl) dX9_init_7 (fun q1 => ?_)
  refine i_widen 1 10 (Nat.le_of_ble_eq_true rfl) (Nat.le_of_ble_eq_true rfl) ?_
  refine i_putF C 1 in_X9_init_9 (List.mem_of_getElem? (i := 5) rfl) rfl (by decide) rfl tyX9 tyX9_ok nmX9 rfl rfl hini rfl rfl rfl (Nat.le_of_ble_eq_true rfl) dX9_init_9 ?_
  refine i_fs [.null, .ref q1, .null, .null] rfl ?_
  refine i_aload_n C 0 dX9_init_12 rfl ?_
  refine i_bipush C 10 dX9_init_13 (by decide) ?_
  refine i_bipush C 10 dX9_init_15 (by decide) ?_
  refine i_pool (fun _ => .inl (cs 0, 0, .inl (fun _ => 0))) ?_
  refine i_mna C (N9 := 10) (K9 := 10) (ty := .int) (t := 0) (t1 := 3) (z := (10, .inl (fun _ => 0))) (by rw [show ("[" ++ (FieldType.array .int).toString) = "[[I" by decide +kernel]; exact List.mem_of_getElem? (i := 6) rfl) C.2.2.2.2.2.2.2.1.1.1 (List.mem_of_getElem? (i := 4) rfl) (C.2.2.2.2.2.2.1.2 0 _ rfl).2 rfl (fun _ => rfl) (by decide) (by decide) (by decide) (by decide) (Nat.le_of_ble_eq_true rfl) (Nat.le_of_ble_eq_true rfl) (Nat.le_of_ble_eq_true rfl) rfl rfl (Nat.le_of_ble_eq_true rfl) (Nat.le_of_ble_eq_true rfl) (fun c9 => arrV_new c9 _ _) dX9_init_17 (fun q2 r1 hn1 => ?_)
  refine i_widen 12 120 (Nat.le_of_ble_eq_true rfl) (Nat.le_of_ble_eq_true rfl) ?_
  refine i_putF C 2 in_X9_init_9 (List.mem_of_getElem? (i := 7) rfl) rfl (by decide) rfl tyX9 tyX9_ok nmX9 rfl rfl hini rfl rfl rfl (Nat.le_of_ble_eq_true rfl) dX9_init_21 ?_
  refine i_fs [.null, .ref q1, .ref q2, .null] rfl ?_
  refine i_aload_n C 0 dX9_init_24 rfl ?_
  refine i_bipush C 10 dX9_init_25 (by decide) ?_
  refine i_bipush C 10 dX9_init_27 (by decide) ?_
  refine i_mna C (N9 := 10) (K9 := 10) (ty := .int) (t := 0) (t1 := 3) (z := (10, .inl (fun _ => 0))) (by rw [show ("[" ++ (FieldType.array .int).toString) = "[[I" by decide +kernel]; exact List.mem_of_getElem? (i := 6) rfl) C.2.2.2.2.2.2.2.1.1.1 (List.mem_of_getElem? (i := 4) rfl) (C.2.2.2.2.2.2.1.2 0 _ rfl).2 rfl (fun _ => rfl) (by decide) (by decide) (by decide) (by decide) (Nat.le_of_ble_eq_true rfl) (Nat.le_of_ble_eq_true rfl) (Nat.le_of_ble_eq_true rfl) rfl rfl (Nat.le_of_ble_eq_true rfl) (Nat.le_of_ble_eq_true rfl) (fun c9 => arrV_new c9 _ _) dX9_init_29 (fun q3 r2 hn2 => ?_)
  refine i_widen 23 230 (Nat.le_of_ble_eq_true rfl) (Nat.le_of_ble_eq_true rfl) ?_
  refine i_putF C 3 in_X9_init_9 (List.mem_of_getElem? (i := 8) rfl) rfl (by decide) rfl tyX9 tyX9_ok nmX9 rfl rfl hini rfl rfl rfl (Nat.le_of_ble_eq_true rfl) dX9_init_33 ?_
  refine i_fs [.null, .ref q1, .ref q2, .ref q3] rfl ?_
  refine i_aload_n C 0 dX9_init_36 rfl ?_
  refine i_aload_n C 1 dX9_init_37 rfl ?_
  refine i_putF C 0 in_X9_init_9 (List.mem_of_getElem? (i := 9) rfl) rfl (by decide) rfl tyX9 tyX9_ok nmX9 rfl rfl hini rfl rfl rfl (Nat.le_of_ble_eq_true rfl) dX9_init_38 ?_
  refine i_fs [.ref x, .ref q1, .ref q2, .ref q3] rfl ?_
  refine i_widen 23 230 (Nat.le_of_ble_eq_true rfl) (Nat.le_of_ble_eq_true rfl) ?_
  exact i_vret C hr ⟨fun j => ([h, q1, q2, q3] : List Nat).getD j 0, r1, r2, rfl, by rw [pool2 _ _ _ _ _ _ _ hn2]; rfl⟩ dX9_init_41
theorem dX3_init_0 : decode cX3_init 0 = .ok (.aload_n 0, 1) := dw42 (n := 0) (i := 0) kc_cX3_init_0 (by decide +kernel)
theorem dX3_init_1 : decode cX3_init 1 = .ok (.invokespecial 3, 3) := dw183 (n := 0) (i := 1) (a := 0) (b := 3) kc_cX3_init_0 (by decide +kernel) (by decide)
theorem dX3_init_4 : decode cX3_init 4 = .ok (.aload_n 0, 1) := dw42 (n := 0) (i := 4) kc_cX3_init_0 (by decide +kernel)
theorem dX3_init_5 : decode cX3_init 5 = .ok (.lconst 0, 1) := dw9 (n := 0) (i := 5) kc_cX3_init_0 (by decide +kernel)
theorem dX3_init_6 : decode cX3_init 6 = .ok (.putfield 9, 3) := dw181 (n := 0) (i := 6) (a := 0) (b := 9) kc_cX3_init_0 (by decide +kernel) (by decide)
theorem in_X3_init_3 : ∀ w ∈ u_ws RX3 TX3 2, w ∈ wsX3_init := fun _ h => List.mem_cons_of_mem _ (List.mem_append_right _ h)
theorem dX3_init_9 : decode cX3_init 9 = .ok (.aload_n 0, 1) := dw42 (n := 0) (i := 9) kc_cX3_init_0 (by decide +kernel)
theorem dX3_init_10 : decode cX3_init 10 = .ok (.lconst 1, 1) := dw10 (n := 0) (i := 10) kc_cX3_init_0 (by decide +kernel)
theorem dX3_init_11 : decode cX3_init 11 = .ok (.putfield 15, 3) := dw181 (n := 0) (i := 11) (a := 0) (b := 15) kc_cX3_init_0 (by decide +kernel) (by decide)
theorem dX3_init_14 : decode cX3_init 14 = .ok (.return_, 1) := dw177 (n := 0) (i := 14) kc_cX3_init_0 (by decide +kernel)
def w_frac (cs : Nat → ClassId) (a r r2 : Nat → Nat) (x y : Nat) : va_W := [(a 0, .inr (3, [.long 0, .long 1]))]
set_option maxHeartbeats 4000000 in
set_option maxRecDepth 100000 in
theorem k_X3 (l : Launch) (D : va_G) (cs : Nat → ClassId) (h : Nat) (sz : Nat) : Kc l yX3_init wsX3_init ({ frames := 1, cells := 0, slots := 0, locals := 12 }) D cs h [] (.inr (3, [.long 0, .long 0])) sz 0 0 (fun u => ∃ (a r r2 : Nat → Nat), a 0 = h ∧ u = w_frac cs a r r2 0 0) := by
  refine enterI RX3 rfl rfl [(0, .ref h)] rfl (Nat.le_of_ble_eq_true rfl) (by decide +kernel) rfl ?_
  intro p e s m below meth c C hr hini
  refine i_aload_n C 0 dX3_init_0 rfl ?_
  refine i_objInit C (List.mem_of_getElem? (i := 1) rfl) (List.mem_of_getElem? (i := 2) rfl) (List.mem_of_getElem? (i := 3) rfl) dX3_init_1 (Nat.le_of_ble_eq_true rfl) (Nat.le_of_ble_eq_true rfl) ?_
  refine i_aload_n C 0 dX3_init_4 rfl ?_
  refine i_lconst C 0 dX3_init_5 (by decide) ?_
  refine i_put C 0 in_X3_init_3 (List.mem_of_getElem? (i := 4) rfl) rfl (by decide) rfl tyX3 tyX3_ok nmX3 rfl rfl rfl rfl (Nat.le_of_ble_eq_true rfl) dX3_init_6 ?_
  refine i_fs [.long 0, .long 0] rfl ?_
  refine i_aload_n C 0 dX3_init_9 rfl ?_
  refine i_lconst C 1 dX3_init_10 (by decide) ?_
  refine i_put C 1 in_X3_init_3 (List.mem_of_getElem? (i := 5) rfl) rfl (by decide) rfl tyX3 tyX3_ok nmX3 rfl rfl rfl rfl (Nat.le_of_ble_eq_true rfl) dX3_init_11 ?_
  refine i_fs [.long 0, .long 1] rfl ?_
  refine i_widen 0 0 (Nat.le_of_ble_eq_true rfl) (Nat.le_of_ble_eq_true rfl) ?_
  exact i_vret C hr ⟨fun j => ([h] : List Nat).getD j 0, fun _ => 0, fun _ => 0, rfl, rfl⟩ dX3_init_14
theorem dX8_init_0 : decode cX8_init 0 = .ok (.aload_n 0, 1) := dw42 (n := 0) (i := 0) kc_cX8_init_0 (by decide +kernel)
theorem dX8_init_1 : decode cX8_init 1 = .ok (.invokespecial 3, 3) := dw183 (n := 0) (i := 1) (a := 0) (b := 3) kc_cX8_init_0 (by decide +kernel) (by decide)
theorem dX8_init_4 : decode cX8_init 4 = .ok (.aload_n 0, 1) := dw42 (n := 0) (i := 4) kc_cX8_init_0 (by decide +kernel)
theorem dX8_init_5 : decode cX8_init 5 = .ok (.bipush 40, 2) := dw16 (n := 0) (i := 5) (a := 40) kc_cX8_init_0 (by decide +kernel) (by decide)
theorem dX8_init_7 : decode cX8_init 7 = .ok (.newarray .long, 2) := by decide +kernel
theorem dX8_init_9 : decode cX8_init 9 = .ok (.putfield 9, 3) := dw181 (n := 0) (i := 9) (a := 0) (b := 9) kc_cX8_init_0 (by decide +kernel) (by decide)
theorem in_X8_init_8 : ∀ w ∈ u_ws RX8 TX8 5, w ∈ wsX8_init := fun _ h => List.mem_cons_of_mem _ (List.mem_append_left _ (List.mem_append_right _ h))
theorem dX8_init_12 : decode cX8_init 12 = .ok (.aload_n 0, 1) := dw42 (n := 0) (i := 12) kc_cX8_init_0 (by decide +kernel)
theorem dX8_init_13 : decode cX8_init 13 = .ok (.bipush 40, 2) := dw16 (n := 0) (i := 13) (a := 40) kc_cX8_init_0 (by decide +kernel) (by decide)
theorem dX8_init_15 : decode cX8_init 15 = .ok (.newarray .long, 2) := by decide +kernel
theorem dX8_init_17 : decode cX8_init 17 = .ok (.putfield 15, 3) := dw181 (n := 0) (i := 17) (a := 0) (b := 15) kc_cX8_init_0 (by decide +kernel) (by decide)
theorem dX8_init_20 : decode cX8_init 20 = .ok (.aload_n 0, 1) := dw42 (n := 0) (i := 20) kc_cX8_init_0 (by decide +kernel)
theorem dX8_init_21 : decode cX8_init 21 = .ok (.bipush 40, 2) := dw16 (n := 0) (i := 21) (a := 40) kc_cX8_init_0 (by decide +kernel) (by decide)
theorem dX8_init_23 : decode cX8_init 23 = .ok (.newarray .int, 2) := by decide +kernel
theorem dX8_init_25 : decode cX8_init 25 = .ok (.putfield 18, 3) := dw181 (n := 0) (i := 25) (a := 0) (b := 18) kc_cX8_init_0 (by decide +kernel) (by decide)
theorem dX8_init_28 : decode cX8_init 28 = .ok (.aload_n 0, 1) := dw42 (n := 0) (i := 28) kc_cX8_init_0 (by decide +kernel)
theorem dX8_init_29 : decode cX8_init 29 = .ok (.new 22, 3) := dw187 (n := 0) (i := 29) (a := 0) (b := 22) kc_cX8_init_0 (by decide +kernel) (by decide)
theorem in_X8_init_3 : ∀ w ∈ u_ws RX3 TX3 2, w ∈ wsX8_init := fun _ h => List.mem_cons_of_mem _ (List.mem_append_right _ h)
theorem dX8_init_32 : decode cX8_init 32 = .ok (.dup, 1) := dw89 (n := 32) (i := 0) kc_cX8_init_1 (by decide +kernel)
theorem dX8_init_33 : decode cX8_init 33 = .ok (.invokespecial 24, 3) := dw183 (n := 32) (i := 1) (a := 0) (b := 24) kc_cX8_init_1 (by decide +kernel) (by decide)
set_option maxRecDepth 20000 in
theorem ggX8_init_X3_init : GoodIn wsX8_init wsX3_init := (gk_code 15 rfl (gk_methodLink 16 rfl (gk_instanceMethod 2 rfl (gk_code 3 rfl (gk_fieldLink 17 rfl (gk_fieldLink 18 rfl (gk_lays 24 rfl (gk_lays 25 rfl (gn)))))))))
set_option maxRecDepth 20000 in
theorem gX8_init_X3_init_n24 : GoodIn wsX8_init (wsX3_init) := ggX8_init_X3_init
theorem dX8_init_36 : decode cX8_init 36 = .ok (.putfield 25, 3) := dw181 (n := 32) (i := 4) (a := 0) (b := 25) kc_cX8_init_1 (by decide +kernel) (by decide)
theorem dX8_init_39 : decode cX8_init 39 = .ok (.aload_n 0, 1) := dw42 (n := 32) (i := 7) kc_cX8_init_1 (by decide +kernel)
theorem dX8_init_40 : decode cX8_init 40 = .ok (.aload_n 1, 1) := dw43 (n := 32) (i := 8) kc_cX8_init_1 (by decide +kernel)
theorem dX8_init_41 : decode cX8_init 41 = .ok (.putfield 29, 3) := dw181 (n := 32) (i := 9) (a := 0) (b := 29) kc_cX8_init_1 (by decide +kernel) (by decide)
theorem dX8_init_44 : decode cX8_init 44 = .ok (.return_, 1) := dw177 (n := 32) (i := 12) kc_cX8_init_1 (by decide +kernel)
def w_trans (cs : Nat → ClassId) (a r r2 : Nat → Nat) (x y : Nat) : va_W := [(a 0, .inr (8, [.ref x, .ref (a 1), .ref (a 2), .ref (a 3), .ref (a 4)])), (a 1, .inl (cs 1, 40, .inr (.inl (fun _ => 0)))), (a 2, .inl (cs 1, 40, .inr (.inl (fun _ => 0)))), (a 3, .inl (cs 0, 40, .inl (fun _ => 0))), (a 4, .inr (3, [.long 0, .long 1]))]
set_option maxHeartbeats 4000000 in
set_option maxRecDepth 100000 in
theorem k_X8 (l : Launch) (D : va_G) (cs : Nat → ClassId) (h x : Nat) (sz : Nat) : Kc l yX8_init wsX8_init ({ frames := 2, cells := 4, slots := 122, locals := 32 }) D cs h [.ref x] (.inr (8, [.null, .null, .null, .null, .null])) sz 4 122 (fun u => ∃ (a r r2 : Nat → Nat), a 0 = h ∧ u = w_trans cs a r r2 x 0) := by
  refine enterI RX8 rfl rfl [(0, .ref h), (1, .ref x)] rfl (Nat.le_of_ble_eq_true rfl) (by decide +kernel) rfl ?_
  intro p e s m below meth c C hr hini
  refine i_aload_n C 0 dX8_init_0 rfl ?_
  refine i_objInit C (List.mem_of_getElem? (i := 1) rfl) (List.mem_of_getElem? (i := 2) rfl) (List.mem_of_getElem? (i := 3) rfl) dX8_init_1 (Nat.le_of_ble_eq_true rfl) (Nat.le_of_ble_eq_true rfl) ?_
  refine i_aload_n C 0 dX8_init_4 rfl ?_
  refine i_bipush C 40 dX8_init_5 (by decide) ?_
  refine i_newa C (atype := .long) (ty := .long) (N9 := 40) (t := 1) (a0 := (40, .inr (.inl (fun _ => 0)))) (List.mem_of_getElem? (i := 4) rfl) rfl rfl (fun _ => rfl) (fun _ => rfl) (by decide) (by decide) (Nat.le_of_ble_eq_true rfl) (Nat.le_of_ble_eq_true rfl) (Nat.le_of_ble_eq_true rfl) dX8_init_7 (fun q1 => ?_)
  refine i_widen 1 40 (Nat.le_of_ble_eq_true rfl) (Nat.le_of_ble_eq_true rfl) ?_
  refine i_putF C 1 in_X8_init_8 (List.mem_of_getElem? (i := 5) rfl) rfl (by decide) rfl tyX8 tyX8_ok nmX8 rfl rfl hini rfl rfl rfl (Nat.le_of_ble_eq_true rfl) dX8_init_9 ?_
  refine i_fs [.null, .ref q1, .null, .null, .null] rfl ?_
  refine i_aload_n C 0 dX8_init_12 rfl ?_
  refine i_bipush C 40 dX8_init_13 (by decide) ?_
  refine i_newa C (atype := .long) (ty := .long) (N9 := 40) (t := 1) (a0 := (40, .inr (.inl (fun _ => 0)))) (List.mem_of_getElem? (i := 4) rfl) rfl rfl (fun _ => rfl) (fun _ => rfl) (by decide) (by decide) (Nat.le_of_ble_eq_true rfl) (Nat.le_of_ble_eq_true rfl) (Nat.le_of_ble_eq_true rfl) dX8_init_15 (fun q2 => ?_)
  refine i_widen 2 80 (Nat.le_of_ble_eq_true rfl) (Nat.le_of_ble_eq_true rfl) ?_
  refine i_putF C 2 in_X8_init_8 (List.mem_of_getElem? (i := 6) rfl) rfl (by decide) rfl tyX8 tyX8_ok nmX8 rfl rfl hini rfl rfl rfl (Nat.le_of_ble_eq_true rfl) dX8_init_17 ?_
  refine i_fs [.null, .ref q1, .ref q2, .null, .null] rfl ?_
  refine i_aload_n C 0 dX8_init_20 rfl ?_
  refine i_bipush C 40 dX8_init_21 (by decide) ?_
  refine i_newa C (atype := .int) (ty := .int) (N9 := 40) (t := 0) (a0 := (40, .inl (fun _ => 0))) (List.mem_of_getElem? (i := 7) rfl) rfl rfl (fun _ => rfl) (fun _ => rfl) (by decide) (by decide) (Nat.le_of_ble_eq_true rfl) (Nat.le_of_ble_eq_true rfl) (Nat.le_of_ble_eq_true rfl) dX8_init_23 (fun q3 => ?_)
  refine i_widen 3 120 (Nat.le_of_ble_eq_true rfl) (Nat.le_of_ble_eq_true rfl) ?_
  refine i_putF C 3 in_X8_init_8 (List.mem_of_getElem? (i := 8) rfl) rfl (by decide) rfl tyX8 tyX8_ok nmX8 rfl rfl hini rfl rfl rfl (Nat.le_of_ble_eq_true rfl) dX8_init_25 ?_
  refine i_fs [.null, .ref q1, .ref q2, .ref q3, .null] rfl ?_
  refine i_aload_n C 0 dX8_init_28 rfl ?_
  refine i_new C (ci := 3) (fs := [.long 0, .long 0]) in_X8_init_3 tyX3 tyX3_ok (List.mem_of_getElem? (i := 9) rfl) (List.mem_of_getElem? (i := 10) rfl) (List.mem_of_getElem? (i := 11) rfl) rfl (by intro j hj; rcases (show j = 0 ∨ j = 1 by omega) with rfl | rfl <;> rfl) (Nat.le_of_ble_eq_true rfl) (Nat.le_of_ble_eq_true rfl) dX8_init_29 (fun q4 => ?_)
  refine i_dup C dX8_init_32 rfl ?_
  refine i_callN C (n := 0) (As := []) (st := [.ref q4, .ref h]) (fun sz => k_X3 l D cs q4  sz) gX8_init_X3_init_n24 rfl rfl rfl C.2.2.2.2.2.2.2.1.2.2.2.2.2.2 (C.2.2.2.2.1 _ (List.mem_of_getElem? (i := 11) rfl)) (List.mem_of_getElem? (i := 14) rfl) rfl (by decide +kernel) ⟨Nat.le_of_ble_eq_true rfl, Nat.le_of_ble_eq_true rfl⟩ rfl (Nat.le_of_ble_eq_true rfl) ⟨Nat.le_of_ble_eq_true rfl, Nat.le_of_ble_eq_true rfl⟩ rfl dX8_init_33 (fun u5 hu5 => ?_)
  refine i_putF C 4 in_X8_init_8 (List.mem_of_getElem? (i := 12) rfl) rfl (by decide) rfl tyX8 tyX8_ok nmX8 rfl rfl hini rfl rfl rfl (Nat.le_of_ble_eq_true rfl) dX8_init_36 ?_
  refine i_fs [.null, .ref q1, .ref q2, .ref q3, .ref q4] rfl ?_
  refine i_aload_n C 0 dX8_init_39 rfl ?_
  refine i_aload_n C 1 dX8_init_40 rfl ?_
  refine i_putF C 0 in_X8_init_8 (List.mem_of_getElem? (i := 13) rfl) rfl (by decide) rfl tyX8 tyX8_ok nmX8 rfl rfl hini rfl rfl rfl (Nat.le_of_ble_eq_true rfl) dX8_init_41 ?_
  refine i_fs [.ref x, .ref q1, .ref q2, .ref q3, .ref q4] rfl ?_
  refine i_widen 4 122 (Nat.le_of_ble_eq_true rfl) (Nat.le_of_ble_eq_true rfl) ?_
  obtain ⟨au5, bu5, cu5, eu5, rfl⟩ := hu5
  subst eu5
  exact i_vret C hr ⟨fun j => ([h, q1, q2, q3, (au5 0)] : List Nat).getD j 0, fun _ => 0, fun _ => 0, rfl, rfl⟩ dX8_init_44
theorem dX7_init_0 : decode cX7_init 0 = .ok (.aload_n 0, 1) := dw42 (n := 0) (i := 0) kc_cX7_init_0 (by decide +kernel)
theorem dX7_init_1 : decode cX7_init 1 = .ok (.invokespecial 3, 3) := dw183 (n := 0) (i := 1) (a := 0) (b := 3) kc_cX7_init_0 (by decide +kernel) (by decide)
theorem dX7_init_4 : decode cX7_init 4 = .ok (.aload_n 0, 1) := dw42 (n := 0) (i := 4) kc_cX7_init_0 (by decide +kernel)
theorem dX7_init_5 : decode cX7_init 5 = .ok (.iconst 0, 1) := dw3 (n := 0) (i := 5) kc_cX7_init_0 (by decide +kernel)
theorem dX7_init_6 : decode cX7_init 6 = .ok (.putfield 9, 3) := dw181 (n := 0) (i := 6) (a := 0) (b := 9) kc_cX7_init_0 (by decide +kernel) (by decide)
theorem in_X7_init_7 : ∀ w ∈ u_ws RX7 TX7 7, w ∈ wsX7_init := fun _ h => List.mem_cons_of_mem _ (List.mem_append_right _ h)
theorem dX7_init_9 : decode cX7_init 9 = .ok (.aload_n 0, 1) := dw42 (n := 0) (i := 9) kc_cX7_init_0 (by decide +kernel)
theorem dX7_init_10 : decode cX7_init 10 = .ok (.bipush 30, 2) := dw16 (n := 0) (i := 10) (a := 30) kc_cX7_init_0 (by decide +kernel) (by decide)
theorem dX7_init_12 : decode cX7_init 12 = .ok (.newarray .int, 2) := by decide +kernel
theorem dX7_init_14 : decode cX7_init 14 = .ok (.putfield 15, 3) := dw181 (n := 0) (i := 14) (a := 0) (b := 15) kc_cX7_init_0 (by decide +kernel) (by decide)
theorem dX7_init_17 : decode cX7_init 17 = .ok (.aload_n 0, 1) := dw42 (n := 0) (i := 17) kc_cX7_init_0 (by decide +kernel)
theorem dX7_init_18 : decode cX7_init 18 = .ok (.iconst 0, 1) := dw3 (n := 0) (i := 18) kc_cX7_init_0 (by decide +kernel)
theorem dX7_init_19 : decode cX7_init 19 = .ok (.putfield 19, 3) := dw181 (n := 0) (i := 19) (a := 0) (b := 19) kc_cX7_init_0 (by decide +kernel) (by decide)
theorem dX7_init_22 : decode cX7_init 22 = .ok (.aload_n 0, 1) := dw42 (n := 0) (i := 22) kc_cX7_init_0 (by decide +kernel)
theorem dX7_init_23 : decode cX7_init 23 = .ok (.bipush 30, 2) := dw16 (n := 0) (i := 23) (a := 30) kc_cX7_init_0 (by decide +kernel) (by decide)
theorem dX7_init_25 : decode cX7_init 25 = .ok (.newarray .int, 2) := by decide +kernel
theorem dX7_init_27 : decode cX7_init 27 = .ok (.putfield 22, 3) := dw181 (n := 0) (i := 27) (a := 0) (b := 22) kc_cX7_init_0 (by decide +kernel) (by decide)
theorem dX7_init_30 : decode cX7_init 30 = .ok (.aload_n 0, 1) := dw42 (n := 0) (i := 30) kc_cX7_init_0 (by decide +kernel)
theorem dX7_init_31 : decode cX7_init 31 = .ok (.bipush 30, 2) := dw16 (n := 0) (i := 31) (a := 30) kc_cX7_init_0 (by decide +kernel) (by decide)
theorem dX7_init_33 : decode cX7_init 33 = .ok (.newarray .int, 2) := by decide +kernel
theorem dX7_init_35 : decode cX7_init 35 = .ok (.putfield 25, 3) := dw181 (n := 32) (i := 3) (a := 0) (b := 25) kc_cX7_init_1 (by decide +kernel) (by decide)
theorem dX7_init_38 : decode cX7_init 38 = .ok (.aload_n 0, 1) := dw42 (n := 32) (i := 6) kc_cX7_init_1 (by decide +kernel)
theorem dX7_init_39 : decode cX7_init 39 = .ok (.bipush 30, 2) := dw16 (n := 32) (i := 7) (a := 30) kc_cX7_init_1 (by decide +kernel) (by decide)
theorem dX7_init_41 : decode cX7_init 41 = .ok (.bipush 10, 2) := dw16 (n := 32) (i := 9) (a := 10) kc_cX7_init_1 (by decide +kernel) (by decide)
theorem dX7_init_43 : decode cX7_init 43 = .ok (.multianewarray 28 2, 4) := by decide +kernel
theorem dX7_init_47 : decode cX7_init 47 = .ok (.putfield 30, 3) := dw181 (n := 32) (i := 15) (a := 0) (b := 30) kc_cX7_init_1 (by decide +kernel) (by decide)
theorem dX7_init_50 : decode cX7_init 50 = .ok (.aload_n 0, 1) := dw42 (n := 32) (i := 18) kc_cX7_init_1 (by decide +kernel)
theorem dX7_init_51 : decode cX7_init 51 = .ok (.bipush 30, 2) := dw16 (n := 32) (i := 19) (a := 30) kc_cX7_init_1 (by decide +kernel) (by decide)
theorem dX7_init_53 : decode cX7_init 53 = .ok (.bipush 10, 2) := dw16 (n := 32) (i := 21) (a := 10) kc_cX7_init_1 (by decide +kernel) (by decide)
theorem dX7_init_55 : decode cX7_init 55 = .ok (.multianewarray 28 2, 4) := by decide +kernel
theorem dX7_init_59 : decode cX7_init 59 = .ok (.putfield 33, 3) := dw181 (n := 32) (i := 27) (a := 0) (b := 33) kc_cX7_init_1 (by decide +kernel) (by decide)
theorem dX7_init_62 : decode cX7_init 62 = .ok (.return_, 1) := dw177 (n := 32) (i := 30) kc_cX7_init_1 (by decide +kernel)
def w_res (cs : Nat → ClassId) (a r r2 : Nat → Nat) (x y : Nat) : va_W := [(a 0, .inr (7, [.int 0, .ref (a 1), .int 0, .ref (a 2), .ref (a 3), .ref (a 4), .ref (a 5)])), (a 1, .inl (cs 0, 30, .inl (fun _ => 0))), (a 2, .inl (cs 0, 30, .inl (fun _ => 0))), (a 3, .inl (cs 0, 30, .inl (fun _ => 0))), (a 4, .inl (cs 4, 30, .inr (.inr (.inr (.inr (fun i => if i < 30 then some (r i) else none)))))), (a 5, .inl (cs 4, 30, .inr (.inr (.inr (.inr (fun i => if i < 30 then some (r2 i) else none))))))] ++ ((List.range 30).map (fun i => (r i, .inl (cs 1, 10, .inr (.inl (fun _ => 0))))) ++ (List.range 30).map (fun i => (r2 i, .inl (cs 1, 10, .inr (.inl (fun _ => 0))))))
set_option maxHeartbeats 4000000 in
set_option maxRecDepth 100000 in
theorem k_X7 (l : Launch) (D : va_G) (cs : Nat → ClassId) (h : Nat) (sz : Nat) : Kc l yX7_init wsX7_init ({ frames := 1, cells := 65, slots := 750, locals := 12 }) D cs h [] (.inr (7, [.int 0, .null, .int 0, .null, .null, .null, .null])) sz 65 750 (fun u => ∃ (a r r2 : Nat → Nat), a 0 = h ∧ u = w_res cs a r r2 0 0) := by
  refine enterI RX7 rfl rfl [(0, .ref h)] rfl (Nat.le_of_ble_eq_true rfl) (by decide +kernel) rfl ?_
  intro p e s m below meth c C hr hini
  refine i_aload_n C 0 dX7_init_0 rfl ?_
  refine i_objInit C (List.mem_of_getElem? (i := 1) rfl) (List.mem_of_getElem? (i := 2) rfl) (List.mem_of_getElem? (i := 3) rfl) dX7_init_1 (Nat.le_of_ble_eq_true rfl) (Nat.le_of_ble_eq_true rfl) ?_
  refine i_aload_n C 0 dX7_init_4 rfl ?_
  refine i_iconst C 0 dX7_init_5 (by decide) ?_
  refine i_put C 0 in_X7_init_7 (List.mem_of_getElem? (i := 4) rfl) rfl (by decide) rfl tyX7 tyX7_ok nmX7 rfl rfl rfl rfl (Nat.le_of_ble_eq_true rfl) dX7_init_6 ?_
  refine i_fs [.int 0, .null, .int 0, .null, .null, .null, .null] rfl ?_
  refine i_aload_n C 0 dX7_init_9 rfl ?_
  refine i_bipush C 30 dX7_init_10 (by decide) ?_
  refine i_newa C (atype := .int) (ty := .int) (N9 := 30) (t := 0) (a0 := (30, .inl (fun _ => 0))) (List.mem_of_getElem? (i := 5) rfl) rfl rfl (fun _ => rfl) (fun _ => rfl) (by decide) (by decide) (Nat.le_of_ble_eq_true rfl) (Nat.le_of_ble_eq_true rfl) (Nat.le_of_ble_eq_true rfl) dX7_init_12 (fun q1 => ?_)
  refine i_widen 1 30 (Nat.le_of_ble_eq_true rfl) (Nat.le_of_ble_eq_true rfl) ?_
  refine i_putF C 1 in_X7_init_7 (List.mem_of_getElem? (i := 6) rfl) rfl (by decide) rfl tyX7 tyX7_ok nmX7 rfl rfl hini rfl rfl rfl (Nat.le_of_ble_eq_true rfl) dX7_init_14 ?_
  refine i_fs [.int 0, .ref q1, .int 0, .null, .null, .null, .null] rfl ?_
  refine i_aload_n C 0 dX7_init_17 rfl ?_
  refine i_iconst C 0 dX7_init_18 (by decide) ?_
  refine i_put C 2 in_X7_init_7 (List.mem_of_getElem? (i := 7) rfl) rfl (by decide) rfl tyX7 tyX7_ok nmX7 rfl rfl rfl rfl (Nat.le_of_ble_eq_true rfl) dX7_init_19 ?_
  refine i_fs [.int 0, .ref q1, .int 0, .null, .null, .null, .null] rfl ?_
  refine i_aload_n C 0 dX7_init_22 rfl ?_
  refine i_bipush C 30 dX7_init_23 (by decide) ?_
  refine i_newa C (atype := .int) (ty := .int) (N9 := 30) (t := 0) (a0 := (30, .inl (fun _ => 0))) (List.mem_of_getElem? (i := 5) rfl) rfl rfl (fun _ => rfl) (fun _ => rfl) (by decide) (by decide) (Nat.le_of_ble_eq_true rfl) (Nat.le_of_ble_eq_true rfl) (Nat.le_of_ble_eq_true rfl) dX7_init_25 (fun q2 => ?_)
  refine i_widen 2 60 (Nat.le_of_ble_eq_true rfl) (Nat.le_of_ble_eq_true rfl) ?_
  refine i_putF C 3 in_X7_init_7 (List.mem_of_getElem? (i := 8) rfl) rfl (by decide) rfl tyX7 tyX7_ok nmX7 rfl rfl hini rfl rfl rfl (Nat.le_of_ble_eq_true rfl) dX7_init_27 ?_
  refine i_fs [.int 0, .ref q1, .int 0, .ref q2, .null, .null, .null] rfl ?_
  refine i_aload_n C 0 dX7_init_30 rfl ?_
  refine i_bipush C 30 dX7_init_31 (by decide) ?_
  refine i_newa C (atype := .int) (ty := .int) (N9 := 30) (t := 0) (a0 := (30, .inl (fun _ => 0))) (List.mem_of_getElem? (i := 5) rfl) rfl rfl (fun _ => rfl) (fun _ => rfl) (by decide) (by decide) (Nat.le_of_ble_eq_true rfl) (Nat.le_of_ble_eq_true rfl) (Nat.le_of_ble_eq_true rfl) dX7_init_33 (fun q3 => ?_)
  refine i_widen 3 90 (Nat.le_of_ble_eq_true rfl) (Nat.le_of_ble_eq_true rfl) ?_
  refine i_putF C 4 in_X7_init_7 (List.mem_of_getElem? (i := 9) rfl) rfl (by decide) rfl tyX7 tyX7_ok nmX7 rfl rfl hini rfl rfl rfl (Nat.le_of_ble_eq_true rfl) dX7_init_35 ?_
  refine i_fs [.int 0, .ref q1, .int 0, .ref q2, .ref q3, .null, .null] rfl ?_
  refine i_aload_n C 0 dX7_init_38 rfl ?_
  refine i_bipush C 30 dX7_init_39 (by decide) ?_
  refine i_bipush C 10 dX7_init_41 (by decide) ?_
  refine i_pool (fun _ => .inl (cs 0, 0, .inl (fun _ => 0))) ?_
  refine i_mna C (N9 := 30) (K9 := 10) (ty := .long) (t := 1) (t1 := 4) (z := (10, .inr (.inl (fun _ => 0)))) (by rw [show ("[" ++ (FieldType.array .long).toString) = "[[J" by decide +kernel]; exact List.mem_of_getElem? (i := 10) rfl) C.2.2.2.2.2.2.2.1.1.2 (List.mem_of_getElem? (i := 11) rfl) (C.2.2.2.2.2.2.1.2 1 _ rfl).2 rfl (fun _ => rfl) (by decide) (by decide) (by decide) (by decide) (Nat.le_of_ble_eq_true rfl) (Nat.le_of_ble_eq_true rfl) (Nat.le_of_ble_eq_true rfl) rfl rfl (Nat.le_of_ble_eq_true rfl) (Nat.le_of_ble_eq_true rfl) (fun c9 => arrV_new c9 _ _) dX7_init_43 (fun q4 r1 hn1 => ?_)
  refine i_widen 34 420 (Nat.le_of_ble_eq_true rfl) (Nat.le_of_ble_eq_true rfl) ?_
  refine i_putF C 5 in_X7_init_7 (List.mem_of_getElem? (i := 12) rfl) rfl (by decide) rfl tyX7 tyX7_ok nmX7 rfl rfl hini rfl rfl rfl (Nat.le_of_ble_eq_true rfl) dX7_init_47 ?_
  refine i_fs [.int 0, .ref q1, .int 0, .ref q2, .ref q3, .ref q4, .null] rfl ?_
  refine i_aload_n C 0 dX7_init_50 rfl ?_
  refine i_bipush C 30 dX7_init_51 (by decide) ?_
  refine i_bipush C 10 dX7_init_53 (by decide) ?_
  refine i_mna C (N9 := 30) (K9 := 10) (ty := .long) (t := 1) (t1 := 4) (z := (10, .inr (.inl (fun _ => 0)))) (by rw [show ("[" ++ (FieldType.array .long).toString) = "[[J" by decide +kernel]; exact List.mem_of_getElem? (i := 10) rfl) C.2.2.2.2.2.2.2.1.1.2 (List.mem_of_getElem? (i := 11) rfl) (C.2.2.2.2.2.2.1.2 1 _ rfl).2 rfl (fun _ => rfl) (by decide) (by decide) (by decide) (by decide) (Nat.le_of_ble_eq_true rfl) (Nat.le_of_ble_eq_true rfl) (Nat.le_of_ble_eq_true rfl) rfl rfl (Nat.le_of_ble_eq_true rfl) (Nat.le_of_ble_eq_true rfl) (fun c9 => arrV_new c9 _ _) dX7_init_55 (fun q5 r2 hn2 => ?_)
  refine i_widen 65 750 (Nat.le_of_ble_eq_true rfl) (Nat.le_of_ble_eq_true rfl) ?_
  refine i_putF C 6 in_X7_init_7 (List.mem_of_getElem? (i := 13) rfl) rfl (by decide) rfl tyX7 tyX7_ok nmX7 rfl rfl hini rfl rfl rfl (Nat.le_of_ble_eq_true rfl) dX7_init_59 ?_
  refine i_fs [.int 0, .ref q1, .int 0, .ref q2, .ref q3, .ref q4, .ref q5] rfl ?_
  refine i_widen 65 750 (Nat.le_of_ble_eq_true rfl) (Nat.le_of_ble_eq_true rfl) ?_
  exact i_vret C hr ⟨fun j => ([h, q1, q2, q3, q4, q5] : List Nat).getD j 0, r1, r2, rfl, by rw [pool2 _ _ _ _ _ _ _ hn2]; rfl⟩ dX7_init_62
