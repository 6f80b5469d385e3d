def M0 : MI := fun k => match k with
  | 0 => fun i => match i with
    | 8 => 125
    | 9 => 191
    | 10 => -9
    | _ => 0
  | 258 => fun i => match i with
    | 26 => -9
    | _ => 0
  | _ => fun _ => 0
def L0 : ML := fun k => match k with
  | 124 => fun i => match i with
    | 1 => 1
    | _ => 0
  | _ => fun _ => 0
theorem dX2_come_0 : decode cX2_come 0 = .ok (.aload_n 0, 1) := by decide +kernel
theorem dX2_come_1 : decode cX2_come 1 = .ok (.getfield 9, 3) := by decide +kernel
theorem in_X2_come_2 : ∀ w ∈ u_ws RX2 TX2 2, w ∈ wsX2_come := fun _ h => List.mem_cons_of_mem _ (List.mem_append_right _ h)
theorem dX2_come_4 : decode cX2_come 4 = .ok (.bipush 10, 2) := by decide +kernel
theorem dX2_come_6 : decode cX2_come 6 = .ok (.if_icmp .ne 6, 3) := by decide +kernel
theorem dX2_come_12 : decode cX2_come 12 = .ok (.aload_n 0, 1) := by decide +kernel
theorem dX2_come_13 : decode cX2_come 13 = .ok (.getfield 15, 3) := by decide +kernel
theorem dX2_come_16 : decode cX2_come 16 = .ok (.aload_n 0, 1) := by decide +kernel
theorem dX2_come_17 : decode cX2_come 17 = .ok (.getfield 9, 3) := by decide +kernel
theorem dX2_come_20 : decode cX2_come 20 = .ok (.aload_n 0, 1) := by decide +kernel
theorem dX2_come_21 : decode cX2_come 21 = .ok (.getfield 9, 3) := by decide +kernel
theorem dX2_come_24 : decode cX2_come 24 = .ok (.iastore, 1) := by decide +kernel
theorem dX2_come_25 : decode cX2_come 25 = .ok (.aload_n 0, 1) := by decide +kernel
theorem dX2_come_26 : decode cX2_come 26 = .ok (.dup, 1) := by decide +kernel
theorem dX2_come_27 : decode cX2_come 27 = .ok (.getfield 9, 3) := by decide +kernel
theorem dX2_come_30 : decode cX2_come 30 = .ok (.iconst 1, 1) := by decide +kernel
theorem dX2_come_31 : decode cX2_come 31 = .ok (.iadd, 1) := by decide +kernel
theorem dX2_come_32 : decode cX2_come 32 = .ok (.putfield 9, 3) := by decide +kernel
theorem dX2_come_35 : decode cX2_come 35 = .ok (.aload_n 0, 1) := by decide +kernel
theorem dX2_come_36 : decode cX2_come 36 = .ok (.getfield 9, 3) := by decide +kernel
theorem dX2_come_39 : decode cX2_come 39 = .ok (.iconst 1, 1) := by decide +kernel
theorem dX2_come_40 : decode cX2_come 40 = .ok (.isub, 1) := by decide +kernel
theorem dX2_come_41 : decode cX2_come 41 = .ok (.ireturn, 1) := by decide +kernel
set_option maxHeartbeats 4000000 in
set_option maxRecDepth 100000 in
theorem c_X2_come0 (l : Launch) (D : va_G) (ad : Nat → Nat) (cs : Nat → ClassId) (M : MI) (L : ML)  (hm : ∀ k, 0 ≤ k → k < 258 → M k = M0 k) : Ci l yX2_come wsX2_come ({ frames := 0, cells := 0, slots := 0, locals := 0 }) D ad cs [.ref (ad 1)] M L (fun r M1 L1 => r = 0 ∧ ∀ k, 258 ≤ k → M1 k = M k) := by
  refine enter_i RX2 rfl [(0, .ref (ad 1))] rfl (Nat.le_of_ble_eq_true rfl) (by decide +kernel) rfl ?_
  intro p e s m below meth c C hr
  refine g_aload_n C 0 dX2_come_0 rfl ?_
  refine g_get C (.int (M 1 0)) 0 in_X2_come_2 (List.mem_of_getElem? (i := 1) rfl) (by decide) (ce_cand ad cs _ _) rfl (by decide) rfl rfl dX2_come_1 ?_
  refine g_ti 0 (by (rw [hm 1 (by decide) (by decide)]; try rfl)) ?_
  refine g_bipush C 10 dX2_come_4 (by decide) ?_
  refine g_icmp_ne C 12 dX2_come_6 (by decide) (fun _ => ?_) (fun c1 => absurd c1 (by decide))
  refine g_aload_n C 0 dX2_come_12 rfl ?_
  refine g_get C (.ref (ad 2)) 1 in_X2_come_2 (List.mem_of_getElem? (i := 2) rfl) (by decide) (ce_cand ad cs _ _) rfl (by decide) rfl rfl dX2_come_13 ?_
  refine g_aload_n C 0 dX2_come_16 rfl ?_
  refine g_get C (.int (M 1 0)) 0 in_X2_come_2 (List.mem_of_getElem? (i := 1) rfl) (by decide) (ce_cand ad cs _ _) rfl (by decide) rfl rfl dX2_come_17 ?_
  refine g_ti 0 (by (rw [hm 1 (by decide) (by decide)]; try rfl)) ?_
  refine g_aload_n C 0 dX2_come_20 rfl ?_
  refine g_get C (.int (M 1 0)) 0 in_X2_come_2 (List.mem_of_getElem? (i := 1) rfl) (by decide) (ce_cand ad cs _ _) rfl (by decide) rfl rfl dX2_come_21 ?_
  refine g_ti 0 (by (rw [hm 1 (by decide) (by decide)]; try rfl)) ?_
  refine g_iast C (by decide) (ce_crow ad cs _ _) (by rw [sI_k]; rfl) (by unfold vp_in; decide) dX2_come_24 ?_
  refine g_nm (fun M2 hM2 => ?_)
  refine g_aload_n C 0 dX2_come_25 rfl ?_
  refine g_dup C dX2_come_26 rfl ?_
  refine g_get C (.int (M2 1 0)) 0 in_X2_come_2 (List.mem_of_getElem? (i := 1) rfl) (by decide) (ce_cand ad cs _ _) rfl (by decide) rfl rfl dX2_come_27 ?_
  refine g_ti 0 (by (rw [hM2, sI_at, if_neg (by decide), hm 1 (by decide) (by decide)]; try rfl)) ?_
  refine g_iconst C 1 dX2_come_30 (by decide) ?_
  refine g_iadd C dX2_come_31 ?_
  refine g_ti 1 (by decide) ?_
  refine g_putI C 0 in_X2_come_2 (List.mem_of_getElem? (i := 1) rfl) (by decide) (ce_cand ad cs _ _) rfl (by decide) rfl tyX2 tyX2_ok nmX2 rfl rfl rfl rfl (Nat.le_of_ble_eq_true rfl) (by rw [sI_k]; rfl) dX2_come_32 ?_
  refine g_nm (fun M3 hM3 => ?_)
  refine g_aload_n C 0 dX2_come_35 rfl ?_
  refine g_get C (.int (M3 1 0)) 0 in_X2_come_2 (List.mem_of_getElem? (i := 1) rfl) (by decide) (ce_cand ad cs _ _) rfl (by decide) rfl rfl dX2_come_36 ?_
  refine g_ti 1 (by (rw [hM3, sI_at, if_pos (by decide)]; try rfl)) ?_
  refine g_iconst C 1 dX2_come_39 (by decide) ?_
  refine g_isub C dX2_come_40 ?_
  refine g_ti 0 (by decide) ?_
  exact g_iret C hr ⟨by first | rfl | grind, fun k hk => by rw [hM3, sI_n _ _ _ (by omega), hM2, sI_n _ _ _ (by omega)]⟩ dX2_come_41
theorem dX0_come_0 : decode cX0_come 0 = .ok (.aload_n 0, 1) := by decide +kernel
theorem dX0_come_1 : decode cX0_come 1 = .ok (.getfield 9, 3) := by decide +kernel
theorem in_X0_come_0 : ∀ w ∈ u_ws RX0 TX0 5, w ∈ wsX0_come := fun _ h => List.mem_cons_of_mem _ (List.mem_append_right _ h)
theorem dX0_come_4 : decode cX0_come 4 = .ok (.bipush 60, 2) := by decide +kernel
theorem dX0_come_6 : decode cX0_come 6 = .ok (.if_icmp .ne 6, 3) := by decide +kernel
theorem dX0_come_12 : decode cX0_come 12 = .ok (.aload_n 0, 1) := by decide +kernel
theorem dX0_come_13 : decode cX0_come 13 = .ok (.getfield 15, 3) := by decide +kernel
theorem dX0_come_16 : decode cX0_come 16 = .ok (.aload_n 0, 1) := by decide +kernel
theorem dX0_come_17 : decode cX0_come 17 = .ok (.getfield 9, 3) := by decide +kernel
theorem dX0_come_20 : decode cX0_come 20 = .ok (.iload_n 1, 1) := by decide +kernel
theorem dX0_come_21 : decode cX0_come 21 = .ok (.iastore, 1) := by decide +kernel
theorem dX0_come_22 : decode cX0_come 22 = .ok (.aload_n 0, 1) := by decide +kernel
theorem dX0_come_23 : decode cX0_come 23 = .ok (.getfield 19, 3) := by decide +kernel
theorem dX0_come_26 : decode cX0_come 26 = .ok (.aload_n 0, 1) := by decide +kernel
theorem dX0_come_27 : decode cX0_come 27 = .ok (.getfield 9, 3) := by decide +kernel
theorem dX0_come_30 : decode cX0_come 30 = .ok (.iload_n 2, 1) := by decide +kernel
theorem dX0_come_31 : decode cX0_come 31 = .ok (.iastore, 1) := by decide +kernel
theorem dX0_come_32 : decode cX0_come 32 = .ok (.aload_n 0, 1) := by decide +kernel
theorem dX0_come_33 : decode cX0_come 33 = .ok (.dup, 1) := by decide +kernel
theorem dX0_come_34 : decode cX0_come 34 = .ok (.getfield 9, 3) := by decide +kernel
theorem dX0_come_37 : decode cX0_come 37 = .ok (.iconst 1, 1) := by decide +kernel
theorem dX0_come_38 : decode cX0_come 38 = .ok (.iadd, 1) := by decide +kernel
theorem dX0_come_39 : decode cX0_come 39 = .ok (.putfield 9, 3) := by decide +kernel
theorem dX0_come_42 : decode cX0_come 42 = .ok (.aload_n 0, 1) := by decide +kernel
theorem dX0_come_43 : decode cX0_come 43 = .ok (.getfield 9, 3) := by decide +kernel
theorem dX0_come_46 : decode cX0_come 46 = .ok (.iconst 1, 1) := by decide +kernel
theorem dX0_come_47 : decode cX0_come 47 = .ok (.isub, 1) := by decide +kernel
theorem dX0_come_48 : decode cX0_come 48 = .ok (.ireturn, 1) := by decide +kernel
set_option maxHeartbeats 4000000 in
set_option maxRecDepth 100000 in
theorem c_X0_come0 (l : Launch) (D : va_G) (ad : Nat → Nat) (cs : Nat → ClassId) (M : MI) (L : ML) (x1 : Int32) (x2 : Int32) (hm : ∀ k, 0 ≤ k → k < 258 → M k = M0 k) : Ci l yX0_come wsX0_come ({ frames := 0, cells := 0, slots := 0, locals := 0 }) D ad cs [.ref (ad 3), .int x1, .int x2] M L (fun r M1 L1 => r = 0 ∧ ∀ k, 258 ≤ k → M1 k = M k) := by
  refine enter_i RX0 rfl [(0, .ref (ad 3)), (1, .int x1), (2, .int x2)] rfl (Nat.le_of_ble_eq_true rfl) (by decide +kernel) rfl ?_
  intro p e s m below meth c C hr
  refine g_aload_n C 0 dX0_come_0 rfl ?_
  refine g_get C (.int (M 3 0)) 0 in_X0_come_0 (List.mem_of_getElem? (i := 1) rfl) (by decide) (ce_ball ad cs _ _) rfl (by decide) rfl rfl dX0_come_1 ?_
  refine g_ti 0 (by (rw [hm 3 (by decide) (by decide)]; try rfl)) ?_
  refine g_bipush C 60 dX0_come_4 (by decide) ?_
  refine g_icmp_ne C 12 dX0_come_6 (by decide) (fun _ => ?_) (fun c1 => absurd c1 (by decide))
  refine g_aload_n C 0 dX0_come_12 rfl ?_
  refine g_get C (.ref (ad 4)) 1 in_X0_come_0 (List.mem_of_getElem? (i := 2) rfl) (by decide) (ce_ball ad cs _ _) rfl (by decide) rfl rfl dX0_come_13 ?_
  refine g_aload_n C 0 dX0_come_16 rfl ?_
  refine g_get C (.int (M 3 0)) 0 in_X0_come_0 (List.mem_of_getElem? (i := 1) rfl) (by decide) (ce_ball ad cs _ _) rfl (by decide) rfl rfl dX0_come_17 ?_
  refine g_ti 0 (by (rw [hm 3 (by decide) (by decide)]; try rfl)) ?_
  refine g_iload_n C 1 dX0_come_20 rfl ?_
  refine g_iast C (by decide) (ce_bsort ad cs _ _) (by rw [sI_k]; rfl) (by unfold vp_in; decide) dX0_come_21 ?_
  refine g_nm (fun M2 hM2 => ?_)
  refine g_aload_n C 0 dX0_come_22 rfl ?_
  refine g_get C (.ref (ad 5)) 2 in_X0_come_0 (List.mem_of_getElem? (i := 3) rfl) (by decide) (ce_ball ad cs _ _) rfl (by decide) rfl rfl dX0_come_23 ?_
  refine g_aload_n C 0 dX0_come_26 rfl ?_
  refine g_get C (.int (M2 3 0)) 0 in_X0_come_0 (List.mem_of_getElem? (i := 1) rfl) (by decide) (ce_ball ad cs _ _) rfl (by decide) rfl rfl dX0_come_27 ?_
  refine g_ti 0 (by (rw [hM2, sI_at, if_neg (by decide), hm 3 (by decide) (by decide)]; try rfl)) ?_
  refine g_iload_n C 2 dX0_come_30 rfl ?_
  refine g_iast C (by decide) (ce_bpapers ad cs _ _) (by rw [sI_k]; rfl) (by unfold vp_in; decide) dX0_come_31 ?_
  refine g_nm (fun M3 hM3 => ?_)
  refine g_aload_n C 0 dX0_come_32 rfl ?_
  refine g_dup C dX0_come_33 rfl ?_
  refine g_get C (.int (M3 3 0)) 0 in_X0_come_0 (List.mem_of_getElem? (i := 1) rfl) (by decide) (ce_ball ad cs _ _) rfl (by decide) rfl rfl dX0_come_34 ?_
  refine g_ti 0 (by (rw [hM3, sI_at, if_neg (by decide), hM2, sI_at, if_neg (by decide), hm 3 (by decide) (by decide)]; try rfl)) ?_
  refine g_iconst C 1 dX0_come_37 (by decide) ?_
  refine g_iadd C dX0_come_38 ?_
  refine g_ti 1 (by decide) ?_
  refine g_putI C 0 in_X0_come_0 (List.mem_of_getElem? (i := 1) rfl) (by decide) (ce_ball ad cs _ _) rfl (by decide) rfl tyX0 tyX0_ok nmX0 rfl rfl rfl rfl (Nat.le_of_ble_eq_true rfl) (by rw [sI_k]; rfl) dX0_come_39 ?_
  refine g_nm (fun M4 hM4 => ?_)
  refine g_aload_n C 0 dX0_come_42 rfl ?_
  refine g_get C (.int (M4 3 0)) 0 in_X0_come_0 (List.mem_of_getElem? (i := 1) rfl) (by decide) (ce_ball ad cs _ _) rfl (by decide) rfl rfl dX0_come_43 ?_
  refine g_ti 1 (by (rw [hM4, sI_at, if_pos (by decide)]; try rfl)) ?_
  refine g_iconst C 1 dX0_come_46 (by decide) ?_
  refine g_isub C dX0_come_47 ?_
  refine g_ti 0 (by decide) ?_
  exact g_iret C hr ⟨by first | rfl | grind, fun k hk => by rw [hM4, sI_n _ _ _ (by omega), hM3, sI_n _ _ _ (by omega), hM2, sI_n _ _ _ (by omega)]⟩ dX0_come_48
theorem dX4_come_0 : decode cX4_come 0 = .ok (.aload_n 0, 1) := by decide +kernel
theorem dX4_come_1 : decode cX4_come 1 = .ok (.getfield 9, 3) := by decide +kernel
theorem in_X4_come_4 : ∀ w ∈ u_ws RX4 TX4 7, w ∈ wsX4_come := fun _ h => List.mem_cons_of_mem _ (List.mem_append_right _ h)
theorem dX4_come_4 : decode cX4_come 4 = .ok (.bipush 20, 2) := by decide +kernel
theorem dX4_come_6 : decode cX4_come 6 = .ok (.if_icmp .ne 6, 3) := by decide +kernel
theorem dX4_come_12 : decode cX4_come 12 = .ok (.aload_n 0, 1) := by decide +kernel
theorem dX4_come_13 : decode cX4_come 13 = .ok (.getfield 15, 3) := by decide +kernel
theorem dX4_come_16 : decode cX4_come 16 = .ok (.aload_n 0, 1) := by decide +kernel
theorem dX4_come_17 : decode cX4_come 17 = .ok (.getfield 9, 3) := by decide +kernel
theorem dX4_come_20 : decode cX4_come 20 = .ok (.iload_n 1, 1) := by decide +kernel
theorem dX4_come_21 : decode cX4_come 21 = .ok (.iastore, 1) := by decide +kernel
theorem dX4_come_22 : decode cX4_come 22 = .ok (.aload_n 0, 1) := by decide +kernel
theorem dX4_come_23 : decode cX4_come 23 = .ok (.getfield 25, 3) := by decide +kernel
theorem dX4_come_26 : decode cX4_come 26 = .ok (.aload_n 0, 1) := by decide +kernel
theorem dX4_come_27 : decode cX4_come 27 = .ok (.getfield 9, 3) := by decide +kernel
theorem dX4_come_30 : decode cX4_come 30 = .ok (.iload_n 2, 1) := by decide +kernel
theorem dX4_come_31 : decode cX4_come 31 = .ok (.iastore, 1) := by decide +kernel
theorem dX4_come_32 : decode cX4_come 32 = .ok (.aload_n 0, 1) := by decide +kernel
theorem dX4_come_33 : decode cX4_come 33 = .ok (.getfield 28, 3) := by decide +kernel
theorem dX4_come_36 : decode cX4_come 36 = .ok (.aload_n 0, 1) := by decide +kernel
theorem dX4_come_37 : decode cX4_come 37 = .ok (.getfield 9, 3) := by decide +kernel
theorem dX4_come_40 : decode cX4_come 40 = .ok (.iload_n 3, 1) := by decide +kernel
theorem dX4_come_41 : decode cX4_come 41 = .ok (.iastore, 1) := by decide +kernel
theorem dX4_come_42 : decode cX4_come 42 = .ok (.aload_n 0, 1) := by decide +kernel
theorem dX4_come_43 : decode cX4_come 43 = .ok (.getfield 22, 3) := by decide +kernel
theorem dX4_come_46 : decode cX4_come 46 = .ok (.aload_n 0, 1) := by decide +kernel
theorem dX4_come_47 : decode cX4_come 47 = .ok (.getfield 9, 3) := by decide +kernel
theorem dX4_come_50 : decode cX4_come 50 = .ok (.iload 4, 2) := by decide +kernel
theorem dX4_come_52 : decode cX4_come 52 = .ok (.iastore, 1) := by decide +kernel
theorem dX4_come_53 : decode cX4_come 53 = .ok (.aload_n 0, 1) := by decide +kernel
theorem dX4_come_54 : decode cX4_come 54 = .ok (.dup, 1) := by decide +kernel
theorem dX4_come_55 : decode cX4_come 55 = .ok (.getfield 9, 3) := by decide +kernel
theorem dX4_come_58 : decode cX4_come 58 = .ok (.iconst 1, 1) := by decide +kernel
theorem dX4_come_59 : decode cX4_come 59 = .ok (.iadd, 1) := by decide +kernel
theorem dX4_come_60 : decode cX4_come 60 = .ok (.putfield 9, 3) := by decide +kernel
theorem dX4_come_63 : decode cX4_come 63 = .ok (.aload_n 0, 1) := by decide +kernel
theorem dX4_come_64 : decode cX4_come 64 = .ok (.getfield 9, 3) := by decide +kernel
theorem dX4_come_67 : decode cX4_come 67 = .ok (.iconst 1, 1) := by decide +kernel
theorem dX4_come_68 : decode cX4_come 68 = .ok (.isub, 1) := by decide +kernel
theorem dX4_come_69 : decode cX4_come 69 = .ok (.ireturn, 1) := by decide +kernel
set_option maxHeartbeats 4000000 in
set_option maxRecDepth 100000 in
theorem c_X4_come0 (l : Launch) (D : va_G) (ad : Nat → Nat) (cs : Nat → ClassId) (M : MI) (L : ML) (x1 : Int32) (x2 : Int32) (x3 : Int32) (x4 : Int32) (hm : ∀ k, 0 ≤ k → k < 258 → M k = M0 k) : Ci l yX4_come wsX4_come ({ frames := 0, cells := 0, slots := 0, locals := 0 }) D ad cs [.ref (ad 81), .int x1, .int x2, .int x3, .int x4] M L (fun r M1 L1 => r = 0 ∧ ∀ k, 258 ≤ k → M1 k = M k) := by
  refine enter_i RX4 rfl [(0, .ref (ad 81)), (1, .int x1), (2, .int x2), (3, .int x3), (4, .int x4)] rfl (Nat.le_of_ble_eq_true rfl) (by decide +kernel) rfl ?_
  intro p e s m below meth c C hr
  refine g_aload_n C 0 dX4_come_0 rfl ?_
  refine g_get C (.int (M 81 0)) 0 in_X4_come_4 (List.mem_of_getElem? (i := 1) rfl) (by decide) (ce_meth ad cs _ _) rfl (by decide) rfl rfl dX4_come_1 ?_
  refine g_ti 0 (by (rw [hm 81 (by decide) (by decide)]; try rfl)) ?_
  refine g_bipush C 20 dX4_come_4 (by decide) ?_
  refine g_icmp_ne C 12 dX4_come_6 (by decide) (fun _ => ?_) (fun c1 => absurd c1 (by decide))
  refine g_aload_n C 0 dX4_come_12 rfl ?_
  refine g_get C (.ref (ad 82)) 1 in_X4_come_4 (List.mem_of_getElem? (i := 2) rfl) (by decide) (ce_meth ad cs _ _) rfl (by decide) rfl rfl dX4_come_13 ?_
  refine g_aload_n C 0 dX4_come_16 rfl ?_
  refine g_get C (.int (M 81 0)) 0 in_X4_come_4 (List.mem_of_getElem? (i := 1) rfl) (by decide) (ce_meth ad cs _ _) rfl (by decide) rfl rfl dX4_come_17 ?_
  refine g_ti 0 (by (rw [hm 81 (by decide) (by decide)]; try rfl)) ?_
  refine g_iload_n C 1 dX4_come_20 rfl ?_
  refine g_iast C (by decide) (ce_mkind ad cs _ _) (by rw [sI_k]; rfl) (by unfold vp_in; decide) dX4_come_21 ?_
  refine g_nm (fun M2 hM2 => ?_)
  refine g_aload_n C 0 dX4_come_22 rfl ?_
  refine g_get C (.ref (ad 85)) 4 in_X4_come_4 (List.mem_of_getElem? (i := 3) rfl) (by decide) (ce_meth ad cs _ _) rfl (by decide) rfl rfl dX4_come_23 ?_
  refine g_aload_n C 0 dX4_come_26 rfl ?_
  refine g_get C (.int (M2 81 0)) 0 in_X4_come_4 (List.mem_of_getElem? (i := 1) rfl) (by decide) (ce_meth ad cs _ _) rfl (by decide) rfl rfl dX4_come_27 ?_
  refine g_ti 0 (by (rw [hM2, sI_at, if_neg (by decide), hm 81 (by decide) (by decide)]; try rfl)) ?_
  refine g_iload_n C 2 dX4_come_30 rfl ?_
  refine g_iast C (by decide) (ce_mrank ad cs _ _) (by rw [sI_k]; rfl) (by unfold vp_in; decide) dX4_come_31 ?_
  refine g_nm (fun M3 hM3 => ?_)
  refine g_aload_n C 0 dX4_come_32 rfl ?_
  refine g_get C (.ref (ad 86)) 5 in_X4_come_4 (List.mem_of_getElem? (i := 4) rfl) (by decide) (ce_meth ad cs _ _) rfl (by decide) rfl rfl dX4_come_33 ?_
  refine g_aload_n C 0 dX4_come_36 rfl ?_
  refine g_get C (.int (M3 81 0)) 0 in_X4_come_4 (List.mem_of_getElem? (i := 1) rfl) (by decide) (ce_meth ad cs _ _) rfl (by decide) rfl rfl dX4_come_37 ?_
  refine g_ti 0 (by (rw [hM3, sI_at, if_neg (by decide), hM2, sI_at, if_neg (by decide), hm 81 (by decide) (by decide)]; try rfl)) ?_
  refine g_iload_n C 3 dX4_come_40 rfl ?_
  refine g_iast C (by decide) (ce_mmarks ad cs _ _) (by rw [sI_k]; rfl) (by unfold vp_in; decide) dX4_come_41 ?_
  refine g_nm (fun M4 hM4 => ?_)
  refine g_aload_n C 0 dX4_come_42 rfl ?_
  refine g_get C (.ref (ad 84)) 3 in_X4_come_4 (List.mem_of_getElem? (i := 5) rfl) (by decide) (ce_meth ad cs _ _) rfl (by decide) rfl rfl dX4_come_43 ?_
  refine g_aload_n C 0 dX4_come_46 rfl ?_
  refine g_get C (.int (M4 81 0)) 0 in_X4_come_4 (List.mem_of_getElem? (i := 1) rfl) (by decide) (ce_meth ad cs _ _) rfl (by decide) rfl rfl dX4_come_47 ?_
  refine g_ti 0 (by (rw [hM4, sI_at, if_neg (by decide), hM3, sI_at, if_neg (by decide), hM2, sI_at, if_neg (by decide), hm 81 (by decide) (by decide)]; try rfl)) ?_
  refine g_iload C 4 dX4_come_50 rfl ?_
  refine g_iast C (by decide) (ce_mneed ad cs _ _) (by rw [sI_k]; rfl) (by unfold vp_in; decide) dX4_come_52 ?_
  refine g_nm (fun M5 hM5 => ?_)
  refine g_aload_n C 0 dX4_come_53 rfl ?_
  refine g_dup C dX4_come_54 rfl ?_
  refine g_get C (.int (M5 81 0)) 0 in_X4_come_4 (List.mem_of_getElem? (i := 1) rfl) (by decide) (ce_meth ad cs _ _) rfl (by decide) rfl rfl dX4_come_55 ?_
  refine g_ti 0 (by (rw [hM5, sI_at, if_neg (by decide), hM4, sI_at, if_neg (by decide), hM3, sI_at, if_neg (by decide), hM2, sI_at, if_neg (by decide), hm 81 (by decide) (by decide)]; try rfl)) ?_
  refine g_iconst C 1 dX4_come_58 (by decide) ?_
  refine g_iadd C dX4_come_59 ?_
  refine g_ti 1 (by decide) ?_
  refine g_putI C 0 in_X4_come_4 (List.mem_of_getElem? (i := 1) rfl) (by decide) (ce_meth ad cs _ _) rfl (by decide) rfl tyX4 tyX4_ok nmX4 rfl rfl rfl rfl (Nat.le_of_ble_eq_true rfl) (by rw [sI_k]; rfl) dX4_come_60 ?_
  refine g_nm (fun M6 hM6 => ?_)
  refine g_aload_n C 0 dX4_come_63 rfl ?_
  refine g_get C (.int (M6 81 0)) 0 in_X4_come_4 (List.mem_of_getElem? (i := 1) rfl) (by decide) (ce_meth ad cs _ _) rfl (by decide) rfl rfl dX4_come_64 ?_
  refine g_ti 1 (by (rw [hM6, sI_at, if_pos (by decide)]; try rfl)) ?_
  refine g_iconst C 1 dX4_come_67 (by decide) ?_
  refine g_isub C dX4_come_68 ?_
  refine g_ti 0 (by decide) ?_
  exact g_iret C hr ⟨by first | rfl | grind, fun k hk => by rw [hM6, sI_n _ _ _ (by omega), hM5, sI_n _ _ _ (by omega), hM4, sI_n _ _ _ (by omega), hM3, sI_n _ _ _ (by omega), hM2, sI_n _ _ _ (by omega)]⟩ dX4_come_69
theorem dX4_firstToStart_0 : decode cX4_firstToStart 0 = .ok (.iconst 0, 1) := by decide +kernel
theorem dX4_firstToStart_1 : decode cX4_firstToStart 1 = .ok (.istore_n 2, 1) := by decide +kernel
theorem dX4_firstToStart_2 : decode cX4_firstToStart 2 = .ok (.iload_n 2, 1) := by decide +kernel
theorem dX4_firstToStart_3 : decode cX4_firstToStart 3 = .ok (.aload_n 0, 1) := by decide +kernel
theorem dX4_firstToStart_4 : decode cX4_firstToStart 4 = .ok (.getfield 9, 3) := by decide +kernel
theorem in_X4_firstToStart_4 : ∀ w ∈ u_ws RX4 TX4 7, w ∈ wsX4_firstToStart := fun _ h => List.mem_cons_of_mem _ (List.mem_append_right _ h)
theorem dX4_firstToStart_7 : decode cX4_firstToStart 7 = .ok (.if_icmp .ge 32, 3) := by decide +kernel
theorem dX4_firstToStart_39 : decode cX4_firstToStart 39 = .ok (.bipush (-9), 2) := by decide +kernel
theorem dX4_firstToStart_41 : decode cX4_firstToStart 41 = .ok (.ireturn, 1) := by decide +kernel
set_option maxHeartbeats 4000000 in
set_option maxRecDepth 100000 in
theorem c_X4_fts0 (l : Launch) (D : va_G) (ad : Nat → Nat) (cs : Nat → ClassId) (M : MI) (L : ML) (x1 : Int32) (hm : ∀ k, 0 ≤ k → k < 258 → M k = M0 k) : Ci l yX4_firstToStart wsX4_firstToStart ({ frames := 0, cells := 0, slots := 0, locals := 0 }) D ad cs [.ref (ad 81), .int x1] M L (fun r M1 L1 => r = -9 ∧ ∀ k, 258 ≤ k → M1 k = M k) := by
  refine enter_i RX4 rfl [(0, .ref (ad 81)), (1, .int x1)] rfl (Nat.le_of_ble_eq_true rfl) (by decide +kernel) rfl ?_
  intro p e s m below meth c C hr
  refine g_iconst C 0 dX4_firstToStart_0 (by decide) ?_
  refine g_istore_n C [(2, .int 0), (0, .ref (ad 81)), (1, .int x1)] dX4_firstToStart_1 (by decide) rfl ?_
  refine g_iload_n C 0 dX4_firstToStart_2 rfl ?_
  refine g_aload_n C 1 dX4_firstToStart_3 rfl ?_
  refine g_get C (.int (M 81 0)) 0 in_X4_firstToStart_4 (List.mem_of_getElem? (i := 1) rfl) (by decide) (ce_meth ad cs _ _) rfl (by decide) rfl rfl dX4_firstToStart_4 ?_
  refine g_ti 0 (by (rw [hm 81 (by decide) (by decide)]; try rfl)) ?_
  refine g_icmp_ge C 39 dX4_firstToStart_7 (by decide) (fun _ => ?_) (fun c1 => absurd c1 (by decide))
  refine g_bipush C (-9) dX4_firstToStart_39 (by decide) ?_
  exact g_iret C hr ⟨by first | rfl | grind, fun k hk => rfl⟩ dX4_firstToStart_41
theorem dX7_hasRound_0 : decode cX7_hasRound 0 = .ok (.iload_n 1, 1) := by decide +kernel
theorem dX7_hasRound_1 : decode cX7_hasRound 1 = .ok (.ifCond .lt 15, 3) := by decide +kernel
theorem dX7_hasRound_16 : decode cX7_hasRound 16 = .ok (.iconst 0, 1) := by decide +kernel
theorem dX7_hasRound_17 : decode cX7_hasRound 17 = .ok (.ireturn, 1) := by decide +kernel
theorem dX7_hasRound_4 : decode cX7_hasRound 4 = .ok (.iload_n 1, 1) := by decide +kernel
theorem dX7_hasRound_5 : decode cX7_hasRound 5 = .ok (.aload_n 0, 1) := by decide +kernel
theorem dX7_hasRound_6 : decode cX7_hasRound 6 = .ok (.getfield 19, 3) := by decide +kernel
theorem in_X7_hasRound_7 : ∀ w ∈ u_ws RX7 TX7 7, w ∈ wsX7_hasRound := fun _ h => List.mem_cons_of_mem _ (List.mem_append_right _ h)
theorem dX7_hasRound_9 : decode cX7_hasRound 9 = .ok (.if_icmp .ge 7, 3) := by decide +kernel
theorem dX7_hasRound_12 : decode cX7_hasRound 12 = .ok (.iconst 1, 1) := by decide +kernel
theorem dX7_hasRound_13 : decode cX7_hasRound 13 = .ok (.goto 4, 3) := by decide +kernel
set_option maxHeartbeats 4000000 in
set_option maxRecDepth 100000 in
theorem c_X7_hasRound0 (l : Launch) (D : va_G) (ad : Nat → Nat) (cs : Nat → ClassId) (M : MI) (L : ML) (x1 : Int32) (hm : ∀ k, 0 ≤ k → k < 258 → M k = M0 k) : Ci l yX7_hasRound wsX7_hasRound ({ frames := 0, cells := 0, slots := 0, locals := 0 }) D ad cs [.ref (ad 125), .int x1] M L (fun r M1 L1 => M1 = M ∧ L1 = L ∧ r = 0) := by
  refine enter_i RX7 rfl [(0, .ref (ad 125)), (1, .int x1)] rfl (Nat.le_of_ble_eq_true rfl) (by decide +kernel) rfl ?_
  intro p e s m below meth c C hr
  refine g_iload_n C 1 dX7_hasRound_0 rfl ?_
  refine g_if_lt C 16 dX7_hasRound_1 (by decide) (fun c1 => ?_) (fun c1 => ?_)
  ·
    refine g_iconst C 0 dX7_hasRound_16 (by decide) ?_
    exact g_zret C hr (by first | rfl | (exfalso; grind)) ⟨rfl, rfl, by first | rfl | (exfalso; grind)⟩ dX7_hasRound_17
  ·
    refine g_iload_n C 1 dX7_hasRound_4 rfl ?_
    refine g_aload_n C 0 dX7_hasRound_5 rfl ?_
    refine g_get C (.int (M 125 2)) 2 in_X7_hasRound_7 (List.mem_of_getElem? (i := 1) rfl) (by decide) (ce_ra ad cs _ _) rfl (by decide) rfl rfl dX7_hasRound_6 ?_
    refine g_ti 0 (by (rw [hm 125 (by decide) (by decide)]; try rfl)) ?_
    refine g_icmp_ge C 16 dX7_hasRound_9 (by decide) (fun c2 => ?_) (fun c2 => ?_)
    ·
      refine g_iconst C 0 dX7_hasRound_16 (by decide) ?_
      exact g_zret C hr (by first | rfl | (exfalso; grind)) ⟨rfl, rfl, by first | rfl | (exfalso; grind)⟩ dX7_hasRound_17
    ·
      refine g_iconst C 1 dX7_hasRound_12 (by decide) ?_
      refine g_goto C 17 dX7_hasRound_13 (by decide) ?_
      exact g_zret C hr (by first | rfl | (exfalso; grind)) ⟨rfl, rfl, by first | rfl | (exfalso; grind)⟩ dX7_hasRound_17
theorem dX10_found_0 : decode cX10_found 0 = .ok (.aload_n 0, 1) := by decide +kernel
theorem dX10_found_1 : decode cX10_found 1 = .ok (.iload_n 1, 1) := by decide +kernel
theorem dX10_found_2 : decode cX10_found 2 = .ok (.putfield 83, 3) := by decide +kernel
theorem in_X10_found_10 : ∀ w ∈ u_ws RX10 TX10 13, w ∈ wsX10_found := fun _ h => List.mem_cons_of_mem _ (List.mem_append_right _ h)
theorem dX10_found_5 : decode cX10_found 5 = .ok (.aload_n 0, 1) := by decide +kernel
theorem dX10_found_6 : decode cX10_found 6 = .ok (.getfield 86, 3) := by decide +kernel
theorem dX10_found_9 : decode cX10_found 9 = .ok (.iload_n 1, 1) := by decide +kernel
theorem dX10_found_10 : decode cX10_found 10 = .ok (.dup2, 1) := by decide +kernel
theorem dX10_found_11 : decode cX10_found 11 = .ok (.iaload, 1) := by decide +kernel
theorem dX10_found_12 : decode cX10_found 12 = .ok (.iconst 1, 1) := by decide +kernel
theorem dX10_found_13 : decode cX10_found 13 = .ok (.iadd, 1) := by decide +kernel
theorem dX10_found_14 : decode cX10_found 14 = .ok (.iastore, 1) := by decide +kernel
theorem dX10_found_15 : decode cX10_found 15 = .ok (.bipush (-3), 2) := by decide +kernel
theorem dX10_found_17 : decode cX10_found 17 = .ok (.ireturn, 1) := by decide +kernel
set_option maxHeartbeats 4000000 in
set_option maxRecDepth 100000 in
theorem c_X10_found0 (l : Launch) (D : va_G) (ad : Nat → Nat) (cs : Nat → ClassId) (M : MI) (L : ML) (x1 : Int32) (h_in_x1 : vp_in x1 7) : Ci l yX10_found wsX10_found ({ frames := 0, cells := 0, slots := 0, locals := 0 }) D ad cs [.ref (ad 0), .int x1] M L (fun r M1 L1 => r = -3 ∧ ∀ k, 258 ≤ k → M1 k = M k) := by
  refine enter_i RX10 rfl [(0, .ref (ad 0)), (1, .int x1)] rfl (Nat.le_of_ble_eq_true rfl) (by decide +kernel) rfl ?_
  intro p e s m below meth c C hr
  refine g_aload_n C 0 dX10_found_0 rfl ?_
  refine g_iload_n C 1 dX10_found_1 rfl ?_
  refine g_putI C 11 in_X10_found_10 (List.mem_of_getElem? (i := 1) rfl) (by decide) (ce_house ad cs _ _) rfl (by decide) rfl tyX10 tyX10_ok nmX10 rfl rfl rfl rfl (Nat.le_of_ble_eq_true rfl) (by rw [sI_k]; rfl) dX10_found_2 ?_
  refine g_nm (fun M1 hM1 => ?_)
  refine g_aload_n C 0 dX10_found_5 rfl ?_
  refine g_get C (.ref (ad 257)) 12 in_X10_found_10 (List.mem_of_getElem? (i := 2) rfl) (by decide) (ce_house ad cs _ _) rfl (by decide) rfl rfl dX10_found_6 ?_
  refine g_iload_n C 1 dX10_found_9 rfl ?_
  refine g_dup2 C dX10_found_10 rfl rfl ?_
  refine g_iald C (by decide) (ce_times ad cs _ _) (h_in_x1) dX10_found_11 ?_
  refine g_ni (fun v2 ev2 => ?_)
  refine g_iconst C 1 dX10_found_12 (by decide) ?_
  refine g_iadd C dX10_found_13 ?_
  refine g_ni (fun v3 ev3 => ?_)
  refine g_iast C (by decide) (ce_times ad cs _ _) (by rw [sI_k]; rfl) (h_in_x1) dX10_found_14 ?_
  refine g_nm (fun M4 hM4 => ?_)
  refine g_bipush C (-3) dX10_found_15 (by decide) ?_
  exact g_iret C hr ⟨by first | rfl | grind, fun k hk => by rw [hM4, sI_n _ _ _ (by omega), hM1, sI_n _ _ _ (by omega)]⟩ dX10_found_17
theorem dX1_come_0 : decode cX1_come 0 = .ok (.aload_n 0, 1) := by decide +kernel
theorem dX1_come_1 : decode cX1_come 1 = .ok (.getfield 9, 3) := by decide +kernel
theorem in_X1_come_1 : ∀ w ∈ u_ws RX1 TX1 5, w ∈ wsX1_come := fun _ h => List.mem_cons_of_mem _ (List.mem_append_right _ h)
theorem dX1_come_4 : decode cX1_come 4 = .ok (.bipush 8, 2) := by decide +kernel
theorem dX1_come_6 : decode cX1_come 6 = .ok (.if_icmp .ne 6, 3) := by decide +kernel
theorem dX1_come_12 : decode cX1_come 12 = .ok (.aload_n 0, 1) := by decide +kernel
theorem dX1_come_13 : decode cX1_come 13 = .ok (.getfield 15, 3) := by decide +kernel
theorem dX1_come_16 : decode cX1_come 16 = .ok (.aload_n 0, 1) := by decide +kernel
theorem dX1_come_17 : decode cX1_come 17 = .ok (.getfield 9, 3) := by decide +kernel
theorem dX1_come_20 : decode cX1_come 20 = .ok (.iload_n 1, 1) := by decide +kernel
theorem dX1_come_21 : decode cX1_come 21 = .ok (.iastore, 1) := by decide +kernel
theorem dX1_come_22 : decode cX1_come 22 = .ok (.aload_n 0, 1) := by decide +kernel
theorem dX1_come_23 : decode cX1_come 23 = .ok (.getfield 19, 3) := by decide +kernel
theorem dX1_come_26 : decode cX1_come 26 = .ok (.aload_n 0, 1) := by decide +kernel
theorem dX1_come_27 : decode cX1_come 27 = .ok (.getfield 9, 3) := by decide +kernel
theorem dX1_come_30 : decode cX1_come 30 = .ok (.iload_n 2, 1) := by decide +kernel
theorem dX1_come_31 : decode cX1_come 31 = .ok (.iastore, 1) := by decide +kernel
theorem dX1_come_32 : decode cX1_come 32 = .ok (.iconst 0, 1) := by decide +kernel
theorem dX1_come_33 : decode cX1_come 33 = .ok (.istore_n 3, 1) := by decide +kernel
theorem dX1_come_34 : decode cX1_come 34 = .ok (.iload_n 3, 1) := by decide +kernel
theorem dX1_come_35 : decode cX1_come 35 = .ok (.iload_n 2, 1) := by decide +kernel
theorem dX1_come_36 : decode cX1_come 36 = .ok (.if_icmp .ge 22, 3) := by decide +kernel
theorem dX1_come_58 : decode cX1_come 58 = .ok (.aload_n 0, 1) := by decide +kernel
theorem dX1_come_59 : decode cX1_come 59 = .ok (.dup, 1) := by decide +kernel
theorem dX1_come_60 : decode cX1_come 60 = .ok (.getfield 9, 3) := by decide +kernel
theorem dX1_come_63 : decode cX1_come 63 = .ok (.iconst 1, 1) := by decide +kernel
theorem dX1_come_64 : decode cX1_come 64 = .ok (.iadd, 1) := by decide +kernel
theorem dX1_come_65 : decode cX1_come 65 = .ok (.putfield 9, 3) := by decide +kernel
theorem dX1_come_68 : decode cX1_come 68 = .ok (.aload_n 0, 1) := by decide +kernel
theorem dX1_come_69 : decode cX1_come 69 = .ok (.getfield 9, 3) := by decide +kernel
theorem dX1_come_72 : decode cX1_come 72 = .ok (.iconst 1, 1) := by decide +kernel
theorem dX1_come_73 : decode cX1_come 73 = .ok (.isub, 1) := by decide +kernel
theorem dX1_come_74 : decode cX1_come 74 = .ok (.ireturn, 1) := by decide +kernel
theorem dX1_come_39 : decode cX1_come 39 = .ok (.aload_n 0, 1) := by decide +kernel
theorem dX1_come_40 : decode cX1_come 40 = .ok (.getfield 24, 3) := by decide +kernel
theorem dX1_come_43 : decode cX1_come 43 = .ok (.aload_n 0, 1) := by decide +kernel
theorem dX1_come_44 : decode cX1_come 44 = .ok (.getfield 9, 3) := by decide +kernel
theorem dX1_come_47 : decode cX1_come 47 = .ok (.aaload, 1) := by decide +kernel
theorem dX1_come_48 : decode cX1_come 48 = .ok (.iload_n 3, 1) := by decide +kernel
theorem dX1_come_49 : decode cX1_come 49 = .ok (.bipush (-9), 2) := by decide +kernel
theorem dX1_come_51 : decode cX1_come 51 = .ok (.iastore, 1) := by decide +kernel
theorem dX1_come_52 : decode cX1_come 52 = .ok (.iinc 3 1, 3) := by decide +kernel
theorem dX1_come_55 : decode cX1_come 55 = .ok (.goto (-21), 3) := by decide +kernel
set_option maxHeartbeats 4000000 in
set_option maxRecDepth 100000 in
theorem c_X1_come0 (l : Launch) (D : va_G) (ad : Nat → Nat) (cs : Nat → ClassId) (M : MI) (L : ML) (x1 : Int32) (x2 : Int32) (hm : ∀ k, 0 ≤ k → k < 258 → M k = M0 k) (hx2 : x2.toInt ≤ (40 : Nat)) : Ci l yX1_come wsX1_come ({ frames := 0, cells := 0, slots := 0, locals := 0 }) D ad cs [.ref (ad 68), .int x1, .int x2] M L (fun r M1 L1 => r = 0 ∧ ∀ k, 258 ≤ k → M1 k = M k) := by
  refine enter_i RX1 rfl [(0, .ref (ad 68)), (1, .int x1), (2, .int x2)] rfl (Nat.le_of_ble_eq_true rfl) (by decide +kernel) rfl ?_
  intro p e s m below meth c C hr
  refine g_aload_n C 0 dX1_come_0 rfl ?_
  refine g_get C (.int (M 68 0)) 0 in_X1_come_1 (List.mem_of_getElem? (i := 1) rfl) (by decide) (ce_box ad cs _ _) rfl (by decide) rfl rfl dX1_come_1 ?_
  refine g_ti 0 (by (rw [hm 68 (by decide) (by decide)]; try rfl)) ?_
  refine g_bipush C 8 dX1_come_4 (by decide) ?_
  refine g_icmp_ne C 12 dX1_come_6 (by decide) (fun _ => ?_) (fun c1 => absurd c1 (by decide))
  refine g_aload_n C 0 dX1_come_12 rfl ?_
  refine g_get C (.ref (ad 69)) 1 in_X1_come_1 (List.mem_of_getElem? (i := 2) rfl) (by decide) (ce_box ad cs _ _) rfl (by decide) rfl rfl dX1_come_13 ?_
  refine g_aload_n C 0 dX1_come_16 rfl ?_
  refine g_get C (.int (M 68 0)) 0 in_X1_come_1 (List.mem_of_getElem? (i := 1) rfl) (by decide) (ce_box ad cs _ _) rfl (by decide) rfl rfl dX1_come_17 ?_
  refine g_ti 0 (by (rw [hm 68 (by decide) (by decide)]; try rfl)) ?_
  refine g_iload_n C 1 dX1_come_20 rfl ?_
  refine g_iast C (by decide) (ce_xsort ad cs _ _) (by rw [sI_k]; rfl) (by unfold vp_in; decide) dX1_come_21 ?_
  refine g_nm (fun M2 hM2 => ?_)
  refine g_aload_n C 0 dX1_come_22 rfl ?_
  refine g_get C (.ref (ad 70)) 2 in_X1_come_1 (List.mem_of_getElem? (i := 3) rfl) (by decide) (ce_box ad cs _ _) rfl (by decide) rfl rfl dX1_come_23 ?_
  refine g_aload_n C 0 dX1_come_26 rfl ?_
  refine g_get C (.int (M2 68 0)) 0 in_X1_come_1 (List.mem_of_getElem? (i := 1) rfl) (by decide) (ce_box ad cs _ _) rfl (by decide) rfl rfl dX1_come_27 ?_
  refine g_ti 0 (by (rw [hM2, sI_at, if_neg (by decide), hm 68 (by decide) (by decide)]; try rfl)) ?_
  refine g_iload_n C 2 dX1_come_30 rfl ?_
  refine g_iast C (by decide) (ce_xsize ad cs _ _) (by rw [sI_k]; rfl) (by unfold vp_in; decide) dX1_come_31 ?_
  refine g_nm (fun M3 hM3 => ?_)
  refine g_iconst C 0 dX1_come_32 (by decide) ?_
  refine g_istore_n C [(3, .int 0), (0, .ref (ad 68)), (1, .int x1), (2, .int x2)] dX1_come_33 (by decide) rfl ?_
  have hI0 : M3 68 0 = 0 := by (rw [hM3, sI_at, if_neg (by decide), hM2, sI_at, if_neg (by decide), hm 68 (by decide) (by decide)]; try rfl)
  have hI1 : ∀ k, 258 ≤ k → M3 k = M k := fun k hk => by rw [hM3, sI_n _ _ _ (by omega), hM2, sI_n _ _ _ (by omega)]
  refine g_loop (α := Int32 × MI) (fun a => (41 - a.1.toInt).toNat) (fun a => 0 ≤ a.1.toInt ∧ a.1.toInt ≤ 40 ∧ a.2 68 0 = 0 ∧ ∀ k, 258 ≤ k → a.2 k = M k) (fun a => a.2) (fun _ => L) (fun a => [(3, .int a.1), (0, .ref (ad 68)), (1, .int x1), (2, .int x2)]) (0, M3) ⟨by show 0 ≤ (0 : Int32).toInt; decide, by show (0 : Int32).toInt ≤ 40; decide, hI0, hI1⟩ rfl rfl rfl ?_
  rintro ⟨x, Mx⟩ ⟨h0, h1, hI⟩ ih
  dsimp only at h0 h1 hI ih ⊢
  refine g_iload_n C 0 dX1_come_34 rfl ?_
  refine g_iload_n C 3 dX1_come_35 rfl ?_
  refine g_icmp_ge C 58 dX1_come_36 (by decide) (fun c4 => ?_) (fun c4 => ?_)
  ·
    refine g_aload_n C 1 dX1_come_58 rfl ?_
    refine g_dup C dX1_come_59 rfl ?_
    refine g_get C (.int (Mx 68 0)) 0 in_X1_come_1 (List.mem_of_getElem? (i := 1) rfl) (by decide) (ce_box ad cs _ _) rfl (by decide) rfl rfl dX1_come_60 ?_
    refine g_ti 0 (by (rw [hI.1]; try rfl)) ?_
    refine g_iconst C 1 dX1_come_63 (by decide) ?_
    refine g_iadd C dX1_come_64 ?_
    refine g_ti 1 (by decide) ?_
    refine g_putI C 0 in_X1_come_1 (List.mem_of_getElem? (i := 1) rfl) (by decide) (ce_box ad cs _ _) rfl (by decide) rfl tyX1 tyX1_ok nmX1 rfl rfl rfl rfl (Nat.le_of_ble_eq_true rfl) (by rw [sI_k]; rfl) dX1_come_65 ?_
    refine g_nm (fun M5 hM5 => ?_)
    refine g_aload_n C 1 dX1_come_68 rfl ?_
    refine g_get C (.int (M5 68 0)) 0 in_X1_come_1 (List.mem_of_getElem? (i := 1) rfl) (by decide) (ce_box ad cs _ _) rfl (by decide) rfl rfl dX1_come_69 ?_
    refine g_ti 1 (by (rw [hM5, sI_at, if_pos (by decide)]; try rfl)) ?_
    refine g_iconst C 1 dX1_come_72 (by decide) ?_
    refine g_isub C dX1_come_73 ?_
    refine g_ti 0 (by decide) ?_
    exact g_iret C hr ⟨by first | rfl | grind, fun k hk => by rw [hM5, sI_n _ _ _ (by omega), hI.2 k hk]⟩ dX1_come_74
  ·
    have h_in_x : vp_in x 40 := in_lt h0 c4 hx2
    have jx : x.toInt < x2.toInt := by have h := c4; rw [Int32.le_iff_toInt_le] at h; omega
    refine g_aload_n C 1 dX1_come_39 rfl ?_
    refine g_get C (.ref (ad 71)) 3 in_X1_come_1 (List.mem_of_getElem? (i := 4) rfl) (by decide) (ce_box ad cs _ _) rfl (by decide) rfl rfl dX1_come_40 ?_
    refine g_aload_n C 1 dX1_come_43 rfl ?_
    refine g_get C (.int (Mx 68 0)) 0 in_X1_come_1 (List.mem_of_getElem? (i := 1) rfl) (by decide) (ce_box ad cs _ _) rfl (by decide) rfl rfl dX1_come_44 ?_
    refine g_ti 0 (by (rw [hI.1]; try rfl)) ?_
    refine g_aald C (by decide) (ce_xplacem ad cs _ _) rfl (by unfold vp_in; decide) dX1_come_47 ?_
    refine g_tr 73 rfl ?_
    refine g_iload_n C 0 dX1_come_48 rfl ?_
    refine g_bipush C (-9) dX1_come_49 (by decide) ?_
    refine g_iast C (by decide) rfl (by rw [sI_k]; rfl) (h_in_x) dX1_come_51 ?_
    refine g_nm (fun M6 hM6 => ?_)
    obtain ⟨v7, ev7⟩ : ∃ y : Int32, y = x + 1 := ⟨_, rfl⟩
    refine g_iinc C 0 v7 [(3, .int v7), (0, .ref (ad 68)), (1, .int x1), (2, .int x2)] dX1_come_52 rfl (by rw [ev7]; rfl) (by decide) rfl ?_
    refine g_goto C 34 dX1_come_55 (by decide) ?_
    have j0 : v7.toInt = x.toInt + 1 := by rw [ev7, i_succ (by omega)]
    have j1 : M6 68 0 = 0 := by rw [hM6, sI_n _ _ _ (by decide)]; exact hI.1
    have j2 : ∀ k, 258 ≤ k → M6 k = M k := fun k hk => by rw [hM6, sI_n _ _ _ (by omega)]; exact hI.2 k hk
    have j3 : x.toInt < x2.toInt := jx
    exact ih (v7, M6) ⟨by show 0 ≤ v7.toInt; omega, by show v7.toInt ≤ 40; omega, j1, j2⟩ (by show (41 - v7.toInt).toNat < (41 - x.toInt).toNat; omega)
theorem dX10_stand_0 : decode cX10_stand 0 = .ok (.aload_n 0, 1) := by decide +kernel
theorem dX10_stand_1 : decode cX10_stand 1 = .ok (.getfield 10, 3) := by decide +kernel
theorem in_X10_stand_10 : ∀ w ∈ u_ws RX10 TX10 13, w ∈ wsX10_stand := fun _ h => List.mem_cons_of_mem _ (List.mem_append_left _ (List.mem_append_right _ h))
theorem dX10_stand_4 : decode cX10_stand 4 = .ok (.invokevirtual 90, 3) := by decide +kernel
set_option maxRecDepth 20000 in
theorem ggX10_stand_X2_come : GoodIn wsX10_stand wsX2_come := goodIn_r _ [6, 7, 8, 22, 23] (by decide +kernel) (by decide +kernel)
set_option maxRecDepth 20000 in
theorem gX10_stand_X2_come : GoodIn wsX10_stand (wsV RX10 90 RX2 yX2_come wsX2_come) := goodIn_app (goodIn_of _ (by decide +kernel)) ggX10_stand_X2_come
theorem dX10_stand_7 : decode cX10_stand 7 = .ok (.ireturn, 1) := by decide +kernel
set_option maxHeartbeats 4000000 in
set_option maxRecDepth 100000 in
theorem p_X10_stand (l : Launch) (D : va_G) (ad : Nat → Nat) (cs : Nat → ClassId) (M : MI) (L : ML)  (hm : ∀ k, 0 ≤ k → k < 258 → M k = M0 k) : Ci l yX10_stand wsX10_stand ({ frames := 1, cells := 0, slots := 0, locals := 20 }) D ad cs [.ref (ad 0)] M L (fun r M1 L1 => r = (0) ∧ ∀ k, 258 ≤ k → M1 k = M k) := by
  refine enter_i RX10 rfl [(0, .ref (ad 0))] rfl (Nat.le_of_ble_eq_true rfl) (by decide +kernel) rfl ?_
  intro p e s m below meth c C hr
  refine g_aload_n C 0 dX10_stand_0 rfl ?_
  refine g_get C (.ref (ad 1)) 0 in_X10_stand_10 (List.mem_of_getElem? (i := 1) rfl) (by decide) (ce_house ad cs _ _) rfl (by decide) rfl rfl dX10_stand_1 ?_
  refine g_callVi C (n := 0) (As := []) (st := []) (c_X2_come0 l D ad cs _ _  hm) gX10_stand_X2_come rfl rfl rfl (by decide +kernel) ⟨Nat.le_of_ble_eq_true rfl, Nat.le_of_ble_eq_true rfl⟩ rfl (Nat.le_of_ble_eq_true rfl) ⟨Nat.zero_le _, Nat.zero_le _⟩ (by decide) (ce_cand ad cs _ _) rfl rfl dX10_stand_4 (fun r1 M2 L3 hr1 => ?_)
  exact g_iret C hr ⟨by have e7 := hr1.1; grind, fun k hk => by rw [hr1.2 k hk]⟩ dX10_stand_7
theorem dX10_draw_0 : decode cX10_draw 0 = .ok (.aload_n 0, 1) := by decide +kernel
theorem dX10_draw_1 : decode cX10_draw 1 = .ok (.getfield 10, 3) := by decide +kernel
theorem in_X10_draw_10 : ∀ w ∈ u_ws RX10 TX10 13, w ∈ wsX10_draw := fun _ h => List.mem_cons_of_mem _ (List.mem_append_left _ (List.mem_append_right _ h))
theorem dX10_draw_4 : decode cX10_draw 4 = .ok (.iload_n 1, 1) := by decide +kernel
theorem dX10_draw_5 : decode cX10_draw 5 = .ok (.invokevirtual 94, 3) := by decide +kernel
set_option maxRecDepth 20000 in
theorem ggX10_draw_X2_has : GoodIn wsX10_draw wsX2_has := goodIn_r _ [6, 7, 26, 27] (by decide +kernel) (by decide +kernel)
set_option maxRecDepth 20000 in
theorem gX10_draw_X2_has : GoodIn wsX10_draw (wsV RX10 94 RX2 yX2_has wsX2_has) := goodIn_app (goodIn_of _ (by decide +kernel)) ggX10_draw_X2_has
theorem dX10_draw_8 : decode cX10_draw 8 = .ok (.ifCond .eq 14, 3) := by decide +kernel
theorem dX10_draw_22 : decode cX10_draw 22 = .ok (.iconst (-1), 1) := by decide +kernel
theorem dX10_draw_23 : decode cX10_draw 23 = .ok (.ireturn, 1) := by decide +kernel
set_option maxHeartbeats 4000000 in
set_option maxRecDepth 100000 in
theorem p_X10_draw (l : Launch) (D : va_G) (ad : Nat → Nat) (cs : Nat → ClassId) (M : MI) (L : ML) (x1 : Int32) (x2 : Int32) (hm : ∀ k, 0 ≤ k → k < 258 → M k = M0 k) : Ci l yX10_draw wsX10_draw ({ frames := 1, cells := 0, slots := 0, locals := 21 }) D ad cs [.ref (ad 0), .int x1, .int x2] M L (fun r M1 L1 => r = (-1) ∧ ∀ k, 258 ≤ k → M1 k = M k) := by
  refine enter_i RX10 rfl [(0, .ref (ad 0)), (1, .int x1), (2, .int x2)] rfl (Nat.le_of_ble_eq_true rfl) (by decide +kernel) rfl ?_
  intro p e s m below meth c C hr
  refine g_aload_n C 0 dX10_draw_0 rfl ?_
  refine g_get C (.ref (ad 1)) 0 in_X10_draw_10 (List.mem_of_getElem? (i := 1) rfl) (by decide) (ce_house ad cs _ _) rfl (by decide) rfl rfl dX10_draw_1 ?_
  refine g_iload_n C 1 dX10_draw_4 rfl ?_
  refine g_callVi C (n := 1) (As := [.int x1]) (st := []) (c_X2_has l D ad cs _ _ x1) gX10_draw_X2_has rfl rfl rfl (by decide +kernel) ⟨Nat.le_of_ble_eq_true rfl, Nat.le_of_ble_eq_true rfl⟩ rfl (Nat.le_of_ble_eq_true rfl) ⟨Nat.zero_le _, Nat.zero_le _⟩ (by decide) (ce_cand ad cs _ _) rfl rfl dX10_draw_5 (fun r1 M2 L3 hr1 => ?_)
  obtain ⟨hq1, hq2, hr1⟩ := hr1
  obtain rfl := hq1.symm
  obtain rfl := hq2.symm
  obtain rfl : r1 = 0 := by
    have e9 : M 1 0 = 0 := by (rw [hm 1 (by decide) (by decide)]; try rfl)
    rw [e9] at hr1; grind
  refine g_if_eq C 22 dX10_draw_8 (by decide) (fun _ => ?_) (fun c4 => absurd c4 (by decide))
  refine g_iconst C (-1) dX10_draw_22 (by decide) ?_
  exact g_iret C hr ⟨by first | rfl | grind, fun k hk => rfl⟩ dX10_draw_23
theorem dX10_drawn_0 : decode cX10_drawn 0 = .ok (.aload_n 0, 1) := by decide +kernel
theorem dX10_drawn_1 : decode cX10_drawn 1 = .ok (.getfield 10, 3) := by decide +kernel
theorem in_X10_drawn_10 : ∀ w ∈ u_ws RX10 TX10 13, w ∈ wsX10_drawn := fun _ h => List.mem_cons_of_mem _ (List.mem_append_left _ (List.mem_append_right _ h))
theorem dX10_drawn_4 : decode cX10_drawn 4 = .ok (.iload_n 1, 1) := by decide +kernel
theorem dX10_drawn_5 : decode cX10_drawn 5 = .ok (.invokevirtual 94, 3) := by decide +kernel
set_option maxRecDepth 20000 in
theorem ggX10_drawn_X2_has : GoodIn wsX10_drawn wsX2_has := goodIn_r _ [7, 8, 22, 23] (by decide +kernel) (by decide +kernel)
set_option maxRecDepth 20000 in
theorem gX10_drawn_X2_has : GoodIn wsX10_drawn (wsV RX10 94 RX2 yX2_has wsX2_has) := goodIn_app (goodIn_of _ (by decide +kernel)) ggX10_drawn_X2_has
theorem dX10_drawn_8 : decode cX10_drawn 8 = .ok (.ifCond .eq 15, 3) := by decide +kernel
theorem dX10_drawn_23 : decode cX10_drawn 23 = .ok (.iconst (-1), 1) := by decide +kernel
theorem dX10_drawn_24 : decode cX10_drawn 24 = .ok (.ireturn, 1) := by decide +kernel
set_option maxHeartbeats 4000000 in
set_option maxRecDepth 100000 in
theorem p_X10_drawn (l : Launch) (D : va_G) (ad : Nat → Nat) (cs : Nat → ClassId) (M : MI) (L : ML) (x1 : Int32) (hm : ∀ k, 0 ≤ k → k < 258 → M k = M0 k) : Ci l yX10_drawn wsX10_drawn ({ frames := 1, cells := 0, slots := 0, locals := 21 }) D ad cs [.ref (ad 0), .int x1] M L (fun r M1 L1 => r = (-1) ∧ ∀ k, 258 ≤ k → M1 k = M k) := by
  refine enter_i RX10 rfl [(0, .ref (ad 0)), (1, .int x1)] rfl (Nat.le_of_ble_eq_true rfl) (by decide +kernel) rfl ?_
  intro p e s m below meth c C hr
  refine g_aload_n C 0 dX10_drawn_0 rfl ?_
  refine g_get C (.ref (ad 1)) 0 in_X10_drawn_10 (List.mem_of_getElem? (i := 1) rfl) (by decide) (ce_house ad cs _ _) rfl (by decide) rfl rfl dX10_drawn_1 ?_
  refine g_iload_n C 1 dX10_drawn_4 rfl ?_
  refine g_callVi C (n := 1) (As := [.int x1]) (st := []) (c_X2_has l D ad cs _ _ x1) gX10_drawn_X2_has rfl rfl rfl (by decide +kernel) ⟨Nat.le_of_ble_eq_true rfl, Nat.le_of_ble_eq_true rfl⟩ rfl (Nat.le_of_ble_eq_true rfl) ⟨Nat.zero_le _, Nat.zero_le _⟩ (by decide) (ce_cand ad cs _ _) rfl rfl dX10_drawn_5 (fun r1 M2 L3 hr1 => ?_)
  obtain ⟨hq1, hq2, hr1⟩ := hr1
  obtain rfl := hq1.symm
  obtain rfl := hq2.symm
  obtain rfl : r1 = 0 := by
    have e9 : M 1 0 = 0 := by (rw [hm 1 (by decide) (by decide)]; try rfl)
    rw [e9] at hr1; grind
  refine g_if_eq C 23 dX10_drawn_8 (by decide) (fun _ => ?_) (fun c4 => absurd c4 (by decide))
  refine g_iconst C (-1) dX10_drawn_23 (by decide) ?_
  exact g_iret C hr ⟨by first | rfl | grind, fun k hk => rfl⟩ dX10_drawn_24
theorem dX10_ballot_0 : decode cX10_ballot 0 = .ok (.iload_n 1, 1) := by decide +kernel
theorem dX10_ballot_1 : decode cX10_ballot 1 = .ok (.invokestatic 105, 3) := by decide +kernel
set_option maxRecDepth 20000 in
theorem ggX10_ballot_X10_isSort : GoodIn wsX10_ballot wsX10_isSort := goodIn_r _ [6, 7] (by decide +kernel) (by decide +kernel)
set_option maxRecDepth 20000 in
theorem gX10_ballot_X10_isSort : GoodIn wsX10_ballot (va_wsS RX10 105 yX10_isSort wsX10_isSort) := goodIn_app (goodIn_of _ (by decide +kernel)) ggX10_ballot_X10_isSort
theorem dX10_ballot_4 : decode cX10_ballot 4 = .ok (.ifCond .eq 14, 3) := by decide +kernel
theorem dX10_ballot_18 : decode cX10_ballot 18 = .ok (.iconst (-1), 1) := by decide +kernel
theorem dX10_ballot_19 : decode cX10_ballot 19 = .ok (.ireturn, 1) := by decide +kernel
theorem dX10_ballot_7 : decode cX10_ballot 7 = .ok (.iload_n 2, 1) := by decide +kernel
theorem dX10_ballot_8 : decode cX10_ballot 8 = .ok (.iconst 1, 1) := by decide +kernel
theorem dX10_ballot_9 : decode cX10_ballot 9 = .ok (.if_icmp .lt 9, 3) := by decide +kernel
theorem dX10_ballot_12 : decode cX10_ballot 12 = .ok (.iload_n 2, 1) := by decide +kernel
theorem dX10_ballot_13 : decode cX10_ballot 13 = .ok (.ldc 108, 2) := by decide +kernel
theorem dX10_ballot_15 : decode cX10_ballot 15 = .ok (.if_icmp .le 5, 3) := by decide +kernel
theorem dX10_ballot_20 : decode cX10_ballot 20 = .ok (.aload_n 0, 1) := by decide +kernel
theorem dX10_ballot_21 : decode cX10_ballot 21 = .ok (.getfield 19, 3) := by decide +kernel
theorem in_X10_ballot_10 : ∀ w ∈ u_ws RX10 TX10 13, w ∈ wsX10_ballot := fun _ h => List.mem_cons_of_mem _ (List.mem_append_left _ (List.mem_append_right _ h))
theorem dX10_ballot_24 : decode cX10_ballot 24 = .ok (.iload_n 1, 1) := by decide +kernel
theorem dX10_ballot_25 : decode cX10_ballot 25 = .ok (.iload_n 2, 1) := by decide +kernel
theorem dX10_ballot_26 : decode cX10_ballot 26 = .ok (.invokevirtual 109, 3) := by decide +kernel
set_option maxRecDepth 20000 in
theorem ggX10_ballot_X0_come : GoodIn wsX10_ballot wsX0_come := goodIn_r _ [12, 13, 14, 15, 29, 30, 31, 32, 33] (by decide +kernel) (by decide +kernel)
set_option maxRecDepth 20000 in
theorem gX10_ballot_X0_come : GoodIn wsX10_ballot (wsV RX10 109 RX0 yX0_come wsX0_come) := goodIn_app (goodIn_of _ (by decide +kernel)) ggX10_ballot_X0_come
theorem dX10_ballot_29 : decode cX10_ballot 29 = .ok (.ireturn, 1) := by decide +kernel
set_option maxHeartbeats 4000000 in
set_option maxRecDepth 100000 in
theorem p_X10_ballot (l : Launch) (D : va_G) (ad : Nat → Nat) (cs : Nat → ClassId) (M : MI) (L : ML) (x1 : Int32) (x2 : Int32) (hm : ∀ k, 0 ≤ k → k < 258 → M k = M0 k) : Ci l yX10_ballot wsX10_ballot ({ frames := 1, cells := 0, slots := 0, locals := 22 }) D ad cs [.ref (ad 0), .int x1, .int x2] M L (fun r M1 L1 => r = (if 0 ≤ x1 ∧ x1 < 4 ∧ 1 ≤ x2 ∧ x2 ≤ 100000 then 0 else -1) ∧ ∀ k, 258 ≤ k → M1 k = M k) := by
  refine enter_i RX10 rfl [(0, .ref (ad 0)), (1, .int x1), (2, .int x2)] rfl (Nat.le_of_ble_eq_true rfl) (by decide +kernel) rfl ?_
  intro p e s m below meth c C hr
  refine g_iload_n C 1 dX10_ballot_0 rfl ?_
  refine g_callSi C (n := 1) (As := [.int x1]) (st := []) (c_X10_isSort l D ad cs _ _ x1) gX10_ballot_X10_isSort rfl rfl rfl (by decide +kernel) ⟨Nat.le_of_ble_eq_true rfl, Nat.le_of_ble_eq_true rfl⟩ rfl (Nat.le_of_ble_eq_true rfl) ⟨Nat.zero_le _, Nat.zero_le _⟩ rfl dX10_ballot_1 (fun r1 M2 L3 hr1 => ?_)
  obtain ⟨hq1, hq2, hr1⟩ := hr1
  obtain rfl := hq1.symm
  obtain rfl := hq2.symm
  refine g_if_eq C 18 dX10_ballot_4 (by decide) (fun c4 => ?_) (fun c4 => ?_)
  ·
    refine g_iconst C (-1) dX10_ballot_18 (by decide) ?_
    exact g_iret C hr ⟨by first | rfl | grind, fun k hk => rfl⟩ dX10_ballot_19
  ·
    refine g_iload_n C 2 dX10_ballot_7 rfl ?_
    refine g_iconst C 1 dX10_ballot_8 (by decide) ?_
    refine g_icmp_lt C 18 dX10_ballot_9 (by decide) (fun c5 => ?_) (fun c5 => ?_)
    ·
      refine g_iconst C (-1) dX10_ballot_18 (by decide) ?_
      exact g_iret C hr ⟨by first | rfl | grind, fun k hk => rfl⟩ dX10_ballot_19
    ·
      refine g_iload_n C 2 dX10_ballot_12 rfl ?_
      refine g_ldc C 100000 (List.mem_of_getElem? (i := 1) rfl) dX10_ballot_13 ?_
      refine g_icmp_le C 20 dX10_ballot_15 (by decide) (fun c6 => ?_) (fun c6 => ?_)
      ·
        refine g_aload_n C 0 dX10_ballot_20 rfl ?_
        refine g_get C (.ref (ad 3)) 1 in_X10_ballot_10 (List.mem_of_getElem? (i := 2) rfl) (by decide) (ce_house ad cs _ _) rfl (by decide) rfl rfl dX10_ballot_21 ?_
        refine g_iload_n C 1 dX10_ballot_24 rfl ?_
        refine g_iload_n C 2 dX10_ballot_25 rfl ?_
        refine g_callVi C (n := 2) (As := [.int x1, .int x2]) (st := []) (c_X0_come0 l D ad cs _ _ x1 x2 hm) gX10_ballot_X0_come rfl rfl rfl (by decide +kernel) ⟨Nat.le_of_ble_eq_true rfl, Nat.le_of_ble_eq_true rfl⟩ rfl (Nat.le_of_ble_eq_true rfl) ⟨Nat.zero_le _, Nat.zero_le _⟩ (by decide) (ce_ball ad cs _ _) rfl rfl dX10_ballot_26 (fun r7 M8 L9 hr7 => ?_)
        exact g_iret C hr ⟨by have e7 := hr7.1; grind, fun k hk => by rw [hr7.2 k hk]⟩ dX10_ballot_29
      ·
        refine g_iconst C (-1) dX10_ballot_18 (by decide) ?_
        exact g_iret C hr ⟨by first | rfl | grind, fun k hk => rfl⟩ dX10_ballot_19
theorem dX10_rank_0 : decode cX10_rank 0 = .ok (.aload_n 0, 1) := by decide +kernel
theorem dX10_rank_1 : decode cX10_rank 1 = .ok (.getfield 19, 3) := by decide +kernel
theorem in_X10_rank_10 : ∀ w ∈ u_ws RX10 TX10 13, w ∈ wsX10_rank := fun _ h => List.mem_cons_of_mem _ (List.mem_append_left _ (List.mem_append_left _ (List.mem_append_right _ h)))
theorem dX10_rank_4 : decode cX10_rank 4 = .ok (.iload_n 1, 1) := by decide +kernel
theorem dX10_rank_5 : decode cX10_rank 5 = .ok (.invokevirtual 112, 3) := by decide +kernel
set_option maxRecDepth 20000 in
theorem ggX10_rank_X0_has : GoodIn wsX10_rank wsX0_has := goodIn_r _ [7, 8, 57, 58, 59, 60, 61] (by decide +kernel) (by decide +kernel)
set_option maxRecDepth 20000 in
theorem gX10_rank_X0_has : GoodIn wsX10_rank (wsV RX10 112 RX0 yX0_has wsX0_has) := goodIn_app (goodIn_of _ (by decide +kernel)) ggX10_rank_X0_has
theorem dX10_rank_8 : decode cX10_rank 8 = .ok (.ifCond .eq 14, 3) := by decide +kernel
theorem dX10_rank_22 : decode cX10_rank 22 = .ok (.iconst (-1), 1) := by decide +kernel
theorem dX10_rank_23 : decode cX10_rank 23 = .ok (.ireturn, 1) := by decide +kernel
set_option maxHeartbeats 4000000 in
set_option maxRecDepth 100000 in
theorem p_X10_rank (l : Launch) (D : va_G) (ad : Nat → Nat) (cs : Nat → ClassId) (M : MI) (L : ML) (x1 : Int32) (x2 : Int32) (hm : ∀ k, 0 ≤ k → k < 258 → M k = M0 k) : Ci l yX10_rank wsX10_rank ({ frames := 1, cells := 0, slots := 0, locals := 21 }) D ad cs [.ref (ad 0), .int x1, .int x2] M L (fun r M1 L1 => r = (-1) ∧ ∀ k, 258 ≤ k → M1 k = M k) := by
  refine enter_i RX10 rfl [(0, .ref (ad 0)), (1, .int x1), (2, .int x2)] rfl (Nat.le_of_ble_eq_true rfl) (by decide +kernel) rfl ?_
  intro p e s m below meth c C hr
  refine g_aload_n C 0 dX10_rank_0 rfl ?_
  refine g_get C (.ref (ad 3)) 1 in_X10_rank_10 (List.mem_of_getElem? (i := 1) rfl) (by decide) (ce_house ad cs _ _) rfl (by decide) rfl rfl dX10_rank_1 ?_
  refine g_iload_n C 1 dX10_rank_4 rfl ?_
  refine g_callVi C (n := 1) (As := [.int x1]) (st := []) (c_X0_has l D ad cs _ _ x1) gX10_rank_X0_has rfl rfl rfl (by decide +kernel) ⟨Nat.le_of_ble_eq_true rfl, Nat.le_of_ble_eq_true rfl⟩ rfl (Nat.le_of_ble_eq_true rfl) ⟨Nat.zero_le _, Nat.zero_le _⟩ (by decide) (ce_ball ad cs _ _) rfl rfl dX10_rank_5 (fun r1 M2 L3 hr1 => ?_)
  obtain ⟨hq1, hq2, hr1⟩ := hr1
  obtain rfl := hq1.symm
  obtain rfl := hq2.symm
  obtain rfl : r1 = 0 := by
    have e9 : M 3 0 = 0 := by (rw [hm 3 (by decide) (by decide)]; try rfl)
    rw [e9] at hr1; grind
  refine g_if_eq C 22 dX10_rank_8 (by decide) (fun _ => ?_) (fun c4 => absurd c4 (by decide))
  refine g_iconst C (-1) dX10_rank_22 (by decide) ?_
  exact g_iret C hr ⟨by first | rfl | grind, fun k hk => rfl⟩ dX10_rank_23
theorem dX10_score_0 : decode cX10_score 0 = .ok (.aload_n 0, 1) := by decide +kernel
theorem dX10_score_1 : decode cX10_score 1 = .ok (.getfield 19, 3) := by decide +kernel
theorem in_X10_score_10 : ∀ w ∈ u_ws RX10 TX10 13, w ∈ wsX10_score := fun _ h => List.mem_cons_of_mem _ (List.mem_append_left _ (List.mem_append_left _ (List.mem_append_right _ h)))
theorem dX10_score_4 : decode cX10_score 4 = .ok (.iload_n 1, 1) := by decide +kernel
theorem dX10_score_5 : decode cX10_score 5 = .ok (.invokevirtual 112, 3) := by decide +kernel
set_option maxRecDepth 20000 in
theorem ggX10_score_X0_has : GoodIn wsX10_score wsX0_has := goodIn_r _ [8, 9, 43, 44, 45, 46, 47] (by decide +kernel) (by decide +kernel)
set_option maxRecDepth 20000 in
theorem gX10_score_X0_has : GoodIn wsX10_score (wsV RX10 112 RX0 yX0_has wsX0_has) := goodIn_app (goodIn_of _ (by decide +kernel)) ggX10_score_X0_has
theorem dX10_score_8 : decode cX10_score 8 = .ok (.ifCond .eq 24, 3) := by decide +kernel
theorem dX10_score_32 : decode cX10_score 32 = .ok (.iconst (-1), 1) := by decide +kernel
theorem dX10_score_33 : decode cX10_score 33 = .ok (.ireturn, 1) := by decide +kernel
set_option maxHeartbeats 4000000 in
set_option maxRecDepth 100000 in
theorem p_X10_score (l : Launch) (D : va_G) (ad : Nat → Nat) (cs : Nat → ClassId) (M : MI) (L : ML) (x1 : Int32) (x2 : Int32) (x3 : Int32) (hm : ∀ k, 0 ≤ k → k < 258 → M k = M0 k) : Ci l yX10_score wsX10_score ({ frames := 1, cells := 0, slots := 0, locals := 21 }) D ad cs [.ref (ad 0), .int x1, .int x2, .int x3] M L (fun r M1 L1 => r = (-1) ∧ ∀ k, 258 ≤ k → M1 k = M k) := by
  refine enter_i RX10 rfl [(0, .ref (ad 0)), (1, .int x1), (2, .int x2), (3, .int x3)] rfl (Nat.le_of_ble_eq_true rfl) (by decide +kernel) rfl ?_
  intro p e s m below meth c C hr
  refine g_aload_n C 0 dX10_score_0 rfl ?_
  refine g_get C (.ref (ad 3)) 1 in_X10_score_10 (List.mem_of_getElem? (i := 1) rfl) (by decide) (ce_house ad cs _ _) rfl (by decide) rfl rfl dX10_score_1 ?_
  refine g_iload_n C 1 dX10_score_4 rfl ?_
  refine g_callVi C (n := 1) (As := [.int x1]) (st := []) (c_X0_has l D ad cs _ _ x1) gX10_score_X0_has rfl rfl rfl (by decide +kernel) ⟨Nat.le_of_ble_eq_true rfl, Nat.le_of_ble_eq_true rfl⟩ rfl (Nat.le_of_ble_eq_true rfl) ⟨Nat.zero_le _, Nat.zero_le _⟩ (by decide) (ce_ball ad cs _ _) rfl rfl dX10_score_5 (fun r1 M2 L3 hr1 => ?_)
  obtain ⟨hq1, hq2, hr1⟩ := hr1
  obtain rfl := hq1.symm
  obtain rfl := hq2.symm
  obtain rfl : r1 = 0 := by
    have e9 : M 3 0 = 0 := by (rw [hm 3 (by decide) (by decide)]; try rfl)
    rw [e9] at hr1; grind
  refine g_if_eq C 32 dX10_score_8 (by decide) (fun _ => ?_) (fun c4 => absurd c4 (by decide))
  refine g_iconst C (-1) dX10_score_32 (by decide) ?_
  exact g_iret C hr ⟨by first | rfl | grind, fun k hk => rfl⟩ dX10_score_33
theorem dX10_told_0 : decode cX10_told 0 = .ok (.aload_n 0, 1) := by decide +kernel
theorem dX10_told_1 : decode cX10_told 1 = .ok (.getfield 19, 3) := by decide +kernel
theorem in_X10_told_10 : ∀ w ∈ u_ws RX10 TX10 13, w ∈ wsX10_told := fun _ h => List.mem_cons_of_mem _ (List.mem_append_left _ (List.mem_append_left _ (List.mem_append_right _ h)))
theorem dX10_told_4 : decode cX10_told 4 = .ok (.iload_n 1, 1) := by decide +kernel
theorem dX10_told_5 : decode cX10_told 5 = .ok (.invokevirtual 112, 3) := by decide +kernel
set_option maxRecDepth 20000 in
theorem ggX10_told_X0_has : GoodIn wsX10_told wsX0_has := goodIn_r _ [10, 11, 39, 40, 41, 42, 43] (by decide +kernel) (by decide +kernel)
set_option maxRecDepth 20000 in
theorem gX10_told_X0_has : GoodIn wsX10_told (wsV RX10 112 RX0 yX0_has wsX0_has) := goodIn_app (goodIn_of _ (by decide +kernel)) ggX10_told_X0_has
theorem dX10_told_8 : decode cX10_told 8 = .ok (.ifCond .eq 7, 3) := by decide +kernel
theorem dX10_told_15 : decode cX10_told 15 = .ok (.iconst (-1), 1) := by decide +kernel
theorem dX10_told_16 : decode cX10_told 16 = .ok (.ireturn, 1) := by decide +kernel
set_option maxHeartbeats 4000000 in
set_option maxRecDepth 100000 in
theorem p_X10_told (l : Launch) (D : va_G) (ad : Nat → Nat) (cs : Nat → ClassId) (M : MI) (L : ML) (x1 : Int32) (x2 : Int32) (hm : ∀ k, 0 ≤ k → k < 258 → M k = M0 k) : Ci l yX10_told wsX10_told ({ frames := 1, cells := 0, slots := 0, locals := 21 }) D ad cs [.ref (ad 0), .int x1, .int x2] M L (fun r M1 L1 => r = (-1) ∧ ∀ k, 258 ≤ k → M1 k = M k) := by
  refine enter_i RX10 rfl [(0, .ref (ad 0)), (1, .int x1), (2, .int x2)] rfl (Nat.le_of_ble_eq_true rfl) (by decide +kernel) rfl ?_
  intro p e s m below meth c C hr
  refine g_aload_n C 0 dX10_told_0 rfl ?_
  refine g_get C (.ref (ad 3)) 1 in_X10_told_10 (List.mem_of_getElem? (i := 1) rfl) (by decide) (ce_house ad cs _ _) rfl (by decide) rfl rfl dX10_told_1 ?_
  refine g_iload_n C 1 dX10_told_4 rfl ?_
  refine g_callVi C (n := 1) (As := [.int x1]) (st := []) (c_X0_has l D ad cs _ _ x1) gX10_told_X0_has rfl rfl rfl (by decide +kernel) ⟨Nat.le_of_ble_eq_true rfl, Nat.le_of_ble_eq_true rfl⟩ rfl (Nat.le_of_ble_eq_true rfl) ⟨Nat.zero_le _, Nat.zero_le _⟩ (by decide) (ce_ball ad cs _ _) rfl rfl dX10_told_5 (fun r1 M2 L3 hr1 => ?_)
  obtain ⟨hq1, hq2, hr1⟩ := hr1
  obtain rfl := hq1.symm
  obtain rfl := hq2.symm
  obtain rfl : r1 = 0 := by
    have e9 : M 3 0 = 0 := by (rw [hm 3 (by decide) (by decide)]; try rfl)
    rw [e9] at hr1; grind
  refine g_if_eq C 15 dX10_told_8 (by decide) (fun _ => ?_) (fun c4 => absurd c4 (by decide))
  refine g_iconst C (-1) dX10_told_15 (by decide) ?_
  exact g_iret C hr ⟨by first | rfl | grind, fun k hk => rfl⟩ dX10_told_16
theorem dX10_is_0 : decode cX10_is 0 = .ok (.aload_n 0, 1) := by decide +kernel
theorem dX10_is_1 : decode cX10_is 1 = .ok (.getfield 19, 3) := by decide +kernel
theorem in_X10_is_10 : ∀ w ∈ u_ws RX10 TX10 13, w ∈ wsX10_is := fun _ h => List.mem_cons_of_mem _ (List.mem_append_left _ (List.mem_append_right _ h))
theorem dX10_is_4 : decode cX10_is 4 = .ok (.iload_n 1, 1) := by decide +kernel
theorem dX10_is_5 : decode cX10_is 5 = .ok (.invokevirtual 112, 3) := by decide +kernel
set_option maxRecDepth 20000 in
theorem ggX10_is_X0_has : GoodIn wsX10_is wsX0_has := goodIn_r _ [6, 7, 33, 34, 35, 36, 37] (by decide +kernel) (by decide +kernel)
set_option maxRecDepth 20000 in
theorem gX10_is_X0_has : GoodIn wsX10_is (wsV RX10 112 RX0 yX0_has wsX0_has) := goodIn_app (goodIn_of _ (by decide +kernel)) ggX10_is_X0_has
theorem dX10_is_8 : decode cX10_is 8 = .ok (.ifCond .eq 10, 3) := by decide +kernel
theorem dX10_is_18 : decode cX10_is 18 = .ok (.iconst (-1), 1) := by decide +kernel
theorem dX10_is_19 : decode cX10_is 19 = .ok (.ireturn, 1) := by decide +kernel
set_option maxHeartbeats 4000000 in
set_option maxRecDepth 100000 in
theorem p_X10_is (l : Launch) (D : va_G) (ad : Nat → Nat) (cs : Nat → ClassId) (M : MI) (L : ML) (x1 : Int32) (x2 : Int32) (hm : ∀ k, 0 ≤ k → k < 258 → M k = M0 k) : Ci l yX10_is wsX10_is ({ frames := 1, cells := 0, slots := 0, locals := 21 }) D ad cs [.ref (ad 0), .int x1, .int x2] M L (fun r M1 L1 => r = (-1) ∧ ∀ k, 258 ≤ k → M1 k = M k) := by
  refine enter_i RX10 rfl [(0, .ref (ad 0)), (1, .int x1), (2, .int x2)] rfl (Nat.le_of_ble_eq_true rfl) (by decide +kernel) rfl ?_
  intro p e s m below meth c C hr
  refine g_aload_n C 0 dX10_is_0 rfl ?_
  refine g_get C (.ref (ad 3)) 1 in_X10_is_10 (List.mem_of_getElem? (i := 1) rfl) (by decide) (ce_house ad cs _ _) rfl (by decide) rfl rfl dX10_is_1 ?_
  refine g_iload_n C 1 dX10_is_4 rfl ?_
  refine g_callVi C (n := 1) (As := [.int x1]) (st := []) (c_X0_has l D ad cs _ _ x1) gX10_is_X0_has rfl rfl rfl (by decide +kernel) ⟨Nat.le_of_ble_eq_true rfl, Nat.le_of_ble_eq_true rfl⟩ rfl (Nat.le_of_ble_eq_true rfl) ⟨Nat.zero_le _, Nat.zero_le _⟩ (by decide) (ce_ball ad cs _ _) rfl rfl dX10_is_5 (fun r1 M2 L3 hr1 => ?_)
  obtain ⟨hq1, hq2, hr1⟩ := hr1
  obtain rfl := hq1.symm
  obtain rfl := hq2.symm
  obtain rfl : r1 = 0 := by
    have e9 : M 3 0 = 0 := by (rw [hm 3 (by decide) (by decide)]; try rfl)
    rw [e9] at hr1; grind
  refine g_if_eq C 18 dX10_is_8 (by decide) (fun _ => ?_) (fun c4 => absurd c4 (by decide))
  refine g_iconst C (-1) dX10_is_18 (by decide) ?_
  exact g_iret C hr ⟨by first | rfl | grind, fun k hk => rfl⟩ dX10_is_19
theorem dX10_put_0 : decode cX10_put 0 = .ok (.aload_n 0, 1) := by decide +kernel
theorem dX10_put_1 : decode cX10_put 1 = .ok (.getfield 26, 3) := by decide +kernel
theorem in_X10_put_10 : ∀ w ∈ u_ws RX10 TX10 13, w ∈ wsX10_put := fun _ h => List.mem_cons_of_mem _ (List.mem_append_left _ (List.mem_append_left _ (List.mem_append_right _ h)))
theorem dX10_put_4 : decode cX10_put 4 = .ok (.iload_n 1, 1) := by decide +kernel
theorem dX10_put_5 : decode cX10_put 5 = .ok (.invokevirtual 146, 3) := by decide +kernel
set_option maxRecDepth 20000 in
theorem ggX10_put_X1_has : GoodIn wsX10_put wsX1_has := goodIn_r _ [9, 10, 49, 50, 51, 52, 53] (by decide +kernel) (by decide +kernel)
set_option maxRecDepth 20000 in
theorem gX10_put_X1_has : GoodIn wsX10_put (wsV RX10 146 RX1 yX1_has wsX1_has) := goodIn_app (goodIn_of _ (by decide +kernel)) ggX10_put_X1_has
theorem dX10_put_8 : decode cX10_put 8 = .ok (.ifCond .eq 20, 3) := by decide +kernel
theorem dX10_put_28 : decode cX10_put 28 = .ok (.iconst (-1), 1) := by decide +kernel
theorem dX10_put_29 : decode cX10_put 29 = .ok (.ireturn, 1) := by decide +kernel
set_option maxHeartbeats 4000000 in
set_option maxRecDepth 100000 in
theorem p_X10_put (l : Launch) (D : va_G) (ad : Nat → Nat) (cs : Nat → ClassId) (M : MI) (L : ML) (x1 : Int32) (x2 : Int32) (x3 : Int32) (hm : ∀ k, 0 ≤ k → k < 258 → M k = M0 k) : Ci l yX10_put wsX10_put ({ frames := 1, cells := 0, slots := 0, locals := 21 }) D ad cs [.ref (ad 0), .int x1, .int x2, .int x3] M L (fun r M1 L1 => r = (-1) ∧ ∀ k, 258 ≤ k → M1 k = M k) := by
  refine enter_i RX10 rfl [(0, .ref (ad 0)), (1, .int x1), (2, .int x2), (3, .int x3)] rfl (Nat.le_of_ble_eq_true rfl) (by decide +kernel) rfl ?_
  intro p e s m below meth c C hr
  refine g_aload_n C 0 dX10_put_0 rfl ?_
  refine g_get C (.ref (ad 68)) 2 in_X10_put_10 (List.mem_of_getElem? (i := 1) rfl) (by decide) (ce_house ad cs _ _) rfl (by decide) rfl rfl dX10_put_1 ?_
  refine g_iload_n C 1 dX10_put_4 rfl ?_
  refine g_callVi C (n := 1) (As := [.int x1]) (st := []) (c_X1_has l D ad cs _ _ x1) gX10_put_X1_has rfl rfl rfl (by decide +kernel) ⟨Nat.le_of_ble_eq_true rfl, Nat.le_of_ble_eq_true rfl⟩ rfl (Nat.le_of_ble_eq_true rfl) ⟨Nat.zero_le _, Nat.zero_le _⟩ (by decide) (ce_box ad cs _ _) rfl rfl dX10_put_5 (fun r1 M2 L3 hr1 => ?_)
  obtain ⟨hq1, hq2, hr1⟩ := hr1
  obtain rfl := hq1.symm
  obtain rfl := hq2.symm
  obtain rfl : r1 = 0 := by
    have e9 : M 68 0 = 0 := by (rw [hm 68 (by decide) (by decide)]; try rfl)
    rw [e9] at hr1; grind
  refine g_if_eq C 28 dX10_put_8 (by decide) (fun _ => ?_) (fun c4 => absurd c4 (by decide))
  refine g_iconst C (-1) dX10_put_28 (by decide) ?_
  exact g_iret C hr ⟨by first | rfl | grind, fun k hk => rfl⟩ dX10_put_29
theorem dX10_pour_0 : decode cX10_pour 0 = .ok (.aload_n 0, 1) := by decide +kernel
theorem dX10_pour_1 : decode cX10_pour 1 = .ok (.getfield 26, 3) := by decide +kernel
theorem in_X10_pour_10 : ∀ w ∈ u_ws RX10 TX10 13, w ∈ wsX10_pour := fun _ h => List.mem_cons_of_mem _ (List.mem_append_left _ (List.mem_append_right _ h))
theorem dX10_pour_4 : decode cX10_pour 4 = .ok (.iload_n 1, 1) := by decide +kernel
theorem dX10_pour_5 : decode cX10_pour 5 = .ok (.invokevirtual 146, 3) := by decide +kernel
set_option maxRecDepth 20000 in
theorem ggX10_pour_X1_has : GoodIn wsX10_pour wsX1_has := goodIn_r _ [7, 8, 40, 41, 42, 43, 44] (by decide +kernel) (by decide +kernel)
set_option maxRecDepth 20000 in
theorem gX10_pour_X1_has : GoodIn wsX10_pour (wsV RX10 146 RX1 yX1_has wsX1_has) := goodIn_app (goodIn_of _ (by decide +kernel)) ggX10_pour_X1_has
theorem dX10_pour_8 : decode cX10_pour 8 = .ok (.ifCond .eq 14, 3) := by decide +kernel
theorem dX10_pour_22 : decode cX10_pour 22 = .ok (.iconst (-1), 1) := by decide +kernel
theorem dX10_pour_23 : decode cX10_pour 23 = .ok (.ireturn, 1) := by decide +kernel
set_option maxHeartbeats 4000000 in
set_option maxRecDepth 100000 in
theorem p_X10_pour (l : Launch) (D : va_G) (ad : Nat → Nat) (cs : Nat → ClassId) (M : MI) (L : ML) (x1 : Int32) (x2 : Int32) (x3 : Int32) (x4 : Int32) (x5 : Int32) (hm : ∀ k, 0 ≤ k → k < 258 → M k = M0 k) : Ci l yX10_pour wsX10_pour ({ frames := 1, cells := 0, slots := 0, locals := 21 }) D ad cs [.ref (ad 0), .int x1, .int x2, .int x3, .int x4, .int x5] M L (fun r M1 L1 => r = (-1) ∧ ∀ k, 258 ≤ k → M1 k = M k) := by
  refine enter_i RX10 rfl [(0, .ref (ad 0)), (1, .int x1), (2, .int x2), (3, .int x3), (4, .int x4), (5, .int x5)] rfl (Nat.le_of_ble_eq_true rfl) (by decide +kernel) rfl ?_
  intro p e s m below meth c C hr
  refine g_aload_n C 0 dX10_pour_0 rfl ?_
  refine g_get C (.ref (ad 68)) 2 in_X10_pour_10 (List.mem_of_getElem? (i := 1) rfl) (by decide) (ce_house ad cs _ _) rfl (by decide) rfl rfl dX10_pour_1 ?_
  refine g_iload_n C 1 dX10_pour_4 rfl ?_
  refine g_callVi C (n := 1) (As := [.int x1]) (st := []) (c_X1_has l D ad cs _ _ x1) gX10_pour_X1_has rfl rfl rfl (by decide +kernel) ⟨Nat.le_of_ble_eq_true rfl, Nat.le_of_ble_eq_true rfl⟩ rfl (Nat.le_of_ble_eq_true rfl) ⟨Nat.zero_le _, Nat.zero_le _⟩ (by decide) (ce_box ad cs _ _) rfl rfl dX10_pour_5 (fun r1 M2 L3 hr1 => ?_)
  obtain ⟨hq1, hq2, hr1⟩ := hr1
  obtain rfl := hq1.symm
  obtain rfl := hq2.symm
  obtain rfl : r1 = 0 := by
    have e9 : M 68 0 = 0 := by (rw [hm 68 (by decide) (by decide)]; try rfl)
    rw [e9] at hr1; grind
  refine g_if_eq C 22 dX10_pour_8 (by decide) (fun _ => ?_) (fun c4 => absurd c4 (by decide))
  refine g_iconst C (-1) dX10_pour_22 (by decide) ?_
  exact g_iret C hr ⟨by first | rfl | grind, fun k hk => rfl⟩ dX10_pour_23
theorem dX10_at_0 : decode cX10_at 0 = .ok (.aload_n 0, 1) := by decide +kernel
theorem dX10_at_1 : decode cX10_at 1 = .ok (.getfield 26, 3) := by decide +kernel
theorem in_X10_at_10 : ∀ w ∈ u_ws RX10 TX10 13, w ∈ wsX10_at := fun _ h => List.mem_cons_of_mem _ (List.mem_append_left _ (List.mem_append_right _ h))
theorem dX10_at_4 : decode cX10_at 4 = .ok (.iload_n 1, 1) := by decide +kernel
theorem dX10_at_5 : decode cX10_at 5 = .ok (.invokevirtual 146, 3) := by decide +kernel
set_option maxRecDepth 20000 in
theorem ggX10_at_X1_has : GoodIn wsX10_at wsX1_has := goodIn_r _ [7, 8, 38, 39, 40, 41, 42] (by decide +kernel) (by decide +kernel)
set_option maxRecDepth 20000 in
theorem gX10_at_X1_has : GoodIn wsX10_at (wsV RX10 146 RX1 yX1_has wsX1_has) := goodIn_app (goodIn_of _ (by decide +kernel)) ggX10_at_X1_has
theorem dX10_at_8 : decode cX10_at 8 = .ok (.ifCond .ne 5, 3) := by decide +kernel
theorem dX10_at_11 : decode cX10_at 11 = .ok (.iconst (-1), 1) := by decide +kernel
theorem dX10_at_12 : decode cX10_at 12 = .ok (.ireturn, 1) := by decide +kernel
set_option maxHeartbeats 4000000 in
set_option maxRecDepth 100000 in
theorem p_X10_at (l : Launch) (D : va_G) (ad : Nat → Nat) (cs : Nat → ClassId) (M : MI) (L : ML) (x1 : Int32) (x2 : Int32) (hm : ∀ k, 0 ≤ k → k < 258 → M k = M0 k) : Ci l yX10_at wsX10_at ({ frames := 1, cells := 0, slots := 0, locals := 21 }) D ad cs [.ref (ad 0), .int x1, .int x2] M L (fun r M1 L1 => r = (-1) ∧ ∀ k, 258 ≤ k → M1 k = M k) := by
  refine enter_i RX10 rfl [(0, .ref (ad 0)), (1, .int x1), (2, .int x2)] rfl (Nat.le_of_ble_eq_true rfl) (by decide +kernel) rfl ?_
  intro p e s m below meth c C hr
  refine g_aload_n C 0 dX10_at_0 rfl ?_
  refine g_get C (.ref (ad 68)) 2 in_X10_at_10 (List.mem_of_getElem? (i := 1) rfl) (by decide) (ce_house ad cs _ _) rfl (by decide) rfl rfl dX10_at_1 ?_
  refine g_iload_n C 1 dX10_at_4 rfl ?_
  refine g_callVi C (n := 1) (As := [.int x1]) (st := []) (c_X1_has l D ad cs _ _ x1) gX10_at_X1_has rfl rfl rfl (by decide +kernel) ⟨Nat.le_of_ble_eq_true rfl, Nat.le_of_ble_eq_true rfl⟩ rfl (Nat.le_of_ble_eq_true rfl) ⟨Nat.zero_le _, Nat.zero_le _⟩ (by decide) (ce_box ad cs _ _) rfl rfl dX10_at_5 (fun r1 M2 L3 hr1 => ?_)
  obtain ⟨hq1, hq2, hr1⟩ := hr1
  obtain rfl := hq1.symm
  obtain rfl := hq2.symm
  obtain rfl : r1 = 0 := by
    have e9 : M 68 0 = 0 := by (rw [hm 68 (by decide) (by decide)]; try rfl)
    rw [e9] at hr1; grind
  refine g_if_ne C 13 dX10_at_8 (by decide) (fun c4 => absurd c4 (by decide)) (fun _ => ?_)
  refine g_iconst C (-1) dX10_at_11 (by decide) ?_
  exact g_iret C hr ⟨by first | rfl | grind, fun k hk => rfl⟩ dX10_at_12
theorem dX10_share_0 : decode cX10_share 0 = .ok (.aload_n 0, 1) := by decide +kernel
theorem dX10_share_1 : decode cX10_share 1 = .ok (.getfield 26, 3) := by decide +kernel
theorem in_X10_share_10 : ∀ w ∈ u_ws RX10 TX10 13, w ∈ wsX10_share := fun _ h => List.mem_cons_of_mem _ (List.mem_append_left _ (List.mem_append_left _ (List.mem_append_right _ h)))
theorem dX10_share_4 : decode cX10_share 4 = .ok (.iload_n 1, 1) := by decide +kernel
theorem dX10_share_5 : decode cX10_share 5 = .ok (.invokevirtual 146, 3) := by decide +kernel
set_option maxRecDepth 20000 in
theorem ggX10_share_X1_has : GoodIn wsX10_share wsX1_has := goodIn_r _ [8, 9, 58, 59, 60, 61, 62] (by decide +kernel) (by decide +kernel)
set_option maxRecDepth 20000 in
theorem gX10_share_X1_has : GoodIn wsX10_share (wsV RX10 146 RX1 yX1_has wsX1_has) := goodIn_app (goodIn_of _ (by decide +kernel)) ggX10_share_X1_has
theorem dX10_share_8 : decode cX10_share 8 = .ok (.ifCond .ne 5, 3) := by decide +kernel
theorem dX10_share_11 : decode cX10_share 11 = .ok (.iconst (-1), 1) := by decide +kernel
theorem dX10_share_12 : decode cX10_share 12 = .ok (.ireturn, 1) := by decide +kernel
set_option maxHeartbeats 4000000 in
set_option maxRecDepth 100000 in
theorem p_X10_share (l : Launch) (D : va_G) (ad : Nat → Nat) (cs : Nat → ClassId) (M : MI) (L : ML) (x1 : Int32) (x2 : Int32) (hm : ∀ k, 0 ≤ k → k < 258 → M k = M0 k) : Ci l yX10_share wsX10_share ({ frames := 1, cells := 0, slots := 0, locals := 21 }) D ad cs [.ref (ad 0), .int x1, .int x2] M L (fun r M1 L1 => r = (-1) ∧ ∀ k, 258 ≤ k → M1 k = M k) := by
  refine enter_i RX10 rfl [(0, .ref (ad 0)), (1, .int x1), (2, .int x2)] rfl (Nat.le_of_ble_eq_true rfl) (by decide +kernel) rfl ?_
  intro p e s m below meth c C hr
  refine g_aload_n C 0 dX10_share_0 rfl ?_
  refine g_get C (.ref (ad 68)) 2 in_X10_share_10 (List.mem_of_getElem? (i := 1) rfl) (by decide) (ce_house ad cs _ _) rfl (by decide) rfl rfl dX10_share_1 ?_
  refine g_iload_n C 1 dX10_share_4 rfl ?_
  refine g_callVi C (n := 1) (As := [.int x1]) (st := []) (c_X1_has l D ad cs _ _ x1) gX10_share_X1_has rfl rfl rfl (by decide +kernel) ⟨Nat.le_of_ble_eq_true rfl, Nat.le_of_ble_eq_true rfl⟩ rfl (Nat.le_of_ble_eq_true rfl) ⟨Nat.zero_le _, Nat.zero_le _⟩ (by decide) (ce_box ad cs _ _) rfl rfl dX10_share_5 (fun r1 M2 L3 hr1 => ?_)
  obtain ⟨hq1, hq2, hr1⟩ := hr1
  obtain rfl := hq1.symm
  obtain rfl := hq2.symm
  obtain rfl : r1 = 0 := by
    have e9 : M 68 0 = 0 := by (rw [hm 68 (by decide) (by decide)]; try rfl)
    rw [e9] at hr1; grind
  refine g_if_ne C 13 dX10_share_8 (by decide) (fun c4 => absurd c4 (by decide)) (fun _ => ?_)
  refine g_iconst C (-1) dX10_share_11 (by decide) ?_
  exact g_iret C hr ⟨by first | rfl | grind, fun k hk => rfl⟩ dX10_share_12
theorem dX10_weight_0 : decode cX10_weight 0 = .ok (.aload_n 0, 1) := by decide +kernel
theorem dX10_weight_1 : decode cX10_weight 1 = .ok (.getfield 19, 3) := by decide +kernel
theorem in_X10_weight_10 : ∀ w ∈ u_ws RX10 TX10 13, w ∈ wsX10_weight := fun _ h => List.mem_cons_of_mem _ (List.mem_append_left _ (List.mem_append_left _ (List.mem_append_right _ h)))
theorem dX10_weight_4 : decode cX10_weight 4 = .ok (.iload_n 1, 1) := by decide +kernel
theorem dX10_weight_5 : decode cX10_weight 5 = .ok (.invokevirtual 112, 3) := by decide +kernel
set_option maxRecDepth 20000 in
theorem ggX10_weight_X0_has : GoodIn wsX10_weight wsX0_has := goodIn_r _ [8, 9, 51, 52, 53, 54, 55] (by decide +kernel) (by decide +kernel)
set_option maxRecDepth 20000 in
theorem gX10_weight_X0_has : GoodIn wsX10_weight (wsV RX10 112 RX0 yX0_has wsX0_has) := goodIn_app (goodIn_of _ (by decide +kernel)) ggX10_weight_X0_has
theorem dX10_weight_8 : decode cX10_weight 8 = .ok (.ifCond .eq 14, 3) := by decide +kernel
theorem dX10_weight_22 : decode cX10_weight 22 = .ok (.iconst (-1), 1) := by decide +kernel
theorem dX10_weight_23 : decode cX10_weight 23 = .ok (.ireturn, 1) := by decide +kernel
set_option maxHeartbeats 4000000 in
set_option maxRecDepth 100000 in
theorem p_X10_weight (l : Launch) (D : va_G) (ad : Nat → Nat) (cs : Nat → ClassId) (M : MI) (L : ML) (x1 : Int32) (x2 : Int32) (hm : ∀ k, 0 ≤ k → k < 258 → M k = M0 k) : Ci l yX10_weight wsX10_weight ({ frames := 1, cells := 0, slots := 0, locals := 21 }) D ad cs [.ref (ad 0), .int x1, .int x2] M L (fun r M1 L1 => r = (-1) ∧ ∀ k, 258 ≤ k → M1 k = M k) := by
  refine enter_i RX10 rfl [(0, .ref (ad 0)), (1, .int x1), (2, .int x2)] rfl (Nat.le_of_ble_eq_true rfl) (by decide +kernel) rfl ?_
  intro p e s m below meth c C hr
  refine g_aload_n C 0 dX10_weight_0 rfl ?_
  refine g_get C (.ref (ad 3)) 1 in_X10_weight_10 (List.mem_of_getElem? (i := 1) rfl) (by decide) (ce_house ad cs _ _) rfl (by decide) rfl rfl dX10_weight_1 ?_
  refine g_iload_n C 1 dX10_weight_4 rfl ?_
  refine g_callVi C (n := 1) (As := [.int x1]) (st := []) (c_X0_has l D ad cs _ _ x1) gX10_weight_X0_has rfl rfl rfl (by decide +kernel) ⟨Nat.le_of_ble_eq_true rfl, Nat.le_of_ble_eq_true rfl⟩ rfl (Nat.le_of_ble_eq_true rfl) ⟨Nat.zero_le _, Nat.zero_le _⟩ (by decide) (ce_ball ad cs _ _) rfl rfl dX10_weight_5 (fun r1 M2 L3 hr1 => ?_)
  obtain ⟨hq1, hq2, hr1⟩ := hr1
  obtain rfl := hq1.symm
  obtain rfl := hq2.symm
  obtain rfl : r1 = 0 := by
    have e9 : M 3 0 = 0 := by (rw [hm 3 (by decide) (by decide)]; try rfl)
    rw [e9] at hr1; grind
  refine g_if_eq C 22 dX10_weight_8 (by decide) (fun _ => ?_) (fun c4 => absurd c4 (by decide))
  refine g_iconst C (-1) dX10_weight_22 (by decide) ?_
  exact g_iret C hr ⟨by first | rfl | grind, fun k hk => rfl⟩ dX10_weight_23
theorem dX10_method_0 : decode cX10_method 0 = .ok (.iload_n 1, 1) := by decide +kernel
theorem dX10_method_1 : decode cX10_method 1 = .ok (.invokestatic 177, 3) := by decide +kernel
set_option maxRecDepth 20000 in
theorem ggX10_method_X10_isKind : GoodIn wsX10_method wsX10_isKind := goodIn_r _ [5, 6] (by decide +kernel) (by decide +kernel)
set_option maxRecDepth 20000 in
theorem gX10_method_X10_isKind : GoodIn wsX10_method (va_wsS RX10 177 yX10_isKind wsX10_isKind) := goodIn_app (goodIn_of _ (by decide +kernel)) ggX10_method_X10_isKind
theorem dX10_method_4 : decode cX10_method 4 = .ok (.ifCond .eq 33, 3) := by decide +kernel
theorem dX10_method_37 : decode cX10_method 37 = .ok (.iconst (-1), 1) := by decide +kernel
theorem dX10_method_38 : decode cX10_method 38 = .ok (.ireturn, 1) := by decide +kernel
theorem dX10_method_7 : decode cX10_method 7 = .ok (.iload_n 3, 1) := by decide +kernel
theorem dX10_method_8 : decode cX10_method 8 = .ok (.ifCond .lt 29, 3) := by decide +kernel
theorem dX10_method_11 : decode cX10_method 11 = .ok (.iload_n 3, 1) := by decide +kernel
theorem dX10_method_12 : decode cX10_method 12 = .ok (.sipush 255, 3) := by decide +kernel
theorem dX10_method_15 : decode cX10_method 15 = .ok (.if_icmp .gt 22, 3) := by decide +kernel
theorem dX10_method_18 : decode cX10_method 18 = .ok (.iload 4, 2) := by decide +kernel
theorem dX10_method_20 : decode cX10_method 20 = .ok (.bipush (-9), 2) := by decide +kernel
theorem dX10_method_22 : decode cX10_method 22 = .ok (.if_icmp .eq 17, 3) := by decide +kernel
theorem dX10_method_39 : decode cX10_method 39 = .ok (.aload_n 0, 1) := by decide +kernel
theorem dX10_method_40 : decode cX10_method 40 = .ok (.getfield 33, 3) := by decide +kernel
theorem in_X10_method_10 : ∀ w ∈ u_ws RX10 TX10 13, w ∈ wsX10_method := fun _ h => List.mem_cons_of_mem _ (List.mem_append_left _ (List.mem_append_right _ h))
theorem dX10_method_43 : decode cX10_method 43 = .ok (.iload_n 1, 1) := by decide +kernel
theorem dX10_method_44 : decode cX10_method 44 = .ok (.iload_n 2, 1) := by decide +kernel
theorem dX10_method_45 : decode cX10_method 45 = .ok (.iload_n 3, 1) := by decide +kernel
theorem dX10_method_46 : decode cX10_method 46 = .ok (.iload 4, 2) := by decide +kernel
theorem dX10_method_48 : decode cX10_method 48 = .ok (.invokevirtual 181, 3) := by decide +kernel
set_option maxRecDepth 20000 in
theorem ggX10_method_X4_come : GoodIn wsX10_method wsX4_come := goodIn_r _ [16, 12, 17, 18, 19, 20, 34, 35, 36, 37, 38, 39, 40] (by decide +kernel) (by decide +kernel)
set_option maxRecDepth 20000 in
theorem gX10_method_X4_come : GoodIn wsX10_method (wsV RX10 181 RX4 yX4_come wsX4_come) := goodIn_app (goodIn_of _ (by decide +kernel)) ggX10_method_X4_come
theorem dX10_method_51 : decode cX10_method 51 = .ok (.ireturn, 1) := by decide +kernel
theorem dX10_method_25 : decode cX10_method 25 = .ok (.aload_n 0, 1) := by decide +kernel
theorem dX10_method_26 : decode cX10_method 26 = .ok (.getfield 33, 3) := by decide +kernel
theorem dX10_method_29 : decode cX10_method 29 = .ok (.iload 4, 2) := by decide +kernel
theorem dX10_method_31 : decode cX10_method 31 = .ok (.invokevirtual 180, 3) := by decide +kernel
set_option maxRecDepth 20000 in
theorem ggX10_method_X4_has : GoodIn wsX10_method wsX4_has := goodIn_r _ [11, 12, 34, 35, 36, 37, 38, 39, 40] (by decide +kernel) (by decide +kernel)
set_option maxRecDepth 20000 in
theorem gX10_method_X4_has : GoodIn wsX10_method (wsV RX10 180 RX4 yX4_has wsX4_has) := goodIn_app (goodIn_of _ (by decide +kernel)) ggX10_method_X4_has
theorem dX10_method_34 : decode cX10_method 34 = .ok (.ifCond .ne 5, 3) := by decide +kernel
set_option maxHeartbeats 4000000 in
set_option maxRecDepth 100000 in
theorem p_X10_method (l : Launch) (D : va_G) (ad : Nat → Nat) (cs : Nat → ClassId) (M : MI) (L : ML) (x1 : Int32) (x2 : Int32) (x3 : Int32) (x4 : Int32) (hm : ∀ k, 0 ≤ k → k < 258 → M k = M0 k) : Ci l yX10_method wsX10_method ({ frames := 1, cells := 0, slots := 0, locals := 24 }) D ad cs [.ref (ad 0), .int x1, .int x2, .int x3, .int x4] M L (fun r M1 L1 => r = (if 0 ≤ x1 ∧ x1 < 9 ∧ 0 ≤ x3 ∧ x3 ≤ 255 ∧ x4 = -9 then 0 else -1) ∧ ∀ k, 258 ≤ k → M1 k = M k) := by
  refine enter_i RX10 rfl [(0, .ref (ad 0)), (1, .int x1), (2, .int x2), (3, .int x3), (4, .int x4)] rfl (Nat.le_of_ble_eq_true rfl) (by decide +kernel) rfl ?_
  intro p e s m below meth c C hr
  refine g_iload_n C 1 dX10_method_0 rfl ?_
  refine g_callSi C (n := 1) (As := [.int x1]) (st := []) (c_X10_isKind l D ad cs _ _ x1) gX10_method_X10_isKind rfl rfl rfl (by decide +kernel) ⟨Nat.le_of_ble_eq_true rfl, Nat.le_of_ble_eq_true rfl⟩ rfl (Nat.le_of_ble_eq_true rfl) ⟨Nat.zero_le _, Nat.zero_le _⟩ rfl dX10_method_1 (fun r1 M2 L3 hr1 => ?_)
  obtain ⟨hq1, hq2, hr1⟩ := hr1
  obtain rfl := hq1.symm
  obtain rfl := hq2.symm
  refine g_if_eq C 37 dX10_method_4 (by decide) (fun c4 => ?_) (fun c4 => ?_)
  ·
    refine g_iconst C (-1) dX10_method_37 (by decide) ?_
    exact g_iret C hr ⟨by first | rfl | grind, fun k hk => rfl⟩ dX10_method_38
  ·
    refine g_iload_n C 3 dX10_method_7 rfl ?_
    refine g_if_lt C 37 dX10_method_8 (by decide) (fun c5 => ?_) (fun c5 => ?_)
    ·
      refine g_iconst C (-1) dX10_method_37 (by decide) ?_
      exact g_iret C hr ⟨by first | rfl | grind, fun k hk => rfl⟩ dX10_method_38
    ·
      refine g_iload_n C 3 dX10_method_11 rfl ?_
      refine g_sipush C 255 dX10_method_12 (by decide) ?_
      refine g_icmp_gt C 37 dX10_method_15 (by decide) (fun c6 => ?_) (fun c6 => ?_)
      ·
        refine g_iconst C (-1) dX10_method_37 (by decide) ?_
        exact g_iret C hr ⟨by first | rfl | grind, fun k hk => rfl⟩ dX10_method_38
      ·
        refine g_iload C 4 dX10_method_18 rfl ?_
        refine g_bipush C (-9) dX10_method_20 (by decide) ?_
        refine g_icmp_eq C 39 dX10_method_22 (by decide) (fun c7 => ?_) (fun c7 => ?_)
        ·
          refine g_aload_n C 0 dX10_method_39 rfl ?_
          refine g_get C (.ref (ad 81)) 3 in_X10_method_10 (List.mem_of_getElem? (i := 1) rfl) (by decide) (ce_house ad cs _ _) rfl (by decide) rfl rfl dX10_method_40 ?_
          refine g_iload_n C 1 dX10_method_43 rfl ?_
          refine g_iload_n C 2 dX10_method_44 rfl ?_
          refine g_iload_n C 3 dX10_method_45 rfl ?_
          refine g_iload C 4 dX10_method_46 rfl ?_
          refine g_callVi C (n := 4) (As := [.int x1, .int x2, .int x3, .int x4]) (st := []) (c_X4_come0 l D ad cs _ _ x1 x2 x3 x4 hm) gX10_method_X4_come rfl rfl rfl (by decide +kernel) ⟨Nat.le_of_ble_eq_true rfl, Nat.le_of_ble_eq_true rfl⟩ rfl (Nat.le_of_ble_eq_true rfl) ⟨Nat.zero_le _, Nat.zero_le _⟩ (by decide) (ce_meth ad cs _ _) rfl rfl dX10_method_48 (fun r8 M9 L10 hr8 => ?_)
          exact g_iret C hr ⟨by have e7 := hr8.1; grind, fun k hk => by rw [hr8.2 k hk]⟩ dX10_method_51
        ·
          refine g_aload_n C 0 dX10_method_25 rfl ?_
          refine g_get C (.ref (ad 81)) 3 in_X10_method_10 (List.mem_of_getElem? (i := 1) rfl) (by decide) (ce_house ad cs _ _) rfl (by decide) rfl rfl dX10_method_26 ?_
          refine g_iload C 4 dX10_method_29 rfl ?_
          refine g_callVi C (n := 1) (As := [.int x4]) (st := []) (c_X4_has l D ad cs _ _ x4) gX10_method_X4_has rfl rfl rfl (by decide +kernel) ⟨Nat.le_of_ble_eq_true rfl, Nat.le_of_ble_eq_true rfl⟩ rfl (Nat.le_of_ble_eq_true rfl) ⟨Nat.zero_le _, Nat.zero_le _⟩ (by decide) (ce_meth ad cs _ _) rfl rfl dX10_method_31 (fun r11 M12 L13 hr11 => ?_)
          obtain ⟨hq1, hq2, hr11⟩ := hr11
          obtain rfl := hq1.symm
          obtain rfl := hq2.symm
          obtain rfl : r11 = 0 := by
            have e9 : M 81 0 = 0 := by (rw [hm 81 (by decide) (by decide)]; try rfl)
            rw [e9] at hr11; grind
          refine g_if_ne C 39 dX10_method_34 (by decide) (fun c14 => absurd c14 (by decide)) (fun _ => ?_)
          refine g_iconst C (-1) dX10_method_37 (by decide) ?_
          exact g_iret C hr ⟨by first | rfl | grind, fun k hk => rfl⟩ dX10_method_38
theorem dX10_methodOf_0 : decode cX10_methodOf 0 = .ok (.aload_n 0, 1) := by decide +kernel
theorem dX10_methodOf_1 : decode cX10_methodOf 1 = .ok (.getfield 33, 3) := by decide +kernel
theorem in_X10_methodOf_10 : ∀ w ∈ u_ws RX10 TX10 13, w ∈ wsX10_methodOf := fun _ h => List.mem_cons_of_mem _ (List.mem_append_left _ (List.mem_append_right _ h))
theorem dX10_methodOf_4 : decode cX10_methodOf 4 = .ok (.iload_n 1, 1) := by decide +kernel
theorem dX10_methodOf_5 : decode cX10_methodOf 5 = .ok (.invokevirtual 180, 3) := by decide +kernel
set_option maxRecDepth 20000 in
theorem ggX10_methodOf_X4_has : GoodIn wsX10_methodOf wsX4_has := goodIn_r _ [9, 10, 24, 25, 26, 27, 28, 29, 30] (by decide +kernel) (by decide +kernel)
set_option maxRecDepth 20000 in
theorem gX10_methodOf_X4_has : GoodIn wsX10_methodOf (wsV RX10 180 RX4 yX4_has wsX4_has) := goodIn_app (goodIn_of _ (by decide +kernel)) ggX10_methodOf_X4_has
theorem dX10_methodOf_8 : decode cX10_methodOf 8 = .ok (.ifCond .ne 5, 3) := by decide +kernel
theorem dX10_methodOf_11 : decode cX10_methodOf 11 = .ok (.iconst (-1), 1) := by decide +kernel
theorem dX10_methodOf_12 : decode cX10_methodOf 12 = .ok (.ireturn, 1) := by decide +kernel
set_option maxHeartbeats 4000000 in
set_option maxRecDepth 100000 in
theorem p_X10_methodOf (l : Launch) (D : va_G) (ad : Nat → Nat) (cs : Nat → ClassId) (M : MI) (L : ML) (x1 : Int32) (x2 : Int32) (hm : ∀ k, 0 ≤ k → k < 258 → M k = M0 k) : Ci l yX10_methodOf wsX10_methodOf ({ frames := 1, cells := 0, slots := 0, locals := 21 }) D ad cs [.ref (ad 0), .int x1, .int x2] M L (fun r M1 L1 => r = (-1) ∧ ∀ k, 258 ≤ k → M1 k = M k) := by
  refine enter_i RX10 rfl [(0, .ref (ad 0)), (1, .int x1), (2, .int x2)] rfl (Nat.le_of_ble_eq_true rfl) (by decide +kernel) rfl ?_
  intro p e s m below meth c C hr
  refine g_aload_n C 0 dX10_methodOf_0 rfl ?_
  refine g_get C (.ref (ad 81)) 3 in_X10_methodOf_10 (List.mem_of_getElem? (i := 1) rfl) (by decide) (ce_house ad cs _ _) rfl (by decide) rfl rfl dX10_methodOf_1 ?_
  refine g_iload_n C 1 dX10_methodOf_4 rfl ?_
  refine g_callVi C (n := 1) (As := [.int x1]) (st := []) (c_X4_has l D ad cs _ _ x1) gX10_methodOf_X4_has rfl rfl rfl (by decide +kernel) ⟨Nat.le_of_ble_eq_true rfl, Nat.le_of_ble_eq_true rfl⟩ rfl (Nat.le_of_ble_eq_true rfl) ⟨Nat.zero_le _, Nat.zero_le _⟩ (by decide) (ce_meth ad cs _ _) rfl rfl dX10_methodOf_5 (fun r1 M2 L3 hr1 => ?_)
  obtain ⟨hq1, hq2, hr1⟩ := hr1
  obtain rfl := hq1.symm
  obtain rfl := hq2.symm
  obtain rfl : r1 = 0 := by
    have e9 : M 81 0 = 0 := by (rw [hm 81 (by decide) (by decide)]; try rfl)
    rw [e9] at hr1; grind
  refine g_if_ne C 13 dX10_methodOf_8 (by decide) (fun c4 => absurd c4 (by decide)) (fun _ => ?_)
  refine g_iconst C (-1) dX10_methodOf_11 (by decide) ?_
  exact g_iret C hr ⟨by first | rfl | grind, fun k hk => rfl⟩ dX10_methodOf_12
theorem dX10_under_0 : decode cX10_under 0 = .ok (.aload_n 0, 1) := by decide +kernel
theorem dX10_under_1 : decode cX10_under 1 = .ok (.getfield 33, 3) := by decide +kernel
theorem in_X10_under_10 : ∀ w ∈ u_ws RX10 TX10 13, w ∈ wsX10_under := fun _ h => List.mem_cons_of_mem _ (List.mem_append_left _ (List.mem_append_right _ h))
theorem dX10_under_4 : decode cX10_under 4 = .ok (.iload_n 1, 1) := by decide +kernel
theorem dX10_under_5 : decode cX10_under 5 = .ok (.invokevirtual 180, 3) := by decide +kernel
set_option maxRecDepth 20000 in
theorem ggX10_under_X4_has : GoodIn wsX10_under wsX4_has := goodIn_r _ [8, 9, 30, 31, 32, 33, 34, 35, 36] (by decide +kernel) (by decide +kernel)
set_option maxRecDepth 20000 in
theorem gX10_under_X4_has : GoodIn wsX10_under (wsV RX10 180 RX4 yX4_has wsX4_has) := goodIn_app (goodIn_of _ (by decide +kernel)) ggX10_under_X4_has
theorem dX10_under_8 : decode cX10_under 8 = .ok (.ifCond .eq 10, 3) := by decide +kernel
theorem dX10_under_18 : decode cX10_under 18 = .ok (.iconst (-1), 1) := by decide +kernel
theorem dX10_under_19 : decode cX10_under 19 = .ok (.ireturn, 1) := by decide +kernel
set_option maxHeartbeats 4000000 in
set_option maxRecDepth 100000 in
theorem p_X10_under (l : Launch) (D : va_G) (ad : Nat → Nat) (cs : Nat → ClassId) (M : MI) (L : ML) (x1 : Int32) (x2 : Int32) (hm : ∀ k, 0 ≤ k → k < 258 → M k = M0 k) : Ci l yX10_under wsX10_under ({ frames := 1, cells := 0, slots := 0, locals := 21 }) D ad cs [.ref (ad 0), .int x1, .int x2] M L (fun r M1 L1 => r = (-1) ∧ ∀ k, 258 ≤ k → M1 k = M k) := by
  refine enter_i RX10 rfl [(0, .ref (ad 0)), (1, .int x1), (2, .int x2)] rfl (Nat.le_of_ble_eq_true rfl) (by decide +kernel) rfl ?_
  intro p e s m below meth c C hr
  refine g_aload_n C 0 dX10_under_0 rfl ?_
  refine g_get C (.ref (ad 81)) 3 in_X10_under_10 (List.mem_of_getElem? (i := 1) rfl) (by decide) (ce_house ad cs _ _) rfl (by decide) rfl rfl dX10_under_1 ?_
  refine g_iload_n C 1 dX10_under_4 rfl ?_
  refine g_callVi C (n := 1) (As := [.int x1]) (st := []) (c_X4_has l D ad cs _ _ x1) gX10_under_X4_has rfl rfl rfl (by decide +kernel) ⟨Nat.le_of_ble_eq_true rfl, Nat.le_of_ble_eq_true rfl⟩ rfl (Nat.le_of_ble_eq_true rfl) ⟨Nat.zero_le _, Nat.zero_le _⟩ (by decide) (ce_meth ad cs _ _) rfl rfl dX10_under_5 (fun r1 M2 L3 hr1 => ?_)
  obtain ⟨hq1, hq2, hr1⟩ := hr1
  obtain rfl := hq1.symm
  obtain rfl := hq2.symm
  obtain rfl : r1 = 0 := by
    have e9 : M 81 0 = 0 := by (rw [hm 81 (by decide) (by decide)]; try rfl)
    rw [e9] at hr1; grind
  refine g_if_eq C 18 dX10_under_8 (by decide) (fun _ => ?_) (fun c4 => absurd c4 (by decide))
  refine g_iconst C (-1) dX10_under_18 (by decide) ?_
  exact g_iret C hr ⟨by first | rfl | grind, fun k hk => rfl⟩ dX10_under_19
theorem dX10_start_0 : decode cX10_start 0 = .ok (.aload_n 0, 1) := by decide +kernel
theorem dX10_start_1 : decode cX10_start 1 = .ok (.getfield 33, 3) := by decide +kernel
theorem in_X10_start_10 : ∀ w ∈ u_ws RX10 TX10 13, w ∈ wsX10_start := fun _ h => List.mem_cons_of_mem _ (List.mem_append_left _ (List.mem_append_right _ h))
theorem dX10_start_4 : decode cX10_start 4 = .ok (.iload_n 1, 1) := by decide +kernel
theorem dX10_start_5 : decode cX10_start 5 = .ok (.invokevirtual 180, 3) := by decide +kernel
set_option maxRecDepth 20000 in
theorem ggX10_start_X4_has : GoodIn wsX10_start wsX4_has := goodIn_r _ [6, 7, 30, 31, 32, 33, 34, 35, 36] (by decide +kernel) (by decide +kernel)
set_option maxRecDepth 20000 in
theorem gX10_start_X4_has : GoodIn wsX10_start (wsV RX10 180 RX4 yX4_has wsX4_has) := goodIn_app (goodIn_of _ (by decide +kernel)) ggX10_start_X4_has
theorem dX10_start_8 : decode cX10_start 8 = .ok (.ifCond .eq 14, 3) := by decide +kernel
theorem dX10_start_22 : decode cX10_start 22 = .ok (.iconst (-1), 1) := by decide +kernel
theorem dX10_start_23 : decode cX10_start 23 = .ok (.ireturn, 1) := by decide +kernel
set_option maxHeartbeats 4000000 in
set_option maxRecDepth 100000 in
theorem p_X10_start (l : Launch) (D : va_G) (ad : Nat → Nat) (cs : Nat → ClassId) (M : MI) (L : ML) (x1 : Int32) (hm : ∀ k, 0 ≤ k → k < 258 → M k = M0 k) : Ci l yX10_start wsX10_start ({ frames := 1, cells := 0, slots := 0, locals := 21 }) D ad cs [.ref (ad 0), .int x1] M L (fun r M1 L1 => r = (-1) ∧ ∀ k, 258 ≤ k → M1 k = M k) := by
  refine enter_i RX10 rfl [(0, .ref (ad 0)), (1, .int x1)] rfl (Nat.le_of_ble_eq_true rfl) (by decide +kernel) rfl ?_
  intro p e s m below meth c C hr
  refine g_aload_n C 0 dX10_start_0 rfl ?_
  refine g_get C (.ref (ad 81)) 3 in_X10_start_10 (List.mem_of_getElem? (i := 1) rfl) (by decide) (ce_house ad cs _ _) rfl (by decide) rfl rfl dX10_start_1 ?_
  refine g_iload_n C 1 dX10_start_4 rfl ?_
  refine g_callVi C (n := 1) (As := [.int x1]) (st := []) (c_X4_has l D ad cs _ _ x1) gX10_start_X4_has rfl rfl rfl (by decide +kernel) ⟨Nat.le_of_ble_eq_true rfl, Nat.le_of_ble_eq_true rfl⟩ rfl (Nat.le_of_ble_eq_true rfl) ⟨Nat.zero_le _, Nat.zero_le _⟩ (by decide) (ce_meth ad cs _ _) rfl rfl dX10_start_5 (fun r1 M2 L3 hr1 => ?_)
  obtain ⟨hq1, hq2, hr1⟩ := hr1
  obtain rfl := hq1.symm
  obtain rfl := hq2.symm
  obtain rfl : r1 = 0 := by
    have e9 : M 81 0 = 0 := by (rw [hm 81 (by decide) (by decide)]; try rfl)
    rw [e9] at hr1; grind
  refine g_if_eq C 22 dX10_start_8 (by decide) (fun _ => ?_) (fun c4 => absurd c4 (by decide))
  refine g_iconst C (-1) dX10_start_22 (by decide) ?_
  exact g_iret C hr ⟨by first | rfl | grind, fun k hk => rfl⟩ dX10_start_23
theorem dX10_find_0 : decode cX10_find 0 = .ok (.iload_n 1, 1) := by decide +kernel
theorem dX10_find_1 : decode cX10_find 1 = .ok (.ifCond .lt 9, 3) := by decide +kernel
theorem dX10_find_10 : decode cX10_find 10 = .ok (.iconst (-1), 1) := by decide +kernel
theorem dX10_find_11 : decode cX10_find 11 = .ok (.goto 11, 3) := by decide +kernel
theorem dX10_find_22 : decode cX10_find 22 = .ok (.ireturn, 1) := by decide +kernel
theorem dX10_find_4 : decode cX10_find 4 = .ok (.iload_n 1, 1) := by decide +kernel
theorem dX10_find_5 : decode cX10_find 5 = .ok (.bipush 8, 2) := by decide +kernel
theorem dX10_find_7 : decode cX10_find 7 = .ok (.if_icmp .lt 7, 3) := by decide +kernel
theorem dX10_find_14 : decode cX10_find 14 = .ok (.aload_n 0, 1) := by decide +kernel
theorem dX10_find_15 : decode cX10_find 15 = .ok (.getfield 33, 3) := by decide +kernel
theorem in_X10_find_10 : ∀ w ∈ u_ws RX10 TX10 13, w ∈ wsX10_find := fun _ h => List.mem_cons_of_mem _ (List.mem_append_left _ (List.mem_append_right _ h))
theorem dX10_find_18 : decode cX10_find 18 = .ok (.iload_n 1, 1) := by decide +kernel
theorem dX10_find_19 : decode cX10_find 19 = .ok (.invokevirtual 203, 3) := by decide +kernel
set_option maxRecDepth 20000 in
theorem ggX10_find_X4_firstToStart : GoodIn wsX10_find wsX4_firstToStart := goodIn_r _ [6, 7, 8, 9, 10, 5, 11, 12, 13, 14, 15, 16, 17, 18, 19, 20, 21, 22, 23, 24, 25, 39, 40, 41, 42, 43, 44, 45] (by decide +kernel) (by decide +kernel)
set_option maxRecDepth 20000 in
theorem gX10_find_X4_firstToStart : GoodIn wsX10_find (wsV RX10 203 RX4 yX4_firstToStart wsX4_firstToStart) := goodIn_app (goodIn_of _ (by decide +kernel)) ggX10_find_X4_firstToStart
set_option maxHeartbeats 4000000 in
set_option maxRecDepth 100000 in
theorem p_X10_find (l : Launch) (D : va_G) (ad : Nat → Nat) (cs : Nat → ClassId) (M : MI) (L : ML) (x1 : Int32) (hm : ∀ k, 0 ≤ k → k < 258 → M k = M0 k) : Ci l yX10_find wsX10_find ({ frames := 1, cells := 0, slots := 0, locals := 23 }) D ad cs [.ref (ad 0), .int x1] M L (fun r M1 L1 => r = (if 0 ≤ x1 ∧ x1 < 8 then -9 else -1) ∧ ∀ k, 258 ≤ k → M1 k = M k) := by
  refine enter_i RX10 rfl [(0, .ref (ad 0)), (1, .int x1)] rfl (Nat.le_of_ble_eq_true rfl) (by decide +kernel) rfl ?_
  intro p e s m below meth c C hr
  refine g_iload_n C 1 dX10_find_0 rfl ?_
  refine g_if_lt C 10 dX10_find_1 (by decide) (fun c1 => ?_) (fun c1 => ?_)
  ·
    refine g_iconst C (-1) dX10_find_10 (by decide) ?_
    refine g_goto C 22 dX10_find_11 (by decide) ?_
    exact g_iret C hr ⟨by first | rfl | grind, fun k hk => rfl⟩ dX10_find_22
  ·
    refine g_iload_n C 1 dX10_find_4 rfl ?_
    refine g_bipush C 8 dX10_find_5 (by decide) ?_
    refine g_icmp_lt C 14 dX10_find_7 (by decide) (fun c2 => ?_) (fun c2 => ?_)
    ·
      refine g_aload_n C 0 dX10_find_14 rfl ?_
      refine g_get C (.ref (ad 81)) 3 in_X10_find_10 (List.mem_of_getElem? (i := 1) rfl) (by decide) (ce_house ad cs _ _) rfl (by decide) rfl rfl dX10_find_15 ?_
      refine g_iload_n C 1 dX10_find_18 rfl ?_
      refine g_callVi C (n := 1) (As := [.int x1]) (st := []) (c_X4_fts0 l D ad cs _ _ x1 hm) gX10_find_X4_firstToStart rfl rfl rfl (by decide +kernel) ⟨Nat.le_of_ble_eq_true rfl, Nat.le_of_ble_eq_true rfl⟩ rfl (Nat.le_of_ble_eq_true rfl) ⟨Nat.zero_le _, Nat.zero_le _⟩ (by decide) (ce_meth ad cs _ _) rfl rfl dX10_find_19 (fun r3 M4 L5 hr3 => ?_)
      exact g_iret C hr ⟨by have e7 := hr3.1; grind, fun k hk => by rw [hr3.2 k hk]⟩ dX10_find_22
    ·
      refine g_iconst C (-1) dX10_find_10 (by decide) ?_
      refine g_goto C 22 dX10_find_11 (by decide) ?_
      exact g_iret C hr ⟨by first | rfl | grind, fun k hk => rfl⟩ dX10_find_22
theorem dX10_count_0 : decode cX10_count 0 = .ok (.aload_n 0, 1) := by decide +kernel
theorem dX10_count_1 : decode cX10_count 1 = .ok (.bipush (-9), 2) := by decide +kernel
theorem dX10_count_3 : decode cX10_count 3 = .ok (.putfield 79, 3) := by decide +kernel
theorem in_X10_count_10 : ∀ w ∈ u_ws RX10 TX10 13, w ∈ wsX10_count := fun _ h => List.mem_cons_of_mem _ (List.mem_append_left _ (List.mem_append_left _ (List.mem_append_left _ (List.mem_append_left _ (List.mem_append_left _ (List.mem_append_left _ (List.mem_append_left _ (List.mem_append_left _ (List.mem_append_left _ (List.mem_append_left _ (List.mem_append_right _ h)))))))))))
theorem dX10_count_6 : decode cX10_count 6 = .ok (.aload_n 0, 1) := by decide +kernel
theorem dX10_count_7 : decode cX10_count 7 = .ok (.getfield 33, 3) := by decide +kernel
theorem dX10_count_10 : decode cX10_count 10 = .ok (.iload_n 1, 1) := by decide +kernel
theorem dX10_count_11 : decode cX10_count 11 = .ok (.invokevirtual 180, 3) := by decide +kernel
set_option maxRecDepth 20000 in
theorem ggX10_count_X4_has : GoodIn wsX10_count wsX4_has := goodIn_r _ [13, 14, 351, 352, 353, 354, 355, 356, 357] (by decide +kernel) (by decide +kernel)
set_option maxRecDepth 20000 in
theorem gX10_count_X4_has : GoodIn wsX10_count (wsV RX10 180 RX4 yX4_has wsX4_has) := goodIn_app (goodIn_of _ (by decide +kernel)) ggX10_count_X4_has
theorem dX10_count_14 : decode cX10_count 14 = .ok (.ifCond .eq 31, 3) := by decide +kernel
theorem dX10_count_45 : decode cX10_count 45 = .ok (.iconst (-1), 1) := by decide +kernel
theorem dX10_count_46 : decode cX10_count 46 = .ok (.ireturn, 1) := by decide +kernel
set_option maxHeartbeats 4000000 in
set_option maxRecDepth 100000 in
theorem p_X10_count (l : Launch) (D : va_G) (ad : Nat → Nat) (cs : Nat → ClassId) (M : MI) (L : ML) (x1 : Int32) (x2 : Int32) (x3 : Int32) (hm : ∀ k, 0 ≤ k → k < 258 → M k = M0 k) : Ci l yX10_count wsX10_count ({ frames := 1, cells := 0, slots := 0, locals := 21 }) D ad cs [.ref (ad 0), .int x1, .int x2, .int x3] M L (fun r M1 L1 => r = (-1) ∧ ∀ k, 258 ≤ k → M1 k = M k) := by
  refine enter_i RX10 rfl [(0, .ref (ad 0)), (1, .int x1), (2, .int x2), (3, .int x3)] rfl (Nat.le_of_ble_eq_true rfl) (by decide +kernel) rfl ?_
  intro p e s m below meth c C hr
  refine g_aload_n C 0 dX10_count_0 rfl ?_
  refine g_bipush C (-9) dX10_count_1 (by decide) ?_
  refine g_putI C 10 in_X10_count_10 (List.mem_of_getElem? (i := 1) rfl) (by decide) (ce_house ad cs _ _) rfl (by decide) rfl tyX10 tyX10_ok nmX10 rfl rfl rfl rfl (Nat.le_of_ble_eq_true rfl) (by rw [sI_k]; rfl) dX10_count_3 ?_
  refine g_nm (fun M1 hM1 => ?_)
  refine g_aload_n C 0 dX10_count_6 rfl ?_
  refine g_get C (.ref (ad 81)) 3 in_X10_count_10 (List.mem_of_getElem? (i := 2) rfl) (by decide) (ce_house ad cs _ _) rfl (by decide) rfl rfl dX10_count_7 ?_
  refine g_iload_n C 1 dX10_count_10 rfl ?_
  refine g_callVi C (n := 1) (As := [.int x1]) (st := []) (c_X4_has l D ad cs _ _ x1) gX10_count_X4_has rfl rfl rfl (by decide +kernel) ⟨Nat.le_of_ble_eq_true rfl, Nat.le_of_ble_eq_true rfl⟩ rfl (Nat.le_of_ble_eq_true rfl) ⟨Nat.zero_le _, Nat.zero_le _⟩ (by decide) (ce_meth ad cs _ _) rfl rfl dX10_count_11 (fun r2 M3 L4 hr2 => ?_)
  obtain ⟨hq1, hq2, hr2⟩ := hr2
  obtain rfl := hq1.symm
  obtain rfl := hq2.symm
  obtain rfl : r2 = 0 := by
    have e9 : M1 81 0 = 0 := by (rw [hM1, sI_at, if_neg (by decide), hm 81 (by decide) (by decide)]; try rfl)
    rw [e9] at hr2; grind
  refine g_if_eq C 45 dX10_count_14 (by decide) (fun _ => ?_) (fun c5 => absurd c5 (by decide))
  refine g_iconst C (-1) dX10_count_45 (by decide) ?_
  exact g_iret C hr ⟨by first | rfl | grind, fun k hk => by rw [hM1, sI_n _ _ _ (by omega)]⟩ dX10_count_46
theorem dX10_where_0 : decode cX10_where 0 = .ok (.aload_n 0, 1) := by decide +kernel
theorem dX10_where_1 : decode cX10_where 1 = .ok (.getfield 79, 3) := by decide +kernel
theorem in_X10_where_10 : ∀ w ∈ u_ws RX10 TX10 13, w ∈ wsX10_where := fun _ h => List.mem_cons_of_mem _ (List.mem_append_right _ h)
theorem dX10_where_4 : decode cX10_where 4 = .ok (.ireturn, 1) := by decide +kernel
set_option maxHeartbeats 4000000 in
set_option maxRecDepth 100000 in
theorem p_X10_where (l : Launch) (D : va_G) (ad : Nat → Nat) (cs : Nat → ClassId) (M : MI) (L : ML)  (hm : ∀ k, 0 ≤ k → k < 258 → M k = M0 k) : Ci l yX10_where wsX10_where ({ frames := 0, cells := 0, slots := 0, locals := 0 }) D ad cs [.ref (ad 0)] M L (fun r M1 L1 => r = (-9) ∧ ∀ k, 258 ≤ k → M1 k = M k) := by
  refine enter_i RX10 rfl [(0, .ref (ad 0))] rfl (Nat.le_of_ble_eq_true rfl) (by decide +kernel) rfl ?_
  intro p e s m below meth c C hr
  refine g_aload_n C 0 dX10_where_0 rfl ?_
  refine g_get C (.int (M 0 10)) 10 in_X10_where_10 (List.mem_of_getElem? (i := 1) rfl) (by decide) (ce_house ad cs _ _) rfl (by decide) rfl rfl dX10_where_1 ?_
  refine g_ti (-9) (by (rw [hm 0 (by decide) (by decide)]; try rfl)) ?_
  exact g_iret C hr ⟨by first | rfl | grind, fun k hk => rfl⟩ dX10_where_4
theorem dX10_seat_0 : decode cX10_seat 0 = .ok (.iload_n 1, 1) := by decide +kernel
theorem dX10_seat_1 : decode cX10_seat 1 = .ok (.ifCond .lt 26, 3) := by decide +kernel
theorem dX10_seat_27 : decode cX10_seat 27 = .ok (.bipush (-9), 2) := by decide +kernel
theorem dX10_seat_29 : decode cX10_seat 29 = .ok (.ireturn, 1) := by decide +kernel
theorem dX10_seat_4 : decode cX10_seat 4 = .ok (.iload_n 1, 1) := by decide +kernel
theorem dX10_seat_5 : decode cX10_seat 5 = .ok (.aload_n 0, 1) := by decide +kernel
theorem dX10_seat_6 : decode cX10_seat 6 = .ok (.getfield 72, 3) := by decide +kernel
theorem in_X10_seat_10 : ∀ w ∈ u_ws RX10 TX10 13, w ∈ wsX10_seat := fun _ h => List.mem_cons_of_mem _ (List.mem_append_left _ (List.mem_append_right _ h))
theorem dX10_seat_9 : decode cX10_seat 9 = .ok (.getfield 223, 3) := by decide +kernel
theorem in_X10_seat_7 : ∀ w ∈ u_ws RX7 TX7 7, w ∈ wsX10_seat := fun _ h => List.mem_cons_of_mem _ (List.mem_append_right _ h)
theorem dX10_seat_12 : decode cX10_seat 12 = .ok (.if_icmp .ge 15, 3) := by decide +kernel
set_option maxHeartbeats 4000000 in
set_option maxRecDepth 100000 in
theorem p_X10_seat (l : Launch) (D : va_G) (ad : Nat → Nat) (cs : Nat → ClassId) (M : MI) (L : ML) (x1 : Int32) (hm : ∀ k, 0 ≤ k → k < 258 → M k = M0 k) : Ci l yX10_seat wsX10_seat ({ frames := 0, cells := 0, slots := 0, locals := 0 }) D ad cs [.ref (ad 0), .int x1] M L (fun r M1 L1 => r = (-9) ∧ ∀ k, 258 ≤ k → M1 k = M k) := by
  refine enter_i RX10 rfl [(0, .ref (ad 0)), (1, .int x1)] rfl (Nat.le_of_ble_eq_true rfl) (by decide +kernel) rfl ?_
  intro p e s m below meth c C hr
  refine g_iload_n C 1 dX10_seat_0 rfl ?_
  refine g_if_lt C 27 dX10_seat_1 (by decide) (fun c1 => ?_) (fun c1 => ?_)
  ·
    refine g_bipush C (-9) dX10_seat_27 (by decide) ?_
    exact g_iret C hr ⟨by first | rfl | grind, fun k hk => rfl⟩ dX10_seat_29
  ·
    refine g_iload_n C 1 dX10_seat_4 rfl ?_
    refine g_aload_n C 0 dX10_seat_5 rfl ?_
    refine g_get C (.ref (ad ((M 0 8).toNatClampNeg))) 8 in_X10_seat_10 (List.mem_of_getElem? (i := 1) rfl) (by decide) (ce_house ad cs _ _) rfl (by decide) rfl rfl dX10_seat_6 ?_
    refine g_tr 125 (by (rw [hm 0 (by decide) (by decide)]; try rfl)) ?_
    refine g_get C (.int (M 125 0)) 0 in_X10_seat_7 (List.mem_of_getElem? (i := 2) rfl) (by decide) (ce_ra ad cs _ _) rfl (by decide) rfl rfl dX10_seat_9 ?_
    refine g_ti 0 (by (rw [hm 125 (by decide) (by decide)]; try rfl)) ?_
    refine g_icmp_ge C 27 dX10_seat_12 (by decide) (fun c2 => ?_) (fun c2 => ?_)
    ·
      refine g_bipush C (-9) dX10_seat_27 (by decide) ?_
      exact g_iret C hr ⟨by first | rfl | grind, fun k hk => rfl⟩ dX10_seat_29
    ·
      exact False.elim (by grind)
theorem dX10_rounds_0 : decode cX10_rounds 0 = .ok (.aload_n 0, 1) := by decide +kernel
theorem dX10_rounds_1 : decode cX10_rounds 1 = .ok (.getfield 72, 3) := by decide +kernel
theorem in_X10_rounds_10 : ∀ w ∈ u_ws RX10 TX10 13, w ∈ wsX10_rounds := fun _ h => List.mem_cons_of_mem _ (List.mem_append_left _ (List.mem_append_right _ h))
theorem dX10_rounds_4 : decode cX10_rounds 4 = .ok (.getfield 229, 3) := by decide +kernel
theorem in_X10_rounds_7 : ∀ w ∈ u_ws RX7 TX7 7, w ∈ wsX10_rounds := fun _ h => List.mem_cons_of_mem _ (List.mem_append_right _ h)
theorem dX10_rounds_7 : decode cX10_rounds 7 = .ok (.ireturn, 1) := by decide +kernel
set_option maxHeartbeats 4000000 in
set_option maxRecDepth 100000 in
theorem p_X10_rounds (l : Launch) (D : va_G) (ad : Nat → Nat) (cs : Nat → ClassId) (M : MI) (L : ML)  (hm : ∀ k, 0 ≤ k → k < 258 → M k = M0 k) : Ci l yX10_rounds wsX10_rounds ({ frames := 0, cells := 0, slots := 0, locals := 0 }) D ad cs [.ref (ad 0)] M L (fun r M1 L1 => r = (0) ∧ ∀ k, 258 ≤ k → M1 k = M k) := by
  refine enter_i RX10 rfl [(0, .ref (ad 0))] rfl (Nat.le_of_ble_eq_true rfl) (by decide +kernel) rfl ?_
  intro p e s m below meth c C hr
  refine g_aload_n C 0 dX10_rounds_0 rfl ?_
  refine g_get C (.ref (ad ((M 0 8).toNatClampNeg))) 8 in_X10_rounds_10 (List.mem_of_getElem? (i := 1) rfl) (by decide) (ce_house ad cs _ _) rfl (by decide) rfl rfl dX10_rounds_1 ?_
  refine g_tr 125 (by (rw [hm 0 (by decide) (by decide)]; try rfl)) ?_
  refine g_get C (.int (M 125 2)) 2 in_X10_rounds_7 (List.mem_of_getElem? (i := 2) rfl) (by decide) (ce_ra ad cs _ _) rfl (by decide) rfl rfl dX10_rounds_4 ?_
  refine g_ti 0 (by (rw [hm 125 (by decide) (by decide)]; try rfl)) ?_
  exact g_iret C hr ⟨by first | rfl | grind, fun k hk => rfl⟩ dX10_rounds_7
theorem dX10_round_0 : decode cX10_round 0 = .ok (.iload_n 2, 1) := by decide +kernel
theorem dX10_round_1 : decode cX10_round 1 = .ok (.ifCond .eq 10, 3) := by decide +kernel
theorem dX10_round_11 : decode cX10_round 11 = .ok (.aload_n 0, 1) := by decide +kernel
theorem dX10_round_12 : decode cX10_round 12 = .ok (.getfield 72, 3) := by decide +kernel
theorem in_X10_round_10 : ∀ w ∈ u_ws RX10 TX10 13, w ∈ wsX10_round := fun _ h => List.mem_cons_of_mem _ (List.mem_append_left _ (List.mem_append_right _ h))
theorem dX10_round_15 : decode cX10_round 15 = .ok (.iload_n 1, 1) := by decide +kernel
theorem dX10_round_16 : decode cX10_round 16 = .ok (.invokevirtual 232, 3) := by decide +kernel
set_option maxRecDepth 20000 in
theorem ggX10_round_X7_hasRound : GoodIn wsX10_round wsX7_hasRound := goodIn_r _ [8, 9, 23, 24, 25, 26, 27, 28, 29] (by decide +kernel) (by decide +kernel)
set_option maxRecDepth 20000 in
theorem gX10_round_X7_hasRound : GoodIn wsX10_round (wsV RX10 232 RX7 yX7_hasRound wsX7_hasRound) := goodIn_app (goodIn_of _ (by decide +kernel)) ggX10_round_X7_hasRound
theorem dX10_round_19 : decode cX10_round 19 = .ok (.ifCond .ne 6, 3) := by decide +kernel
theorem dX10_round_22 : decode cX10_round 22 = .ok (.bipush (-9), 2) := by decide +kernel
theorem dX10_round_24 : decode cX10_round 24 = .ok (.ireturn, 1) := by decide +kernel
theorem dX10_round_4 : decode cX10_round 4 = .ok (.iload_n 2, 1) := by decide +kernel
theorem dX10_round_5 : decode cX10_round 5 = .ok (.iconst 1, 1) := by decide +kernel
theorem dX10_round_6 : decode cX10_round 6 = .ok (.if_icmp .eq 5, 3) := by decide +kernel
theorem dX10_round_9 : decode cX10_round 9 = .ok (.iconst (-1), 1) := by decide +kernel
theorem dX10_round_10 : decode cX10_round 10 = .ok (.ireturn, 1) := by decide +kernel
set_option maxHeartbeats 4000000 in
set_option maxRecDepth 100000 in
theorem p_X10_round (l : Launch) (D : va_G) (ad : Nat → Nat) (cs : Nat → ClassId) (M : MI) (L : ML) (x1 : Int32) (x2 : Int32) (hm : ∀ k, 0 ≤ k → k < 258 → M k = M0 k) : Ci l yX10_round wsX10_round ({ frames := 1, cells := 0, slots := 0, locals := 21 }) D ad cs [.ref (ad 0), .int x1, .int x2] M L (fun r M1 L1 => r = (if x2 = 0 ∨ x2 = 1 then -9 else -1) ∧ ∀ k, 258 ≤ k → M1 k = M k) := by
  refine enter_i RX10 rfl [(0, .ref (ad 0)), (1, .int x1), (2, .int x2)] rfl (Nat.le_of_ble_eq_true rfl) (by decide +kernel) rfl ?_
  intro p e s m below meth c C hr
  refine g_iload_n C 2 dX10_round_0 rfl ?_
  refine g_if_eq C 11 dX10_round_1 (by decide) (fun c1 => ?_) (fun c1 => ?_)
  ·
    refine g_aload_n C 0 dX10_round_11 rfl ?_
    refine g_get C (.ref (ad ((M 0 8).toNatClampNeg))) 8 in_X10_round_10 (List.mem_of_getElem? (i := 1) rfl) (by decide) (ce_house ad cs _ _) rfl (by decide) rfl rfl dX10_round_12 ?_
    refine g_tr 125 (by (rw [hm 0 (by decide) (by decide)]; try rfl)) ?_
    refine g_iload_n C 1 dX10_round_15 rfl ?_
    refine g_callVi C (n := 1) (As := [.int x1]) (st := []) (c_X7_hasRound0 l D ad cs _ _ x1 hm) gX10_round_X7_hasRound rfl rfl rfl (by decide +kernel) ⟨Nat.le_of_ble_eq_true rfl, Nat.le_of_ble_eq_true rfl⟩ rfl (Nat.le_of_ble_eq_true rfl) ⟨Nat.zero_le _, Nat.zero_le _⟩ (by decide) (ce_ra ad cs _ _) rfl rfl dX10_round_16 (fun r2 M3 L4 hr2 => ?_)
    obtain ⟨hq1, hq2, rfl⟩ := hr2
    obtain rfl := hq1.symm
    obtain rfl := hq2.symm
    refine g_if_ne C 25 dX10_round_19 (by decide) (fun c5 => absurd c5 (by decide)) (fun _ => ?_)
    refine g_bipush C (-9) dX10_round_22 (by decide) ?_
    exact g_iret C hr ⟨by first | rfl | grind, fun k hk => rfl⟩ dX10_round_24
  ·
    refine g_iload_n C 2 dX10_round_4 rfl ?_
    refine g_iconst C 1 dX10_round_5 (by decide) ?_
    refine g_icmp_eq C 11 dX10_round_6 (by decide) (fun c6 => ?_) (fun c6 => ?_)
    ·
      refine g_aload_n C 0 dX10_round_11 rfl ?_
      refine g_get C (.ref (ad ((M 0 8).toNatClampNeg))) 8 in_X10_round_10 (List.mem_of_getElem? (i := 1) rfl) (by decide) (ce_house ad cs _ _) rfl (by decide) rfl rfl dX10_round_12 ?_
      refine g_tr 125 (by (rw [hm 0 (by decide) (by decide)]; try rfl)) ?_
      refine g_iload_n C 1 dX10_round_15 rfl ?_
      refine g_callVi C (n := 1) (As := [.int x1]) (st := []) (c_X7_hasRound0 l D ad cs _ _ x1 hm) gX10_round_X7_hasRound rfl rfl rfl (by decide +kernel) ⟨Nat.le_of_ble_eq_true rfl, Nat.le_of_ble_eq_true rfl⟩ rfl (Nat.le_of_ble_eq_true rfl) ⟨Nat.zero_le _, Nat.zero_le _⟩ (by decide) (ce_ra ad cs _ _) rfl rfl dX10_round_16 (fun r7 M8 L9 hr7 => ?_)
      obtain ⟨hq1, hq2, rfl⟩ := hr7
      obtain rfl := hq1.symm
      obtain rfl := hq2.symm
      refine g_if_ne C 25 dX10_round_19 (by decide) (fun c10 => absurd c10 (by decide)) (fun _ => ?_)
      refine g_bipush C (-9) dX10_round_22 (by decide) ?_
      exact g_iret C hr ⟨by first | rfl | grind, fun k hk => rfl⟩ dX10_round_24
    ·
      refine g_iconst C (-1) dX10_round_9 (by decide) ?_
      exact g_iret C hr ⟨by first | rfl | grind, fun k hk => rfl⟩ dX10_round_10
theorem dX10_tally_0 : decode cX10_tally 0 = .ok (.aload_n 0, 1) := by decide +kernel
theorem dX10_tally_1 : decode cX10_tally 1 = .ok (.getfield 10, 3) := by decide +kernel
theorem in_X10_tally_10 : ∀ w ∈ u_ws RX10 TX10 13, w ∈ wsX10_tally := fun _ h => List.mem_cons_of_mem _ (List.mem_append_left _ (List.mem_append_left _ (List.mem_append_right _ h)))
theorem dX10_tally_4 : decode cX10_tally 4 = .ok (.iload_n 2, 1) := by decide +kernel
theorem dX10_tally_5 : decode cX10_tally 5 = .ok (.invokevirtual 94, 3) := by decide +kernel
set_option maxRecDepth 20000 in
theorem ggX10_tally_X2_has : GoodIn wsX10_tally wsX2_has := goodIn_r _ [11, 12, 39, 40] (by decide +kernel) (by decide +kernel)
set_option maxRecDepth 20000 in
theorem gX10_tally_X2_has : GoodIn wsX10_tally (wsV RX10 94 RX2 yX2_has wsX2_has) := goodIn_app (goodIn_of _ (by decide +kernel)) ggX10_tally_X2_has
theorem dX10_tally_8 : decode cX10_tally 8 = .ok (.ifCond .ne 7, 3) := by decide +kernel
theorem dX10_tally_11 : decode cX10_tally 11 = .ok (.ldc2_w 241, 3) := by decide +kernel
theorem dX10_tally_14 : decode cX10_tally 14 = .ok (.lreturn, 1) := by decide +kernel
set_option maxHeartbeats 4000000 in
set_option maxRecDepth 100000 in
theorem p_X10_tally (l : Launch) (D : va_G) (ad : Nat → Nat) (cs : Nat → ClassId) (M : MI) (L : ML) (x1 : Int32) (x2 : Int32) (x3 : Int32) (hm : ∀ k, 0 ≤ k → k < 258 → M k = M0 k) : Cl l yX10_tally wsX10_tally ({ frames := 1, cells := 0, slots := 0, locals := 21 }) D ad cs [.ref (ad 0), .int x1, .int x2, .int x3] M L (fun r M1 L1 => r = (-1) ∧ ∀ k, 258 ≤ k → M1 k = M k) := by
  refine enter_l RX10 rfl [(0, .ref (ad 0)), (1, .int x1), (2, .int x2), (3, .int x3)] rfl (Nat.le_of_ble_eq_true rfl) (by decide +kernel) rfl ?_
  intro p e s m below meth c C hr
  refine g_aload_n C 0 dX10_tally_0 rfl ?_
  refine g_get C (.ref (ad 1)) 0 in_X10_tally_10 (List.mem_of_getElem? (i := 1) rfl) (by decide) (ce_house ad cs _ _) rfl (by decide) rfl rfl dX10_tally_1 ?_
  refine g_iload_n C 2 dX10_tally_4 rfl ?_
  refine g_callVi C (n := 1) (As := [.int x2]) (st := []) (c_X2_has l D ad cs _ _ x2) gX10_tally_X2_has rfl rfl rfl (by decide +kernel) ⟨Nat.le_of_ble_eq_true rfl, Nat.le_of_ble_eq_true rfl⟩ rfl (Nat.le_of_ble_eq_true rfl) ⟨Nat.zero_le _, Nat.zero_le _⟩ (by decide) (ce_cand ad cs _ _) rfl rfl dX10_tally_5 (fun r1 M2 L3 hr1 => ?_)
  obtain ⟨hq1, hq2, hr1⟩ := hr1
  obtain rfl := hq1.symm
  obtain rfl := hq2.symm
  obtain rfl : r1 = 0 := by
    have e9 : M 1 0 = 0 := by (rw [hm 1 (by decide) (by decide)]; try rfl)
    rw [e9] at hr1; grind
  refine g_if_ne C 15 dX10_tally_8 (by decide) (fun c4 => absurd c4 (by decide)) (fun _ => ?_)
  refine g_ldc2 C (-1) (List.mem_of_getElem? (i := 2) rfl) dX10_tally_11 ?_
  exact g_lret C hr ⟨by first | rfl | grind, fun k hk => rfl⟩ dX10_tally_14
theorem dX10_many_0 : decode cX10_many 0 = .ok (.iload_n 1, 1) := by decide +kernel
theorem dX10_many_1 : decode cX10_many 1 = .ok (.tableswitch 75 0 4 #[35, 43, 51, 59, 67], 35) := by decide +kernel
theorem dX10_many_76 : decode cX10_many 76 = .ok (.iconst (-1), 1) := by decide +kernel
theorem dX10_many_77 : decode cX10_many 77 = .ok (.ireturn, 1) := by decide +kernel
theorem dX10_many_36 : decode cX10_many 36 = .ok (.aload_n 0, 1) := by decide +kernel
theorem dX10_many_37 : decode cX10_many 37 = .ok (.getfield 10, 3) := by decide +kernel
theorem in_X10_many_10 : ∀ w ∈ u_ws RX10 TX10 13, w ∈ wsX10_many := fun _ h => List.mem_cons_of_mem _ (List.mem_append_left _ (List.mem_append_left _ (List.mem_append_left _ (List.mem_append_left _ (List.mem_append_left _ (List.mem_append_right _ h))))))
theorem dX10_many_40 : decode cX10_many 40 = .ok (.getfield 252, 3) := by decide +kernel
theorem in_X10_many_2 : ∀ w ∈ u_ws RX2 TX2 2, w ∈ wsX10_many := fun _ h => List.mem_cons_of_mem _ (List.mem_append_left _ (List.mem_append_left _ (List.mem_append_left _ (List.mem_append_left _ (List.mem_append_right _ h)))))
theorem dX10_many_43 : decode cX10_many 43 = .ok (.ireturn, 1) := by decide +kernel
theorem dX10_many_44 : decode cX10_many 44 = .ok (.aload_n 0, 1) := by decide +kernel
theorem dX10_many_45 : decode cX10_many 45 = .ok (.getfield 19, 3) := by decide +kernel
theorem dX10_many_48 : decode cX10_many 48 = .ok (.getfield 253, 3) := by decide +kernel
theorem in_X10_many_0 : ∀ w ∈ u_ws RX0 TX0 5, w ∈ wsX10_many := fun _ h => List.mem_cons_of_mem _ (List.mem_append_left _ (List.mem_append_left _ (List.mem_append_left _ (List.mem_append_right _ h))))
theorem dX10_many_51 : decode cX10_many 51 = .ok (.ireturn, 1) := by decide +kernel
theorem dX10_many_52 : decode cX10_many 52 = .ok (.aload_n 0, 1) := by decide +kernel
theorem dX10_many_53 : decode cX10_many 53 = .ok (.getfield 26, 3) := by decide +kernel
theorem dX10_many_56 : decode cX10_many 56 = .ok (.getfield 142, 3) := by decide +kernel
theorem in_X10_many_1 : ∀ w ∈ u_ws RX1 TX1 5, w ∈ wsX10_many := fun _ h => List.mem_cons_of_mem _ (List.mem_append_left _ (List.mem_append_left _ (List.mem_append_right _ h)))
theorem dX10_many_59 : decode cX10_many 59 = .ok (.ireturn, 1) := by decide +kernel
theorem dX10_many_60 : decode cX10_many 60 = .ok (.aload_n 0, 1) := by decide +kernel
theorem dX10_many_61 : decode cX10_many 61 = .ok (.getfield 33, 3) := by decide +kernel
theorem dX10_many_64 : decode cX10_many 64 = .ok (.getfield 254, 3) := by decide +kernel
theorem in_X10_many_4 : ∀ w ∈ u_ws RX4 TX4 7, w ∈ wsX10_many := fun _ h => List.mem_cons_of_mem _ (List.mem_append_left _ (List.mem_append_right _ h))
theorem dX10_many_67 : decode cX10_many 67 = .ok (.ireturn, 1) := by decide +kernel
theorem dX10_many_68 : decode cX10_many 68 = .ok (.aload_n 0, 1) := by decide +kernel
theorem dX10_many_69 : decode cX10_many 69 = .ok (.getfield 72, 3) := by decide +kernel
theorem dX10_many_72 : decode cX10_many 72 = .ok (.getfield 223, 3) := by decide +kernel
theorem in_X10_many_7 : ∀ w ∈ u_ws RX7 TX7 7, w ∈ wsX10_many := fun _ h => List.mem_cons_of_mem _ (List.mem_append_right _ h)
theorem dX10_many_75 : decode cX10_many 75 = .ok (.ireturn, 1) := by decide +kernel
set_option maxHeartbeats 4000000 in
set_option maxRecDepth 100000 in
theorem p_X10_many (l : Launch) (D : va_G) (ad : Nat → Nat) (cs : Nat → ClassId) (M : MI) (L : ML) (x1 : Int32) (hm : ∀ k, 0 ≤ k → k < 258 → M k = M0 k) : Ci l yX10_many wsX10_many ({ frames := 0, cells := 0, slots := 0, locals := 0 }) D ad cs [.ref (ad 0), .int x1] M L (fun r M1 L1 => r = (if 0 ≤ x1.toInt ∧ x1.toInt ≤ 4 then 0 else -1) ∧ ∀ k, 258 ≤ k → M1 k = M k) := by
  refine enter_i RX10 rfl [(0, .ref (ad 0)), (1, .int x1)] rfl (Nat.le_of_ble_eq_true rfl) (by decide +kernel) rfl ?_
  intro p e s m below meth c C hr
  refine g_iload_n C 1 dX10_many_0 rfl ?_
  by_cases hsw : x1.toInt < 0 ∨ 4 < x1.toInt
  ·
    refine g_tableOut C 76 dX10_many_1 hsw (by decide) ?_
    refine g_iconst C (-1) dX10_many_76 (by decide) ?_
    exact g_iret C hr ⟨by first | rfl | grind, fun k hk => rfl⟩ dX10_many_77
  ·
    have hsw1 : ¬ x1.toInt < 0 := fun h => hsw (Or.inl h)
    have hsw2 : ¬ 4 < x1.toInt := fun h => hsw (Or.inr h)
    rcases (show x1.toInt = 0 ∨ x1.toInt = 1 ∨ x1.toInt = 2 ∨ x1.toInt = 3 ∨ x1.toInt = 4 by omega) with hq | hq | hq | hq | hq
    ·
      refine g_tableIn C 36 dX10_many_1 hsw1 hsw2 (off := 35) (by rw [hq]; rfl) (by decide) ?_
      refine g_aload_n C 0 dX10_many_36 rfl ?_
      refine g_get C (.ref (ad 1)) 0 in_X10_many_10 (List.mem_of_getElem? (i := 1) rfl) (by decide) (ce_house ad cs _ _) rfl (by decide) rfl rfl dX10_many_37 ?_
      refine g_get C (.int (M 1 0)) 0 in_X10_many_2 (List.mem_of_getElem? (i := 2) rfl) (by decide) (ce_cand ad cs _ _) rfl (by decide) rfl rfl dX10_many_40 ?_
      refine g_ti 0 (by (rw [hm 1 (by decide) (by decide)]; try rfl)) ?_
      exact g_iret C hr ⟨by first | rfl | grind, fun k hk => rfl⟩ dX10_many_43
    ·
      refine g_tableIn C 44 dX10_many_1 hsw1 hsw2 (off := 43) (by rw [hq]; rfl) (by decide) ?_
      refine g_aload_n C 0 dX10_many_44 rfl ?_
      refine g_get C (.ref (ad 3)) 1 in_X10_many_10 (List.mem_of_getElem? (i := 3) rfl) (by decide) (ce_house ad cs _ _) rfl (by decide) rfl rfl dX10_many_45 ?_
      refine g_get C (.int (M 3 0)) 0 in_X10_many_0 (List.mem_of_getElem? (i := 4) rfl) (by decide) (ce_ball ad cs _ _) rfl (by decide) rfl rfl dX10_many_48 ?_
      refine g_ti 0 (by (rw [hm 3 (by decide) (by decide)]; try rfl)) ?_
      exact g_iret C hr ⟨by first | rfl | grind, fun k hk => rfl⟩ dX10_many_51
    ·
      refine g_tableIn C 52 dX10_many_1 hsw1 hsw2 (off := 51) (by rw [hq]; rfl) (by decide) ?_
      refine g_aload_n C 0 dX10_many_52 rfl ?_
      refine g_get C (.ref (ad 68)) 2 in_X10_many_10 (List.mem_of_getElem? (i := 5) rfl) (by decide) (ce_house ad cs _ _) rfl (by decide) rfl rfl dX10_many_53 ?_
      refine g_get C (.int (M 68 0)) 0 in_X10_many_1 (List.mem_of_getElem? (i := 6) rfl) (by decide) (ce_box ad cs _ _) rfl (by decide) rfl rfl dX10_many_56 ?_
      refine g_ti 0 (by (rw [hm 68 (by decide) (by decide)]; try rfl)) ?_
      exact g_iret C hr ⟨by first | rfl | grind, fun k hk => rfl⟩ dX10_many_59
    ·
      refine g_tableIn C 60 dX10_many_1 hsw1 hsw2 (off := 59) (by rw [hq]; rfl) (by decide) ?_
      refine g_aload_n C 0 dX10_many_60 rfl ?_
      refine g_get C (.ref (ad 81)) 3 in_X10_many_10 (List.mem_of_getElem? (i := 7) rfl) (by decide) (ce_house ad cs _ _) rfl (by decide) rfl rfl dX10_many_61 ?_
      refine g_get C (.int (M 81 0)) 0 in_X10_many_4 (List.mem_of_getElem? (i := 8) rfl) (by decide) (ce_meth ad cs _ _) rfl (by decide) rfl rfl dX10_many_64 ?_
      refine g_ti 0 (by (rw [hm 81 (by decide) (by decide)]; try rfl)) ?_
      exact g_iret C hr ⟨by first | rfl | grind, fun k hk => rfl⟩ dX10_many_67
    ·
      refine g_tableIn C 68 dX10_many_1 hsw1 hsw2 (off := 67) (by rw [hq]; rfl) (by decide) ?_
      refine g_aload_n C 0 dX10_many_68 rfl ?_
      refine g_get C (.ref (ad ((M 0 8).toNatClampNeg))) 8 in_X10_many_10 (List.mem_of_getElem? (i := 9) rfl) (by decide) (ce_house ad cs _ _) rfl (by decide) rfl rfl dX10_many_69 ?_
      refine g_tr 125 (by (rw [hm 0 (by decide) (by decide)]; try rfl)) ?_
      refine g_get C (.int (M 125 0)) 0 in_X10_many_7 (List.mem_of_getElem? (i := 10) rfl) (by decide) (ce_ra ad cs _ _) rfl (by decide) rfl rfl dX10_many_72 ?_
      refine g_ti 0 (by (rw [hm 125 (by decide) (by decide)]; try rfl)) ?_
      exact g_iret C hr ⟨by first | rfl | grind, fun k hk => rfl⟩ dX10_many_75
theorem dX10_finding_0 : decode cX10_finding 0 = .ok (.aload_n 0, 1) := by decide +kernel
theorem dX10_finding_1 : decode cX10_finding 1 = .ok (.getfield 83, 3) := by decide +kernel
theorem in_X10_finding_10 : ∀ w ∈ u_ws RX10 TX10 13, w ∈ wsX10_finding := fun _ h => List.mem_cons_of_mem _ (List.mem_append_right _ h)
theorem dX10_finding_4 : decode cX10_finding 4 = .ok (.ireturn, 1) := by decide +kernel
set_option maxHeartbeats 4000000 in
set_option maxRecDepth 100000 in
theorem p_X10_finding (l : Launch) (D : va_G) (ad : Nat → Nat) (cs : Nat → ClassId) (M : MI) (L : ML)  (hm : ∀ k, 0 ≤ k → k < 258 → M k = M0 k) : Ci l yX10_finding wsX10_finding ({ frames := 0, cells := 0, slots := 0, locals := 0 }) D ad cs [.ref (ad 0)] M L (fun r M1 L1 => r = (0) ∧ ∀ k, 258 ≤ k → M1 k = M k) := by
  refine enter_i RX10 rfl [(0, .ref (ad 0))] rfl (Nat.le_of_ble_eq_true rfl) (by decide +kernel) rfl ?_
  intro p e s m below meth c C hr
  refine g_aload_n C 0 dX10_finding_0 rfl ?_
  refine g_get C (.int (M 0 11)) 11 in_X10_finding_10 (List.mem_of_getElem? (i := 1) rfl) (by decide) (ce_house ad cs _ _) rfl (by decide) rfl rfl dX10_finding_1 ?_
  refine g_ti 0 (by (rw [hm 0 (by decide) (by decide)]; try rfl)) ?_
  exact g_iret C hr ⟨by first | rfl | grind, fun k hk => rfl⟩ dX10_finding_4
theorem dX10_findings_0 : decode cX10_findings 0 = .ok (.iload_n 1, 1) := by decide +kernel
theorem dX10_findings_1 : decode cX10_findings 1 = .ok (.iconst 1, 1) := by decide +kernel
theorem dX10_findings_2 : decode cX10_findings 2 = .ok (.if_icmp .lt 18, 3) := by decide +kernel
theorem dX10_findings_20 : decode cX10_findings 20 = .ok (.iconst (-1), 1) := by decide +kernel
theorem dX10_findings_21 : decode cX10_findings 21 = .ok (.ireturn, 1) := by decide +kernel
theorem dX10_findings_5 : decode cX10_findings 5 = .ok (.iload_n 1, 1) := by decide +kernel
theorem dX10_findings_6 : decode cX10_findings 6 = .ok (.bipush 6, 2) := by decide +kernel
theorem dX10_findings_8 : decode cX10_findings 8 = .ok (.if_icmp .gt 12, 3) := by decide +kernel
theorem dX10_findings_11 : decode cX10_findings 11 = .ok (.aload_n 0, 1) := by decide +kernel
theorem dX10_findings_12 : decode cX10_findings 12 = .ok (.getfield 86, 3) := by decide +kernel
theorem in_X10_findings_10 : ∀ w ∈ u_ws RX10 TX10 13, w ∈ wsX10_findings := fun _ h => List.mem_cons_of_mem _ (List.mem_append_right _ h)
theorem dX10_findings_15 : decode cX10_findings 15 = .ok (.iload_n 1, 1) := by decide +kernel
theorem dX10_findings_16 : decode cX10_findings 16 = .ok (.iaload, 1) := by decide +kernel
theorem dX10_findings_17 : decode cX10_findings 17 = .ok (.goto 4, 3) := by decide +kernel
set_option maxHeartbeats 4000000 in
set_option maxRecDepth 100000 in
theorem p_X10_findings (l : Launch) (D : va_G) (ad : Nat → Nat) (cs : Nat → ClassId) (M : MI) (L : ML) (x1 : Int32) (hm : ∀ k, 0 ≤ k → k < 258 → M k = M0 k) : Ci l yX10_findings wsX10_findings ({ frames := 0, cells := 0, slots := 0, locals := 0 }) D ad cs [.ref (ad 0), .int x1] M L (fun r M1 L1 => r = (if 1 ≤ x1 ∧ x1 ≤ 6 then 0 else -1) ∧ ∀ k, 258 ≤ k → M1 k = M k) := by
  refine enter_i RX10 rfl [(0, .ref (ad 0)), (1, .int x1)] rfl (Nat.le_of_ble_eq_true rfl) (by decide +kernel) rfl ?_
  intro p e s m below meth c C hr
  refine g_iload_n C 1 dX10_findings_0 rfl ?_
  refine g_iconst C 1 dX10_findings_1 (by decide) ?_
  refine g_icmp_lt C 20 dX10_findings_2 (by decide) (fun c1 => ?_) (fun c1 => ?_)
  ·
    refine g_iconst C (-1) dX10_findings_20 (by decide) ?_
    exact g_iret C hr ⟨by first | rfl | grind, fun k hk => rfl⟩ dX10_findings_21
  ·
    refine g_iload_n C 1 dX10_findings_5 rfl ?_
    refine g_bipush C 6 dX10_findings_6 (by decide) ?_
    refine g_icmp_gt C 20 dX10_findings_8 (by decide) (fun c2 => ?_) (fun c2 => ?_)
    ·
      refine g_iconst C (-1) dX10_findings_20 (by decide) ?_
      exact g_iret C hr ⟨by first | rfl | grind, fun k hk => rfl⟩ dX10_findings_21
    ·
      have h_in_x1 : vp_in x1 7 := in_of 1 6 (by grind) (by grind) (by decide) (by decide)
      refine g_aload_n C 0 dX10_findings_11 rfl ?_
      refine g_get C (.ref (ad 257)) 12 in_X10_findings_10 (List.mem_of_getElem? (i := 1) rfl) (by decide) (ce_house ad cs _ _) rfl (by decide) rfl rfl dX10_findings_12 ?_
      refine g_iload_n C 1 dX10_findings_15 rfl ?_
      refine g_iald C (by decide) (ce_times ad cs _ _) (h_in_x1) dX10_findings_16 ?_
      refine g_ti 0 (by (rw [hm 257 (by decide) (by decide)]; try rfl)) ?_
      refine g_goto C 21 dX10_findings_17 (by decide) ?_
      exact g_iret C hr ⟨by first | rfl | grind, fun k hk => rfl⟩ dX10_findings_21
theorem dX10_box_0 : decode cX10_box 0 = .ok (.iload_n 1, 1) := by decide +kernel
theorem dX10_box_1 : decode cX10_box 1 = .ok (.invokestatic 105, 3) := by decide +kernel
set_option maxRecDepth 20000 in
theorem ggX10_box_X10_isSort : GoodIn wsX10_box wsX10_isSort := goodIn_r _ [6, 7] (by decide +kernel) (by decide +kernel)
set_option maxRecDepth 20000 in
theorem gX10_box_X10_isSort : GoodIn wsX10_box (va_wsS RX10 105 yX10_isSort wsX10_isSort) := goodIn_app (goodIn_of _ (by decide +kernel)) ggX10_box_X10_isSort
theorem dX10_box_4 : decode cX10_box 4 = .ok (.ifCond .eq 9, 3) := by decide +kernel
theorem dX10_box_13 : decode cX10_box 13 = .ok (.iconst (-1), 1) := by decide +kernel
theorem dX10_box_14 : decode cX10_box 14 = .ok (.ireturn, 1) := by decide +kernel
theorem dX10_box_7 : decode cX10_box 7 = .ok (.iload_n 2, 1) := by decide +kernel
theorem dX10_box_8 : decode cX10_box 8 = .ok (.bipush 40, 2) := by decide +kernel
theorem dX10_box_10 : decode cX10_box 10 = .ok (.if_icmp .le 5, 3) := by decide +kernel
theorem dX10_box_15 : decode cX10_box 15 = .ok (.aload_n 0, 1) := by decide +kernel
theorem dX10_box_16 : decode cX10_box 16 = .ok (.getfield 26, 3) := by decide +kernel
theorem in_X10_box_10 : ∀ w ∈ u_ws RX10 TX10 13, w ∈ wsX10_box := fun _ h => List.mem_cons_of_mem _ (List.mem_append_left _ (List.mem_append_right _ h))
theorem dX10_box_19 : decode cX10_box 19 = .ok (.getfield 142, 3) := by decide +kernel
theorem in_X10_box_1 : ∀ w ∈ u_ws RX1 TX1 5, w ∈ wsX10_box := fun _ h => List.mem_cons_of_mem _ (List.mem_append_right _ h)
theorem dX10_box_22 : decode cX10_box 22 = .ok (.bipush 8, 2) := by decide +kernel
theorem dX10_box_24 : decode cX10_box 24 = .ok (.if_icmp .ne 6, 3) := by decide +kernel
theorem dX10_box_30 : decode cX10_box 30 = .ok (.iload_n 2, 1) := by decide +kernel
theorem dX10_box_31 : decode cX10_box 31 = .ok (.ifCond .ge 9, 3) := by decide +kernel
theorem dX10_box_40 : decode cX10_box 40 = .ok (.aload_n 0, 1) := by decide +kernel
theorem dX10_box_41 : decode cX10_box 41 = .ok (.getfield 26, 3) := by decide +kernel
theorem dX10_box_44 : decode cX10_box 44 = .ok (.iload_n 1, 1) := by decide +kernel
theorem dX10_box_45 : decode cX10_box 45 = .ok (.iload_n 2, 1) := by decide +kernel
theorem dX10_box_46 : decode cX10_box 46 = .ok (.invokevirtual 145, 3) := by decide +kernel
set_option maxRecDepth 20000 in
theorem ggX10_box_X1_come : GoodIn wsX10_box wsX1_come := goodIn_r _ [18, 19, 20, 21, 22, 36, 37, 38, 39, 40] (by decide +kernel) (by decide +kernel)
set_option maxRecDepth 20000 in
theorem gX10_box_X1_come : GoodIn wsX10_box (wsV RX10 145 RX1 yX1_come wsX1_come) := goodIn_app (goodIn_of _ (by decide +kernel)) ggX10_box_X1_come
theorem dX10_box_49 : decode cX10_box 49 = .ok (.ireturn, 1) := by decide +kernel
theorem dX10_box_34 : decode cX10_box 34 = .ok (.aload_n 0, 1) := by decide +kernel
theorem dX10_box_35 : decode cX10_box 35 = .ok (.iconst 5, 1) := by decide +kernel
theorem dX10_box_36 : decode cX10_box 36 = .ok (.invokevirtual 117, 3) := by decide +kernel
set_option maxRecDepth 20000 in
theorem ggX10_box_X10_found : GoodIn wsX10_box wsX10_found := goodIn_r _ [11, 12, 13, 23, 24, 25, 26, 27, 28, 29, 30, 31, 32, 33, 34, 35] (by decide +kernel) (by decide +kernel)
set_option maxRecDepth 20000 in
theorem gX10_box_X10_found : GoodIn wsX10_box (wsV RX10 117 RX10 yX10_found wsX10_found) := goodIn_app (goodIn_of _ (by decide +kernel)) ggX10_box_X10_found
theorem dX10_box_39 : decode cX10_box 39 = .ok (.ireturn, 1) := by decide +kernel
set_option maxHeartbeats 4000000 in
set_option maxRecDepth 100000 in
theorem p_X10_box (l : Launch) (D : va_G) (ad : Nat → Nat) (cs : Nat → ClassId) (M : MI) (L : ML) (x1 : Int32) (x2 : Int32) (hm : ∀ k, 0 ≤ k → k < 258 → M k = M0 k) : Ci l yX10_box wsX10_box ({ frames := 1, cells := 0, slots := 0, locals := 23 }) D ad cs [.ref (ad 0), .int x1, .int x2] M L (fun r M1 L1 => r = (if 0 ≤ x1 ∧ x1 < 4 ∧ x2 ≤ 40 then (if x2 < 0 then -3 else 0) else -1) ∧ ∀ k, 258 ≤ k → M1 k = M k) := by
  refine enter_i RX10 rfl [(0, .ref (ad 0)), (1, .int x1), (2, .int x2)] rfl (Nat.le_of_ble_eq_true rfl) (by decide +kernel) rfl ?_
  intro p e s m below meth c C hr
  refine g_iload_n C 1 dX10_box_0 rfl ?_
  refine g_callSi C (n := 1) (As := [.int x1]) (st := []) (c_X10_isSort l D ad cs _ _ x1) gX10_box_X10_isSort rfl rfl rfl (by decide +kernel) ⟨Nat.le_of_ble_eq_true rfl, Nat.le_of_ble_eq_true rfl⟩ rfl (Nat.le_of_ble_eq_true rfl) ⟨Nat.zero_le _, Nat.zero_le _⟩ rfl dX10_box_1 (fun r1 M2 L3 hr1 => ?_)
  obtain ⟨hq1, hq2, hr1⟩ := hr1
  obtain rfl := hq1.symm
  obtain rfl := hq2.symm
  refine g_if_eq C 13 dX10_box_4 (by decide) (fun c4 => ?_) (fun c4 => ?_)
  ·
    refine g_iconst C (-1) dX10_box_13 (by decide) ?_
    exact g_iret C hr ⟨by first | rfl | grind, fun k hk => rfl⟩ dX10_box_14
  ·
    refine g_iload_n C 2 dX10_box_7 rfl ?_
    refine g_bipush C 40 dX10_box_8 (by decide) ?_
    refine g_icmp_le C 15 dX10_box_10 (by decide) (fun c5 => ?_) (fun c5 => ?_)
    ·
      refine g_aload_n C 0 dX10_box_15 rfl ?_
      refine g_get C (.ref (ad 68)) 2 in_X10_box_10 (List.mem_of_getElem? (i := 1) rfl) (by decide) (ce_house ad cs _ _) rfl (by decide) rfl rfl dX10_box_16 ?_
      refine g_get C (.int (M 68 0)) 0 in_X10_box_1 (List.mem_of_getElem? (i := 2) rfl) (by decide) (ce_box ad cs _ _) rfl (by decide) rfl rfl dX10_box_19 ?_
      refine g_ti 0 (by (rw [hm 68 (by decide) (by decide)]; try rfl)) ?_
      refine g_bipush C 8 dX10_box_22 (by decide) ?_
      refine g_icmp_ne C 30 dX10_box_24 (by decide) (fun _ => ?_) (fun c6 => absurd c6 (by decide))
      refine g_iload_n C 2 dX10_box_30 rfl ?_
      refine g_if_ge C 40 dX10_box_31 (by decide) (fun c7 => ?_) (fun c7 => ?_)
      ·
        have hx2 : x2.toInt ≤ (40 : Nat) := by have h := (show x2 ≤ 40 by grind); rw [Int32.le_iff_toInt_le] at h; exact h
        refine g_aload_n C 0 dX10_box_40 rfl ?_
        refine g_get C (.ref (ad 68)) 2 in_X10_box_10 (List.mem_of_getElem? (i := 1) rfl) (by decide) (ce_house ad cs _ _) rfl (by decide) rfl rfl dX10_box_41 ?_
        refine g_iload_n C 1 dX10_box_44 rfl ?_
        refine g_iload_n C 2 dX10_box_45 rfl ?_
        refine g_callVi C (n := 2) (As := [.int x1, .int x2]) (st := []) (c_X1_come0 l D ad cs _ _ x1 x2 hm hx2) gX10_box_X1_come rfl rfl rfl (by decide +kernel) ⟨Nat.le_of_ble_eq_true rfl, Nat.le_of_ble_eq_true rfl⟩ rfl (Nat.le_of_ble_eq_true rfl) ⟨Nat.zero_le _, Nat.zero_le _⟩ (by decide) (ce_box ad cs _ _) rfl rfl dX10_box_46 (fun r8 M9 L10 hr8 => ?_)
        exact g_iret C hr ⟨by have e7 := hr8.1; grind, fun k hk => by rw [hr8.2 k hk]⟩ dX10_box_49
      ·
        refine g_aload_n C 0 dX10_box_34 rfl ?_
        refine g_iconst C 5 dX10_box_35 (by decide) ?_
        refine g_callVi C (n := 1) (As := [.int 5]) (st := []) (c_X10_found0 l D ad cs _ _ 5 (by unfold vp_in; decide)) gX10_box_X10_found rfl rfl rfl (by decide +kernel) ⟨Nat.le_of_ble_eq_true rfl, Nat.le_of_ble_eq_true rfl⟩ rfl (Nat.le_of_ble_eq_true rfl) ⟨Nat.zero_le _, Nat.zero_le _⟩ (by decide) (ce_house ad cs _ _) rfl rfl dX10_box_36 (fun r11 M12 L13 hr11 => ?_)
        exact g_iret C hr ⟨by have e7 := hr11.1; grind, fun k hk => by rw [hr11.2 k hk]⟩ dX10_box_39
    ·
      refine g_iconst C (-1) dX10_box_13 (by decide) ?_
      exact g_iret C hr ⟨by first | rfl | grind, fun k hk => rfl⟩ dX10_box_14
theorem dX10_digest_0 : decode cX10_digest 0 = .ok (.ldc2_w 255, 3) := by decide +kernel
theorem dX10_digest_3 : decode cX10_digest 3 = .ok (.lstore_n 1, 1) := by decide +kernel
theorem dX10_digest_4 : decode cX10_digest 4 = .ok (.iconst 0, 1) := by decide +kernel
theorem dX10_digest_5 : decode cX10_digest 5 = .ok (.istore_n 3, 1) := by decide +kernel
theorem dX10_digest_6 : decode cX10_digest 6 = .ok (.iload_n 3, 1) := by decide +kernel
theorem dX10_digest_7 : decode cX10_digest 7 = .ok (.aload_n 0, 1) := by decide +kernel
theorem dX10_digest_8 : decode cX10_digest 8 = .ok (.getfield 10, 3) := by decide +kernel
theorem in_X10_digest_10 : ∀ w ∈ u_ws RX10 TX10 13, w ∈ wsX10_digest := fun _ h => List.mem_cons_of_mem _ (List.mem_append_left _ (List.mem_append_left _ (List.mem_append_left _ (List.mem_append_left _ (List.mem_append_right _ h)))))
theorem dX10_digest_11 : decode cX10_digest 11 = .ok (.getfield 252, 3) := by decide +kernel
theorem in_X10_digest_2 : ∀ w ∈ u_ws RX2 TX2 2, w ∈ wsX10_digest := fun _ h => List.mem_cons_of_mem _ (List.mem_append_left _ (List.mem_append_left _ (List.mem_append_left _ (List.mem_append_right _ h))))
theorem dX10_digest_14 : decode cX10_digest 14 = .ok (.if_icmp .ge 26, 3) := by decide +kernel
theorem dX10_digest_40 : decode cX10_digest 40 = .ok (.iconst 0, 1) := by decide +kernel
theorem dX10_digest_41 : decode cX10_digest 41 = .ok (.istore_n 3, 1) := by decide +kernel
theorem dX10_digest_42 : decode cX10_digest 42 = .ok (.iload_n 3, 1) := by decide +kernel
theorem dX10_digest_43 : decode cX10_digest 43 = .ok (.aload_n 0, 1) := by decide +kernel
theorem dX10_digest_44 : decode cX10_digest 44 = .ok (.getfield 19, 3) := by decide +kernel
theorem dX10_digest_47 : decode cX10_digest 47 = .ok (.getfield 253, 3) := by decide +kernel
theorem in_X10_digest_0 : ∀ w ∈ u_ws RX0 TX0 5, w ∈ wsX10_digest := fun _ h => List.mem_cons_of_mem _ (List.mem_append_left _ (List.mem_append_left _ (List.mem_append_right _ h)))
theorem dX10_digest_50 : decode cX10_digest 50 = .ok (.if_icmp .ge 16, 3) := by decide +kernel
theorem dX10_digest_66 : decode cX10_digest 66 = .ok (.iconst 0, 1) := by decide +kernel
theorem dX10_digest_67 : decode cX10_digest 67 = .ok (.istore_n 3, 1) := by decide +kernel
theorem dX10_digest_68 : decode cX10_digest 68 = .ok (.iload_n 3, 1) := by decide +kernel
theorem dX10_digest_69 : decode cX10_digest 69 = .ok (.aload_n 0, 1) := by decide +kernel
theorem dX10_digest_70 : decode cX10_digest 70 = .ok (.getfield 26, 3) := by decide +kernel
theorem dX10_digest_73 : decode cX10_digest 73 = .ok (.getfield 142, 3) := by decide +kernel
theorem in_X10_digest_1 : ∀ w ∈ u_ws RX1 TX1 5, w ∈ wsX10_digest := fun _ h => List.mem_cons_of_mem _ (List.mem_append_left _ (List.mem_append_right _ h))
theorem dX10_digest_76 : decode cX10_digest 76 = .ok (.if_icmp .ge 52, 3) := by decide +kernel
theorem dX10_digest_128 : decode cX10_digest 128 = .ok (.iconst 0, 1) := by decide +kernel
theorem dX10_digest_129 : decode cX10_digest 129 = .ok (.istore_n 3, 1) := by decide +kernel
theorem dX10_digest_130 : decode cX10_digest 130 = .ok (.iload_n 3, 1) := by decide +kernel
theorem dX10_digest_131 : decode cX10_digest 131 = .ok (.aload_n 0, 1) := by decide +kernel
theorem dX10_digest_132 : decode cX10_digest 132 = .ok (.getfield 33, 3) := by decide +kernel
theorem dX10_digest_135 : decode cX10_digest 135 = .ok (.getfield 254, 3) := by decide +kernel
theorem in_X10_digest_4 : ∀ w ∈ u_ws RX4 TX4 7, w ∈ wsX10_digest := fun _ h => List.mem_cons_of_mem _ (List.mem_append_right _ h)
theorem dX10_digest_138 : decode cX10_digest 138 = .ok (.if_icmp .ge 39, 3) := by decide +kernel
theorem dX10_digest_177 : decode cX10_digest 177 = .ok (.lload_n 1, 1) := by decide +kernel
theorem dX10_digest_178 : decode cX10_digest 178 = .ok (.lreturn, 1) := by decide +kernel
set_option maxHeartbeats 4000000 in
set_option maxRecDepth 100000 in
theorem p_X10_digest (l : Launch) (D : va_G) (ad : Nat → Nat) (cs : Nat → ClassId) (M : MI) (L : ML)  (hm : ∀ k, 0 ≤ k → k < 258 → M k = M0 k) : Cl l yX10_digest wsX10_digest ({ frames := 0, cells := 0, slots := 0, locals := 0 }) D ad cs [.ref (ad 0)] M L (fun r M1 L1 => r = (17) ∧ ∀ k, 258 ≤ k → M1 k = M k) := by
  refine enter_l RX10 rfl [(0, .ref (ad 0))] rfl (Nat.le_of_ble_eq_true rfl) (by decide +kernel) rfl ?_
  intro p e s m below meth c C hr
  refine g_ldc2 C 17 (List.mem_of_getElem? (i := 1) rfl) dX10_digest_0 ?_
  refine g_lstore_n C [(1, .long 17), (0, .ref (ad 0))] dX10_digest_3 (by decide) rfl ?_
  refine g_iconst C 0 dX10_digest_4 (by decide) ?_
  refine g_istore_n C [(3, .int 0), (1, .long 17), (0, .ref (ad 0))] dX10_digest_5 (by decide) rfl ?_
  refine g_iload_n C 0 dX10_digest_6 rfl ?_
  refine g_aload_n C 2 dX10_digest_7 rfl ?_
  refine g_get C (.ref (ad 1)) 0 in_X10_digest_10 (List.mem_of_getElem? (i := 2) rfl) (by decide) (ce_house ad cs _ _) rfl (by decide) rfl rfl dX10_digest_8 ?_
  refine g_get C (.int (M 1 0)) 0 in_X10_digest_2 (List.mem_of_getElem? (i := 3) rfl) (by decide) (ce_cand ad cs _ _) rfl (by decide) rfl rfl dX10_digest_11 ?_
  refine g_ti 0 (by (rw [hm 1 (by decide) (by decide)]; try rfl)) ?_
  refine g_icmp_ge C 40 dX10_digest_14 (by decide) (fun _ => ?_) (fun c1 => absurd c1 (by decide))
  refine g_iconst C 0 dX10_digest_40 (by decide) ?_
  refine g_istore_n C [(3, .int 0), (1, .long 17), (0, .ref (ad 0))] dX10_digest_41 (by decide) rfl ?_
  refine g_iload_n C 0 dX10_digest_42 rfl ?_
  refine g_aload_n C 2 dX10_digest_43 rfl ?_
  refine g_get C (.ref (ad 3)) 1 in_X10_digest_10 (List.mem_of_getElem? (i := 6) rfl) (by decide) (ce_house ad cs _ _) rfl (by decide) rfl rfl dX10_digest_44 ?_
  refine g_get C (.int (M 3 0)) 0 in_X10_digest_0 (List.mem_of_getElem? (i := 7) rfl) (by decide) (ce_ball ad cs _ _) rfl (by decide) rfl rfl dX10_digest_47 ?_
  refine g_ti 0 (by (rw [hm 3 (by decide) (by decide)]; try rfl)) ?_
  refine g_icmp_ge C 66 dX10_digest_50 (by decide) (fun _ => ?_) (fun c2 => absurd c2 (by decide))
  refine g_iconst C 0 dX10_digest_66 (by decide) ?_
  refine g_istore_n C [(3, .int 0), (1, .long 17), (0, .ref (ad 0))] dX10_digest_67 (by decide) rfl ?_
  refine g_iload_n C 0 dX10_digest_68 rfl ?_
  refine g_aload_n C 2 dX10_digest_69 rfl ?_
  refine g_get C (.ref (ad 68)) 2 in_X10_digest_10 (List.mem_of_getElem? (i := 8) rfl) (by decide) (ce_house ad cs _ _) rfl (by decide) rfl rfl dX10_digest_70 ?_
  refine g_get C (.int (M 68 0)) 0 in_X10_digest_1 (List.mem_of_getElem? (i := 9) rfl) (by decide) (ce_box ad cs _ _) rfl (by decide) rfl rfl dX10_digest_73 ?_
  refine g_ti 0 (by (rw [hm 68 (by decide) (by decide)]; try rfl)) ?_
  refine g_icmp_ge C 128 dX10_digest_76 (by decide) (fun _ => ?_) (fun c3 => absurd c3 (by decide))
  refine g_iconst C 0 dX10_digest_128 (by decide) ?_
  refine g_istore_n C [(3, .int 0), (1, .long 17), (0, .ref (ad 0))] dX10_digest_129 (by decide) rfl ?_
  refine g_iload_n C 0 dX10_digest_130 rfl ?_
  refine g_aload_n C 2 dX10_digest_131 rfl ?_
  refine g_get C (.ref (ad 81)) 3 in_X10_digest_10 (List.mem_of_getElem? (i := 12) rfl) (by decide) (ce_house ad cs _ _) rfl (by decide) rfl rfl dX10_digest_132 ?_
  refine g_get C (.int (M 81 0)) 0 in_X10_digest_4 (List.mem_of_getElem? (i := 13) rfl) (by decide) (ce_meth ad cs _ _) rfl (by decide) rfl rfl dX10_digest_135 ?_
  refine g_ti 0 (by (rw [hm 81 (by decide) (by decide)]; try rfl)) ?_
  refine g_icmp_ge C 177 dX10_digest_138 (by decide) (fun _ => ?_) (fun c4 => absurd c4 (by decide))
  refine g_lload_n C 1 dX10_digest_177 rfl ?_
  exact g_lret C hr ⟨by first | rfl | grind, fun k hk => rfl⟩ dX10_digest_178
