set_option maxHeartbeats 4000000 in
set_option maxRecDepth 100000 in
theorem a_X2_come (l : Launch) (D : va_G) (ad : Nat → Nat) (cs : Nat → ClassId) (M : MI) (L : ML)  (hI : IC M) : Ci l yX2_come wsX2_come ({ frames := 0, cells := 0, slots := 0, locals := 0 }) D ad cs [.ref (ad 1)] M L (fun r M1 L1 => (((M 1 0 = 10 ∧ r = -2 ∧ M1 1 0 = M 1 0) ∨ (¬ M 1 0 = 10 ∧ r = M 1 0 ∧ M1 1 0 = M 1 0 + 1))) ∧ IC M1 ∧ (∀ k, k ≠ 1 ∧ k ≠ 2 → M1 k = M k) ∧ ∀ k, 258 ≤ k → L1 k = L k) := by
  refine enter_i RX2 rfl [(0, .ref (ad 1))] rfl (Nat.le_of_ble_eq_true rfl) (by decide +kernel) rfl ?_
  intro p e s m below meth c C hr
  have hF : ∀ k, k ≠ 1 ∧ k ≠ 2 → M k = M k := fun _ _ => rfl
  have hG : ∀ k, 258 ≤ k → L k = L k := fun _ _ => rfl
  refine g_aload_n C 0 dX2_come_0 rfl ?_
  refine g_get C (.int (M 1 0)) 0 in_X2_come_2 (List.mem_of_getElem? (i := 1) rfl) (by decide) (ce_cand ad cs _ _) rfl (by decide) rfl rfl dX2_come_1 ?_
  refine g_ni (fun v1 ev1 => ?_)
  have tv1 := congrArg Int32.toInt ev1
  obtain ⟨bv1, dv1⟩ := (show rg 0 10 v1 from (by rw [ev1]; exact hI 1 0 rfl))
  refine g_bipush C 10 dX2_come_4 (by decide) ?_
  refine g_icmp_ne C 12 dX2_come_6 (by decide) (fun c2 => ?_) (fun c2 => ?_)
  ·
    have f3 := fne rfl (by decide : (10 : Int32).toInt = 10) c2
    refine g_aload_n C 0 dX2_come_12 rfl ?_
    refine g_get C (.ref (ad 2)) 1 in_X2_come_2 (List.mem_of_getElem? (i := 2) rfl) (by decide) (ce_cand ad cs _ _) rfl (by decide) rfl rfl dX2_come_13 ?_
    refine g_aload_n C 0 dX2_come_16 rfl ?_
    refine g_get C (.int (M 1 0)) 0 in_X2_come_2 (List.mem_of_getElem? (i := 1) rfl) (by decide) (ce_cand ad cs _ _) rfl (by decide) rfl rfl dX2_come_17 ?_
    refine g_ni (fun v4 ev4 => ?_)
    have tv4 := congrArg Int32.toInt ev4
    obtain ⟨bv4, dv4⟩ := (show rg 0 10 v4 from (by rw [ev4]; exact hI 1 0 rfl))
    have uv4 : v4 = v1 := by rw [ev4]; exact ev1.symm
    have wv4 := congrArg Int32.toInt uv4
    refine g_aload_n C 0 dX2_come_20 rfl ?_
    refine g_get C (.int (M 1 0)) 0 in_X2_come_2 (List.mem_of_getElem? (i := 1) rfl) (by decide) (ce_cand ad cs _ _) rfl (by decide) rfl rfl dX2_come_21 ?_
    refine g_ni (fun v5 ev5 => ?_)
    have tv5 := congrArg Int32.toInt ev5
    obtain ⟨bv5, dv5⟩ := (show rg 0 10 v5 from (by rw [ev5]; exact hI 1 0 rfl))
    have uv5 : v5 = v4 := by rw [ev5]; exact ev4.symm
    have wv5 := congrArg Int32.toInt uv5
    refine g_iast C (by decide) (ce_crow ad cs _ _) (by rw [sI_k]; rfl) (fin' (n := 10) rfl (by omega) (by omega)) dX2_come_24 ?_
    refine g_nm (fun M6 hM6 => ?_)
    have hI : IC M6 := by rw [hM6]; exact hI.st ⟨by first | omega | decide, by first | omega | decide⟩
    have hF : ∀ k, k ≠ 1 ∧ k ≠ 2 → M6 k = M k := fun k hk => by (rw [hM6, sI_n _ _ _ (by omega)]; try exact hF k hk)
    refine g_aload_n C 0 dX2_come_25 rfl ?_
    refine g_dup C dX2_come_26 rfl ?_
    refine g_get C (.int (M6 1 0)) 0 in_X2_come_2 (List.mem_of_getElem? (i := 1) rfl) (by decide) (ce_cand ad cs _ _) rfl (by decide) rfl rfl dX2_come_27 ?_
    refine g_ni (fun v7 ev7 => ?_)
    have tv7 := congrArg Int32.toInt ev7
    obtain ⟨bv7, dv7⟩ := (show rg 0 10 v7 from (by rw [ev7]; exact hI 1 0 rfl))
    have uv7 : v7 = v5 := by rw [ev7, hM6, sI_n _ _ _ (by decide)]; exact ev5.symm
    have wv7 := congrArg Int32.toInt uv7
    refine g_iconst C 1 dX2_come_30 (by decide) ?_
    refine g_iadd C dX2_come_31 ?_
    refine g_ni (fun v8 ev8 => ?_)
    try have fv8 := fadd rfl (by decide : (1 : Int32).toInt = 1) ev8 (by omega) (by omega)
    refine g_putI C 0 in_X2_come_2 (List.mem_of_getElem? (i := 1) rfl) (by decide) (ce_cand ad cs _ _) rfl (by decide) rfl tyX2 tyX2_ok nmX2 rfl rfl rfl rfl (Nat.le_of_ble_eq_true rfl) (by rw [sI_k]; rfl) dX2_come_32 ?_
    refine g_nm (fun M9 hM9 => ?_)
    have hI : IC M9 := by rw [hM9]; exact hI.st (fun _ => ⟨by first | omega | decide, by first | omega | decide⟩)
    have hF : ∀ k, k ≠ 1 ∧ k ≠ 2 → M9 k = M k := fun k hk => by (rw [hM9, sI_n _ _ _ (by omega)]; try exact hF k hk)
    refine g_aload_n C 0 dX2_come_35 rfl ?_
    refine g_get C (.int (M9 1 0)) 0 in_X2_come_2 (List.mem_of_getElem? (i := 1) rfl) (by decide) (ce_cand ad cs _ _) rfl (by decide) rfl rfl dX2_come_36 ?_
    refine g_ni (fun v10 ev10 => ?_)
    have tv10 := congrArg Int32.toInt ev10
    obtain ⟨bv10, dv10⟩ := (show rg 0 10 v10 from (by rw [ev10]; exact hI 1 0 rfl))
    have uv10 : v10 = v8 := by rw [ev10, hM9, sI_at, if_pos (by decide)]
    have wv10 := congrArg Int32.toInt uv10
    refine g_iconst C 1 dX2_come_39 (by decide) ?_
    refine g_isub C dX2_come_40 ?_
    refine g_ni (fun v11 ev11 => ?_)
    try have fv11 := fsub rfl (by decide : (1 : Int32).toInt = 1) ev11 (by omega) (by omega)
    have hend : M9 1 0 = M 1 0 + 1 ∧ v11 = M 1 0 := by
      grind
    exact g_iret C hr ⟨Or.inr ⟨by grind, hend.2, hend.1⟩, hI, hF, hG⟩ dX2_come_41
  ·
    have f12 := feq rfl (by decide : (10 : Int32).toInt = 10) c2
    refine g_bipush C (-2) dX2_come_9 (by decide) ?_
    exact g_iret C hr ⟨Or.inl ⟨by grind, rfl, rfl⟩, hI, hF, hG⟩ dX2_come_11
set_option maxHeartbeats 4000000 in
set_option maxRecDepth 100000 in
theorem a_X10_stand (l : Launch) (D : va_G) (ad : Nat → Nat) (cs : Nat → ClassId) (M : MI) (L : ML)  (hI : IC M) : Ci l yX10_stand wsX10_stand ({ frames := 1, cells := 0, slots := 0, locals := 20 }) D ad cs [.ref (ad 0)] M L (fun r M1 L1 => (((M 1 0 = 10 ∧ r = -2 ∧ M1 1 0 = M 1 0) ∨ (¬ M 1 0 = 10 ∧ r = M 1 0 ∧ M1 1 0 = M 1 0 + 1))) ∧ IC M1 ∧ (∀ k, k ≠ 1 ∧ k ≠ 2 → M1 k = M k) ∧ ∀ k, 258 ≤ k → L1 k = L k) := by
  refine enter_i RX10 rfl [(0, .ref (ad 0))] rfl (Nat.le_of_ble_eq_true rfl) (by decide +kernel) rfl ?_
  intro p e s m below meth c C hr
  have hF : ∀ k, k ≠ 1 ∧ k ≠ 2 → M k = M k := fun _ _ => rfl
  have hG : ∀ k, 258 ≤ k → L k = L k := fun _ _ => rfl
  refine g_aload_n C 0 dX10_stand_0 rfl ?_
  refine g_get C (.ref (ad 1)) 0 in_X10_stand_10 (List.mem_of_getElem? (i := 1) rfl) (by decide) (ce_house ad cs _ _) rfl (by decide) rfl rfl dX10_stand_1 ?_
  refine g_callVi C (n := 0) (As := []) (st := []) (a_X2_come l D ad cs _ _ hI) gX10_stand_X2_come rfl rfl rfl (by decide +kernel) ⟨Nat.le_of_ble_eq_true rfl, Nat.le_of_ble_eq_true rfl⟩ rfl (Nat.le_of_ble_eq_true rfl) ⟨Nat.zero_le _, Nat.zero_le _⟩ (by decide) (ce_cand ad cs _ _) rfl rfl dX10_stand_4 (fun r1 M2 L3 hr1 => ?_)
  obtain ⟨hr1, hI, hF1, hG1⟩ := hr1
  have hF : ∀ k, k ≠ 1 ∧ k ≠ 2 → M2 k = M k := fun k hk => by (rw [hF1 k (by omega)]; try exact hF k hk)
  have hG : ∀ k, 258 ≤ k → L3 k = L k := fun k hk => by (rw [hG1 k hk]; try exact hG k hk)
  have hans := hr1
  exact g_iret C hr ⟨hans, hI, hF, hG⟩ dX10_stand_7
