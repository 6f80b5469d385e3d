theorem dX7_clear_0 : decode cX7_clear 0 = .ok (.aload_n 0, 1) := dw42 (n := 0) (i := 0) kc_cX7_clear_0 (by decide +kernel)
theorem dX7_clear_1 : decode cX7_clear 1 = .ok (.iconst 0, 1) := dw3 (n := 0) (i := 1) kc_cX7_clear_0 (by decide +kernel)
theorem dX7_clear_2 : decode cX7_clear 2 = .ok (.putfield 9, 3) := dw181 (n := 0) (i := 2) (a := 0) (b := 9) kc_cX7_clear_0 (by decide +kernel) (by decide)
theorem in_X7_clear_7 : ∀ w ∈ u_ws RX7 TX7 7, w ∈ wsX7_clear := fun _ h => List.mem_cons_of_mem _ (List.mem_append_right _ h)
theorem dX7_clear_5 : decode cX7_clear 5 = .ok (.aload_n 0, 1) := dw42 (n := 0) (i := 5) kc_cX7_clear_0 (by decide +kernel)
theorem dX7_clear_6 : decode cX7_clear 6 = .ok (.iconst 0, 1) := dw3 (n := 0) (i := 6) kc_cX7_clear_0 (by decide +kernel)
theorem dX7_clear_7 : decode cX7_clear 7 = .ok (.putfield 19, 3) := dw181 (n := 0) (i := 7) (a := 0) (b := 19) kc_cX7_clear_0 (by decide +kernel) (by decide)
theorem dX7_clear_10 : decode cX7_clear 10 = .ok (.return_, 1) := dw177 (n := 0) (i := 10) kc_cX7_clear_0 (by decide +kernel)
set_option maxHeartbeats 4000000 in
set_option maxRecDepth 100000 in
theorem s_X7_clear_a (l : Launch) (D : va_G) (ad : Nat → Nat) (cs : Nat → ClassId) (M : MI) (L : ML)  (hI : IC M) : Cv l yX7_clear wsX7_clear ({ frames := 0, cells := 0, slots := 0, locals := 0 }) D ad cs [.ref (ad 125)] M L (fun M1 L1 => IC M1 ∧ (∀ k, k ≠ 125 → M1 k = M k) ∧ ∀ k, 258 ≤ k → L1 k = L k) := by
  refine enter_v RX7 rfl [(0, .ref (ad 125))] rfl (Nat.le_of_ble_eq_true rfl) (by decide +kernel) rfl ?_
  intro p e s m below meth c C hr
  have hF : ∀ k, k ≠ 125 → M k = M k := fun _ _ => rfl
  have hG : ∀ k, 258 ≤ k → L k = L k := fun _ _ => rfl
  refine g_aload_n C 0 dX7_clear_0 rfl ?_
  refine g_iconst C 0 dX7_clear_1 (by decide) ?_
  refine g_putI C 0 in_X7_clear_7 (List.mem_of_getElem? (i := 1) rfl) (by decide) (ce_ra ad cs _ _) rfl (by decide) rfl tyX7 tyX7_ok nmX7 rfl rfl rfl rfl (Nat.le_of_ble_eq_true rfl) (by rw [sI_k]; rfl) dX7_clear_2 ?_
  refine g_nm (fun M1 hM1 => ?_)
  have zy2 : (0 : Int32).toInt = 0 := by decide
  have hI : IC M1 := by rw [hM1]; exact hI.st (fun _ => ⟨by first | omega | decide, by first | omega | decide⟩)
  have hF : ∀ k, k ≠ 125 → M1 k = M k := fun k hk => by (rw [hM1, sI_n _ _ _ (by omega)]; try exact hF k hk)
  refine g_aload_n C 0 dX7_clear_5 rfl ?_
  refine g_iconst C 0 dX7_clear_6 (by decide) ?_
  refine g_putI C 2 in_X7_clear_7 (List.mem_of_getElem? (i := 2) rfl) (by decide) (ce_ra ad cs _ _) rfl (by decide) rfl tyX7 tyX7_ok nmX7 rfl rfl rfl rfl (Nat.le_of_ble_eq_true rfl) (by rw [sI_k]; rfl) dX7_clear_7 ?_
  refine g_nm (fun M3 hM3 => ?_)
  have zy4 : (0 : Int32).toInt = 0 := by decide
  have hI : IC M3 := by rw [hM3]; exact hI.st (fun _ => ⟨by first | omega | decide, by first | omega | decide⟩)
  have hF : ∀ k, k ≠ 125 → M3 k = M k := fun k hk => by (rw [hM3, sI_n _ _ _ (by omega)]; try exact hF k hk)
  exact g_vret C hr ⟨hI, hF, hG⟩ dX7_clear_10
theorem dX7_hasRound_0 : decode cX7_hasRound 0 = .ok (.iload_n 1, 1) := dw27 (n := 0) (i := 0) kc_cX7_hasRound_0 (by decide +kernel)
theorem dX7_hasRound_1 : decode cX7_hasRound 1 = .ok (.ifCond .lt 15, 3) := dw155 (n := 0) (i := 1) (a := 0) (b := 15) kc_cX7_hasRound_0 (by decide +kernel) (by decide)
theorem dX7_hasRound_16 : decode cX7_hasRound 16 = .ok (.iconst 0, 1) := dw3 (n := 0) (i := 16) kc_cX7_hasRound_0 (by decide +kernel)
theorem dX7_hasRound_17 : decode cX7_hasRound 17 = .ok (.ireturn, 1) := dw172 (n := 0) (i := 17) kc_cX7_hasRound_0 (by decide +kernel)
theorem dX7_hasRound_4 : decode cX7_hasRound 4 = .ok (.iload_n 1, 1) := dw27 (n := 0) (i := 4) kc_cX7_hasRound_0 (by decide +kernel)
theorem dX7_hasRound_5 : decode cX7_hasRound 5 = .ok (.aload_n 0, 1) := dw42 (n := 0) (i := 5) kc_cX7_hasRound_0 (by decide +kernel)
theorem dX7_hasRound_6 : decode cX7_hasRound 6 = .ok (.getfield 19, 3) := dw180 (n := 0) (i := 6) (a := 0) (b := 19) kc_cX7_hasRound_0 (by decide +kernel) (by decide)
theorem in_X7_hasRound_7 : ∀ w ∈ u_ws RX7 TX7 7, w ∈ wsX7_hasRound := fun _ h => List.mem_cons_of_mem _ (List.mem_append_right _ h)
theorem dX7_hasRound_9 : decode cX7_hasRound 9 = .ok (.if_icmp .ge 7, 3) := dw162 (n := 0) (i := 9) (a := 0) (b := 7) kc_cX7_hasRound_0 (by decide +kernel) (by decide)
theorem dX7_hasRound_12 : decode cX7_hasRound 12 = .ok (.iconst 1, 1) := dw4 (n := 0) (i := 12) kc_cX7_hasRound_0 (by decide +kernel)
theorem dX7_hasRound_13 : decode cX7_hasRound 13 = .ok (.goto 4, 3) := dw167 (n := 0) (i := 13) (a := 0) (b := 4) kc_cX7_hasRound_0 (by decide +kernel) (by decide)
set_option maxHeartbeats 4000000 in
set_option maxRecDepth 100000 in
theorem s_X7_hasRound_a (l : Launch) (D : va_G) (ad : Nat → Nat) (cs : Nat → ClassId) (M : MI) (L : ML) (i : Int32) (hI : IC M) : Ci l yX7_hasRound wsX7_hasRound ({ frames := 0, cells := 0, slots := 0, locals := 0 }) D ad cs [.ref (ad 125), .int i] M L (fun r M1 L1 => M1 = M ∧ L1 = L ∧ (r = 0 ∨ r = 1) ∧ (¬ r = 0 → 0 ≤ i.toInt ∧ i.toInt < 30)) := by
  refine enter_i RX7 rfl [(0, .ref (ad 125)), (1, .int i)] rfl (Nat.le_of_ble_eq_true rfl) (by decide +kernel) rfl ?_
  intro p e s m below meth c C hr
  have hF : ∀ k, True → M k = M k := fun _ _ => rfl
  have hG : ∀ k, True → L k = L k := fun _ _ => rfl
  refine g_iload_n C 1 dX7_hasRound_0 rfl ?_
  refine g_if_lt C 16 dX7_hasRound_1 (by decide) (fun c1 => ?_) (fun c1 => ?_)
  ·
    have f2 := fl rfl (by decide : (0 : Int32).toInt = 0) c1
    refine g_iconst C 0 dX7_hasRound_16 (by decide) ?_
    exact g_zret C hr rfl ⟨rfl, rfl, (by first | exact Or.inl rfl | exact Or.inr rfl), (by first | (intro h; exact absurd rfl h) | (intro _; exact ⟨by omega, by omega⟩))⟩ dX7_hasRound_17
  ·
    have f3 := fnl rfl (by decide : (0 : Int32).toInt = 0) c1
    refine g_iload_n C 1 dX7_hasRound_4 rfl ?_
    refine g_aload_n C 0 dX7_hasRound_5 rfl ?_
    refine g_get C (.int (M 125 2)) 2 in_X7_hasRound_7 (List.mem_of_getElem? (i := 1) rfl) (by decide) (ce_ra ad cs _ _) rfl (by decide) rfl rfl dX7_hasRound_6 ?_
    refine g_ni (fun v4 ev4 => ?_)
    have tv4 := congrArg Int32.toInt ev4
    obtain ⟨bv4, dv4⟩ := (show rg 0 30 v4 from (by rw [ev4]; exact hI 125 2 (Or.inr rfl)))
    refine g_icmp_ge C 16 dX7_hasRound_9 (by decide) (fun c5 => ?_) (fun c5 => ?_)
    ·
      have f6 := fle rfl rfl c5
      refine g_iconst C 0 dX7_hasRound_16 (by decide) ?_
      exact g_zret C hr rfl ⟨rfl, rfl, (by first | exact Or.inl rfl | exact Or.inr rfl), (by first | (intro h; exact absurd rfl h) | (intro _; exact ⟨by omega, by omega⟩))⟩ dX7_hasRound_17
    ·
      have f7 := fnle rfl rfl c5
      refine g_iconst C 1 dX7_hasRound_12 (by decide) ?_
      refine g_goto C 17 dX7_hasRound_13 (by decide) ?_
      exact g_zret C hr rfl ⟨rfl, rfl, (by first | exact Or.inl rfl | exact Or.inr rfl), (by first | (intro h; exact absurd rfl h) | (intro _; exact ⟨by omega, by omega⟩))⟩ dX7_hasRound_17
theorem dX7_give_0 : decode cX7_give 0 = .ok (.aload_n 0, 1) := dw42 (n := 0) (i := 0) kc_cX7_give_0 (by decide +kernel)
theorem dX7_give_1 : decode cX7_give 1 = .ok (.getfield 9, 3) := dw180 (n := 0) (i := 1) (a := 0) (b := 9) kc_cX7_give_0 (by decide +kernel) (by decide)
theorem in_X7_give_7 : ∀ w ∈ u_ws RX7 TX7 7, w ∈ wsX7_give := fun _ h => List.mem_cons_of_mem _ (List.mem_append_right _ h)
theorem dX7_give_4 : decode cX7_give 4 = .ok (.bipush 30, 2) := dw16 (n := 0) (i := 4) (a := 30) kc_cX7_give_0 (by decide +kernel) (by decide)
theorem dX7_give_6 : decode cX7_give 6 = .ok (.if_icmp .ge 23, 3) := dw162 (n := 0) (i := 6) (a := 0) (b := 23) kc_cX7_give_0 (by decide +kernel) (by decide)
theorem dX7_give_29 : decode cX7_give 29 = .ok (.return_, 1) := dw177 (n := 0) (i := 29) kc_cX7_give_0 (by decide +kernel)
theorem dX7_give_9 : decode cX7_give 9 = .ok (.aload_n 0, 1) := dw42 (n := 0) (i := 9) kc_cX7_give_0 (by decide +kernel)
theorem dX7_give_10 : decode cX7_give 10 = .ok (.getfield 15, 3) := dw180 (n := 0) (i := 10) (a := 0) (b := 15) kc_cX7_give_0 (by decide +kernel) (by decide)
theorem dX7_give_13 : decode cX7_give 13 = .ok (.aload_n 0, 1) := dw42 (n := 0) (i := 13) kc_cX7_give_0 (by decide +kernel)
theorem dX7_give_14 : decode cX7_give 14 = .ok (.getfield 9, 3) := dw180 (n := 0) (i := 14) (a := 0) (b := 9) kc_cX7_give_0 (by decide +kernel) (by decide)
theorem dX7_give_17 : decode cX7_give 17 = .ok (.iload_n 1, 1) := dw27 (n := 0) (i := 17) kc_cX7_give_0 (by decide +kernel)
theorem dX7_give_18 : decode cX7_give 18 = .ok (.iastore, 1) := dw79 (n := 0) (i := 18) kc_cX7_give_0 (by decide +kernel)
theorem dX7_give_19 : decode cX7_give 19 = .ok (.aload_n 0, 1) := dw42 (n := 0) (i := 19) kc_cX7_give_0 (by decide +kernel)
theorem dX7_give_20 : decode cX7_give 20 = .ok (.dup, 1) := dw89 (n := 0) (i := 20) kc_cX7_give_0 (by decide +kernel)
theorem dX7_give_21 : decode cX7_give 21 = .ok (.getfield 9, 3) := dw180 (n := 0) (i := 21) (a := 0) (b := 9) kc_cX7_give_0 (by decide +kernel) (by decide)
theorem dX7_give_24 : decode cX7_give 24 = .ok (.iconst 1, 1) := dw4 (n := 0) (i := 24) kc_cX7_give_0 (by decide +kernel)
theorem dX7_give_25 : decode cX7_give 25 = .ok (.iadd, 1) := dw96 (n := 0) (i := 25) kc_cX7_give_0 (by decide +kernel)
theorem dX7_give_26 : decode cX7_give 26 = .ok (.putfield 9, 3) := dw181 (n := 0) (i := 26) (a := 0) (b := 9) kc_cX7_give_0 (by decide +kernel) (by decide)
set_option maxHeartbeats 4000000 in
set_option maxRecDepth 100000 in
theorem s_X7_give_a (l : Launch) (D : va_G) (ad : Nat → Nat) (cs : Nat → ClassId) (M : MI) (L : ML) (x : Int32) (hI : IC M) : Cv l yX7_give wsX7_give ({ frames := 0, cells := 0, slots := 0, locals := 0 }) D ad cs [.ref (ad 125), .int x] M L (fun M1 L1 => IC M1 ∧ (∀ k, k ≠ 125 ∧ k ≠ 126 → M1 k = M k) ∧ ∀ k, 258 ≤ k → L1 k = L k) := by
  refine enter_v RX7 rfl [(0, .ref (ad 125)), (1, .int x)] rfl (Nat.le_of_ble_eq_true rfl) (by decide +kernel) rfl ?_
  intro p e s m below meth c C hr
  have hF : ∀ k, k ≠ 125 ∧ k ≠ 126 → M k = M k := fun _ _ => rfl
  have hG : ∀ k, 258 ≤ k → L k = L k := fun _ _ => rfl
  refine g_aload_n C 0 dX7_give_0 rfl ?_
  refine g_get C (.int (M 125 0)) 0 in_X7_give_7 (List.mem_of_getElem? (i := 1) rfl) (by decide) (ce_ra ad cs _ _) rfl (by decide) rfl rfl dX7_give_1 ?_
  refine g_ni (fun v1 ev1 => ?_)
  have tv1 := congrArg Int32.toInt ev1
  obtain ⟨bv1, dv1⟩ := (show rg 0 30 v1 from (by rw [ev1]; exact hI 125 0 (Or.inl rfl)))
  refine g_bipush C 30 dX7_give_4 (by decide) ?_
  refine g_icmp_ge C 29 dX7_give_6 (by decide) (fun c2 => ?_) (fun c2 => ?_)
  ·
    have f3 := fle (by decide : (30 : Int32).toInt = 30) rfl c2
    exact g_vret C hr ⟨hI, hF, hG⟩ dX7_give_29
  ·
    have f4 := fnle (by decide : (30 : Int32).toInt = 30) rfl c2
    refine g_aload_n C 0 dX7_give_9 rfl ?_
    refine g_get C (.ref (ad 126)) 1 in_X7_give_7 (List.mem_of_getElem? (i := 2) rfl) (by decide) (ce_ra ad cs _ _) rfl (by decide) rfl rfl dX7_give_10 ?_
    refine g_aload_n C 0 dX7_give_13 rfl ?_
    refine g_get C (.int (M 125 0)) 0 in_X7_give_7 (List.mem_of_getElem? (i := 1) rfl) (by decide) (ce_ra ad cs _ _) rfl (by decide) rfl rfl dX7_give_14 ?_
    refine g_ni (fun v5 ev5 => ?_)
    have tv5 := congrArg Int32.toInt ev5
    obtain ⟨bv5, dv5⟩ := (show rg 0 30 v5 from (by rw [ev5]; exact hI 125 0 (Or.inl rfl)))
    have uv5 : v5 = v1 := by rw [ev5]; exact ev1.symm
    have wv5 := congrArg Int32.toInt uv5
    refine g_iload_n C 1 dX7_give_17 rfl ?_
    refine g_iast C (by decide) (ce_raseated ad cs _ _) (by rw [sI_k]; rfl) (fin' (n := 30) rfl (by omega) (by omega)) dX7_give_18 ?_
    refine g_nm (fun M6 hM6 => ?_)
    have hI : IC M6 := by rw [hM6]; exact hI.st (bC_free (by decide) (by decide) (by decide) (by decide) (by decide) (by decide) (by decide))
    have hF : ∀ k, k ≠ 125 ∧ k ≠ 126 → M6 k = M k := fun k hk => by (rw [hM6, sI_n _ _ _ (by omega)]; try exact hF k hk)
    refine g_aload_n C 0 dX7_give_19 rfl ?_
    refine g_dup C dX7_give_20 rfl ?_
    refine g_get C (.int (M6 125 0)) 0 in_X7_give_7 (List.mem_of_getElem? (i := 1) rfl) (by decide) (ce_ra ad cs _ _) rfl (by decide) rfl rfl dX7_give_21 ?_
    refine g_ni (fun v7 ev7 => ?_)
    have tv7 := congrArg Int32.toInt ev7
    obtain ⟨bv7, dv7⟩ := (show rg 0 30 v7 from (by rw [ev7]; exact hI 125 0 (Or.inl rfl)))
    have uv7 : v7 = v5 := by rw [ev7, hM6, sI_n _ _ _ (by decide)]; exact ev5.symm
    have wv7 := congrArg Int32.toInt uv7
    refine g_iconst C 1 dX7_give_24 (by decide) ?_
    refine g_iadd C dX7_give_25 ?_
    refine g_ni (fun v8 ev8 => ?_)
    try have fv8 := fadd rfl (by decide : (1 : Int32).toInt = 1) ev8 (by omega) (by omega)
    refine g_putI C 0 in_X7_give_7 (List.mem_of_getElem? (i := 1) rfl) (by decide) (ce_ra ad cs _ _) rfl (by decide) rfl tyX7 tyX7_ok nmX7 rfl rfl rfl rfl (Nat.le_of_ble_eq_true rfl) (by rw [sI_k]; rfl) dX7_give_26 ?_
    refine g_nm (fun M9 hM9 => ?_)
    have hI : IC M9 := by rw [hM9]; exact hI.st (fun _ => ⟨by first | omega | decide, by first | omega | decide⟩)
    have hF : ∀ k, k ≠ 125 ∧ k ≠ 126 → M9 k = M k := fun k hk => by (rw [hM9, sI_n _ _ _ (by omega)]; try exact hF k hk)
    exact g_vret C hr ⟨hI, hF, hG⟩ dX7_give_29
theorem dX7_note_0 : decode cX7_note 0 = .ok (.aload_n 0, 1) := dw42 (n := 0) (i := 0) kc_cX7_note_0 (by decide +kernel)
theorem dX7_note_1 : decode cX7_note 1 = .ok (.getfield 19, 3) := dw180 (n := 0) (i := 1) (a := 0) (b := 19) kc_cX7_note_0 (by decide +kernel) (by decide)
theorem in_X7_note_7 : ∀ w ∈ u_ws RX7 TX7 7, w ∈ wsX7_note := fun _ h => List.mem_cons_of_mem _ (List.mem_append_left _ (List.mem_append_right _ h))
theorem dX7_note_4 : decode cX7_note 4 = .ok (.bipush 30, 2) := dw16 (n := 0) (i := 4) (a := 30) kc_cX7_note_0 (by decide +kernel) (by decide)
theorem dX7_note_6 : decode cX7_note 6 = .ok (.if_icmp .ne 4, 3) := dw160 (n := 0) (i := 6) (a := 0) (b := 4) kc_cX7_note_0 (by decide +kernel) (by decide)
theorem dX7_note_10 : decode cX7_note 10 = .ok (.aload_n 0, 1) := dw42 (n := 0) (i := 10) kc_cX7_note_0 (by decide +kernel)
theorem dX7_note_11 : decode cX7_note 11 = .ok (.getfield 22, 3) := dw180 (n := 0) (i := 11) (a := 0) (b := 22) kc_cX7_note_0 (by decide +kernel) (by decide)
theorem dX7_note_14 : decode cX7_note 14 = .ok (.aload_n 0, 1) := dw42 (n := 0) (i := 14) kc_cX7_note_0 (by decide +kernel)
theorem dX7_note_15 : decode cX7_note 15 = .ok (.getfield 19, 3) := dw180 (n := 0) (i := 15) (a := 0) (b := 19) kc_cX7_note_0 (by decide +kernel) (by decide)
theorem dX7_note_18 : decode cX7_note 18 = .ok (.iload_n 1, 1) := dw27 (n := 0) (i := 18) kc_cX7_note_0 (by decide +kernel)
theorem dX7_note_19 : decode cX7_note 19 = .ok (.iastore, 1) := dw79 (n := 0) (i := 19) kc_cX7_note_0 (by decide +kernel)
theorem dX7_note_20 : decode cX7_note 20 = .ok (.aload_n 0, 1) := dw42 (n := 0) (i := 20) kc_cX7_note_0 (by decide +kernel)
theorem dX7_note_21 : decode cX7_note 21 = .ok (.getfield 25, 3) := dw180 (n := 0) (i := 21) (a := 0) (b := 25) kc_cX7_note_0 (by decide +kernel) (by decide)
theorem dX7_note_24 : decode cX7_note 24 = .ok (.aload_n 0, 1) := dw42 (n := 0) (i := 24) kc_cX7_note_0 (by decide +kernel)
theorem dX7_note_25 : decode cX7_note 25 = .ok (.getfield 19, 3) := dw180 (n := 0) (i := 25) (a := 0) (b := 19) kc_cX7_note_0 (by decide +kernel) (by decide)
theorem dX7_note_28 : decode cX7_note 28 = .ok (.iload_n 2, 1) := dw28 (n := 0) (i := 28) kc_cX7_note_0 (by decide +kernel)
theorem dX7_note_29 : decode cX7_note 29 = .ok (.iastore, 1) := dw79 (n := 0) (i := 29) kc_cX7_note_0 (by decide +kernel)
theorem dX7_note_30 : decode cX7_note 30 = .ok (.iconst 0, 1) := dw3 (n := 0) (i := 30) kc_cX7_note_0 (by decide +kernel)
theorem dX7_note_31 : decode cX7_note 31 = .ok (.istore 4, 2) := dw54 (n := 0) (i := 31) (a := 4) kc_cX7_note_0 (by decide +kernel) (by decide)
theorem dX7_note_33 : decode cX7_note 33 = .ok (.iload 4, 2) := dw21 (n := 32) (i := 1) (a := 4) kc_cX7_note_1 (by decide +kernel) (by decide)
theorem dX7_note_35 : decode cX7_note 35 = .ok (.bipush 10, 2) := dw16 (n := 32) (i := 3) (a := 10) kc_cX7_note_1 (by decide +kernel) (by decide)
theorem dX7_note_37 : decode cX7_note 37 = .ok (.if_icmp .ge 47, 3) := dw162 (n := 32) (i := 5) (a := 0) (b := 47) kc_cX7_note_1 (by decide +kernel) (by decide)
theorem dX7_note_84 : decode cX7_note 84 = .ok (.aload_n 0, 1) := dw42 (n := 64) (i := 20) kc_cX7_note_2 (by decide +kernel)
theorem dX7_note_85 : decode cX7_note 85 = .ok (.dup, 1) := dw89 (n := 64) (i := 21) kc_cX7_note_2 (by decide +kernel)
theorem dX7_note_86 : decode cX7_note 86 = .ok (.getfield 19, 3) := dw180 (n := 64) (i := 22) (a := 0) (b := 19) kc_cX7_note_2 (by decide +kernel) (by decide)
theorem dX7_note_89 : decode cX7_note 89 = .ok (.iconst 1, 1) := dw4 (n := 64) (i := 25) kc_cX7_note_2 (by decide +kernel)
theorem dX7_note_90 : decode cX7_note 90 = .ok (.iadd, 1) := dw96 (n := 64) (i := 26) kc_cX7_note_2 (by decide +kernel)
theorem dX7_note_91 : decode cX7_note 91 = .ok (.putfield 19, 3) := dw181 (n := 64) (i := 27) (a := 0) (b := 19) kc_cX7_note_2 (by decide +kernel) (by decide)
theorem dX7_note_94 : decode cX7_note 94 = .ok (.return_, 1) := dw177 (n := 64) (i := 30) kc_cX7_note_2 (by decide +kernel)
theorem dX7_note_40 : decode cX7_note 40 = .ok (.aload_n 0, 1) := dw42 (n := 32) (i := 8) kc_cX7_note_1 (by decide +kernel)
theorem dX7_note_41 : decode cX7_note 41 = .ok (.getfield 30, 3) := dw180 (n := 32) (i := 9) (a := 0) (b := 30) kc_cX7_note_1 (by decide +kernel) (by decide)
theorem dX7_note_44 : decode cX7_note 44 = .ok (.aload_n 0, 1) := dw42 (n := 32) (i := 12) kc_cX7_note_1 (by decide +kernel)
theorem dX7_note_45 : decode cX7_note 45 = .ok (.getfield 19, 3) := dw180 (n := 32) (i := 13) (a := 0) (b := 19) kc_cX7_note_1 (by decide +kernel) (by decide)
theorem dX7_note_48 : decode cX7_note 48 = .ok (.aaload, 1) := dw50 (n := 32) (i := 16) kc_cX7_note_1 (by decide +kernel)
theorem dX7_note_49 : decode cX7_note 49 = .ok (.iload 4, 2) := dw21 (n := 32) (i := 17) (a := 4) kc_cX7_note_1 (by decide +kernel) (by decide)
theorem dX7_note_51 : decode cX7_note 51 = .ok (.aload_n 3, 1) := dw45 (n := 32) (i := 19) kc_cX7_note_1 (by decide +kernel)
theorem dX7_note_52 : decode cX7_note 52 = .ok (.getfield 36, 3) := dw180 (n := 32) (i := 20) (a := 0) (b := 36) kc_cX7_note_1 (by decide +kernel) (by decide)
theorem in_X7_note_6 : ∀ w ∈ u_ws RX6 TX6 8, w ∈ wsX7_note := fun _ h => List.mem_cons_of_mem _ (List.mem_append_right _ h)
theorem dX7_note_55 : decode cX7_note 55 = .ok (.iload 4, 2) := dw21 (n := 32) (i := 23) (a := 4) kc_cX7_note_1 (by decide +kernel) (by decide)
theorem dX7_note_57 : decode cX7_note 57 = .ok (.laload, 1) := dw47 (n := 32) (i := 25) kc_cX7_note_1 (by decide +kernel)
theorem dX7_note_58 : decode cX7_note 58 = .ok (.lastore, 1) := dw80 (n := 32) (i := 26) kc_cX7_note_1 (by decide +kernel)
theorem dX7_note_59 : decode cX7_note 59 = .ok (.aload_n 0, 1) := dw42 (n := 32) (i := 27) kc_cX7_note_1 (by decide +kernel)
theorem dX7_note_60 : decode cX7_note 60 = .ok (.getfield 33, 3) := dw180 (n := 32) (i := 28) (a := 0) (b := 33) kc_cX7_note_1 (by decide +kernel) (by decide)
theorem dX7_note_63 : decode cX7_note 63 = .ok (.aload_n 0, 1) := dw42 (n := 32) (i := 31) kc_cX7_note_1 (by decide +kernel)
theorem dX7_note_64 : decode cX7_note 64 = .ok (.getfield 19, 3) := dw180 (n := 64) (i := 0) (a := 0) (b := 19) kc_cX7_note_2 (by decide +kernel) (by decide)
theorem dX7_note_67 : decode cX7_note 67 = .ok (.aaload, 1) := dw50 (n := 64) (i := 3) kc_cX7_note_2 (by decide +kernel)
theorem dX7_note_68 : decode cX7_note 68 = .ok (.iload 4, 2) := dw21 (n := 64) (i := 4) (a := 4) kc_cX7_note_2 (by decide +kernel) (by decide)
theorem dX7_note_70 : decode cX7_note 70 = .ok (.aload_n 3, 1) := dw45 (n := 64) (i := 6) kc_cX7_note_2 (by decide +kernel)
theorem dX7_note_71 : decode cX7_note 71 = .ok (.getfield 41, 3) := dw180 (n := 64) (i := 7) (a := 0) (b := 41) kc_cX7_note_2 (by decide +kernel) (by decide)
theorem dX7_note_74 : decode cX7_note 74 = .ok (.iload 4, 2) := dw21 (n := 64) (i := 10) (a := 4) kc_cX7_note_2 (by decide +kernel) (by decide)
theorem dX7_note_76 : decode cX7_note 76 = .ok (.laload, 1) := dw47 (n := 64) (i := 12) kc_cX7_note_2 (by decide +kernel)
theorem dX7_note_77 : decode cX7_note 77 = .ok (.lastore, 1) := dw80 (n := 64) (i := 13) kc_cX7_note_2 (by decide +kernel)
theorem dX7_note_78 : decode cX7_note 78 = .ok (.iinc 4 1, 3) := by decide +kernel
theorem dX7_note_81 : decode cX7_note 81 = .ok (.goto (-48), 3) := dw167 (n := 64) (i := 17) (a := 255) (b := 208) kc_cX7_note_2 (by decide +kernel) (by decide)
theorem dX7_note_9 : decode cX7_note 9 = .ok (.return_, 1) := dw177 (n := 0) (i := 9) kc_cX7_note_0 (by decide +kernel)
set_option maxHeartbeats 4000000 in
set_option maxRecDepth 100000 in
theorem s_X7_note_a (l : Launch) (D : va_G) (ad : Nat → Nat) (cs : Nat → ClassId) (M : MI) (L : ML) (x : Int32) (y : Int32) (hI : IC M) : Cv l yX7_note wsX7_note ({ frames := 0, cells := 0, slots := 0, locals := 0 }) D ad cs [.ref (ad 125), .int x, .int y, .ref (ad 88)] M L (fun M1 L1 => IC M1 ∧ (∀ k, k ≠ 125 ∧ k ≠ 127 ∧ k ≠ 128 → M1 k = M k) ∧ ∀ k, 258 ≤ k → L1 k = L k) := by
  refine enter_v RX7 rfl [(0, .ref (ad 125)), (1, .int x), (2, .int y), (3, .ref (ad 88))] rfl (Nat.le_of_ble_eq_true rfl) (by decide +kernel) rfl ?_
  intro p e s m below meth c C hr
  have hF : ∀ k, k ≠ 125 ∧ k ≠ 127 ∧ k ≠ 128 → M k = M k := fun _ _ => rfl
  have hG : ∀ k, 258 ≤ k → L k = L k := fun _ _ => rfl
  refine g_aload_n C 0 dX7_note_0 rfl ?_
  refine g_get C (.int (M 125 2)) 2 in_X7_note_7 (List.mem_of_getElem? (i := 1) rfl) (by decide) (ce_ra ad cs _ _) rfl (by decide) rfl rfl dX7_note_1 ?_
  refine g_ni (fun v1 ev1 => ?_)
  have tv1 := congrArg Int32.toInt ev1
  obtain ⟨bv1, dv1⟩ := (show rg 0 30 v1 from (by rw [ev1]; exact hI 125 2 (Or.inr rfl)))
  refine g_bipush C 30 dX7_note_4 (by decide) ?_
  refine g_icmp_ne C 10 dX7_note_6 (by decide) (fun c2 => ?_) (fun c2 => ?_)
  ·
    have f3 := fne rfl (by decide : (30 : Int32).toInt = 30) c2
    refine g_aload_n C 0 dX7_note_10 rfl ?_
    refine g_get C (.ref (ad 127)) 3 in_X7_note_7 (List.mem_of_getElem? (i := 2) rfl) (by decide) (ce_ra ad cs _ _) rfl (by decide) rfl rfl dX7_note_11 ?_
    refine g_aload_n C 0 dX7_note_14 rfl ?_
    refine g_get C (.int (M 125 2)) 2 in_X7_note_7 (List.mem_of_getElem? (i := 1) rfl) (by decide) (ce_ra ad cs _ _) rfl (by decide) rfl rfl dX7_note_15 ?_
    refine g_ni (fun v4 ev4 => ?_)
    have tv4 := congrArg Int32.toInt ev4
    obtain ⟨bv4, dv4⟩ := (show rg 0 30 v4 from (by rw [ev4]; exact hI 125 2 (Or.inr rfl)))
    have uv4 : v4 = v1 := by rw [ev4]; exact ev1.symm
    have wv4 := congrArg Int32.toInt uv4
    refine g_iload_n C 1 dX7_note_18 rfl ?_
    refine g_iast C (by decide) (ce_rahap ad cs _ _) (by rw [sI_k]; rfl) (fin' (n := 30) rfl (by omega) (by omega)) dX7_note_19 ?_
    refine g_nm (fun M5 hM5 => ?_)
    have hI : IC M5 := by rw [hM5]; exact hI.st (bC_free (by decide) (by decide) (by decide) (by decide) (by decide) (by decide) (by decide))
    have hF : ∀ k, k ≠ 125 ∧ k ≠ 127 ∧ k ≠ 128 → M5 k = M k := fun k hk => by (rw [hM5, sI_n _ _ _ (by omega)]; try exact hF k hk)
    refine g_aload_n C 0 dX7_note_20 rfl ?_
    refine g_get C (.ref (ad 128)) 4 in_X7_note_7 (List.mem_of_getElem? (i := 3) rfl) (by decide) (ce_ra ad cs _ _) rfl (by decide) rfl rfl dX7_note_21 ?_
    refine g_aload_n C 0 dX7_note_24 rfl ?_
    refine g_get C (.int (M5 125 2)) 2 in_X7_note_7 (List.mem_of_getElem? (i := 1) rfl) (by decide) (ce_ra ad cs _ _) rfl (by decide) rfl rfl dX7_note_25 ?_
    refine g_ni (fun v6 ev6 => ?_)
    have tv6 := congrArg Int32.toInt ev6
    obtain ⟨bv6, dv6⟩ := (show rg 0 30 v6 from (by rw [ev6]; exact hI 125 2 (Or.inr rfl)))
    have uv6 : v6 = v4 := by rw [ev6, hM5, sI_n _ _ _ (by decide)]; exact ev4.symm
    have wv6 := congrArg Int32.toInt uv6
    refine g_iload_n C 2 dX7_note_28 rfl ?_
    refine g_iast C (by decide) (ce_rawhom ad cs _ _) (by rw [sI_k]; rfl) (fin' (n := 30) rfl (by omega) (by omega)) dX7_note_29 ?_
    refine g_nm (fun M7 hM7 => ?_)
    have hI : IC M7 := by rw [hM7]; exact hI.st (bC_free (by decide) (by decide) (by decide) (by decide) (by decide) (by decide) (by decide))
    have hF : ∀ k, k ≠ 125 ∧ k ≠ 127 ∧ k ≠ 128 → M7 k = M k := fun k hk => by (rw [hM7, sI_n _ _ _ (by omega)]; try exact hF k hk)
    refine g_iconst C 0 dX7_note_30 (by decide) ?_
    refine g_istore C [(4, .int 0), (0, .ref (ad 125)), (1, .int x), (2, .int y), (3, .ref (ad 88))] dX7_note_31 (by decide) rfl ?_
    have zy8 : (0 : Int32).toInt = 0 := by decide
    have uhm9 : M7 125 2 = v6 := by rw [hM7, sI_n _ _ _ (by decide)]; exact ev6.symm
    have hm9 : (M7 125 2).toInt < 30 := by rw [uhm9]; omega
    refine g_loop (α := Int32 × MI × ML) (fun a => (11 - a.1.toInt).toNat) (fun a => 0 ≤ a.1.toInt ∧ a.1.toInt ≤ 10 ∧ (a.2.1 125 2).toInt < 30 ∧ IC a.2.1 ∧ (∀ k, k ≠ 125 ∧ k ≠ 127 ∧ k ≠ 128 → a.2.1 k = M k) ∧ (∀ k, 258 ≤ k → a.2.2 k = L k)) (fun a => a.2.1) (fun a => a.2.2) (fun a => [(4, .int a.1), (0, .ref (ad 125)), (1, .int x), (2, .int y), (3, .ref (ad 88))]) (0, M7, L) ⟨by show 0 ≤ (0 : Int32).toInt; omega, by show (0 : Int32).toInt ≤ 10; omega, hm9, hI, hF, hG⟩ rfl rfl rfl ?_
    rintro ⟨x4_33, M_33, L_33⟩ ⟨j33_0, j33_1, jm33_0, hI, hF, hG⟩ ih_33
    dsimp only at j33_0 j33_1 jm33_0 hI hF hG ih_33 ⊢
    refine g_iload C 0 dX7_note_33 rfl ?_
    refine g_bipush C 10 dX7_note_35 (by decide) ?_
    refine g_icmp_ge C 84 dX7_note_37 (by decide) (fun c10 => ?_) (fun c10 => ?_)
    ·
      have f11 := fle (by decide : (10 : Int32).toInt = 10) rfl c10
      refine g_aload_n C 1 dX7_note_84 rfl ?_
      refine g_dup C dX7_note_85 rfl ?_
      refine g_get C (.int (M_33 125 2)) 2 in_X7_note_7 (List.mem_of_getElem? (i := 1) rfl) (by decide) (ce_ra ad cs _ _) rfl (by decide) rfl rfl dX7_note_86 ?_
      refine g_ni (fun v12 ev12 => ?_)
      have tv12 := congrArg Int32.toInt ev12
      obtain ⟨bv12, dv12⟩ := (show rg 0 30 v12 from (by rw [ev12]; exact hI 125 2 (Or.inr rfl)))
      refine g_iconst C 1 dX7_note_89 (by decide) ?_
      refine g_iadd C dX7_note_90 ?_
      refine g_ni (fun v13 ev13 => ?_)
      try have fv13 := fadd rfl (by decide : (1 : Int32).toInt = 1) ev13 (by omega) (by omega)
      refine g_putI C 2 in_X7_note_7 (List.mem_of_getElem? (i := 1) rfl) (by decide) (ce_ra ad cs _ _) rfl (by decide) rfl tyX7 tyX7_ok nmX7 rfl rfl rfl rfl (Nat.le_of_ble_eq_true rfl) (by rw [sI_k]; rfl) dX7_note_91 ?_
      refine g_nm (fun M14 hM14 => ?_)
      have hI : IC M14 := by rw [hM14]; exact hI.st (fun _ => ⟨by first | omega | decide, by first | omega | decide⟩)
      have hF : ∀ k, k ≠ 125 ∧ k ≠ 127 ∧ k ≠ 128 → M14 k = M k := fun k hk => by (rw [hM14, sI_n _ _ _ (by omega)]; try exact hF k hk)
      exact g_vret C hr ⟨hI, hF, hG⟩ dX7_note_94
    ·
      have f15 := fnle (by decide : (10 : Int32).toInt = 10) rfl c10
      refine g_aload_n C 1 dX7_note_40 rfl ?_
      refine g_get C (.ref (ad 129)) 5 in_X7_note_7 (List.mem_of_getElem? (i := 4) rfl) (by decide) (ce_ra ad cs _ _) rfl (by decide) rfl rfl dX7_note_41 ?_
      refine g_aload_n C 1 dX7_note_44 rfl ?_
      refine g_get C (.int (M_33 125 2)) 2 in_X7_note_7 (List.mem_of_getElem? (i := 1) rfl) (by decide) (ce_ra ad cs _ _) rfl (by decide) rfl rfl dX7_note_45 ?_
      refine g_ni (fun v16 ev16 => ?_)
      have tv16 := congrArg Int32.toInt ev16
      obtain ⟨bv16, dv16⟩ := (show rg 0 30 v16 from (by rw [ev16]; exact hI 125 2 (Or.inr rfl)))
      have hi17 : vp_in v16 30 := (fin' (n := 30) rfl (by omega) (by omega))
      have nhi17 := tn hi17
      refine g_aald C (by decide) (ce_raupm ad cs _ _) rfl hi17 dX7_note_48 ?_
      refine g_iload C 0 dX7_note_49 rfl ?_
      refine g_aload_n C 4 dX7_note_51 rfl ?_
      refine g_get C (.ref (ad 91)) 6 in_X7_note_6 (List.mem_of_getElem? (i := 5) rfl) (by decide) (ce_poll ad cs _ _) rfl (by decide) rfl rfl dX7_note_52 ?_
      refine g_iload C 0 dX7_note_55 rfl ?_
      refine g_lald C (by decide) (ce_pupper ad cs _ _) (fin' (n := 10) rfl (by omega) (by omega)) dX7_note_57 ?_
      refine g_nl (fun v18 ev18 => ?_)
      refine g_last C (by omega) (ce_raup ad cs _ _ nhi17) (by rw [sJ_k]; exact (ce_raup ad cs _ _ nhi17)) (fin' (n := 10) rfl (by omega) (by omega)) dX7_note_58 ?_
      refine g_nmL (fun L19 hL19 => ?_)
      have hG : ∀ k, 258 ≤ k → L19 k = L k := fun k hk => by (rw [hL19, sJ_n _ _ _ (by omega)]; try exact hG k hk)
      refine g_aload_n C 1 dX7_note_59 rfl ?_
      refine g_get C (.ref (ad 130)) 6 in_X7_note_7 (List.mem_of_getElem? (i := 6) rfl) (by decide) (ce_ra ad cs _ _) rfl (by decide) rfl rfl dX7_note_60 ?_
      refine g_aload_n C 1 dX7_note_63 rfl ?_
      refine g_get C (.int (M_33 125 2)) 2 in_X7_note_7 (List.mem_of_getElem? (i := 1) rfl) (by decide) (ce_ra ad cs _ _) rfl (by decide) rfl rfl dX7_note_64 ?_
      refine g_ni (fun v20 ev20 => ?_)
      have tv20 := congrArg Int32.toInt ev20
      obtain ⟨bv20, dv20⟩ := (show rg 0 30 v20 from (by rw [ev20]; exact hI 125 2 (Or.inr rfl)))
      have uv20 : v20 = v16 := by rw [ev20]; exact ev16.symm
      have wv20 := congrArg Int32.toInt uv20
      have hi21 : vp_in v20 30 := (fin' (n := 30) rfl (by omega) (by omega))
      have nhi21 := tn hi21
      refine g_aald C (by decide) (ce_ralowm ad cs _ _) rfl hi21 dX7_note_67 ?_
      refine g_iload C 0 dX7_note_68 rfl ?_
      refine g_aload_n C 4 dX7_note_70 rfl ?_
      refine g_get C (.ref (ad 92)) 7 in_X7_note_6 (List.mem_of_getElem? (i := 7) rfl) (by decide) (ce_poll ad cs _ _) rfl (by decide) rfl rfl dX7_note_71 ?_
      refine g_iload C 0 dX7_note_74 rfl ?_
      refine g_lald C (by decide) (ce_plower ad cs _ _) (fin' (n := 10) rfl (by omega) (by omega)) dX7_note_76 ?_
      refine g_nl (fun v22 ev22 => ?_)
      refine g_last C (by omega) (ce_ralow ad cs _ _ nhi21) (by rw [sJ_k]; exact (ce_ralow ad cs _ _ nhi21)) (fin' (n := 10) rfl (by omega) (by omega)) dX7_note_77 ?_
      refine g_nmL (fun L23 hL23 => ?_)
      have hG : ∀ k, 258 ≤ k → L23 k = L k := fun k hk => by (rw [hL23, sJ_n _ _ _ (by omega)]; try exact hG k hk)
      obtain ⟨v24, ev24⟩ : ∃ y : Int32, y = x4_33 + 1 := ⟨_, rfl⟩
      try have fv24 := fadd rfl (by decide : (1 : Int32).toInt = 1) ev24 (by omega) (by omega)
      refine g_iinc C 0 v24 [(4, .int v24), (0, .ref (ad 125)), (1, .int x), (2, .int y), (3, .ref (ad 88))] dX7_note_78 rfl (by rw [ev24]; rfl) (by decide) rfl ?_
      refine g_goto C 33 dX7_note_81 (by decide) ?_
      have uhm25 : M_33 125 2 = v20 := by skip; exact ev20.symm
      have hm25 : (M_33 125 2).toInt < 30 := by rw [uhm25]; omega
      exact ih_33 (v24, M_33, L23) ⟨by show 0 ≤ v24.toInt; omega, by show v24.toInt ≤ 10; omega, hm25, hI, hF, hG⟩ (by show (11 - v24.toInt).toNat < (11 - x4_33.toInt).toNat; omega)
  ·
    have f26 := feq rfl (by decide : (30 : Int32).toInt = 30) c2
    exact g_vret C hr ⟨hI, hF, hG⟩ dX7_note_9
set_option maxHeartbeats 4000000 in
set_option maxRecDepth 100000 in
theorem s_X7_clear_b (l : Launch) (D : va_G) (ad : Nat → Nat) (cs : Nat → ClassId) (M : MI) (L : ML)  (hI : IC M) : Cv l yX7_clear wsX7_clear ({ frames := 0, cells := 0, slots := 0, locals := 0 }) D ad cs [.ref (ad 191)] M L (fun M1 L1 => IC M1 ∧ (∀ k, k ≠ 191 → M1 k = M k) ∧ ∀ k, 258 ≤ k → L1 k = L k) := by
  refine enter_v RX7 rfl [(0, .ref (ad 191))] rfl (Nat.le_of_ble_eq_true rfl) (by decide +kernel) rfl ?_
  intro p e s m below meth c C hr
  have hF : ∀ k, k ≠ 191 → M k = M k := fun _ _ => rfl
  have hG : ∀ k, 258 ≤ k → L k = L k := fun _ _ => rfl
  refine g_aload_n C 0 dX7_clear_0 rfl ?_
  refine g_iconst C 0 dX7_clear_1 (by decide) ?_
  refine g_putI C 0 in_X7_clear_7 (List.mem_of_getElem? (i := 1) rfl) (by decide) (ce_rb ad cs _ _) rfl (by decide) rfl tyX7 tyX7_ok nmX7 rfl rfl rfl rfl (Nat.le_of_ble_eq_true rfl) (by rw [sI_k]; rfl) dX7_clear_2 ?_
  refine g_nm (fun M1 hM1 => ?_)
  have zy2 : (0 : Int32).toInt = 0 := by decide
  have hI : IC M1 := by rw [hM1]; exact hI.st (fun _ => ⟨by first | omega | decide, by first | omega | decide⟩)
  have hF : ∀ k, k ≠ 191 → M1 k = M k := fun k hk => by (rw [hM1, sI_n _ _ _ (by omega)]; try exact hF k hk)
  refine g_aload_n C 0 dX7_clear_5 rfl ?_
  refine g_iconst C 0 dX7_clear_6 (by decide) ?_
  refine g_putI C 2 in_X7_clear_7 (List.mem_of_getElem? (i := 2) rfl) (by decide) (ce_rb ad cs _ _) rfl (by decide) rfl tyX7 tyX7_ok nmX7 rfl rfl rfl rfl (Nat.le_of_ble_eq_true rfl) (by rw [sI_k]; rfl) dX7_clear_7 ?_
  refine g_nm (fun M3 hM3 => ?_)
  have zy4 : (0 : Int32).toInt = 0 := by decide
  have hI : IC M3 := by rw [hM3]; exact hI.st (fun _ => ⟨by first | omega | decide, by first | omega | decide⟩)
  have hF : ∀ k, k ≠ 191 → M3 k = M k := fun k hk => by (rw [hM3, sI_n _ _ _ (by omega)]; try exact hF k hk)
  exact g_vret C hr ⟨hI, hF, hG⟩ dX7_clear_10
set_option maxHeartbeats 4000000 in
set_option maxRecDepth 100000 in
theorem s_X7_hasRound_b (l : Launch) (D : va_G) (ad : Nat → Nat) (cs : Nat → ClassId) (M : MI) (L : ML) (i : Int32) (hI : IC M) : Ci l yX7_hasRound wsX7_hasRound ({ frames := 0, cells := 0, slots := 0, locals := 0 }) D ad cs [.ref (ad 191), .int i] M L (fun r M1 L1 => M1 = M ∧ L1 = L ∧ (r = 0 ∨ r = 1) ∧ (¬ r = 0 → 0 ≤ i.toInt ∧ i.toInt < 30)) := by
  refine enter_i RX7 rfl [(0, .ref (ad 191)), (1, .int i)] rfl (Nat.le_of_ble_eq_true rfl) (by decide +kernel) rfl ?_
  intro p e s m below meth c C hr
  have hF : ∀ k, True → M k = M k := fun _ _ => rfl
  have hG : ∀ k, True → L k = L k := fun _ _ => rfl
  refine g_iload_n C 1 dX7_hasRound_0 rfl ?_
  refine g_if_lt C 16 dX7_hasRound_1 (by decide) (fun c1 => ?_) (fun c1 => ?_)
  ·
    have f2 := fl rfl (by decide : (0 : Int32).toInt = 0) c1
    refine g_iconst C 0 dX7_hasRound_16 (by decide) ?_
    exact g_zret C hr rfl ⟨rfl, rfl, (by first | exact Or.inl rfl | exact Or.inr rfl), (by first | (intro h; exact absurd rfl h) | (intro _; exact ⟨by omega, by omega⟩))⟩ dX7_hasRound_17
  ·
    have f3 := fnl rfl (by decide : (0 : Int32).toInt = 0) c1
    refine g_iload_n C 1 dX7_hasRound_4 rfl ?_
    refine g_aload_n C 0 dX7_hasRound_5 rfl ?_
    refine g_get C (.int (M 191 2)) 2 in_X7_hasRound_7 (List.mem_of_getElem? (i := 1) rfl) (by decide) (ce_rb ad cs _ _) rfl (by decide) rfl rfl dX7_hasRound_6 ?_
    refine g_ni (fun v4 ev4 => ?_)
    have tv4 := congrArg Int32.toInt ev4
    obtain ⟨bv4, dv4⟩ := (show rg 0 30 v4 from (by rw [ev4]; exact hI 191 2 (Or.inr rfl)))
    refine g_icmp_ge C 16 dX7_hasRound_9 (by decide) (fun c5 => ?_) (fun c5 => ?_)
    ·
      have f6 := fle rfl rfl c5
      refine g_iconst C 0 dX7_hasRound_16 (by decide) ?_
      exact g_zret C hr rfl ⟨rfl, rfl, (by first | exact Or.inl rfl | exact Or.inr rfl), (by first | (intro h; exact absurd rfl h) | (intro _; exact ⟨by omega, by omega⟩))⟩ dX7_hasRound_17
    ·
      have f7 := fnle rfl rfl c5
      refine g_iconst C 1 dX7_hasRound_12 (by decide) ?_
      refine g_goto C 17 dX7_hasRound_13 (by decide) ?_
      exact g_zret C hr rfl ⟨rfl, rfl, (by first | exact Or.inl rfl | exact Or.inr rfl), (by first | (intro h; exact absurd rfl h) | (intro _; exact ⟨by omega, by omega⟩))⟩ dX7_hasRound_17
set_option maxHeartbeats 4000000 in
set_option maxRecDepth 100000 in
theorem s_X7_give_b (l : Launch) (D : va_G) (ad : Nat → Nat) (cs : Nat → ClassId) (M : MI) (L : ML) (x : Int32) (hI : IC M) : Cv l yX7_give wsX7_give ({ frames := 0, cells := 0, slots := 0, locals := 0 }) D ad cs [.ref (ad 191), .int x] M L (fun M1 L1 => IC M1 ∧ (∀ k, k ≠ 191 ∧ k ≠ 192 → M1 k = M k) ∧ ∀ k, 258 ≤ k → L1 k = L k) := by
  refine enter_v RX7 rfl [(0, .ref (ad 191)), (1, .int x)] rfl (Nat.le_of_ble_eq_true rfl) (by decide +kernel) rfl ?_
  intro p e s m below meth c C hr
  have hF : ∀ k, k ≠ 191 ∧ k ≠ 192 → M k = M k := fun _ _ => rfl
  have hG : ∀ k, 258 ≤ k → L k = L k := fun _ _ => rfl
  refine g_aload_n C 0 dX7_give_0 rfl ?_
  refine g_get C (.int (M 191 0)) 0 in_X7_give_7 (List.mem_of_getElem? (i := 1) rfl) (by decide) (ce_rb ad cs _ _) rfl (by decide) rfl rfl dX7_give_1 ?_
  refine g_ni (fun v1 ev1 => ?_)
  have tv1 := congrArg Int32.toInt ev1
  obtain ⟨bv1, dv1⟩ := (show rg 0 30 v1 from (by rw [ev1]; exact hI 191 0 (Or.inl rfl)))
  refine g_bipush C 30 dX7_give_4 (by decide) ?_
  refine g_icmp_ge C 29 dX7_give_6 (by decide) (fun c2 => ?_) (fun c2 => ?_)
  ·
    have f3 := fle (by decide : (30 : Int32).toInt = 30) rfl c2
    exact g_vret C hr ⟨hI, hF, hG⟩ dX7_give_29
  ·
    have f4 := fnle (by decide : (30 : Int32).toInt = 30) rfl c2
    refine g_aload_n C 0 dX7_give_9 rfl ?_
    refine g_get C (.ref (ad 192)) 1 in_X7_give_7 (List.mem_of_getElem? (i := 2) rfl) (by decide) (ce_rb ad cs _ _) rfl (by decide) rfl rfl dX7_give_10 ?_
    refine g_aload_n C 0 dX7_give_13 rfl ?_
    refine g_get C (.int (M 191 0)) 0 in_X7_give_7 (List.mem_of_getElem? (i := 1) rfl) (by decide) (ce_rb ad cs _ _) rfl (by decide) rfl rfl dX7_give_14 ?_
    refine g_ni (fun v5 ev5 => ?_)
    have tv5 := congrArg Int32.toInt ev5
    obtain ⟨bv5, dv5⟩ := (show rg 0 30 v5 from (by rw [ev5]; exact hI 191 0 (Or.inl rfl)))
    have uv5 : v5 = v1 := by rw [ev5]; exact ev1.symm
    have wv5 := congrArg Int32.toInt uv5
    refine g_iload_n C 1 dX7_give_17 rfl ?_
    refine g_iast C (by decide) (ce_rbseated ad cs _ _) (by rw [sI_k]; rfl) (fin' (n := 30) rfl (by omega) (by omega)) dX7_give_18 ?_
    refine g_nm (fun M6 hM6 => ?_)
    have hI : IC M6 := by rw [hM6]; exact hI.st (bC_free (by decide) (by decide) (by decide) (by decide) (by decide) (by decide) (by decide))
    have hF : ∀ k, k ≠ 191 ∧ k ≠ 192 → M6 k = M k := fun k hk => by (rw [hM6, sI_n _ _ _ (by omega)]; try exact hF k hk)
    refine g_aload_n C 0 dX7_give_19 rfl ?_
    refine g_dup C dX7_give_20 rfl ?_
    refine g_get C (.int (M6 191 0)) 0 in_X7_give_7 (List.mem_of_getElem? (i := 1) rfl) (by decide) (ce_rb ad cs _ _) rfl (by decide) rfl rfl dX7_give_21 ?_
    refine g_ni (fun v7 ev7 => ?_)
    have tv7 := congrArg Int32.toInt ev7
    obtain ⟨bv7, dv7⟩ := (show rg 0 30 v7 from (by rw [ev7]; exact hI 191 0 (Or.inl rfl)))
    have uv7 : v7 = v5 := by rw [ev7, hM6, sI_n _ _ _ (by decide)]; exact ev5.symm
    have wv7 := congrArg Int32.toInt uv7
    refine g_iconst C 1 dX7_give_24 (by decide) ?_
    refine g_iadd C dX7_give_25 ?_
    refine g_ni (fun v8 ev8 => ?_)
    try have fv8 := fadd rfl (by decide : (1 : Int32).toInt = 1) ev8 (by omega) (by omega)
    refine g_putI C 0 in_X7_give_7 (List.mem_of_getElem? (i := 1) rfl) (by decide) (ce_rb ad cs _ _) rfl (by decide) rfl tyX7 tyX7_ok nmX7 rfl rfl rfl rfl (Nat.le_of_ble_eq_true rfl) (by rw [sI_k]; rfl) dX7_give_26 ?_
    refine g_nm (fun M9 hM9 => ?_)
    have hI : IC M9 := by rw [hM9]; exact hI.st (fun _ => ⟨by first | omega | decide, by first | omega | decide⟩)
    have hF : ∀ k, k ≠ 191 ∧ k ≠ 192 → M9 k = M k := fun k hk => by (rw [hM9, sI_n _ _ _ (by omega)]; try exact hF k hk)
    exact g_vret C hr ⟨hI, hF, hG⟩ dX7_give_29
set_option maxHeartbeats 4000000 in
set_option maxRecDepth 100000 in
theorem s_X7_note_b (l : Launch) (D : va_G) (ad : Nat → Nat) (cs : Nat → ClassId) (M : MI) (L : ML) (x : Int32) (y : Int32) (hI : IC M) : Cv l yX7_note wsX7_note ({ frames := 0, cells := 0, slots := 0, locals := 0 }) D ad cs [.ref (ad 191), .int x, .int y, .ref (ad 88)] M L (fun M1 L1 => IC M1 ∧ (∀ k, k ≠ 191 ∧ k ≠ 193 ∧ k ≠ 194 → M1 k = M k) ∧ ∀ k, 258 ≤ k → L1 k = L k) := by
  refine enter_v RX7 rfl [(0, .ref (ad 191)), (1, .int x), (2, .int y), (3, .ref (ad 88))] rfl (Nat.le_of_ble_eq_true rfl) (by decide +kernel) rfl ?_
  intro p e s m below meth c C hr
  have hF : ∀ k, k ≠ 191 ∧ k ≠ 193 ∧ k ≠ 194 → M k = M k := fun _ _ => rfl
  have hG : ∀ k, 258 ≤ k → L k = L k := fun _ _ => rfl
  refine g_aload_n C 0 dX7_note_0 rfl ?_
  refine g_get C (.int (M 191 2)) 2 in_X7_note_7 (List.mem_of_getElem? (i := 1) rfl) (by decide) (ce_rb ad cs _ _) rfl (by decide) rfl rfl dX7_note_1 ?_
  refine g_ni (fun v1 ev1 => ?_)
  have tv1 := congrArg Int32.toInt ev1
  obtain ⟨bv1, dv1⟩ := (show rg 0 30 v1 from (by rw [ev1]; exact hI 191 2 (Or.inr rfl)))
  refine g_bipush C 30 dX7_note_4 (by decide) ?_
  refine g_icmp_ne C 10 dX7_note_6 (by decide) (fun c2 => ?_) (fun c2 => ?_)
  ·
    have f3 := fne rfl (by decide : (30 : Int32).toInt = 30) c2
    refine g_aload_n C 0 dX7_note_10 rfl ?_
    refine g_get C (.ref (ad 193)) 3 in_X7_note_7 (List.mem_of_getElem? (i := 2) rfl) (by decide) (ce_rb ad cs _ _) rfl (by decide) rfl rfl dX7_note_11 ?_
    refine g_aload_n C 0 dX7_note_14 rfl ?_
    refine g_get C (.int (M 191 2)) 2 in_X7_note_7 (List.mem_of_getElem? (i := 1) rfl) (by decide) (ce_rb ad cs _ _) rfl (by decide) rfl rfl dX7_note_15 ?_
    refine g_ni (fun v4 ev4 => ?_)
    have tv4 := congrArg Int32.toInt ev4
    obtain ⟨bv4, dv4⟩ := (show rg 0 30 v4 from (by rw [ev4]; exact hI 191 2 (Or.inr rfl)))
    have uv4 : v4 = v1 := by rw [ev4]; exact ev1.symm
    have wv4 := congrArg Int32.toInt uv4
    refine g_iload_n C 1 dX7_note_18 rfl ?_
    refine g_iast C (by decide) (ce_rbhap ad cs _ _) (by rw [sI_k]; rfl) (fin' (n := 30) rfl (by omega) (by omega)) dX7_note_19 ?_
    refine g_nm (fun M5 hM5 => ?_)
    have hI : IC M5 := by rw [hM5]; exact hI.st (bC_free (by decide) (by decide) (by decide) (by decide) (by decide) (by decide) (by decide))
    have hF : ∀ k, k ≠ 191 ∧ k ≠ 193 ∧ k ≠ 194 → M5 k = M k := fun k hk => by (rw [hM5, sI_n _ _ _ (by omega)]; try exact hF k hk)
    refine g_aload_n C 0 dX7_note_20 rfl ?_
    refine g_get C (.ref (ad 194)) 4 in_X7_note_7 (List.mem_of_getElem? (i := 3) rfl) (by decide) (ce_rb ad cs _ _) rfl (by decide) rfl rfl dX7_note_21 ?_
    refine g_aload_n C 0 dX7_note_24 rfl ?_
    refine g_get C (.int (M5 191 2)) 2 in_X7_note_7 (List.mem_of_getElem? (i := 1) rfl) (by decide) (ce_rb ad cs _ _) rfl (by decide) rfl rfl dX7_note_25 ?_
    refine g_ni (fun v6 ev6 => ?_)
    have tv6 := congrArg Int32.toInt ev6
    obtain ⟨bv6, dv6⟩ := (show rg 0 30 v6 from (by rw [ev6]; exact hI 191 2 (Or.inr rfl)))
    have uv6 : v6 = v4 := by rw [ev6, hM5, sI_n _ _ _ (by decide)]; exact ev4.symm
    have wv6 := congrArg Int32.toInt uv6
    refine g_iload_n C 2 dX7_note_28 rfl ?_
    refine g_iast C (by decide) (ce_rbwhom ad cs _ _) (by rw [sI_k]; rfl) (fin' (n := 30) rfl (by omega) (by omega)) dX7_note_29 ?_
    refine g_nm (fun M7 hM7 => ?_)
    have hI : IC M7 := by rw [hM7]; exact hI.st (bC_free (by decide) (by decide) (by decide) (by decide) (by decide) (by decide) (by decide))
    have hF : ∀ k, k ≠ 191 ∧ k ≠ 193 ∧ k ≠ 194 → M7 k = M k := fun k hk => by (rw [hM7, sI_n _ _ _ (by omega)]; try exact hF k hk)
    refine g_iconst C 0 dX7_note_30 (by decide) ?_
    refine g_istore C [(4, .int 0), (0, .ref (ad 191)), (1, .int x), (2, .int y), (3, .ref (ad 88))] dX7_note_31 (by decide) rfl ?_
    have zy8 : (0 : Int32).toInt = 0 := by decide
    have uhm9 : M7 191 2 = v6 := by rw [hM7, sI_n _ _ _ (by decide)]; exact ev6.symm
    have hm9 : (M7 191 2).toInt < 30 := by rw [uhm9]; omega
    refine g_loop (α := Int32 × MI × ML) (fun a => (11 - a.1.toInt).toNat) (fun a => 0 ≤ a.1.toInt ∧ a.1.toInt ≤ 10 ∧ (a.2.1 191 2).toInt < 30 ∧ IC a.2.1 ∧ (∀ k, k ≠ 191 ∧ k ≠ 193 ∧ k ≠ 194 → a.2.1 k = M k) ∧ (∀ k, 258 ≤ k → a.2.2 k = L k)) (fun a => a.2.1) (fun a => a.2.2) (fun a => [(4, .int a.1), (0, .ref (ad 191)), (1, .int x), (2, .int y), (3, .ref (ad 88))]) (0, M7, L) ⟨by show 0 ≤ (0 : Int32).toInt; omega, by show (0 : Int32).toInt ≤ 10; omega, hm9, hI, hF, hG⟩ rfl rfl rfl ?_
    rintro ⟨x4_33, M_33, L_33⟩ ⟨j33_0, j33_1, jm33_0, hI, hF, hG⟩ ih_33
    dsimp only at j33_0 j33_1 jm33_0 hI hF hG ih_33 ⊢
    refine g_iload C 0 dX7_note_33 rfl ?_
    refine g_bipush C 10 dX7_note_35 (by decide) ?_
    refine g_icmp_ge C 84 dX7_note_37 (by decide) (fun c10 => ?_) (fun c10 => ?_)
    ·
      have f11 := fle (by decide : (10 : Int32).toInt = 10) rfl c10
      refine g_aload_n C 1 dX7_note_84 rfl ?_
      refine g_dup C dX7_note_85 rfl ?_
      refine g_get C (.int (M_33 191 2)) 2 in_X7_note_7 (List.mem_of_getElem? (i := 1) rfl) (by decide) (ce_rb ad cs _ _) rfl (by decide) rfl rfl dX7_note_86 ?_
      refine g_ni (fun v12 ev12 => ?_)
      have tv12 := congrArg Int32.toInt ev12
      obtain ⟨bv12, dv12⟩ := (show rg 0 30 v12 from (by rw [ev12]; exact hI 191 2 (Or.inr rfl)))
      refine g_iconst C 1 dX7_note_89 (by decide) ?_
      refine g_iadd C dX7_note_90 ?_
      refine g_ni (fun v13 ev13 => ?_)
      try have fv13 := fadd rfl (by decide : (1 : Int32).toInt = 1) ev13 (by omega) (by omega)
      refine g_putI C 2 in_X7_note_7 (List.mem_of_getElem? (i := 1) rfl) (by decide) (ce_rb ad cs _ _) rfl (by decide) rfl tyX7 tyX7_ok nmX7 rfl rfl rfl rfl (Nat.le_of_ble_eq_true rfl) (by rw [sI_k]; rfl) dX7_note_91 ?_
      refine g_nm (fun M14 hM14 => ?_)
      have hI : IC M14 := by rw [hM14]; exact hI.st (fun _ => ⟨by first | omega | decide, by first | omega | decide⟩)
      have hF : ∀ k, k ≠ 191 ∧ k ≠ 193 ∧ k ≠ 194 → M14 k = M k := fun k hk => by (rw [hM14, sI_n _ _ _ (by omega)]; try exact hF k hk)
      exact g_vret C hr ⟨hI, hF, hG⟩ dX7_note_94
    ·
      have f15 := fnle (by decide : (10 : Int32).toInt = 10) rfl c10
      refine g_aload_n C 1 dX7_note_40 rfl ?_
      refine g_get C (.ref (ad 195)) 5 in_X7_note_7 (List.mem_of_getElem? (i := 4) rfl) (by decide) (ce_rb ad cs _ _) rfl (by decide) rfl rfl dX7_note_41 ?_
      refine g_aload_n C 1 dX7_note_44 rfl ?_
      refine g_get C (.int (M_33 191 2)) 2 in_X7_note_7 (List.mem_of_getElem? (i := 1) rfl) (by decide) (ce_rb ad cs _ _) rfl (by decide) rfl rfl dX7_note_45 ?_
      refine g_ni (fun v16 ev16 => ?_)
      have tv16 := congrArg Int32.toInt ev16
      obtain ⟨bv16, dv16⟩ := (show rg 0 30 v16 from (by rw [ev16]; exact hI 191 2 (Or.inr rfl)))
      have hi17 : vp_in v16 30 := (fin' (n := 30) rfl (by omega) (by omega))
      have nhi17 := tn hi17
      refine g_aald C (by decide) (ce_rbupm ad cs _ _) rfl hi17 dX7_note_48 ?_
      refine g_iload C 0 dX7_note_49 rfl ?_
      refine g_aload_n C 4 dX7_note_51 rfl ?_
      refine g_get C (.ref (ad 91)) 6 in_X7_note_6 (List.mem_of_getElem? (i := 5) rfl) (by decide) (ce_poll ad cs _ _) rfl (by decide) rfl rfl dX7_note_52 ?_
      refine g_iload C 0 dX7_note_55 rfl ?_
      refine g_lald C (by decide) (ce_pupper ad cs _ _) (fin' (n := 10) rfl (by omega) (by omega)) dX7_note_57 ?_
      refine g_nl (fun v18 ev18 => ?_)
      refine g_last C (by omega) (ce_rbup ad cs _ _ nhi17) (by rw [sJ_k]; exact (ce_rbup ad cs _ _ nhi17)) (fin' (n := 10) rfl (by omega) (by omega)) dX7_note_58 ?_
      refine g_nmL (fun L19 hL19 => ?_)
      have hG : ∀ k, 258 ≤ k → L19 k = L k := fun k hk => by (rw [hL19, sJ_n _ _ _ (by omega)]; try exact hG k hk)
      refine g_aload_n C 1 dX7_note_59 rfl ?_
      refine g_get C (.ref (ad 196)) 6 in_X7_note_7 (List.mem_of_getElem? (i := 6) rfl) (by decide) (ce_rb ad cs _ _) rfl (by decide) rfl rfl dX7_note_60 ?_
      refine g_aload_n C 1 dX7_note_63 rfl ?_
      refine g_get C (.int (M_33 191 2)) 2 in_X7_note_7 (List.mem_of_getElem? (i := 1) rfl) (by decide) (ce_rb ad cs _ _) rfl (by decide) rfl rfl dX7_note_64 ?_
      refine g_ni (fun v20 ev20 => ?_)
      have tv20 := congrArg Int32.toInt ev20
      obtain ⟨bv20, dv20⟩ := (show rg 0 30 v20 from (by rw [ev20]; exact hI 191 2 (Or.inr rfl)))
      have uv20 : v20 = v16 := by rw [ev20]; exact ev16.symm
      have wv20 := congrArg Int32.toInt uv20
      have hi21 : vp_in v20 30 := (fin' (n := 30) rfl (by omega) (by omega))
      have nhi21 := tn hi21
      refine g_aald C (by decide) (ce_rblowm ad cs _ _) rfl hi21 dX7_note_67 ?_
      refine g_iload C 0 dX7_note_68 rfl ?_
      refine g_aload_n C 4 dX7_note_70 rfl ?_
      refine g_get C (.ref (ad 92)) 7 in_X7_note_6 (List.mem_of_getElem? (i := 7) rfl) (by decide) (ce_poll ad cs _ _) rfl (by decide) rfl rfl dX7_note_71 ?_
      refine g_iload C 0 dX7_note_74 rfl ?_
      refine g_lald C (by decide) (ce_plower ad cs _ _) (fin' (n := 10) rfl (by omega) (by omega)) dX7_note_76 ?_
      refine g_nl (fun v22 ev22 => ?_)
      refine g_last C (by omega) (ce_rblow ad cs _ _ nhi21) (by rw [sJ_k]; exact (ce_rblow ad cs _ _ nhi21)) (fin' (n := 10) rfl (by omega) (by omega)) dX7_note_77 ?_
      refine g_nmL (fun L23 hL23 => ?_)
      have hG : ∀ k, 258 ≤ k → L23 k = L k := fun k hk => by (rw [hL23, sJ_n _ _ _ (by omega)]; try exact hG k hk)
      obtain ⟨v24, ev24⟩ : ∃ y : Int32, y = x4_33 + 1 := ⟨_, rfl⟩
      try have fv24 := fadd rfl (by decide : (1 : Int32).toInt = 1) ev24 (by omega) (by omega)
      refine g_iinc C 0 v24 [(4, .int v24), (0, .ref (ad 191)), (1, .int x), (2, .int y), (3, .ref (ad 88))] dX7_note_78 rfl (by rw [ev24]; rfl) (by decide) rfl ?_
      refine g_goto C 33 dX7_note_81 (by decide) ?_
      have uhm25 : M_33 191 2 = v20 := by skip; exact ev20.symm
      have hm25 : (M_33 191 2).toInt < 30 := by rw [uhm25]; omega
      exact ih_33 (v24, M_33, L23) ⟨by show 0 ≤ v24.toInt; omega, by show v24.toInt ≤ 10; omega, hm25, hI, hF, hG⟩ (by show (11 - v24.toInt).toNat < (11 - x4_33.toInt).toNat; omega)
  ·
    have f26 := feq rfl (by decide : (30 : Int32).toInt = 30) c2
    exact g_vret C hr ⟨hI, hF, hG⟩ dX7_note_9
theorem dX6_papersOf_0 : decode cX6_papersOf 0 = .ok (.aload_n 0, 1) := dw42 (n := 0) (i := 0) kc_cX6_papersOf_0 (by decide +kernel)
theorem dX6_papersOf_1 : decode cX6_papersOf 1 = .ok (.getfield 37, 3) := dw180 (n := 0) (i := 1) (a := 0) (b := 37) kc_cX6_papersOf_0 (by decide +kernel) (by decide)
theorem in_X6_papersOf_6 : ∀ w ∈ u_ws RX6 TX6 8, w ∈ wsX6_papersOf := fun _ h => List.mem_cons_of_mem _ (List.mem_append_left _ (List.mem_append_right _ h))
theorem dX6_papersOf_4 : decode cX6_papersOf 4 = .ok (.getfield 62, 3) := dw180 (n := 0) (i := 4) (a := 0) (b := 62) kc_cX6_papersOf_0 (by decide +kernel) (by decide)
theorem in_X6_papersOf_0 : ∀ w ∈ u_ws RX0 TX0 5, w ∈ wsX6_papersOf := fun _ h => List.mem_cons_of_mem _ (List.mem_append_right _ h)
theorem dX6_papersOf_7 : decode cX6_papersOf 7 = .ok (.aload_n 0, 1) := dw42 (n := 0) (i := 7) kc_cX6_papersOf_0 (by decide +kernel)
theorem dX6_papersOf_8 : decode cX6_papersOf 8 = .ok (.getfield 9, 3) := dw180 (n := 0) (i := 8) (a := 0) (b := 9) kc_cX6_papersOf_0 (by decide +kernel) (by decide)
theorem dX6_papersOf_11 : decode cX6_papersOf 11 = .ok (.iload_n 1, 1) := dw27 (n := 0) (i := 11) kc_cX6_papersOf_0 (by decide +kernel)
theorem dX6_papersOf_12 : decode cX6_papersOf 12 = .ok (.iaload, 1) := dw46 (n := 0) (i := 12) kc_cX6_papersOf_0 (by decide +kernel)
theorem dX6_papersOf_13 : decode cX6_papersOf 13 = .ok (.iaload, 1) := dw46 (n := 0) (i := 13) kc_cX6_papersOf_0 (by decide +kernel)
theorem dX6_papersOf_14 : decode cX6_papersOf 14 = .ok (.ireturn, 1) := dw172 (n := 0) (i := 14) kc_cX6_papersOf_0 (by decide +kernel)
set_option maxHeartbeats 4000000 in
set_option maxRecDepth 100000 in
theorem s_X6_papersOf (l : Launch) (D : va_G) (ad : Nat → Nat) (cs : Nat → ClassId) (M : MI) (L : ML) (x : Int32) (hI : IC M) (hk : 0 ≤ x.toInt ∧ x.toInt < 40) : Ci l yX6_papersOf wsX6_papersOf ({ frames := 0, cells := 0, slots := 0, locals := 0 }) D ad cs [.ref (ad 88), .int x] M L (fun r M1 L1 => M1 = M ∧ L1 = L ∧ True) := by
  refine enter_i RX6 rfl [(0, .ref (ad 88)), (1, .int x)] rfl (Nat.le_of_ble_eq_true rfl) (by decide +kernel) rfl ?_
  intro p e s m below meth c C hr
  have hF : ∀ k, True → M k = M k := fun _ _ => rfl
  have hG : ∀ k, True → L k = L k := fun _ _ => rfl
  obtain ⟨hk1, hk2⟩ := hk
  refine g_aload_n C 0 dX6_papersOf_0 rfl ?_
  refine g_get C (.ref (ad 3)) 1 in_X6_papersOf_6 (List.mem_of_getElem? (i := 1) rfl) (by decide) (ce_poll ad cs _ _) rfl (by decide) rfl rfl dX6_papersOf_1 ?_
  refine g_get C (.ref (ad 5)) 2 in_X6_papersOf_0 (List.mem_of_getElem? (i := 2) rfl) (by decide) (ce_ball ad cs _ _) rfl (by decide) rfl rfl dX6_papersOf_4 ?_
  refine g_aload_n C 0 dX6_papersOf_7 rfl ?_
  refine g_get C (.ref (ad 89)) 2 in_X6_papersOf_6 (List.mem_of_getElem? (i := 3) rfl) (by decide) (ce_poll ad cs _ _) rfl (by decide) rfl rfl dX6_papersOf_8 ?_
  refine g_iload_n C 1 dX6_papersOf_11 rfl ?_
  refine g_iald C (by decide) (ce_plying ad cs _ _) (fin' (n := 40) rfl (by omega) (by omega)) dX6_papersOf_12 ?_
  refine g_ni (fun v1 ev1 => ?_)
  have tv1 := congrArg Int32.toInt ev1
  obtain ⟨bv1, dv1⟩ := (show rg 0 59 v1 from (by rw [ev1]; exact hI 89 _))
  refine g_iald C (by decide) (ce_bpapers ad cs _ _) (fin' (n := 60) rfl (by omega) (by omega)) dX6_papersOf_13 ?_
  refine g_ni (fun v2 ev2 => ?_)
  have tv2 := congrArg Int32.toInt ev2
  exact g_iret C hr ⟨rfl, rfl, trivial⟩ dX6_papersOf_14
theorem dX6_allPapers_0 : decode cX6_allPapers 0 = .ok (.iconst 0, 1) := dw3 (n := 0) (i := 0) kc_cX6_allPapers_0 (by decide +kernel)
theorem dX6_allPapers_1 : decode cX6_allPapers 1 = .ok (.istore_n 1, 1) := dw60 (n := 0) (i := 1) kc_cX6_allPapers_0 (by decide +kernel)
theorem dX6_allPapers_2 : decode cX6_allPapers 2 = .ok (.iconst 0, 1) := dw3 (n := 0) (i := 2) kc_cX6_allPapers_0 (by decide +kernel)
theorem dX6_allPapers_3 : decode cX6_allPapers 3 = .ok (.istore_n 2, 1) := dw61 (n := 0) (i := 3) kc_cX6_allPapers_0 (by decide +kernel)
theorem dX6_allPapers_4 : decode cX6_allPapers 4 = .ok (.iload_n 2, 1) := dw28 (n := 0) (i := 4) kc_cX6_allPapers_0 (by decide +kernel)
theorem dX6_allPapers_5 : decode cX6_allPapers 5 = .ok (.aload_n 0, 1) := dw42 (n := 0) (i := 5) kc_cX6_allPapers_0 (by decide +kernel)
theorem dX6_allPapers_6 : decode cX6_allPapers 6 = .ok (.getfield 15, 3) := dw180 (n := 0) (i := 6) (a := 0) (b := 15) kc_cX6_allPapers_0 (by decide +kernel) (by decide)
theorem in_X6_allPapers_6 : ∀ w ∈ u_ws RX6 TX6 8, w ∈ wsX6_allPapers := fun _ h => List.mem_cons_of_mem _ (List.mem_append_left _ (List.mem_append_right _ h))
theorem dX6_allPapers_9 : decode cX6_allPapers 9 = .ok (.if_icmp .ge 17, 3) := dw162 (n := 0) (i := 9) (a := 0) (b := 17) kc_cX6_allPapers_0 (by decide +kernel) (by decide)
theorem dX6_allPapers_26 : decode cX6_allPapers 26 = .ok (.iload_n 1, 1) := dw27 (n := 0) (i := 26) kc_cX6_allPapers_0 (by decide +kernel)
theorem dX6_allPapers_27 : decode cX6_allPapers 27 = .ok (.ireturn, 1) := dw172 (n := 0) (i := 27) kc_cX6_allPapers_0 (by decide +kernel)
theorem dX6_allPapers_12 : decode cX6_allPapers 12 = .ok (.iload_n 1, 1) := dw27 (n := 0) (i := 12) kc_cX6_allPapers_0 (by decide +kernel)
theorem dX6_allPapers_13 : decode cX6_allPapers 13 = .ok (.aload_n 0, 1) := dw42 (n := 0) (i := 13) kc_cX6_allPapers_0 (by decide +kernel)
theorem dX6_allPapers_14 : decode cX6_allPapers 14 = .ok (.iload_n 2, 1) := dw28 (n := 0) (i := 14) kc_cX6_allPapers_0 (by decide +kernel)
theorem dX6_allPapers_15 : decode cX6_allPapers 15 = .ok (.invokevirtual 65, 3) := dw182 (n := 0) (i := 15) (a := 0) (b := 65) kc_cX6_allPapers_0 (by decide +kernel) (by decide)
set_option maxRecDepth 20000 in
theorem ggX6_allPapers_X6_papersOf : GoodIn wsX6_allPapers wsX6_papersOf := (gk_code 6 rfl (gk_fieldLink 7 rfl (gk_fieldLink 8 rfl (gk_fieldLink 9 rfl (gk_laysFinal 10 rfl (gk_laysFinal 11 rfl (gk_laysFinal 12 rfl (gk_lays 13 rfl (gk_lays 14 rfl (gk_laysFinal 15 rfl (gk_laysFinal 16 rfl (gk_laysFinal 17 rfl (gk_lays 18 rfl (gk_laysFinal 19 rfl (gk_laysFinal 20 rfl (gk_laysFinal 21 rfl (gk_laysFinal 22 rfl (gn))))))))))))))))))
set_option maxRecDepth 20000 in
theorem gX6_allPapers_X6_papersOf : GoodIn wsX6_allPapers (wsV RX6 65 RX6 yX6_papersOf wsX6_papersOf) := goodIn_app (gk_methodLink 2 rfl (gk_instanceMethod 3 rfl (gk_selects 4 rfl (gk_initialized 5 rfl (gn))))) ggX6_allPapers_X6_papersOf
theorem dX6_allPapers_18 : decode cX6_allPapers 18 = .ok (.iadd, 1) := dw96 (n := 0) (i := 18) kc_cX6_allPapers_0 (by decide +kernel)
theorem dX6_allPapers_19 : decode cX6_allPapers 19 = .ok (.istore_n 1, 1) := dw60 (n := 0) (i := 19) kc_cX6_allPapers_0 (by decide +kernel)
theorem dX6_allPapers_20 : decode cX6_allPapers 20 = .ok (.iinc 2 1, 3) := by decide +kernel
theorem dX6_allPapers_23 : decode cX6_allPapers 23 = .ok (.goto (-19), 3) := dw167 (n := 0) (i := 23) (a := 255) (b := 237) kc_cX6_allPapers_0 (by decide +kernel) (by decide)
set_option maxHeartbeats 4000000 in
set_option maxRecDepth 100000 in
theorem s_X6_allPapers (l : Launch) (D : va_G) (ad : Nat → Nat) (cs : Nat → ClassId) (M : MI) (L : ML)  (hI : IC M) : Ci l yX6_allPapers wsX6_allPapers ({ frames := 1, cells := 0, slots := 0, locals := 21 }) D ad cs [.ref (ad 88)] M L (fun r M1 L1 => M1 = M ∧ L1 = L ∧ True) := by
  refine enter_i RX6 rfl [(0, .ref (ad 88))] rfl (Nat.le_of_ble_eq_true rfl) (by decide +kernel) rfl ?_
  intro p e s m below meth c C hr
  have hF : ∀ k, True → M k = M k := fun _ _ => rfl
  have hG : ∀ k, True → L k = L k := fun _ _ => rfl
  refine g_iconst C 0 dX6_allPapers_0 (by decide) ?_
  refine g_istore_n C [(1, .int 0), (0, .ref (ad 88))] dX6_allPapers_1 (by decide) rfl ?_
  refine g_iconst C 0 dX6_allPapers_2 (by decide) ?_
  refine g_istore_n C [(2, .int 0), (1, .int 0), (0, .ref (ad 88))] dX6_allPapers_3 (by decide) rfl ?_
  have zy1 : (0 : Int32).toInt = 0 := by decide
  have zy2 : (0 : Int32).toInt = 0 := by decide
  refine g_loop (α := Int32 × Int32 × MI × ML) (fun a => (41 - a.1.toInt).toNat) (fun a => 0 ≤ a.1.toInt ∧ a.1.toInt ≤ 40 ∧ IC a.2.2.1 ∧ (∀ k, True → a.2.2.1 k = M k) ∧ (∀ k, True → a.2.2.2 k = L k)) (fun a => a.2.2.1) (fun a => a.2.2.2) (fun a => [(2, .int a.1), (1, .int a.2.1), (0, .ref (ad 88))]) (0, 0, M, L) ⟨by show 0 ≤ (0 : Int32).toInt; omega, by show (0 : Int32).toInt ≤ 40; omega, hI, hF, hG⟩ rfl rfl rfl ?_
  rintro ⟨x2_4, x1_4, M_4, L_4⟩ ⟨j4_0, j4_1, hI, hF, hG⟩ ih_4
  dsimp only at j4_0 j4_1 hI hF hG ih_4 ⊢
  refine g_iload_n C 0 dX6_allPapers_4 rfl ?_
  refine g_aload_n C 2 dX6_allPapers_5 rfl ?_
  refine g_get C (.int (M_4 88 3)) 3 in_X6_allPapers_6 (List.mem_of_getElem? (i := 1) rfl) (by decide) (ce_poll ad cs _ _) rfl (by decide) rfl rfl dX6_allPapers_6 ?_
  refine g_ni (fun v3 ev3 => ?_)
  have tv3 := congrArg Int32.toInt ev3
  obtain ⟨bv3, dv3⟩ := (show rg 0 40 v3 from (by rw [ev3]; exact (hI 88 3).1 rfl))
  refine g_icmp_ge C 26 dX6_allPapers_9 (by decide) (fun c4 => ?_) (fun c4 => ?_)
  ·
    have f5 := fle rfl rfl c4
    refine g_iload_n C 1 dX6_allPapers_26 rfl ?_
    exact g_iret C hr ⟨funext (fun k => hF k trivial), funext (fun k => hG k trivial), trivial⟩ dX6_allPapers_27
  ·
    have f6 := fnle rfl rfl c4
    refine g_iload_n C 1 dX6_allPapers_12 rfl ?_
    refine g_aload_n C 2 dX6_allPapers_13 rfl ?_
    refine g_iload_n C 0 dX6_allPapers_14 rfl ?_
    refine g_callVi C (n := 1) (As := [.int x2_4]) (st := [.int x1_4]) (s_X6_papersOf l D ad cs _ _ x2_4 hI ⟨by omega, by omega⟩) gX6_allPapers_X6_papersOf rfl rfl rfl (by decide +kernel) ⟨Nat.le_of_ble_eq_true rfl, Nat.le_of_ble_eq_true rfl⟩ rfl (Nat.le_of_ble_eq_true rfl) ⟨Nat.zero_le _, Nat.zero_le _⟩ (by decide) (ce_poll ad cs _ _) rfl rfl dX6_allPapers_15 (fun r7 M8 L9 hr7 => ?_)
    obtain ⟨hq1, hq2, hr7⟩ := hr7
    obtain rfl := hq1.symm
    obtain rfl := hq2.symm
    refine g_iadd C dX6_allPapers_18 ?_
    refine g_ni (fun v10 ev10 => ?_)
    try have fv10 := fadd rfl rfl ev10 (by omega) (by omega)
    refine g_istore_n C [(1, .int v10), (2, .int x2_4), (0, .ref (ad 88))] dX6_allPapers_19 (by decide) rfl ?_
    obtain ⟨v11, ev11⟩ : ∃ y : Int32, y = x2_4 + 1 := ⟨_, rfl⟩
    try have fv11 := fadd rfl (by decide : (1 : Int32).toInt = 1) ev11 (by omega) (by omega)
    refine g_iinc C 1 v11 [(2, .int v11), (1, .int v10), (0, .ref (ad 88))] dX6_allPapers_20 rfl (by rw [ev11]; rfl) (by decide) rfl ?_
    refine g_goto C 4 dX6_allPapers_23 (by decide) ?_
    exact ih_4 (v11, v10, M_4, L_4) ⟨by show 0 ≤ v11.toInt; omega, by show v11.toInt ≤ 40; omega, hI, hF, hG⟩ (by show (41 - v11.toInt).toNat < (41 - x2_4.toInt).toNat; omega)
theorem dX6_manyIn_0 : decode cX6_manyIn 0 = .ok (.iconst 0, 1) := dw3 (n := 0) (i := 0) kc_cX6_manyIn_0 (by decide +kernel)
theorem dX6_manyIn_1 : decode cX6_manyIn 1 = .ok (.istore_n 1, 1) := dw60 (n := 0) (i := 1) kc_cX6_manyIn_0 (by decide +kernel)
theorem dX6_manyIn_2 : decode cX6_manyIn 2 = .ok (.iconst 0, 1) := dw3 (n := 0) (i := 2) kc_cX6_manyIn_0 (by decide +kernel)
theorem dX6_manyIn_3 : decode cX6_manyIn 3 = .ok (.istore_n 2, 1) := dw61 (n := 0) (i := 3) kc_cX6_manyIn_0 (by decide +kernel)
theorem dX6_manyIn_4 : decode cX6_manyIn 4 = .ok (.iload_n 2, 1) := dw28 (n := 0) (i := 4) kc_cX6_manyIn_0 (by decide +kernel)
theorem dX6_manyIn_5 : decode cX6_manyIn 5 = .ok (.bipush 10, 2) := dw16 (n := 0) (i := 5) (a := 10) kc_cX6_manyIn_0 (by decide +kernel) (by decide)
theorem dX6_manyIn_7 : decode cX6_manyIn 7 = .ok (.if_icmp .ge 26, 3) := dw162 (n := 0) (i := 7) (a := 0) (b := 26) kc_cX6_manyIn_0 (by decide +kernel) (by decide)
theorem dX6_manyIn_33 : decode cX6_manyIn 33 = .ok (.iload_n 1, 1) := dw27 (n := 32) (i := 1) kc_cX6_manyIn_1 (by decide +kernel)
theorem dX6_manyIn_34 : decode cX6_manyIn 34 = .ok (.ireturn, 1) := dw172 (n := 32) (i := 2) kc_cX6_manyIn_1 (by decide +kernel)
theorem dX6_manyIn_10 : decode cX6_manyIn 10 = .ok (.iload_n 1, 1) := dw27 (n := 0) (i := 10) kc_cX6_manyIn_0 (by decide +kernel)
theorem dX6_manyIn_11 : decode cX6_manyIn 11 = .ok (.aload_n 0, 1) := dw42 (n := 0) (i := 11) kc_cX6_manyIn_0 (by decide +kernel)
theorem dX6_manyIn_12 : decode cX6_manyIn 12 = .ok (.getfield 22, 3) := dw180 (n := 0) (i := 12) (a := 0) (b := 22) kc_cX6_manyIn_0 (by decide +kernel) (by decide)
theorem in_X6_manyIn_6 : ∀ w ∈ u_ws RX6 TX6 8, w ∈ wsX6_manyIn := fun _ h => List.mem_cons_of_mem _ (List.mem_append_right _ h)
theorem dX6_manyIn_15 : decode cX6_manyIn 15 = .ok (.iload_n 2, 1) := dw28 (n := 0) (i := 15) kc_cX6_manyIn_0 (by decide +kernel)
theorem dX6_manyIn_16 : decode cX6_manyIn 16 = .ok (.baload, 1) := dw51 (n := 0) (i := 16) kc_cX6_manyIn_0 (by decide +kernel)
theorem dX6_manyIn_17 : decode cX6_manyIn 17 = .ok (.ifCond .eq 7, 3) := dw153 (n := 0) (i := 17) (a := 0) (b := 7) kc_cX6_manyIn_0 (by decide +kernel) (by decide)
theorem dX6_manyIn_24 : decode cX6_manyIn 24 = .ok (.iconst 0, 1) := dw3 (n := 0) (i := 24) kc_cX6_manyIn_0 (by decide +kernel)
theorem dX6_manyIn_25 : decode cX6_manyIn 25 = .ok (.iadd, 1) := dw96 (n := 0) (i := 25) kc_cX6_manyIn_0 (by decide +kernel)
theorem dX6_manyIn_26 : decode cX6_manyIn 26 = .ok (.istore_n 1, 1) := dw60 (n := 0) (i := 26) kc_cX6_manyIn_0 (by decide +kernel)
theorem dX6_manyIn_27 : decode cX6_manyIn 27 = .ok (.iinc 2 1, 3) := by decide +kernel
theorem dX6_manyIn_30 : decode cX6_manyIn 30 = .ok (.goto (-26), 3) := dw167 (n := 0) (i := 30) (a := 255) (b := 230) kc_cX6_manyIn_0 (by decide +kernel) (by decide)
theorem dX6_manyIn_20 : decode cX6_manyIn 20 = .ok (.iconst 1, 1) := dw4 (n := 0) (i := 20) kc_cX6_manyIn_0 (by decide +kernel)
theorem dX6_manyIn_21 : decode cX6_manyIn 21 = .ok (.goto 4, 3) := dw167 (n := 0) (i := 21) (a := 0) (b := 4) kc_cX6_manyIn_0 (by decide +kernel) (by decide)
set_option maxHeartbeats 4000000 in
set_option maxRecDepth 100000 in
theorem s_X6_manyIn (l : Launch) (D : va_G) (ad : Nat → Nat) (cs : Nat → ClassId) (M : MI) (L : ML)  (hI : IC M) : Ci l yX6_manyIn wsX6_manyIn ({ frames := 0, cells := 0, slots := 0, locals := 0 }) D ad cs [.ref (ad 88)] M L (fun r M1 L1 => M1 = M ∧ L1 = L ∧ True) := by
  refine enter_i RX6 rfl [(0, .ref (ad 88))] rfl (Nat.le_of_ble_eq_true rfl) (by decide +kernel) rfl ?_
  intro p e s m below meth c C hr
  have hF : ∀ k, True → M k = M k := fun _ _ => rfl
  have hG : ∀ k, True → L k = L k := fun _ _ => rfl
  refine g_iconst C 0 dX6_manyIn_0 (by decide) ?_
  refine g_istore_n C [(1, .int 0), (0, .ref (ad 88))] dX6_manyIn_1 (by decide) rfl ?_
  refine g_iconst C 0 dX6_manyIn_2 (by decide) ?_
  refine g_istore_n C [(2, .int 0), (1, .int 0), (0, .ref (ad 88))] dX6_manyIn_3 (by decide) rfl ?_
  have zy1 : (0 : Int32).toInt = 0 := by decide
  have zy2 : (0 : Int32).toInt = 0 := by decide
  refine g_loop (α := Int32 × Int32 × MI × ML) (fun a => (11 - a.1.toInt).toNat) (fun a => 0 ≤ a.1.toInt ∧ a.1.toInt ≤ 10 ∧ IC a.2.2.1 ∧ (∀ k, True → a.2.2.1 k = M k) ∧ (∀ k, True → a.2.2.2 k = L k)) (fun a => a.2.2.1) (fun a => a.2.2.2) (fun a => [(2, .int a.1), (1, .int a.2.1), (0, .ref (ad 88))]) (0, 0, M, L) ⟨by show 0 ≤ (0 : Int32).toInt; omega, by show (0 : Int32).toInt ≤ 10; omega, hI, hF, hG⟩ rfl rfl rfl ?_
  rintro ⟨x2_4, x1_4, M_4, L_4⟩ ⟨j4_0, j4_1, hI, hF, hG⟩ ih_4
  dsimp only at j4_0 j4_1 hI hF hG ih_4 ⊢
  refine g_iload_n C 0 dX6_manyIn_4 rfl ?_
  refine g_bipush C 10 dX6_manyIn_5 (by decide) ?_
  refine g_icmp_ge C 33 dX6_manyIn_7 (by decide) (fun c3 => ?_) (fun c3 => ?_)
  ·
    have f4 := fle (by decide : (10 : Int32).toInt = 10) rfl c3
    refine g_iload_n C 1 dX6_manyIn_33 rfl ?_
    exact g_iret C hr ⟨funext (fun k => hF k trivial), funext (fun k => hG k trivial), trivial⟩ dX6_manyIn_34
  ·
    have f5 := fnle (by decide : (10 : Int32).toInt = 10) rfl c3
    refine g_iload_n C 1 dX6_manyIn_10 rfl ?_
    refine g_aload_n C 2 dX6_manyIn_11 rfl ?_
    refine g_get C (.ref (ad 90)) 5 in_X6_manyIn_6 (List.mem_of_getElem? (i := 1) rfl) (by decide) (ce_poll ad cs _ _) rfl (by decide) rfl rfl dX6_manyIn_12 ?_
    refine g_iload_n C 0 dX6_manyIn_15 rfl ?_
    refine g_zald C (by decide) (ce_pin ad cs _ _) (fin' (n := 10) rfl (by omega) (by omega)) dX6_manyIn_16 ?_
    refine g_ni (fun v6 ev6 => ?_)
    refine g_if_eq C 24 dX6_manyIn_17 (by decide) (fun c7 => ?_) (fun c7 => ?_)
    ·
      have f8 := feq rfl (by decide : (0 : Int32).toInt = 0) c7
      refine g_iconst C 0 dX6_manyIn_24 (by decide) ?_
      refine g_iadd C dX6_manyIn_25 ?_
      refine g_ni (fun v9 ev9 => ?_)
      try have fv9 := fadd rfl (by decide : (0 : Int32).toInt = 0) ev9 (by omega) (by omega)
      refine g_istore_n C [(1, .int v9), (2, .int x2_4), (0, .ref (ad 88))] dX6_manyIn_26 (by decide) rfl ?_
      obtain ⟨v10, ev10⟩ : ∃ y : Int32, y = x2_4 + 1 := ⟨_, rfl⟩
      try have fv10 := fadd rfl (by decide : (1 : Int32).toInt = 1) ev10 (by omega) (by omega)
      refine g_iinc C 1 v10 [(2, .int v10), (1, .int v9), (0, .ref (ad 88))] dX6_manyIn_27 rfl (by rw [ev10]; rfl) (by decide) rfl ?_
      refine g_goto C 4 dX6_manyIn_30 (by decide) ?_
      exact ih_4 (v10, v9, M_4, L_4) ⟨by show 0 ≤ v10.toInt; omega, by show v10.toInt ≤ 10; omega, hI, hF, hG⟩ (by show (11 - v10.toInt).toNat < (11 - x2_4.toInt).toNat; omega)
    ·
      have f11 := fne rfl (by decide : (0 : Int32).toInt = 0) c7
      refine g_iconst C 1 dX6_manyIn_20 (by decide) ?_
      refine g_goto C 25 dX6_manyIn_21 (by decide) ?_
      refine g_iadd C dX6_manyIn_25 ?_
      refine g_ni (fun v12 ev12 => ?_)
      try have fv12 := fadd rfl (by decide : (1 : Int32).toInt = 1) ev12 (by omega) (by omega)
      refine g_istore_n C [(1, .int v12), (2, .int x2_4), (0, .ref (ad 88))] dX6_manyIn_26 (by decide) rfl ?_
      obtain ⟨v13, ev13⟩ : ∃ y : Int32, y = x2_4 + 1 := ⟨_, rfl⟩
      try have fv13 := fadd rfl (by decide : (1 : Int32).toInt = 1) ev13 (by omega) (by omega)
      refine g_iinc C 1 v13 [(2, .int v13), (1, .int v12), (0, .ref (ad 88))] dX6_manyIn_27 rfl (by rw [ev13]; rfl) (by decide) rfl ?_
      refine g_goto C 4 dX6_manyIn_30 (by decide) ?_
      exact ih_4 (v13, v12, M_4, L_4) ⟨by show 0 ≤ v13.toInt; omega, by show v13.toInt ≤ 10; omega, hI, hF, hG⟩ (by show (11 - v13.toInt).toNat < (11 - x2_4.toInt).toNat; omega)
theorem dX6_clearTallies_0 : decode cX6_clearTallies 0 = .ok (.iconst 0, 1) := dw3 (n := 0) (i := 0) kc_cX6_clearTallies_0 (by decide +kernel)
theorem dX6_clearTallies_1 : decode cX6_clearTallies 1 = .ok (.istore_n 1, 1) := dw60 (n := 0) (i := 1) kc_cX6_clearTallies_0 (by decide +kernel)
theorem dX6_clearTallies_2 : decode cX6_clearTallies 2 = .ok (.iload_n 1, 1) := dw27 (n := 0) (i := 2) kc_cX6_clearTallies_0 (by decide +kernel)
theorem dX6_clearTallies_3 : decode cX6_clearTallies 3 = .ok (.bipush 10, 2) := dw16 (n := 0) (i := 3) (a := 10) kc_cX6_clearTallies_0 (by decide +kernel) (by decide)
theorem dX6_clearTallies_5 : decode cX6_clearTallies 5 = .ok (.if_icmp .ge 23, 3) := dw162 (n := 0) (i := 5) (a := 0) (b := 23) kc_cX6_clearTallies_0 (by decide +kernel) (by decide)
theorem dX6_clearTallies_28 : decode cX6_clearTallies 28 = .ok (.return_, 1) := dw177 (n := 0) (i := 28) kc_cX6_clearTallies_0 (by decide +kernel)
theorem dX6_clearTallies_8 : decode cX6_clearTallies 8 = .ok (.aload_n 0, 1) := dw42 (n := 0) (i := 8) kc_cX6_clearTallies_0 (by decide +kernel)
theorem dX6_clearTallies_9 : decode cX6_clearTallies 9 = .ok (.getfield 26, 3) := dw180 (n := 0) (i := 9) (a := 0) (b := 26) kc_cX6_clearTallies_0 (by decide +kernel) (by decide)
theorem in_X6_clearTallies_6 : ∀ w ∈ u_ws RX6 TX6 8, w ∈ wsX6_clearTallies := fun _ h => List.mem_cons_of_mem _ (List.mem_append_right _ h)
theorem dX6_clearTallies_12 : decode cX6_clearTallies 12 = .ok (.iload_n 1, 1) := dw27 (n := 0) (i := 12) kc_cX6_clearTallies_0 (by decide +kernel)
theorem dX6_clearTallies_13 : decode cX6_clearTallies 13 = .ok (.lconst 0, 1) := dw9 (n := 0) (i := 13) kc_cX6_clearTallies_0 (by decide +kernel)
theorem dX6_clearTallies_14 : decode cX6_clearTallies 14 = .ok (.lastore, 1) := dw80 (n := 0) (i := 14) kc_cX6_clearTallies_0 (by decide +kernel)
theorem dX6_clearTallies_15 : decode cX6_clearTallies 15 = .ok (.aload_n 0, 1) := dw42 (n := 0) (i := 15) kc_cX6_clearTallies_0 (by decide +kernel)
theorem dX6_clearTallies_16 : decode cX6_clearTallies 16 = .ok (.getfield 30, 3) := dw180 (n := 0) (i := 16) (a := 0) (b := 30) kc_cX6_clearTallies_0 (by decide +kernel) (by decide)
theorem dX6_clearTallies_19 : decode cX6_clearTallies 19 = .ok (.iload_n 1, 1) := dw27 (n := 0) (i := 19) kc_cX6_clearTallies_0 (by decide +kernel)
theorem dX6_clearTallies_20 : decode cX6_clearTallies 20 = .ok (.lconst 1, 1) := dw10 (n := 0) (i := 20) kc_cX6_clearTallies_0 (by decide +kernel)
theorem dX6_clearTallies_21 : decode cX6_clearTallies 21 = .ok (.lastore, 1) := dw80 (n := 0) (i := 21) kc_cX6_clearTallies_0 (by decide +kernel)
theorem dX6_clearTallies_22 : decode cX6_clearTallies 22 = .ok (.iinc 1 1, 3) := by decide +kernel
theorem dX6_clearTallies_25 : decode cX6_clearTallies 25 = .ok (.goto (-23), 3) := dw167 (n := 0) (i := 25) (a := 255) (b := 233) kc_cX6_clearTallies_0 (by decide +kernel) (by decide)
set_option maxHeartbeats 4000000 in
set_option maxRecDepth 100000 in
theorem s_X6_clearTallies (l : Launch) (D : va_G) (ad : Nat → Nat) (cs : Nat → ClassId) (M : MI) (L : ML)  (hI : IC M) : Cv l yX6_clearTallies wsX6_clearTallies ({ frames := 0, cells := 0, slots := 0, locals := 0 }) D ad cs [.ref (ad 88)] M L (fun M1 L1 => IC M1 ∧ (∀ k, k < 300 ∨ 300 ≤ k → M1 k = M k) ∧ ∀ k, 258 ≤ k → L1 k = L k) := by
  refine enter_v RX6 rfl [(0, .ref (ad 88))] rfl (Nat.le_of_ble_eq_true rfl) (by decide +kernel) rfl ?_
  intro p e s m below meth c C hr
  have hF : ∀ k, k < 300 ∨ 300 ≤ k → M k = M k := fun _ _ => rfl
  have hG : ∀ k, 258 ≤ k → L k = L k := fun _ _ => rfl
  refine g_iconst C 0 dX6_clearTallies_0 (by decide) ?_
  refine g_istore_n C [(1, .int 0), (0, .ref (ad 88))] dX6_clearTallies_1 (by decide) rfl ?_
  have zy1 : (0 : Int32).toInt = 0 := by decide
  refine g_loop (α := Int32 × MI × ML) (fun a => (11 - a.1.toInt).toNat) (fun a => 0 ≤ a.1.toInt ∧ a.1.toInt ≤ 10 ∧ IC a.2.1 ∧ (∀ k, k < 300 ∨ 300 ≤ k → a.2.1 k = M k) ∧ (∀ k, 258 ≤ k → a.2.2 k = L k)) (fun a => a.2.1) (fun a => a.2.2) (fun a => [(1, .int a.1), (0, .ref (ad 88))]) (0, M, L) ⟨by show 0 ≤ (0 : Int32).toInt; omega, by show (0 : Int32).toInt ≤ 10; omega, hI, hF, hG⟩ rfl rfl rfl ?_
  rintro ⟨x1_2, M_2, L_2⟩ ⟨j2_0, j2_1, hI, hF, hG⟩ ih_2
  dsimp only at j2_0 j2_1 hI hF hG ih_2 ⊢
  refine g_iload_n C 0 dX6_clearTallies_2 rfl ?_
  refine g_bipush C 10 dX6_clearTallies_3 (by decide) ?_
  refine g_icmp_ge C 28 dX6_clearTallies_5 (by decide) (fun c2 => ?_) (fun c2 => ?_)
  ·
    have f3 := fle (by decide : (10 : Int32).toInt = 10) rfl c2
    exact g_vret C hr ⟨hI, hF, hG⟩ dX6_clearTallies_28
  ·
    have f4 := fnle (by decide : (10 : Int32).toInt = 10) rfl c2
    refine g_aload_n C 1 dX6_clearTallies_8 rfl ?_
    refine g_get C (.ref (ad 91)) 6 in_X6_clearTallies_6 (List.mem_of_getElem? (i := 1) rfl) (by decide) (ce_poll ad cs _ _) rfl (by decide) rfl rfl dX6_clearTallies_9 ?_
    refine g_iload_n C 0 dX6_clearTallies_12 rfl ?_
    refine g_lconst C 0 dX6_clearTallies_13 (by decide) ?_
    refine g_last C (by decide) (ce_pupper ad cs _ _) (by rw [sJ_k]; rfl) (fin' (n := 10) rfl (by omega) (by omega)) dX6_clearTallies_14 ?_
    refine g_nmL (fun L5 hL5 => ?_)
    have hG : ∀ k, 258 ≤ k → L5 k = L k := fun k hk => by (rw [hL5, sJ_n _ _ _ (by omega)]; try exact hG k hk)
    refine g_aload_n C 1 dX6_clearTallies_15 rfl ?_
    refine g_get C (.ref (ad 92)) 7 in_X6_clearTallies_6 (List.mem_of_getElem? (i := 2) rfl) (by decide) (ce_poll ad cs _ _) rfl (by decide) rfl rfl dX6_clearTallies_16 ?_
    refine g_iload_n C 0 dX6_clearTallies_19 rfl ?_
    refine g_lconst C 1 dX6_clearTallies_20 (by decide) ?_
    refine g_last C (by decide) (ce_plower ad cs _ _) (by rw [sJ_k]; rfl) (fin' (n := 10) rfl (by omega) (by omega)) dX6_clearTallies_21 ?_
    refine g_nmL (fun L6 hL6 => ?_)
    have hG : ∀ k, 258 ≤ k → L6 k = L k := fun k hk => by (rw [hL6, sJ_n _ _ _ (by omega)]; try exact hG k hk)
    obtain ⟨v7, ev7⟩ : ∃ y : Int32, y = x1_2 + 1 := ⟨_, rfl⟩
    try have fv7 := fadd rfl (by decide : (1 : Int32).toInt = 1) ev7 (by omega) (by omega)
    refine g_iinc C 0 v7 [(1, .int v7), (0, .ref (ad 88))] dX6_clearTallies_22 rfl (by rw [ev7]; rfl) (by decide) rfl ?_
    refine g_goto C 2 dX6_clearTallies_25 (by decide) ?_
    exact ih_2 (v7, M_2, L6) ⟨by show 0 ≤ v7.toInt; omega, by show v7.toInt ≤ 10; omega, hI, hF, hG⟩ (by show (11 - v7.toInt).toNat < (11 - x1_2.toInt).toNat; omega)
theorem dX6_firstIn_0 : decode cX6_firstIn 0 = .ok (.aload_n 0, 1) := dw42 (n := 0) (i := 0) kc_cX6_firstIn_0 (by decide +kernel)
theorem dX6_firstIn_1 : decode cX6_firstIn 1 = .ok (.getfield 9, 3) := dw180 (n := 0) (i := 1) (a := 0) (b := 9) kc_cX6_firstIn_0 (by decide +kernel) (by decide)
theorem in_X6_firstIn_6 : ∀ w ∈ u_ws RX6 TX6 8, w ∈ wsX6_firstIn := fun _ h => List.mem_cons_of_mem _ (List.mem_append_left _ (List.mem_append_right _ h))
theorem dX6_firstIn_4 : decode cX6_firstIn 4 = .ok (.iload_n 1, 1) := dw27 (n := 0) (i := 4) kc_cX6_firstIn_0 (by decide +kernel)
theorem dX6_firstIn_5 : decode cX6_firstIn 5 = .ok (.iaload, 1) := dw46 (n := 0) (i := 5) kc_cX6_firstIn_0 (by decide +kernel)
theorem dX6_firstIn_6 : decode cX6_firstIn 6 = .ok (.istore_n 2, 1) := dw61 (n := 0) (i := 6) kc_cX6_firstIn_0 (by decide +kernel)
theorem dX6_firstIn_7 : decode cX6_firstIn 7 = .ok (.iconst 0, 1) := dw3 (n := 0) (i := 7) kc_cX6_firstIn_0 (by decide +kernel)
theorem dX6_firstIn_8 : decode cX6_firstIn 8 = .ok (.istore_n 3, 1) := dw62 (n := 0) (i := 8) kc_cX6_firstIn_0 (by decide +kernel)
theorem dX6_firstIn_9 : decode cX6_firstIn 9 = .ok (.iload_n 3, 1) := dw29 (n := 0) (i := 9) kc_cX6_firstIn_0 (by decide +kernel)
theorem dX6_firstIn_10 : decode cX6_firstIn 10 = .ok (.aload_n 0, 1) := dw42 (n := 0) (i := 10) kc_cX6_firstIn_0 (by decide +kernel)
theorem dX6_firstIn_11 : decode cX6_firstIn 11 = .ok (.getfield 37, 3) := dw180 (n := 0) (i := 11) (a := 0) (b := 37) kc_cX6_firstIn_0 (by decide +kernel) (by decide)
theorem dX6_firstIn_14 : decode cX6_firstIn 14 = .ok (.getfield 69, 3) := dw180 (n := 0) (i := 14) (a := 0) (b := 69) kc_cX6_firstIn_0 (by decide +kernel) (by decide)
theorem in_X6_firstIn_0 : ∀ w ∈ u_ws RX0 TX0 5, w ∈ wsX6_firstIn := fun _ h => List.mem_cons_of_mem _ (List.mem_append_right _ h)
theorem dX6_firstIn_17 : decode cX6_firstIn 17 = .ok (.iload_n 2, 1) := dw28 (n := 0) (i := 17) kc_cX6_firstIn_0 (by decide +kernel)
theorem dX6_firstIn_18 : decode cX6_firstIn 18 = .ok (.iaload, 1) := dw46 (n := 0) (i := 18) kc_cX6_firstIn_0 (by decide +kernel)
theorem dX6_firstIn_19 : decode cX6_firstIn 19 = .ok (.if_icmp .ge 35, 3) := dw162 (n := 0) (i := 19) (a := 0) (b := 35) kc_cX6_firstIn_0 (by decide +kernel) (by decide)
theorem dX6_firstIn_54 : decode cX6_firstIn 54 = .ok (.bipush (-9), 2) := dw16 (n := 32) (i := 22) (a := 247) kc_cX6_firstIn_1 (by decide +kernel) (by decide)
theorem dX6_firstIn_56 : decode cX6_firstIn 56 = .ok (.ireturn, 1) := dw172 (n := 32) (i := 24) kc_cX6_firstIn_1 (by decide +kernel)
theorem dX6_firstIn_22 : decode cX6_firstIn 22 = .ok (.aload_n 0, 1) := dw42 (n := 0) (i := 22) kc_cX6_firstIn_0 (by decide +kernel)
theorem dX6_firstIn_23 : decode cX6_firstIn 23 = .ok (.getfield 37, 3) := dw180 (n := 0) (i := 23) (a := 0) (b := 37) kc_cX6_firstIn_0 (by decide +kernel) (by decide)
theorem dX6_firstIn_26 : decode cX6_firstIn 26 = .ok (.getfield 72, 3) := dw180 (n := 0) (i := 26) (a := 0) (b := 72) kc_cX6_firstIn_0 (by decide +kernel) (by decide)
theorem dX6_firstIn_29 : decode cX6_firstIn 29 = .ok (.iload_n 2, 1) := dw28 (n := 0) (i := 29) kc_cX6_firstIn_0 (by decide +kernel)
theorem dX6_firstIn_30 : decode cX6_firstIn 30 = .ok (.aaload, 1) := dw50 (n := 0) (i := 30) kc_cX6_firstIn_0 (by decide +kernel)
theorem dX6_firstIn_31 : decode cX6_firstIn 31 = .ok (.iload_n 3, 1) := dw29 (n := 0) (i := 31) kc_cX6_firstIn_0 (by decide +kernel)
theorem dX6_firstIn_32 : decode cX6_firstIn 32 = .ok (.iaload, 1) := dw46 (n := 32) (i := 0) kc_cX6_firstIn_1 (by decide +kernel)
theorem dX6_firstIn_33 : decode cX6_firstIn 33 = .ok (.istore 4, 2) := dw54 (n := 32) (i := 1) (a := 4) kc_cX6_firstIn_1 (by decide +kernel) (by decide)
theorem dX6_firstIn_35 : decode cX6_firstIn 35 = .ok (.aload_n 0, 1) := dw42 (n := 32) (i := 3) kc_cX6_firstIn_1 (by decide +kernel)
theorem dX6_firstIn_36 : decode cX6_firstIn 36 = .ok (.getfield 22, 3) := dw180 (n := 32) (i := 4) (a := 0) (b := 22) kc_cX6_firstIn_1 (by decide +kernel) (by decide)
theorem dX6_firstIn_39 : decode cX6_firstIn 39 = .ok (.iload 4, 2) := dw21 (n := 32) (i := 7) (a := 4) kc_cX6_firstIn_1 (by decide +kernel) (by decide)
theorem dX6_firstIn_41 : decode cX6_firstIn 41 = .ok (.baload, 1) := dw51 (n := 32) (i := 9) kc_cX6_firstIn_1 (by decide +kernel)
theorem dX6_firstIn_42 : decode cX6_firstIn 42 = .ok (.ifCond .eq 6, 3) := dw153 (n := 32) (i := 10) (a := 0) (b := 6) kc_cX6_firstIn_1 (by decide +kernel) (by decide)
theorem dX6_firstIn_48 : decode cX6_firstIn 48 = .ok (.iinc 3 1, 3) := by decide +kernel
theorem dX6_firstIn_51 : decode cX6_firstIn 51 = .ok (.goto (-42), 3) := dw167 (n := 32) (i := 19) (a := 255) (b := 214) kc_cX6_firstIn_1 (by decide +kernel) (by decide)
theorem dX6_firstIn_45 : decode cX6_firstIn 45 = .ok (.iload 4, 2) := dw21 (n := 32) (i := 13) (a := 4) kc_cX6_firstIn_1 (by decide +kernel) (by decide)
theorem dX6_firstIn_47 : decode cX6_firstIn 47 = .ok (.ireturn, 1) := dw172 (n := 32) (i := 15) kc_cX6_firstIn_1 (by decide +kernel)
set_option maxHeartbeats 4000000 in
set_option maxRecDepth 100000 in
theorem s_X6_firstIn (l : Launch) (D : va_G) (ad : Nat → Nat) (cs : Nat → ClassId) (M : MI) (L : ML) (x : Int32) (hI : IC M) (hk : 0 ≤ x.toInt ∧ x.toInt < 40) : Ci l yX6_firstIn wsX6_firstIn ({ frames := 0, cells := 0, slots := 0, locals := 0 }) D ad cs [.ref (ad 88), .int x] M L (fun r M1 L1 => M1 = M ∧ L1 = L ∧ (r.toInt = -9 ∨ 0 ≤ r.toInt) ∧ r.toInt < 10) := by
  refine enter_i RX6 rfl [(0, .ref (ad 88)), (1, .int x)] rfl (Nat.le_of_ble_eq_true rfl) (by decide +kernel) rfl ?_
  intro p e s m below meth c C hr
  have hF : ∀ k, True → M k = M k := fun _ _ => rfl
  have hG : ∀ k, True → L k = L k := fun _ _ => rfl
  obtain ⟨hk1, hk2⟩ := hk
  refine g_aload_n C 0 dX6_firstIn_0 rfl ?_
  refine g_get C (.ref (ad 89)) 2 in_X6_firstIn_6 (List.mem_of_getElem? (i := 1) rfl) (by decide) (ce_poll ad cs _ _) rfl (by decide) rfl rfl dX6_firstIn_1 ?_
  refine g_iload_n C 1 dX6_firstIn_4 rfl ?_
  refine g_iald C (by decide) (ce_plying ad cs _ _) (fin' (n := 40) rfl (by omega) (by omega)) dX6_firstIn_5 ?_
  refine g_ni (fun v1 ev1 => ?_)
  have tv1 := congrArg Int32.toInt ev1
  obtain ⟨bv1, dv1⟩ := (show rg 0 59 v1 from (by rw [ev1]; exact hI 89 _))
  refine g_istore_n C [(2, .int v1), (0, .ref (ad 88)), (1, .int x)] dX6_firstIn_6 (by decide) rfl ?_
  refine g_iconst C 0 dX6_firstIn_7 (by decide) ?_
  refine g_istore_n C [(3, .int 0), (2, .int v1), (0, .ref (ad 88)), (1, .int x)] dX6_firstIn_8 (by decide) rfl ?_
  have zy2 : (0 : Int32).toInt = 0 := by decide
  refine g_loop (α := Int32 × MI × ML) (fun a => (11 - a.1.toInt).toNat) (fun a => 0 ≤ a.1.toInt ∧ a.1.toInt ≤ 10 ∧ IC a.2.1 ∧ (∀ k, True → a.2.1 k = M k) ∧ (∀ k, True → a.2.2 k = L k)) (fun a => a.2.1) (fun a => a.2.2) (fun a => [(3, .int a.1), (2, .int v1), (0, .ref (ad 88)), (1, .int x)]) (0, M, L) ⟨by show 0 ≤ (0 : Int32).toInt; omega, by show (0 : Int32).toInt ≤ 10; omega, hI, hF, hG⟩ rfl rfl rfl ?_
  rintro ⟨x3_9, M_9, L_9⟩ ⟨j9_0, j9_1, hI, hF, hG⟩ ih_9
  dsimp only at j9_0 j9_1 hI hF hG ih_9 ⊢
  refine g_iload_n C 0 dX6_firstIn_9 rfl ?_
  refine g_aload_n C 2 dX6_firstIn_10 rfl ?_
  refine g_get C (.ref (ad 3)) 1 in_X6_firstIn_6 (List.mem_of_getElem? (i := 2) rfl) (by decide) (ce_poll ad cs _ _) rfl (by decide) rfl rfl dX6_firstIn_11 ?_
  refine g_get C (.ref (ad 6)) 3 in_X6_firstIn_0 (List.mem_of_getElem? (i := 3) rfl) (by decide) (ce_ball ad cs _ _) rfl (by decide) rfl rfl dX6_firstIn_14 ?_
  refine g_iload_n C 1 dX6_firstIn_17 rfl ?_
  refine g_iald C (by decide) (ce_bonit ad cs _ _) (fin' (n := 60) rfl (by omega) (by omega)) dX6_firstIn_18 ?_
  refine g_ni (fun v3 ev3 => ?_)
  have tv3 := congrArg Int32.toInt ev3
  obtain ⟨bv3, dv3⟩ := (show rg 0 10 v3 from (by rw [ev3]; exact hI 6 _))
  refine g_icmp_ge C 54 dX6_firstIn_19 (by decide) (fun c4 => ?_) (fun c4 => ?_)
  ·
    have f5 := fle rfl rfl c4
    refine g_bipush C (-9) dX6_firstIn_54 (by decide) ?_
    have z9 : ((-9) : Int32).toInt = (-9) := by decide
    exact g_iret C hr ⟨funext (fun k => hF k trivial), funext (fun k => hG k trivial), by omega, by omega⟩ dX6_firstIn_56
  ·
    have f6 := fnle rfl rfl c4
    refine g_aload_n C 2 dX6_firstIn_22 rfl ?_
    refine g_get C (.ref (ad 3)) 1 in_X6_firstIn_6 (List.mem_of_getElem? (i := 2) rfl) (by decide) (ce_poll ad cs _ _) rfl (by decide) rfl rfl dX6_firstIn_23 ?_
    refine g_get C (.ref (ad 7)) 4 in_X6_firstIn_0 (List.mem_of_getElem? (i := 4) rfl) (by decide) (ce_ball ad cs _ _) rfl (by decide) rfl rfl dX6_firstIn_26 ?_
    refine g_iload_n C 1 dX6_firstIn_29 rfl ?_
    have hi7 : vp_in v1 60 := (fin' (n := 60) rfl (by omega) (by omega))
    have nhi7 := tn hi7
    refine g_aald C (by decide) (ce_browm ad cs _ _) rfl hi7 dX6_firstIn_30 ?_
    refine g_iload_n C 0 dX6_firstIn_31 rfl ?_
    refine g_iald C (by omega) (ce_brow ad cs _ _ nhi7) (fin' (n := 10) rfl (by omega) (by omega)) dX6_firstIn_32 ?_
    refine g_ni (fun v8 ev8 => ?_)
    have tv8 := congrArg Int32.toInt ev8
    obtain ⟨bv8, dv8⟩ := (show rg 0 9 v8 from (by rw [ev8]; exact hI.row _ (by omega) (by omega)))
    refine g_istore C [(4, .int v8), (3, .int x3_9), (2, .int v1), (0, .ref (ad 88)), (1, .int x)] dX6_firstIn_33 (by decide) rfl ?_
    refine g_aload_n C 3 dX6_firstIn_35 rfl ?_
    refine g_get C (.ref (ad 90)) 5 in_X6_firstIn_6 (List.mem_of_getElem? (i := 5) rfl) (by decide) (ce_poll ad cs _ _) rfl (by decide) rfl rfl dX6_firstIn_36 ?_
    refine g_iload C 0 dX6_firstIn_39 rfl ?_
    refine g_zald C (by decide) (ce_pin ad cs _ _) (fin' (n := 10) rfl (by omega) (by omega)) dX6_firstIn_41 ?_
    refine g_ni (fun v9 ev9 => ?_)
    refine g_if_eq C 48 dX6_firstIn_42 (by decide) (fun c10 => ?_) (fun c10 => ?_)
    ·
      have f11 := feq rfl (by decide : (0 : Int32).toInt = 0) c10
      obtain ⟨v12, ev12⟩ : ∃ y : Int32, y = x3_9 + 1 := ⟨_, rfl⟩
      try have fv12 := fadd rfl (by decide : (1 : Int32).toInt = 1) ev12 (by omega) (by omega)
      refine g_iinc C 1 v12 [(3, .int v12), (4, .int v8), (2, .int v1), (0, .ref (ad 88)), (1, .int x)] dX6_firstIn_48 rfl (by rw [ev12]; rfl) (by decide) rfl ?_
      refine g_goto C 9 dX6_firstIn_51 (by decide) ?_
      refine g_lv [0, 2, 3, 4] [(3, .int v12), (2, .int v1), (0, .ref (ad 88)), (1, .int x)] rfl ?_
      exact ih_9 (v12, M_9, L_9) ⟨by show 0 ≤ v12.toInt; omega, by show v12.toInt ≤ 10; omega, hI, hF, hG⟩ (by show (11 - v12.toInt).toNat < (11 - x3_9.toInt).toNat; omega)
    ·
      have f13 := fne rfl (by decide : (0 : Int32).toInt = 0) c10
      refine g_iload C 0 dX6_firstIn_45 rfl ?_
      exact g_iret C hr ⟨funext (fun k => hF k trivial), funext (fun k => hG k trivial), by omega, by omega⟩ dX6_firstIn_47
theorem dX6_take_0 : decode cX6_take 0 = .ok (.aload_n 0, 1) := dw42 (n := 0) (i := 0) kc_cX6_take_0 (by decide +kernel)
theorem dX6_take_1 : decode cX6_take 1 = .ok (.iload_n 3, 1) := dw29 (n := 0) (i := 1) kc_cX6_take_0 (by decide +kernel)
theorem dX6_take_2 : decode cX6_take 2 = .ok (.putfield 19, 3) := dw181 (n := 0) (i := 2) (a := 0) (b := 19) kc_cX6_take_0 (by decide +kernel) (by decide)
theorem in_X6_take_6 : ∀ w ∈ u_ws RX6 TX6 8, w ∈ wsX6_take := fun _ h => List.mem_cons_of_mem _ (List.mem_append_left _ (List.mem_append_left _ (List.mem_append_left _ (List.mem_append_right _ h))))
theorem dX6_take_5 : decode cX6_take 5 = .ok (.aload_n 0, 1) := dw42 (n := 0) (i := 5) kc_cX6_take_0 (by decide +kernel)
theorem dX6_take_6 : decode cX6_take 6 = .ok (.iconst 0, 1) := dw3 (n := 0) (i := 6) kc_cX6_take_0 (by decide +kernel)
theorem dX6_take_7 : decode cX6_take 7 = .ok (.putfield 15, 3) := dw181 (n := 0) (i := 7) (a := 0) (b := 15) kc_cX6_take_0 (by decide +kernel) (by decide)
theorem dX6_take_10 : decode cX6_take 10 = .ok (.iconst 0, 1) := dw3 (n := 0) (i := 10) kc_cX6_take_0 (by decide +kernel)
theorem dX6_take_11 : decode cX6_take 11 = .ok (.istore 4, 2) := dw54 (n := 0) (i := 11) (a := 4) kc_cX6_take_0 (by decide +kernel) (by decide)
theorem dX6_take_13 : decode cX6_take 13 = .ok (.iload 4, 2) := dw21 (n := 0) (i := 13) (a := 4) kc_cX6_take_0 (by decide +kernel) (by decide)
theorem dX6_take_15 : decode cX6_take 15 = .ok (.aload_n 1, 1) := dw43 (n := 0) (i := 15) kc_cX6_take_0 (by decide +kernel)
theorem dX6_take_16 : decode cX6_take 16 = .ok (.getfield 41, 3) := dw180 (n := 0) (i := 16) (a := 0) (b := 41) kc_cX6_take_0 (by decide +kernel) (by decide)
theorem in_X6_take_1 : ∀ w ∈ u_ws RX1 TX1 5, w ∈ wsX6_take := fun _ h => List.mem_cons_of_mem _ (List.mem_append_left _ (List.mem_append_left _ (List.mem_append_right _ h)))
theorem dX6_take_19 : decode cX6_take 19 = .ok (.iload_n 2, 1) := dw28 (n := 0) (i := 19) kc_cX6_take_0 (by decide +kernel)
theorem dX6_take_20 : decode cX6_take 20 = .ok (.iaload, 1) := dw46 (n := 0) (i := 20) kc_cX6_take_0 (by decide +kernel)
theorem dX6_take_21 : decode cX6_take 21 = .ok (.if_icmp .ge 56, 3) := dw162 (n := 0) (i := 21) (a := 0) (b := 56) kc_cX6_take_0 (by decide +kernel) (by decide)
theorem dX6_take_77 : decode cX6_take 77 = .ok (.iconst 0, 1) := dw3 (n := 64) (i := 13) kc_cX6_take_2 (by decide +kernel)
theorem dX6_take_78 : decode cX6_take 78 = .ok (.istore 4, 2) := dw54 (n := 64) (i := 14) (a := 4) kc_cX6_take_2 (by decide +kernel) (by decide)
theorem dX6_take_80 : decode cX6_take 80 = .ok (.iload 4, 2) := dw21 (n := 64) (i := 16) (a := 4) kc_cX6_take_2 (by decide +kernel) (by decide)
theorem dX6_take_82 : decode cX6_take 82 = .ok (.bipush 10, 2) := dw16 (n := 64) (i := 18) (a := 10) kc_cX6_take_2 (by decide +kernel) (by decide)
theorem dX6_take_84 : decode cX6_take 84 = .ok (.if_icmp .ge 25, 3) := dw162 (n := 64) (i := 20) (a := 0) (b := 25) kc_cX6_take_2 (by decide +kernel) (by decide)
theorem dX6_take_109 : decode cX6_take 109 = .ok (.aload_n 0, 1) := dw42 (n := 96) (i := 13) kc_cX6_take_3 (by decide +kernel)
theorem dX6_take_110 : decode cX6_take 110 = .ok (.invokevirtual 59, 3) := dw182 (n := 96) (i := 14) (a := 0) (b := 59) kc_cX6_take_3 (by decide +kernel) (by decide)
set_option maxRecDepth 20000 in
theorem ggX6_take_X6_clearTallies : GoodIn wsX6_take wsX6_clearTallies := (gk_code 25 rfl (gk_fieldLink 26 rfl (gk_fieldLink 27 rfl (gk_laysFinal 28 rfl (gk_laysFinal 29 rfl (gk_laysFinal 30 rfl (gk_lays 31 rfl (gk_lays 32 rfl (gk_laysFinal 33 rfl (gk_laysFinal 34 rfl (gk_laysFinal 35 rfl (gn))))))))))))
set_option maxRecDepth 20000 in
theorem gX6_take_X6_clearTallies : GoodIn wsX6_take (wsV RX6 59 RX6 yX6_clearTallies wsX6_clearTallies) := goodIn_app (gk_methodLink 21 rfl (gk_instanceMethod 22 rfl (gk_selects 23 rfl (gk_initialized 24 rfl (gn))))) ggX6_take_X6_clearTallies
theorem dX6_take_113 : decode cX6_take 113 = .ok (.return_, 1) := dw177 (n := 96) (i := 17) kc_cX6_take_3 (by decide +kernel)
theorem dX6_take_87 : decode cX6_take 87 = .ok (.aload_n 0, 1) := dw42 (n := 64) (i := 23) kc_cX6_take_2 (by decide +kernel)
theorem dX6_take_88 : decode cX6_take 88 = .ok (.getfield 22, 3) := dw180 (n := 64) (i := 24) (a := 0) (b := 22) kc_cX6_take_2 (by decide +kernel) (by decide)
theorem dX6_take_91 : decode cX6_take 91 = .ok (.iload 4, 2) := dw21 (n := 64) (i := 27) (a := 4) kc_cX6_take_2 (by decide +kernel) (by decide)
theorem dX6_take_93 : decode cX6_take 93 = .ok (.aload_n 0, 1) := dw42 (n := 64) (i := 29) kc_cX6_take_2 (by decide +kernel)
theorem dX6_take_94 : decode cX6_take 94 = .ok (.getfield 33, 3) := dw180 (n := 64) (i := 30) (a := 0) (b := 33) kc_cX6_take_2 (by decide +kernel) (by decide)
theorem dX6_take_97 : decode cX6_take 97 = .ok (.iload 4, 2) := dw21 (n := 96) (i := 1) (a := 4) kc_cX6_take_3 (by decide +kernel) (by decide)
theorem dX6_take_99 : decode cX6_take 99 = .ok (.invokevirtual 56, 3) := dw182 (n := 96) (i := 3) (a := 0) (b := 56) kc_cX6_take_3 (by decide +kernel) (by decide)
set_option maxRecDepth 20000 in
theorem ggX6_take_X2_has : GoodIn wsX6_take wsX2_has := (gk_code 19 rfl (gk_fieldLink 20 rfl (gk_lays 46 rfl (gk_laysFinal 47 rfl (gn)))))
set_option maxRecDepth 20000 in
theorem gX6_take_X2_has : GoodIn wsX6_take (wsV RX6 56 RX2 yX2_has wsX2_has) := goodIn_app (gk_methodLink 15 rfl (gk_instanceMethod 16 rfl (gk_selects 17 rfl (gk_initialized 18 rfl (gn))))) ggX6_take_X2_has
theorem dX6_take_102 : decode cX6_take 102 = .ok (.bastore, 1) := dw84 (n := 96) (i := 6) kc_cX6_take_3 (by decide +kernel)
theorem dX6_take_103 : decode cX6_take 103 = .ok (.iinc 4 1, 3) := by decide +kernel
theorem dX6_take_106 : decode cX6_take 106 = .ok (.goto (-26), 3) := dw167 (n := 96) (i := 10) (a := 255) (b := 230) kc_cX6_take_3 (by decide +kernel) (by decide)
theorem dX6_take_24 : decode cX6_take 24 = .ok (.aload_n 0, 1) := dw42 (n := 0) (i := 24) kc_cX6_take_0 (by decide +kernel)
theorem dX6_take_25 : decode cX6_take 25 = .ok (.getfield 37, 3) := dw180 (n := 0) (i := 25) (a := 0) (b := 37) kc_cX6_take_0 (by decide +kernel) (by decide)
theorem dX6_take_28 : decode cX6_take 28 = .ok (.aload_n 1, 1) := dw43 (n := 0) (i := 28) kc_cX6_take_0 (by decide +kernel)
theorem dX6_take_29 : decode cX6_take 29 = .ok (.getfield 46, 3) := dw180 (n := 0) (i := 29) (a := 0) (b := 46) kc_cX6_take_0 (by decide +kernel) (by decide)
theorem dX6_take_32 : decode cX6_take 32 = .ok (.iload_n 2, 1) := dw28 (n := 32) (i := 0) kc_cX6_take_1 (by decide +kernel)
theorem dX6_take_33 : decode cX6_take 33 = .ok (.aaload, 1) := dw50 (n := 32) (i := 1) kc_cX6_take_1 (by decide +kernel)
theorem dX6_take_34 : decode cX6_take 34 = .ok (.iload 4, 2) := dw21 (n := 32) (i := 2) (a := 4) kc_cX6_take_1 (by decide +kernel) (by decide)
theorem dX6_take_36 : decode cX6_take 36 = .ok (.iaload, 1) := dw46 (n := 32) (i := 4) kc_cX6_take_1 (by decide +kernel)
theorem dX6_take_37 : decode cX6_take 37 = .ok (.invokevirtual 50, 3) := dw182 (n := 32) (i := 5) (a := 0) (b := 50) kc_cX6_take_1 (by decide +kernel) (by decide)
set_option maxRecDepth 20000 in
theorem ggX6_take_X0_has : GoodIn wsX6_take wsX0_has := (gk_code 13 rfl (gk_fieldLink 14 rfl (gk_lays 41 rfl (gk_laysFinal 42 rfl (gk_laysFinal 43 rfl (gk_laysFinal 44 rfl (gk_laysFinal 45 rfl (gn))))))))
set_option maxRecDepth 20000 in
theorem gX6_take_X0_has : GoodIn wsX6_take (wsV RX6 50 RX0 yX0_has wsX0_has) := goodIn_app (gk_methodLink 9 rfl (gk_instanceMethod 10 rfl (gk_selects 11 rfl (gk_initialized 12 rfl (gn))))) ggX6_take_X0_has
theorem dX6_take_40 : decode cX6_take 40 = .ok (.ifCond .eq 31, 3) := dw153 (n := 32) (i := 8) (a := 0) (b := 31) kc_cX6_take_1 (by decide +kernel) (by decide)
theorem dX6_take_71 : decode cX6_take 71 = .ok (.iinc 4 1, 3) := by decide +kernel
theorem dX6_take_74 : decode cX6_take 74 = .ok (.goto (-61), 3) := dw167 (n := 64) (i := 10) (a := 255) (b := 195) kc_cX6_take_2 (by decide +kernel) (by decide)
theorem dX6_take_43 : decode cX6_take 43 = .ok (.aload_n 0, 1) := dw42 (n := 32) (i := 11) kc_cX6_take_1 (by decide +kernel)
theorem dX6_take_44 : decode cX6_take 44 = .ok (.getfield 9, 3) := dw180 (n := 32) (i := 12) (a := 0) (b := 9) kc_cX6_take_1 (by decide +kernel) (by decide)
theorem dX6_take_47 : decode cX6_take 47 = .ok (.aload_n 0, 1) := dw42 (n := 32) (i := 15) kc_cX6_take_1 (by decide +kernel)
theorem dX6_take_48 : decode cX6_take 48 = .ok (.getfield 15, 3) := dw180 (n := 32) (i := 16) (a := 0) (b := 15) kc_cX6_take_1 (by decide +kernel) (by decide)
theorem dX6_take_51 : decode cX6_take 51 = .ok (.aload_n 1, 1) := dw43 (n := 32) (i := 19) kc_cX6_take_1 (by decide +kernel)
theorem dX6_take_52 : decode cX6_take 52 = .ok (.getfield 46, 3) := dw180 (n := 32) (i := 20) (a := 0) (b := 46) kc_cX6_take_1 (by decide +kernel) (by decide)
theorem dX6_take_55 : decode cX6_take 55 = .ok (.iload_n 2, 1) := dw28 (n := 32) (i := 23) kc_cX6_take_1 (by decide +kernel)
theorem dX6_take_56 : decode cX6_take 56 = .ok (.aaload, 1) := dw50 (n := 32) (i := 24) kc_cX6_take_1 (by decide +kernel)
theorem dX6_take_57 : decode cX6_take 57 = .ok (.iload 4, 2) := dw21 (n := 32) (i := 25) (a := 4) kc_cX6_take_1 (by decide +kernel) (by decide)
theorem dX6_take_59 : decode cX6_take 59 = .ok (.iaload, 1) := dw46 (n := 32) (i := 27) kc_cX6_take_1 (by decide +kernel)
theorem dX6_take_60 : decode cX6_take 60 = .ok (.iastore, 1) := dw79 (n := 32) (i := 28) kc_cX6_take_1 (by decide +kernel)
theorem dX6_take_61 : decode cX6_take 61 = .ok (.aload_n 0, 1) := dw42 (n := 32) (i := 29) kc_cX6_take_1 (by decide +kernel)
theorem dX6_take_62 : decode cX6_take 62 = .ok (.dup, 1) := dw89 (n := 32) (i := 30) kc_cX6_take_1 (by decide +kernel)
theorem dX6_take_63 : decode cX6_take 63 = .ok (.getfield 15, 3) := dw180 (n := 32) (i := 31) (a := 0) (b := 15) kc_cX6_take_1 (by decide +kernel) (by decide)
theorem dX6_take_66 : decode cX6_take 66 = .ok (.iconst 1, 1) := dw4 (n := 64) (i := 2) kc_cX6_take_2 (by decide +kernel)
theorem dX6_take_67 : decode cX6_take 67 = .ok (.iadd, 1) := dw96 (n := 64) (i := 3) kc_cX6_take_2 (by decide +kernel)
theorem dX6_take_68 : decode cX6_take 68 = .ok (.putfield 15, 3) := dw181 (n := 64) (i := 4) (a := 0) (b := 15) kc_cX6_take_2 (by decide +kernel) (by decide)
set_option maxHeartbeats 4000000 in
set_option maxRecDepth 100000 in
theorem s_X6_take (l : Launch) (D : va_G) (ad : Nat → Nat) (cs : Nat → ClassId) (M : MI) (L : ML) (x : Int32) (y : Int32) (hI : IC M) (hx : 0 ≤ x.toInt ∧ x.toInt < 8) (hy : 0 ≤ y.toInt ∧ y.toInt ≤ 30) : Cv l yX6_take wsX6_take ({ frames := 1, cells := 0, slots := 0, locals := 21 }) D ad cs [.ref (ad 88), .ref (ad 68), .int x, .int y] M L (fun M1 L1 => IC M1 ∧ (∀ k, k ≠ 88 ∧ k ≠ 89 ∧ k ≠ 90 → M1 k = M k) ∧ ∀ k, 258 ≤ k → L1 k = L k) := by
  refine enter_v RX6 rfl [(0, .ref (ad 88)), (1, .ref (ad 68)), (2, .int x), (3, .int y)] rfl (Nat.le_of_ble_eq_true rfl) (by decide +kernel) rfl ?_
  intro p e s m below meth c C hr
  have hF : ∀ k, k ≠ 88 ∧ k ≠ 89 ∧ k ≠ 90 → M k = M k := fun _ _ => rfl
  have hG : ∀ k, 258 ≤ k → L k = L k := fun _ _ => rfl
  obtain ⟨hx1, hx2⟩ := hx
  obtain ⟨hy1, hy2⟩ := hy
  refine g_aload_n C 0 dX6_take_0 rfl ?_
  refine g_iload_n C 3 dX6_take_1 rfl ?_
  refine g_putI C 4 in_X6_take_6 (List.mem_of_getElem? (i := 1) rfl) (by decide) (ce_poll ad cs _ _) rfl (by decide) rfl tyX6 tyX6_ok nmX6 rfl rfl rfl rfl (Nat.le_of_ble_eq_true rfl) (by rw [sI_k]; rfl) dX6_take_2 ?_
  refine g_nm (fun M1 hM1 => ?_)
  have hI : IC M1 := by rw [hM1]; exact hI.st ⟨fun h => absurd h (by decide), fun _ => ⟨by first | omega | decide, by first | omega | decide⟩⟩
  have hF : ∀ k, k ≠ 88 ∧ k ≠ 89 ∧ k ≠ 90 → M1 k = M k := fun k hk => by (rw [hM1, sI_n _ _ _ (by omega)]; try exact hF k hk)
  refine g_aload_n C 0 dX6_take_5 rfl ?_
  refine g_iconst C 0 dX6_take_6 (by decide) ?_
  refine g_putI C 3 in_X6_take_6 (List.mem_of_getElem? (i := 2) rfl) (by decide) (ce_poll ad cs _ _) rfl (by decide) rfl tyX6 tyX6_ok nmX6 rfl rfl rfl rfl (Nat.le_of_ble_eq_true rfl) (by rw [sI_k]; rfl) dX6_take_7 ?_
  refine g_nm (fun M2 hM2 => ?_)
  have zy3 : (0 : Int32).toInt = 0 := by decide
  have hI : IC M2 := by rw [hM2]; exact hI.st ⟨fun _ => ⟨by first | omega | decide, by first | omega | decide⟩, fun h => absurd h (by decide)⟩
  have hF : ∀ k, k ≠ 88 ∧ k ≠ 89 ∧ k ≠ 90 → M2 k = M k := fun k hk => by (rw [hM2, sI_n _ _ _ (by omega)]; try exact hF k hk)
  refine g_iconst C 0 dX6_take_10 (by decide) ?_
  refine g_istore C [(4, .int 0), (0, .ref (ad 88)), (1, .ref (ad 68)), (2, .int x), (3, .int y)] dX6_take_11 (by decide) rfl ?_
  have zy4 : (0 : Int32).toInt = 0 := by decide
  have zy6 : (0 : Int32).toInt = 0 := by decide
  have uhm5 : M2 88 3 = 0 := by rw [hM2, sI_at, if_pos (by decide)]
  have hm5 : (M2 88 3).toInt ≤ 0 := by rw [uhm5]; omega
  refine g_loop (α := Int32 × MI × ML) (fun a => (41 - a.1.toInt).toNat) (fun a => 0 ≤ a.1.toInt ∧ a.1.toInt ≤ 40 ∧ (a.2.1 88 3).toInt ≤ a.1.toInt ∧ IC a.2.1 ∧ (∀ k, k ≠ 88 ∧ k ≠ 89 ∧ k ≠ 90 → a.2.1 k = M k) ∧ (∀ k, 258 ≤ k → a.2.2 k = L k)) (fun a => a.2.1) (fun a => a.2.2) (fun a => [(4, .int a.1), (0, .ref (ad 88)), (1, .ref (ad 68)), (2, .int x), (3, .int y)]) (0, M2, L) ⟨by show 0 ≤ (0 : Int32).toInt; omega, by show (0 : Int32).toInt ≤ 40; omega, hm5, hI, hF, hG⟩ rfl rfl rfl ?_
  rintro ⟨x4_13, M_13, L_13⟩ ⟨j13_0, j13_1, jm13_0, hI, hF, hG⟩ ih_13
  dsimp only at j13_0 j13_1 jm13_0 hI hF hG ih_13 ⊢
  refine g_iload C 0 dX6_take_13 rfl ?_
  refine g_aload_n C 2 dX6_take_15 rfl ?_
  refine g_get C (.ref (ad 70)) 2 in_X6_take_1 (List.mem_of_getElem? (i := 3) rfl) (by decide) (ce_box ad cs _ _) rfl (by decide) rfl rfl dX6_take_16 ?_
  refine g_iload_n C 3 dX6_take_19 rfl ?_
  refine g_iald C (by decide) (ce_xsize ad cs _ _) (fin' (n := 8) rfl (by omega) (by omega)) dX6_take_20 ?_
  refine g_ni (fun v7 ev7 => ?_)
  have tv7 := congrArg Int32.toInt ev7
  obtain ⟨bv7, dv7⟩ := (show rg 0 40 v7 from (by rw [ev7]; exact hI 70 _))
  refine g_icmp_ge C 77 dX6_take_21 (by decide) (fun c8 => ?_) (fun c8 => ?_)
  ·
    have f9 := fle rfl rfl c8
    refine g_iconst C 0 dX6_take_77 (by decide) ?_
    refine g_istore C [(4, .int 0), (0, .ref (ad 88)), (1, .ref (ad 68)), (2, .int x), (3, .int y)] dX6_take_78 (by decide) rfl ?_
    have zy10 : (0 : Int32).toInt = 0 := by decide
    refine g_loop (α := Int32 × MI × ML) (fun a => (11 - a.1.toInt).toNat) (fun a => 0 ≤ a.1.toInt ∧ a.1.toInt ≤ 10 ∧ IC a.2.1 ∧ (∀ k, k ≠ 88 ∧ k ≠ 89 ∧ k ≠ 90 → a.2.1 k = M k) ∧ (∀ k, 258 ≤ k → a.2.2 k = L k)) (fun a => a.2.1) (fun a => a.2.2) (fun a => [(4, .int a.1), (0, .ref (ad 88)), (1, .ref (ad 68)), (2, .int x), (3, .int y)]) (0, M_13, L_13) ⟨by show 0 ≤ (0 : Int32).toInt; omega, by show (0 : Int32).toInt ≤ 10; omega, hI, hF, hG⟩ rfl rfl rfl ?_
    rintro ⟨x4_80, M_80, L_80⟩ ⟨j80_0, j80_1, hI, hF, hG⟩ ih_80
    dsimp only at j80_0 j80_1 hI hF hG ih_80 ⊢
    refine g_iload C 0 dX6_take_80 rfl ?_
    refine g_bipush C 10 dX6_take_82 (by decide) ?_
    refine g_icmp_ge C 109 dX6_take_84 (by decide) (fun c11 => ?_) (fun c11 => ?_)
    ·
      have f12 := fle (by decide : (10 : Int32).toInt = 10) rfl c11
      refine g_aload_n C 1 dX6_take_109 rfl ?_
      refine g_callVv C (n := 0) (As := []) (st := []) (s_X6_clearTallies l D ad cs _ _ hI) gX6_take_X6_clearTallies rfl rfl rfl (by decide +kernel) ⟨Nat.le_of_ble_eq_true rfl, Nat.le_of_ble_eq_true rfl⟩ rfl (Nat.le_of_ble_eq_true rfl) ⟨Nat.zero_le _, Nat.zero_le _⟩ (by decide) (ce_poll ad cs _ _) rfl rfl dX6_take_110 (fun M14 L15 hr13 => ?_)
      obtain ⟨hI, hF1, hG1⟩ := hr13
      have hF : ∀ k, k ≠ 88 ∧ k ≠ 89 ∧ k ≠ 90 → M14 k = M k := fun k hk => by (rw [hF1 k (by omega)]; try exact hF k hk)
      have hG : ∀ k, 258 ≤ k → L15 k = L k := fun k hk => by (rw [hG1 k hk]; try exact hG k hk)
      exact g_vret C hr ⟨hI, hF, hG⟩ dX6_take_113
    ·
      have f16 := fnle (by decide : (10 : Int32).toInt = 10) rfl c11
      refine g_aload_n C 1 dX6_take_87 rfl ?_
      refine g_get C (.ref (ad 90)) 5 in_X6_take_6 (List.mem_of_getElem? (i := 7) rfl) (by decide) (ce_poll ad cs _ _) rfl (by decide) rfl rfl dX6_take_88 ?_
      refine g_iload C 0 dX6_take_91 rfl ?_
      refine g_aload_n C 1 dX6_take_93 rfl ?_
      refine g_get C (.ref (ad 1)) 0 in_X6_take_6 (List.mem_of_getElem? (i := 8) rfl) (by decide) (ce_poll ad cs _ _) rfl (by decide) rfl rfl dX6_take_94 ?_
      refine g_iload C 0 dX6_take_97 rfl ?_
      refine g_callVi C (n := 1) (As := [.int x4_80]) (st := [.int x4_80, .ref (ad 90)]) (c_X2_has l D ad cs _ _ x4_80) gX6_take_X2_has rfl rfl rfl (by decide +kernel) ⟨Nat.le_of_ble_eq_true rfl, Nat.le_of_ble_eq_true rfl⟩ rfl (Nat.le_of_ble_eq_true rfl) ⟨Nat.zero_le _, Nat.zero_le _⟩ (by decide) (ce_cand ad cs _ _) rfl rfl dX6_take_99 (fun r17 M18 L19 hr17 => ?_)
      obtain ⟨hq1, hq2, hr17⟩ := hr17
      obtain rfl := hq1.symm
      obtain rfl := hq2.symm
      refine g_zast C (by decide) (ce_pin ad cs _ _) (by rw [sI_k]; rfl) (fin' (n := 10) rfl (by omega) (by omega)) dX6_take_102 ?_
      refine g_nm (fun M20 hM20 => ?_)
      have hI : IC M20 := by rw [hM20]; exact hI.st (bC_free (by decide) (by decide) (by decide) (by decide) (by decide) (by decide) (by decide))
      have hF : ∀ k, k ≠ 88 ∧ k ≠ 89 ∧ k ≠ 90 → M20 k = M k := fun k hk => by (rw [hM20, sI_n _ _ _ (by omega)]; try exact hF k hk)
      obtain ⟨v21, ev21⟩ : ∃ y : Int32, y = x4_80 + 1 := ⟨_, rfl⟩
      try have fv21 := fadd rfl (by decide : (1 : Int32).toInt = 1) ev21 (by omega) (by omega)
      refine g_iinc C 0 v21 [(4, .int v21), (0, .ref (ad 88)), (1, .ref (ad 68)), (2, .int x), (3, .int y)] dX6_take_103 rfl (by rw [ev21]; rfl) (by decide) rfl ?_
      refine g_goto C 80 dX6_take_106 (by decide) ?_
      exact ih_80 (v21, M20, L_80) ⟨by show 0 ≤ v21.toInt; omega, by show v21.toInt ≤ 10; omega, hI, hF, hG⟩ (by show (11 - v21.toInt).toNat < (11 - x4_80.toInt).toNat; omega)
  ·
    have f22 := fnle rfl rfl c8
    refine g_aload_n C 1 dX6_take_24 rfl ?_
    refine g_get C (.ref (ad 3)) 1 in_X6_take_6 (List.mem_of_getElem? (i := 4) rfl) (by decide) (ce_poll ad cs _ _) rfl (by decide) rfl rfl dX6_take_25 ?_
    refine g_aload_n C 2 dX6_take_28 rfl ?_
    refine g_get C (.ref (ad 71)) 3 in_X6_take_1 (List.mem_of_getElem? (i := 5) rfl) (by decide) (ce_box ad cs _ _) rfl (by decide) rfl rfl dX6_take_29 ?_
    refine g_iload_n C 3 dX6_take_32 rfl ?_
    have hi23 : vp_in x 8 := (fin' (n := 8) rfl (by omega) (by omega))
    have nhi23 := tn hi23
    refine g_aald C (by decide) (ce_xplacem ad cs _ _) rfl hi23 dX6_take_33 ?_
    refine g_iload C 0 dX6_take_34 rfl ?_
    refine g_iald C (by omega) (ce_xplace ad cs _ _ nhi23) (fin' (n := 40) rfl (by omega) (by omega)) dX6_take_36 ?_
    refine g_ni (fun v24 ev24 => ?_)
    have tv24 := congrArg Int32.toInt ev24
    refine g_callVi C (n := 1) (As := [.int v24]) (st := []) (c_X0_has l D ad cs _ _ v24) gX6_take_X0_has rfl rfl rfl (by decide +kernel) ⟨Nat.le_of_ble_eq_true rfl, Nat.le_of_ble_eq_true rfl⟩ rfl (Nat.le_of_ble_eq_true rfl) ⟨Nat.zero_le _, Nat.zero_le _⟩ (by decide) (ce_ball ad cs _ _) rfl rfl dX6_take_37 (fun r25 M26 L27 hr25 => ?_)
    obtain ⟨hq1, hq2, hr25⟩ := hr25
    obtain rfl := hq1.symm
    obtain rfl := hq2.symm
    refine g_if_eq C 71 dX6_take_40 (by decide) (fun c28 => ?_) (fun c28 => ?_)
    ·
      have f29 := feq rfl (by decide : (0 : Int32).toInt = 0) c28
      obtain ⟨v30, ev30⟩ : ∃ y : Int32, y = x4_13 + 1 := ⟨_, rfl⟩
      try have fv30 := fadd rfl (by decide : (1 : Int32).toInt = 1) ev30 (by omega) (by omega)
      refine g_iinc C 0 v30 [(4, .int v30), (0, .ref (ad 88)), (1, .ref (ad 68)), (2, .int x), (3, .int y)] dX6_take_71 rfl (by rw [ev30]; rfl) (by decide) rfl ?_
      refine g_goto C 13 dX6_take_74 (by decide) ?_
      have hm31 : (M_13 88 3).toInt ≤ v30.toInt := by have h9 := jm13_0; omega
      exact ih_13 (v30, M_13, L_13) ⟨by show 0 ≤ v30.toInt; omega, by show v30.toInt ≤ 40; omega, hm31, hI, hF, hG⟩ (by show (41 - v30.toInt).toNat < (41 - x4_13.toInt).toNat; omega)
    ·
      have f32 := fne rfl (by decide : (0 : Int32).toInt = 0) c28
      obtain ⟨far25, fbr25⟩ := has_t hr25 c28
      obtain ⟨fcr25, fdr25⟩ := (show rg 0 60 (M_13 3 0) from hI 3 0 rfl)
      refine g_aload_n C 1 dX6_take_43 rfl ?_
      refine g_get C (.ref (ad 89)) 2 in_X6_take_6 (List.mem_of_getElem? (i := 6) rfl) (by decide) (ce_poll ad cs _ _) rfl (by decide) rfl rfl dX6_take_44 ?_
      refine g_aload_n C 1 dX6_take_47 rfl ?_
      refine g_get C (.int (M_13 88 3)) 3 in_X6_take_6 (List.mem_of_getElem? (i := 2) rfl) (by decide) (ce_poll ad cs _ _) rfl (by decide) rfl rfl dX6_take_48 ?_
      refine g_ni (fun v33 ev33 => ?_)
      have tv33 := congrArg Int32.toInt ev33
      obtain ⟨bv33, dv33⟩ := (show rg 0 40 v33 from (by rw [ev33]; exact (hI 88 3).1 rfl))
      refine g_aload_n C 2 dX6_take_51 rfl ?_
      refine g_get C (.ref (ad 71)) 3 in_X6_take_1 (List.mem_of_getElem? (i := 5) rfl) (by decide) (ce_box ad cs _ _) rfl (by decide) rfl rfl dX6_take_52 ?_
      refine g_iload_n C 3 dX6_take_55 rfl ?_
      have hi34 : vp_in x 8 := (fin' (n := 8) rfl (by omega) (by omega))
      have nhi34 := tn hi34
      refine g_aald C (by decide) (ce_xplacem ad cs _ _) rfl hi34 dX6_take_56 ?_
      refine g_iload C 0 dX6_take_57 rfl ?_
      refine g_iald C (by omega) (ce_xplace ad cs _ _ nhi34) (fin' (n := 40) rfl (by omega) (by omega)) dX6_take_59 ?_
      refine g_ni (fun v35 ev35 => ?_)
      have tv35 := congrArg Int32.toInt ev35
      have uv35 : v35 = v24 := by rw [ev35]; exact ev24.symm
      have wv35 := congrArg Int32.toInt uv35
      refine g_iast C (by decide) (ce_plying ad cs _ _) (by rw [sI_k]; rfl) (fin' (n := 40) rfl (by omega) (by omega)) dX6_take_60 ?_
      refine g_nm (fun M36 hM36 => ?_)
      have hI : IC M36 := by rw [hM36]; exact hI.st ⟨by first | omega | decide, by first | omega | decide⟩
      have hF : ∀ k, k ≠ 88 ∧ k ≠ 89 ∧ k ≠ 90 → M36 k = M k := fun k hk => by (rw [hM36, sI_n _ _ _ (by omega)]; try exact hF k hk)
      refine g_aload_n C 1 dX6_take_61 rfl ?_
      refine g_dup C dX6_take_62 rfl ?_
      refine g_get C (.int (M36 88 3)) 3 in_X6_take_6 (List.mem_of_getElem? (i := 2) rfl) (by decide) (ce_poll ad cs _ _) rfl (by decide) rfl rfl dX6_take_63 ?_
      refine g_ni (fun v37 ev37 => ?_)
      have tv37 := congrArg Int32.toInt ev37
      obtain ⟨bv37, dv37⟩ := (show rg 0 40 v37 from (by rw [ev37]; exact (hI 88 3).1 rfl))
      have uv37 : v37 = v33 := by rw [ev37, hM36, sI_n _ _ _ (by decide)]; exact ev33.symm
      have wv37 := congrArg Int32.toInt uv37
      refine g_iconst C 1 dX6_take_66 (by decide) ?_
      refine g_iadd C dX6_take_67 ?_
      refine g_ni (fun v38 ev38 => ?_)
      try have fv38 := fadd rfl (by decide : (1 : Int32).toInt = 1) ev38 (by omega) (by omega)
      refine g_putI C 3 in_X6_take_6 (List.mem_of_getElem? (i := 2) rfl) (by decide) (ce_poll ad cs _ _) rfl (by decide) rfl tyX6 tyX6_ok nmX6 rfl rfl rfl rfl (Nat.le_of_ble_eq_true rfl) (by rw [sI_k]; rfl) dX6_take_68 ?_
      refine g_nm (fun M39 hM39 => ?_)
      have hI : IC M39 := by rw [hM39]; exact hI.st ⟨fun _ => ⟨by first | omega | decide, by first | omega | decide⟩, fun h => absurd h (by decide)⟩
      have hF : ∀ k, k ≠ 88 ∧ k ≠ 89 ∧ k ≠ 90 → M39 k = M k := fun k hk => by (rw [hM39, sI_n _ _ _ (by omega)]; try exact hF k hk)
      obtain ⟨v40, ev40⟩ : ∃ y : Int32, y = x4_13 + 1 := ⟨_, rfl⟩
      try have fv40 := fadd rfl (by decide : (1 : Int32).toInt = 1) ev40 (by omega) (by omega)
      refine g_iinc C 0 v40 [(4, .int v40), (0, .ref (ad 88)), (1, .ref (ad 68)), (2, .int x), (3, .int y)] dX6_take_71 rfl (by rw [ev40]; rfl) (by decide) rfl ?_
      refine g_goto C 13 dX6_take_74 (by decide) ?_
      have uhm41 : M39 88 3 = v38 := by rw [hM39, sI_at, if_pos (by decide)]
      have hm41 : (M39 88 3).toInt ≤ v40.toInt := by rw [uhm41]; omega
      exact ih_13 (v40, M39, L_13) ⟨by show 0 ≤ v40.toInt; omega, by show v40.toInt ≤ 40; omega, hm41, hI, hF, hG⟩ (by show (41 - v40.toInt).toNat < (41 - x4_13.toInt).toNat; omega)
