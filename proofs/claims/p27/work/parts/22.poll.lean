theorem dX7_clear_0 : decode cX7_clear 0 = .ok (.aload_n 0, 1) := dw42 (n := 0) (i := 0) kc_cX7_clear_0 (by decide +kernel)
theorem dX7_clear_1 : decode cX7_clear 1 = .ok (.iconst 0, 1) := dw3 (n := 0) (i := 1) kc_cX7_clear_0 (by decide +kernel)
theorem dX7_clear_2 : decode cX7_clear 2 = .ok (.putfield 9, 3) := dw181 (n := 0) (i := 2) (a := 0) (b := 9) kc_cX7_clear_0 (by decide +kernel) (by decide)
theorem in_X7_clear_7 : ∀ w ∈ u_ws RX7 TX7 7, w ∈ wsX7_clear := fun _ h => List.mem_cons_of_mem _ (List.mem_append_right _ h)
theorem dX7_clear_5 : decode cX7_clear 5 = .ok (.aload_n 0, 1) := dw42 (n := 0) (i := 5) kc_cX7_clear_0 (by decide +kernel)
theorem dX7_clear_6 : decode cX7_clear 6 = .ok (.iconst 0, 1) := dw3 (n := 0) (i := 6) kc_cX7_clear_0 (by decide +kernel)
theorem dX7_clear_7 : decode cX7_clear 7 = .ok (.putfield 19, 3) := dw181 (n := 0) (i := 7) (a := 0) (b := 19) kc_cX7_clear_0 (by decide +kernel) (by decide)
theorem dX7_clear_10 : decode cX7_clear 10 = .ok (.return_, 1) := dw177 (n := 0) (i := 10) kc_cX7_clear_0 (by decide +kernel)
theorem dX7_hasRound_0 : decode cX7_hasRound 0 = .ok (.iload_n 1, 1) := dw27 (n := 0) (i := 0) kc_cX7_hasRound_0 (by decide +kernel)
theorem dX7_hasRound_1 : decode cX7_hasRound 1 = .ok (.ifCond .lt 15, 3) := dw155 (n := 0) (i := 1) (a := 0) (b := 15) kc_cX7_hasRound_0 (by decide +kernel) (by decide)
theorem dX7_hasRound_16 : decode cX7_hasRound 16 = .ok (.iconst 0, 1) := dw3 (n := 0) (i := 16) kc_cX7_hasRound_0 (by decide +kernel)
theorem dX7_hasRound_17 : decode cX7_hasRound 17 = .ok (.ireturn, 1) := dw172 (n := 0) (i := 17) kc_cX7_hasRound_0 (by decide +kernel)
theorem dX7_hasRound_4 : decode cX7_hasRound 4 = .ok (.iload_n 1, 1) := dw27 (n := 0) (i := 4) kc_cX7_hasRound_0 (by decide +kernel)
theorem dX7_hasRound_5 : decode cX7_hasRound 5 = .ok (.aload_n 0, 1) := dw42 (n := 0) (i := 5) kc_cX7_hasRound_0 (by decide +kernel)
theorem dX7_hasRound_6 : decode cX7_hasRound 6 = .ok (.getfield 19, 3) := dw180 (n := 0) (i := 6) (a := 0) (b := 19) kc_cX7_hasRound_0 (by decide +kernel) (by decide)
theorem in_X7_hasRound_7 : ∀ w ∈ u_ws RX7 TX7 7, w ∈ wsX7_hasRound := fun _ h => List.mem_cons_of_mem _ (List.mem_append_right _ h)
theorem dX7_hasRound_9 : decode cX7_hasRound 9 = .ok (.if_icmp .ge 7, 3) := dw162 (n := 0) (i := 9) (a := 0) (b := 7) kc_cX7_hasRound_0 (by decide +kernel) (by decide)
theorem dX7_hasRound_12 : decode cX7_hasRound 12 = .ok (.iconst 1, 1) := dw4 (n := 0) (i := 12) kc_cX7_hasRound_0 (by decide +kernel)
theorem dX7_hasRound_13 : decode cX7_hasRound 13 = .ok (.goto 4, 3) := dw167 (n := 0) (i := 13) (a := 0) (b := 4) kc_cX7_hasRound_0 (by decide +kernel) (by decide)
set_option maxHeartbeats 4000000 in
set_option maxRecDepth 100000 in
theorem s_X7_hasRound_a (l : Launch) (D : va_G) (ad : Nat → Nat) (cs : Nat → ClassId) (M : MI) (L : ML) (i : Int32) (hI : IC M) : Ci l yX7_hasRound wsX7_hasRound ({ frames := 0, cells := 0, slots := 0, locals := 0 }) D ad cs [.ref (ad 125), .int i] M L (fun r M1 L1 => M1 = M ∧ L1 = L ∧ (r = 0 ∨ r = 1) ∧ (¬ r = 0 → 0 ≤ i.toInt ∧ i.toInt < 30)) := by
  refine enter_i RX7 rfl [(0, .ref (ad 125)), (1, .int i)] rfl (Nat.le_of_ble_eq_true rfl) (by decide +kernel) rfl ?_
  intro p e s m below meth c C hr
  have hF : ∀ k, True → M k = M k := fun _ _ => rfl
  have hG : ∀ k, True → L k = L k := fun _ _ => rfl
  refine g_iload_n C 1 dX7_hasRound_0 rfl ?_
  refine g_if_lt C 16 dX7_hasRound_1 (by decide) (fun c1 => ?_) (fun c1 => ?_)
  ·
    have f2 := fl rfl (by decide : (0 : Int32).toInt = 0) c1
    refine g_iconst C 0 dX7_hasRound_16 (by decide) ?_
    exact g_zret C hr rfl ⟨rfl, rfl, (by first | exact Or.inl rfl | exact Or.inr rfl), (by first | (intro h; exact absurd rfl h) | (intro _; exact ⟨by omega, by omega⟩))⟩ dX7_hasRound_17
  ·
    have f3 := fnl rfl (by decide : (0 : Int32).toInt = 0) c1
    refine g_iload_n C 1 dX7_hasRound_4 rfl ?_
    refine g_aload_n C 0 dX7_hasRound_5 rfl ?_
    refine g_get C (.int (M 125 2)) 2 in_X7_hasRound_7 (List.mem_of_getElem? (i := 1) rfl) (by decide) (ce_ra ad cs _ _) rfl (by decide) rfl rfl dX7_hasRound_6 ?_
    refine g_ni (fun v4 ev4 => ?_)
    have tv4 := congrArg Int32.toInt ev4
    obtain ⟨bv4, dv4⟩ := (show rg 0 30 v4 from (by rw [ev4]; exact hI 125 2 (Or.inr rfl)))
    refine g_icmp_ge C 16 dX7_hasRound_9 (by decide) (fun c5 => ?_) (fun c5 => ?_)
    ·
      have f6 := fle rfl rfl c5
      refine g_iconst C 0 dX7_hasRound_16 (by decide) ?_
      exact g_zret C hr rfl ⟨rfl, rfl, (by first | exact Or.inl rfl | exact Or.inr rfl), (by first | (intro h; exact absurd rfl h) | (intro _; exact ⟨by omega, by omega⟩))⟩ dX7_hasRound_17
    ·
      have f7 := fnle rfl rfl c5
      refine g_iconst C 1 dX7_hasRound_12 (by decide) ?_
      refine g_goto C 17 dX7_hasRound_13 (by decide) ?_
      exact g_zret C hr rfl ⟨rfl, rfl, (by first | exact Or.inl rfl | exact Or.inr rfl), (by first | (intro h; exact absurd rfl h) | (intro _; exact ⟨by omega, by omega⟩))⟩ dX7_hasRound_17
theorem dX7_give_0 : decode cX7_give 0 = .ok (.aload_n 0, 1) := dw42 (n := 0) (i := 0) kc_cX7_give_0 (by decide +kernel)
theorem dX7_give_1 : decode cX7_give 1 = .ok (.getfield 9, 3) := dw180 (n := 0) (i := 1) (a := 0) (b := 9) kc_cX7_give_0 (by decide +kernel) (by decide)
theorem in_X7_give_7 : ∀ w ∈ u_ws RX7 TX7 7, w ∈ wsX7_give := fun _ h => List.mem_cons_of_mem _ (List.mem_append_right _ h)
theorem dX7_give_4 : decode cX7_give 4 = .ok (.bipush 30, 2) := dw16 (n := 0) (i := 4) (a := 30) kc_cX7_give_0 (by decide +kernel) (by decide)
theorem dX7_give_6 : decode cX7_give 6 = .ok (.if_icmp .ge 23, 3) := dw162 (n := 0) (i := 6) (a := 0) (b := 23) kc_cX7_give_0 (by decide +kernel) (by decide)
theorem dX7_give_29 : decode cX7_give 29 = .ok (.return_, 1) := dw177 (n := 0) (i := 29) kc_cX7_give_0 (by decide +kernel)
theorem dX7_give_9 : decode cX7_give 9 = .ok (.aload_n 0, 1) := dw42 (n := 0) (i := 9) kc_cX7_give_0 (by decide +kernel)
theorem dX7_give_10 : decode cX7_give 10 = .ok (.getfield 15, 3) := dw180 (n := 0) (i := 10) (a := 0) (b := 15) kc_cX7_give_0 (by decide +kernel) (by decide)
theorem dX7_give_13 : decode cX7_give 13 = .ok (.aload_n 0, 1) := dw42 (n := 0) (i := 13) kc_cX7_give_0 (by decide +kernel)
theorem dX7_give_14 : decode cX7_give 14 = .ok (.getfield 9, 3) := dw180 (n := 0) (i := 14) (a := 0) (b := 9) kc_cX7_give_0 (by decide +kernel) (by decide)
theorem dX7_give_17 : decode cX7_give 17 = .ok (.iload_n 1, 1) := dw27 (n := 0) (i := 17) kc_cX7_give_0 (by decide +kernel)
theorem dX7_give_18 : decode cX7_give 18 = .ok (.iastore, 1) := dw79 (n := 0) (i := 18) kc_cX7_give_0 (by decide +kernel)
theorem dX7_give_19 : decode cX7_give 19 = .ok (.aload_n 0, 1) := dw42 (n := 0) (i := 19) kc_cX7_give_0 (by decide +kernel)
theorem dX7_give_20 : decode cX7_give 20 = .ok (.dup, 1) := dw89 (n := 0) (i := 20) kc_cX7_give_0 (by decide +kernel)
theorem dX7_give_21 : decode cX7_give 21 = .ok (.getfield 9, 3) := dw180 (n := 0) (i := 21) (a := 0) (b := 9) kc_cX7_give_0 (by decide +kernel) (by decide)
theorem dX7_give_24 : decode cX7_give 24 = .ok (.iconst 1, 1) := dw4 (n := 0) (i := 24) kc_cX7_give_0 (by decide +kernel)
theorem dX7_give_25 : decode cX7_give 25 = .ok (.iadd, 1) := dw96 (n := 0) (i := 25) kc_cX7_give_0 (by decide +kernel)
theorem dX7_give_26 : decode cX7_give 26 = .ok (.putfield 9, 3) := dw181 (n := 0) (i := 26) (a := 0) (b := 9) kc_cX7_give_0 (by decide +kernel) (by decide)
theorem dX7_note_0 : decode cX7_note 0 = .ok (.aload_n 0, 1) := dw42 (n := 0) (i := 0) kc_cX7_note_0 (by decide +kernel)
theorem dX7_note_1 : decode cX7_note 1 = .ok (.getfield 19, 3) := dw180 (n := 0) (i := 1) (a := 0) (b := 19) kc_cX7_note_0 (by decide +kernel) (by decide)
theorem in_X7_note_7 : ∀ w ∈ u_ws RX7 TX7 7, w ∈ wsX7_note := fun _ h => List.mem_cons_of_mem _ (List.mem_append_left _ (List.mem_append_right _ h))
theorem dX7_note_4 : decode cX7_note 4 = .ok (.bipush 30, 2) := dw16 (n := 0) (i := 4) (a := 30) kc_cX7_note_0 (by decide +kernel) (by decide)
theorem dX7_note_6 : decode cX7_note 6 = .ok (.if_icmp .ne 4, 3) := dw160 (n := 0) (i := 6) (a := 0) (b := 4) kc_cX7_note_0 (by decide +kernel) (by decide)
theorem dX7_note_10 : decode cX7_note 10 = .ok (.aload_n 0, 1) := dw42 (n := 0) (i := 10) kc_cX7_note_0 (by decide +kernel)
theorem dX7_note_11 : decode cX7_note 11 = .ok (.getfield 22, 3) := dw180 (n := 0) (i := 11) (a := 0) (b := 22) kc_cX7_note_0 (by decide +kernel) (by decide)
theorem dX7_note_14 : decode cX7_note 14 = .ok (.aload_n 0, 1) := dw42 (n := 0) (i := 14) kc_cX7_note_0 (by decide +kernel)
theorem dX7_note_15 : decode cX7_note 15 = .ok (.getfield 19, 3) := dw180 (n := 0) (i := 15) (a := 0) (b := 19) kc_cX7_note_0 (by decide +kernel) (by decide)
theorem dX7_note_18 : decode cX7_note 18 = .ok (.iload_n 1, 1) := dw27 (n := 0) (i := 18) kc_cX7_note_0 (by decide +kernel)
theorem dX7_note_19 : decode cX7_note 19 = .ok (.iastore, 1) := dw79 (n := 0) (i := 19) kc_cX7_note_0 (by decide +kernel)
theorem dX7_note_20 : decode cX7_note 20 = .ok (.aload_n 0, 1) := dw42 (n := 0) (i := 20) kc_cX7_note_0 (by decide +kernel)
theorem dX7_note_21 : decode cX7_note 21 = .ok (.getfield 25, 3) := dw180 (n := 0) (i := 21) (a := 0) (b := 25) kc_cX7_note_0 (by decide +kernel) (by decide)
theorem dX7_note_24 : decode cX7_note 24 = .ok (.aload_n 0, 1) := dw42 (n := 0) (i := 24) kc_cX7_note_0 (by decide +kernel)
theorem dX7_note_25 : decode cX7_note 25 = .ok (.getfield 19, 3) := dw180 (n := 0) (i := 25) (a := 0) (b := 19) kc_cX7_note_0 (by decide +kernel) (by decide)
theorem dX7_note_28 : decode cX7_note 28 = .ok (.iload_n 2, 1) := dw28 (n := 0) (i := 28) kc_cX7_note_0 (by decide +kernel)
theorem dX7_note_29 : decode cX7_note 29 = .ok (.iastore, 1) := dw79 (n := 0) (i := 29) kc_cX7_note_0 (by decide +kernel)
theorem dX7_note_30 : decode cX7_note 30 = .ok (.iconst 0, 1) := dw3 (n := 0) (i := 30) kc_cX7_note_0 (by decide +kernel)
theorem dX7_note_31 : decode cX7_note 31 = .ok (.istore 4, 2) := dw54 (n := 0) (i := 31) (a := 4) kc_cX7_note_0 (by decide +kernel) (by decide)
theorem dX7_note_33 : decode cX7_note 33 = .ok (.iload 4, 2) := dw21 (n := 32) (i := 1) (a := 4) kc_cX7_note_1 (by decide +kernel) (by decide)
theorem dX7_note_35 : decode cX7_note 35 = .ok (.bipush 10, 2) := dw16 (n := 32) (i := 3) (a := 10) kc_cX7_note_1 (by decide +kernel) (by decide)
theorem dX7_note_37 : decode cX7_note 37 = .ok (.if_icmp .ge 47, 3) := dw162 (n := 32) (i := 5) (a := 0) (b := 47) kc_cX7_note_1 (by decide +kernel) (by decide)
theorem dX7_note_84 : decode cX7_note 84 = .ok (.aload_n 0, 1) := dw42 (n := 64) (i := 20) kc_cX7_note_2 (by decide +kernel)
theorem dX7_note_85 : decode cX7_note 85 = .ok (.dup, 1) := dw89 (n := 64) (i := 21) kc_cX7_note_2 (by decide +kernel)
theorem dX7_note_86 : decode cX7_note 86 = .ok (.getfield 19, 3) := dw180 (n := 64) (i := 22) (a := 0) (b := 19) kc_cX7_note_2 (by decide +kernel) (by decide)
theorem dX7_note_89 : decode cX7_note 89 = .ok (.iconst 1, 1) := dw4 (n := 64) (i := 25) kc_cX7_note_2 (by decide +kernel)
theorem dX7_note_90 : decode cX7_note 90 = .ok (.iadd, 1) := dw96 (n := 64) (i := 26) kc_cX7_note_2 (by decide +kernel)
theorem dX7_note_91 : decode cX7_note 91 = .ok (.putfield 19, 3) := dw181 (n := 64) (i := 27) (a := 0) (b := 19) kc_cX7_note_2 (by decide +kernel) (by decide)
theorem dX7_note_94 : decode cX7_note 94 = .ok (.return_, 1) := dw177 (n := 64) (i := 30) kc_cX7_note_2 (by decide +kernel)
theorem dX7_note_40 : decode cX7_note 40 = .ok (.aload_n 0, 1) := dw42 (n := 32) (i := 8) kc_cX7_note_1 (by decide +kernel)
theorem dX7_note_41 : decode cX7_note 41 = .ok (.getfield 30, 3) := dw180 (n := 32) (i := 9) (a := 0) (b := 30) kc_cX7_note_1 (by decide +kernel) (by decide)
theorem dX7_note_44 : decode cX7_note 44 = .ok (.aload_n 0, 1) := dw42 (n := 32) (i := 12) kc_cX7_note_1 (by decide +kernel)
theorem dX7_note_45 : decode cX7_note 45 = .ok (.getfield 19, 3) := dw180 (n := 32) (i := 13) (a := 0) (b := 19) kc_cX7_note_1 (by decide +kernel) (by decide)
theorem dX7_note_48 : decode cX7_note 48 = .ok (.aaload, 1) := dw50 (n := 32) (i := 16) kc_cX7_note_1 (by decide +kernel)
theorem dX7_note_49 : decode cX7_note 49 = .ok (.iload 4, 2) := dw21 (n := 32) (i := 17) (a := 4) kc_cX7_note_1 (by decide +kernel) (by decide)
theorem dX7_note_51 : decode cX7_note 51 = .ok (.aload_n 3, 1) := dw45 (n := 32) (i := 19) kc_cX7_note_1 (by decide +kernel)
theorem dX7_note_52 : decode cX7_note 52 = .ok (.getfield 36, 3) := dw180 (n := 32) (i := 20) (a := 0) (b := 36) kc_cX7_note_1 (by decide +kernel) (by decide)
theorem in_X7_note_6 : ∀ w ∈ u_ws RX6 TX6 8, w ∈ wsX7_note := fun _ h => List.mem_cons_of_mem _ (List.mem_append_right _ h)
theorem dX7_note_55 : decode cX7_note 55 = .ok (.iload 4, 2) := dw21 (n := 32) (i := 23) (a := 4) kc_cX7_note_1 (by decide +kernel) (by decide)
theorem dX7_note_57 : decode cX7_note 57 = .ok (.laload, 1) := dw47 (n := 32) (i := 25) kc_cX7_note_1 (by decide +kernel)
theorem dX7_note_58 : decode cX7_note 58 = .ok (.lastore, 1) := dw80 (n := 32) (i := 26) kc_cX7_note_1 (by decide +kernel)
theorem dX7_note_59 : decode cX7_note 59 = .ok (.aload_n 0, 1) := dw42 (n := 32) (i := 27) kc_cX7_note_1 (by decide +kernel)
theorem dX7_note_60 : decode cX7_note 60 = .ok (.getfield 33, 3) := dw180 (n := 32) (i := 28) (a := 0) (b := 33) kc_cX7_note_1 (by decide +kernel) (by decide)
theorem dX7_note_63 : decode cX7_note 63 = .ok (.aload_n 0, 1) := dw42 (n := 32) (i := 31) kc_cX7_note_1 (by decide +kernel)
theorem dX7_note_64 : decode cX7_note 64 = .ok (.getfield 19, 3) := dw180 (n := 64) (i := 0) (a := 0) (b := 19) kc_cX7_note_2 (by decide +kernel) (by decide)
theorem dX7_note_67 : decode cX7_note 67 = .ok (.aaload, 1) := dw50 (n := 64) (i := 3) kc_cX7_note_2 (by decide +kernel)
theorem dX7_note_68 : decode cX7_note 68 = .ok (.iload 4, 2) := dw21 (n := 64) (i := 4) (a := 4) kc_cX7_note_2 (by decide +kernel) (by decide)
theorem dX7_note_70 : decode cX7_note 70 = .ok (.aload_n 3, 1) := dw45 (n := 64) (i := 6) kc_cX7_note_2 (by decide +kernel)
theorem dX7_note_71 : decode cX7_note 71 = .ok (.getfield 41, 3) := dw180 (n := 64) (i := 7) (a := 0) (b := 41) kc_cX7_note_2 (by decide +kernel) (by decide)
theorem dX7_note_74 : decode cX7_note 74 = .ok (.iload 4, 2) := dw21 (n := 64) (i := 10) (a := 4) kc_cX7_note_2 (by decide +kernel) (by decide)
theorem dX7_note_76 : decode cX7_note 76 = .ok (.laload, 1) := dw47 (n := 64) (i := 12) kc_cX7_note_2 (by decide +kernel)
theorem dX7_note_77 : decode cX7_note 77 = .ok (.lastore, 1) := dw80 (n := 64) (i := 13) kc_cX7_note_2 (by decide +kernel)
theorem dX7_note_78 : decode cX7_note 78 = .ok (.iinc 4 1, 3) := by decide +kernel
theorem dX7_note_81 : decode cX7_note 81 = .ok (.goto (-48), 3) := dw167 (n := 64) (i := 17) (a := 255) (b := 208) kc_cX7_note_2 (by decide +kernel) (by decide)
theorem dX7_note_9 : decode cX7_note 9 = .ok (.return_, 1) := dw177 (n := 0) (i := 9) kc_cX7_note_0 (by decide +kernel)
set_option maxHeartbeats 4000000 in
set_option maxRecDepth 100000 in
theorem s_X7_hasRound_b (l : Launch) (D : va_G) (ad : Nat → Nat) (cs : Nat → ClassId) (M : MI) (L : ML) (i : Int32) (hI : IC M) : Ci l yX7_hasRound wsX7_hasRound ({ frames := 0, cells := 0, slots := 0, locals := 0 }) D ad cs [.ref (ad 191), .int i] M L (fun r M1 L1 => M1 = M ∧ L1 = L ∧ (r = 0 ∨ r = 1) ∧ (¬ r = 0 → 0 ≤ i.toInt ∧ i.toInt < 30)) := by
  refine enter_i RX7 rfl [(0, .ref (ad 191)), (1, .int i)] rfl (Nat.le_of_ble_eq_true rfl) (by decide +kernel) rfl ?_
  intro p e s m below meth c C hr
  have hF : ∀ k, True → M k = M k := fun _ _ => rfl
  have hG : ∀ k, True → L k = L k := fun _ _ => rfl
  refine g_iload_n C 1 dX7_hasRound_0 rfl ?_
  refine g_if_lt C 16 dX7_hasRound_1 (by decide) (fun c1 => ?_) (fun c1 => ?_)
  ·
    have f2 := fl rfl (by decide : (0 : Int32).toInt = 0) c1
    refine g_iconst C 0 dX7_hasRound_16 (by decide) ?_
    exact g_zret C hr rfl ⟨rfl, rfl, (by first | exact Or.inl rfl | exact Or.inr rfl), (by first | (intro h; exact absurd rfl h) | (intro _; exact ⟨by omega, by omega⟩))⟩ dX7_hasRound_17
  ·
    have f3 := fnl rfl (by decide : (0 : Int32).toInt = 0) c1
    refine g_iload_n C 1 dX7_hasRound_4 rfl ?_
    refine g_aload_n C 0 dX7_hasRound_5 rfl ?_
    refine g_get C (.int (M 191 2)) 2 in_X7_hasRound_7 (List.mem_of_getElem? (i := 1) rfl) (by decide) (ce_rb ad cs _ _) rfl (by decide) rfl rfl dX7_hasRound_6 ?_
    refine g_ni (fun v4 ev4 => ?_)
    have tv4 := congrArg Int32.toInt ev4
    obtain ⟨bv4, dv4⟩ := (show rg 0 30 v4 from (by rw [ev4]; exact hI 191 2 (Or.inr rfl)))
    refine g_icmp_ge C 16 dX7_hasRound_9 (by decide) (fun c5 => ?_) (fun c5 => ?_)
    ·
      have f6 := fle rfl rfl c5
      refine g_iconst C 0 dX7_hasRound_16 (by decide) ?_
      exact g_zret C hr rfl ⟨rfl, rfl, (by first | exact Or.inl rfl | exact Or.inr rfl), (by first | (intro h; exact absurd rfl h) | (intro _; exact ⟨by omega, by omega⟩))⟩ dX7_hasRound_17
    ·
      have f7 := fnle rfl rfl c5
      refine g_iconst C 1 dX7_hasRound_12 (by decide) ?_
      refine g_goto C 17 dX7_hasRound_13 (by decide) ?_
      exact g_zret C hr rfl ⟨rfl, rfl, (by first | exact Or.inl rfl | exact Or.inr rfl), (by first | (intro h; exact absurd rfl h) | (intro _; exact ⟨by omega, by omega⟩))⟩ dX7_hasRound_17
theorem dX6_papersOf_0 : decode cX6_papersOf 0 = .ok (.aload_n 0, 1) := dw42 (n := 0) (i := 0) kc_cX6_papersOf_0 (by decide +kernel)
theorem dX6_papersOf_1 : decode cX6_papersOf 1 = .ok (.getfield 37, 3) := dw180 (n := 0) (i := 1) (a := 0) (b := 37) kc_cX6_papersOf_0 (by decide +kernel) (by decide)
theorem in_X6_papersOf_6 : ∀ w ∈ u_ws RX6 TX6 8, w ∈ wsX6_papersOf := fun _ h => List.mem_cons_of_mem _ (List.mem_append_left _ (List.mem_append_right _ h))
theorem dX6_papersOf_4 : decode cX6_papersOf 4 = .ok (.getfield 62, 3) := dw180 (n := 0) (i := 4) (a := 0) (b := 62) kc_cX6_papersOf_0 (by decide +kernel) (by decide)
theorem in_X6_papersOf_0 : ∀ w ∈ u_ws RX0 TX0 5, w ∈ wsX6_papersOf := fun _ h => List.mem_cons_of_mem _ (List.mem_append_right _ h)
theorem dX6_papersOf_7 : decode cX6_papersOf 7 = .ok (.aload_n 0, 1) := dw42 (n := 0) (i := 7) kc_cX6_papersOf_0 (by decide +kernel)
theorem dX6_papersOf_8 : decode cX6_papersOf 8 = .ok (.getfield 9, 3) := dw180 (n := 0) (i := 8) (a := 0) (b := 9) kc_cX6_papersOf_0 (by decide +kernel) (by decide)
theorem dX6_papersOf_11 : decode cX6_papersOf 11 = .ok (.iload_n 1, 1) := dw27 (n := 0) (i := 11) kc_cX6_papersOf_0 (by decide +kernel)
theorem dX6_papersOf_12 : decode cX6_papersOf 12 = .ok (.iaload, 1) := dw46 (n := 0) (i := 12) kc_cX6_papersOf_0 (by decide +kernel)
theorem dX6_papersOf_13 : decode cX6_papersOf 13 = .ok (.iaload, 1) := dw46 (n := 0) (i := 13) kc_cX6_papersOf_0 (by decide +kernel)
theorem dX6_papersOf_14 : decode cX6_papersOf 14 = .ok (.ireturn, 1) := dw172 (n := 0) (i := 14) kc_cX6_papersOf_0 (by decide +kernel)
theorem dX6_allPapers_0 : decode cX6_allPapers 0 = .ok (.iconst 0, 1) := dw3 (n := 0) (i := 0) kc_cX6_allPapers_0 (by decide +kernel)
theorem dX6_allPapers_1 : decode cX6_allPapers 1 = .ok (.istore_n 1, 1) := dw60 (n := 0) (i := 1) kc_cX6_allPapers_0 (by decide +kernel)
theorem dX6_allPapers_2 : decode cX6_allPapers 2 = .ok (.iconst 0, 1) := dw3 (n := 0) (i := 2) kc_cX6_allPapers_0 (by decide +kernel)
theorem dX6_allPapers_3 : decode cX6_allPapers 3 = .ok (.istore_n 2, 1) := dw61 (n := 0) (i := 3) kc_cX6_allPapers_0 (by decide +kernel)
theorem dX6_allPapers_4 : decode cX6_allPapers 4 = .ok (.iload_n 2, 1) := dw28 (n := 0) (i := 4) kc_cX6_allPapers_0 (by decide +kernel)
theorem dX6_allPapers_5 : decode cX6_allPapers 5 = .ok (.aload_n 0, 1) := dw42 (n := 0) (i := 5) kc_cX6_allPapers_0 (by decide +kernel)
theorem dX6_allPapers_6 : decode cX6_allPapers 6 = .ok (.getfield 15, 3) := dw180 (n := 0) (i := 6) (a := 0) (b := 15) kc_cX6_allPapers_0 (by decide +kernel) (by decide)
theorem in_X6_allPapers_6 : ∀ w ∈ u_ws RX6 TX6 8, w ∈ wsX6_allPapers := fun _ h => List.mem_cons_of_mem _ (List.mem_append_left _ (List.mem_append_right _ h))
theorem dX6_allPapers_9 : decode cX6_allPapers 9 = .ok (.if_icmp .ge 17, 3) := dw162 (n := 0) (i := 9) (a := 0) (b := 17) kc_cX6_allPapers_0 (by decide +kernel) (by decide)
theorem dX6_allPapers_26 : decode cX6_allPapers 26 = .ok (.iload_n 1, 1) := dw27 (n := 0) (i := 26) kc_cX6_allPapers_0 (by decide +kernel)
theorem dX6_allPapers_27 : decode cX6_allPapers 27 = .ok (.ireturn, 1) := dw172 (n := 0) (i := 27) kc_cX6_allPapers_0 (by decide +kernel)
theorem dX6_allPapers_12 : decode cX6_allPapers 12 = .ok (.iload_n 1, 1) := dw27 (n := 0) (i := 12) kc_cX6_allPapers_0 (by decide +kernel)
theorem dX6_allPapers_13 : decode cX6_allPapers 13 = .ok (.aload_n 0, 1) := dw42 (n := 0) (i := 13) kc_cX6_allPapers_0 (by decide +kernel)
theorem dX6_allPapers_14 : decode cX6_allPapers 14 = .ok (.iload_n 2, 1) := dw28 (n := 0) (i := 14) kc_cX6_allPapers_0 (by decide +kernel)
theorem dX6_allPapers_15 : decode cX6_allPapers 15 = .ok (.invokevirtual 65, 3) := dw182 (n := 0) (i := 15) (a := 0) (b := 65) kc_cX6_allPapers_0 (by decide +kernel) (by decide)
set_option maxRecDepth 20000 in
theorem ggX6_allPapers_X6_papersOf : GoodIn wsX6_allPapers wsX6_papersOf := (gk_code 6 rfl (gk_fieldLink 7 rfl (gk_fieldLink 8 rfl (gk_fieldLink 9 rfl (gk_laysFinal 10 rfl (gk_laysFinal 11 rfl (gk_laysFinal 12 rfl (gk_lays 13 rfl (gk_lays 14 rfl (gk_laysFinal 15 rfl (gk_laysFinal 16 rfl (gk_laysFinal 17 rfl (gk_lays 18 rfl (gk_laysFinal 19 rfl (gk_laysFinal 20 rfl (gk_laysFinal 21 rfl (gk_laysFinal 22 rfl (gn))))))))))))))))))
set_option maxRecDepth 20000 in
theorem gX6_allPapers_X6_papersOf : GoodIn wsX6_allPapers (wsV RX6 65 RX6 yX6_papersOf wsX6_papersOf) := goodIn_app (gk_methodLink 2 rfl (gk_instanceMethod 3 rfl (gk_selects 4 rfl (gk_initialized 5 rfl (gn))))) ggX6_allPapers_X6_papersOf
theorem dX6_allPapers_18 : decode cX6_allPapers 18 = .ok (.iadd, 1) := dw96 (n := 0) (i := 18) kc_cX6_allPapers_0 (by decide +kernel)
theorem dX6_allPapers_19 : decode cX6_allPapers 19 = .ok (.istore_n 1, 1) := dw60 (n := 0) (i := 19) kc_cX6_allPapers_0 (by decide +kernel)
theorem dX6_allPapers_20 : decode cX6_allPapers 20 = .ok (.iinc 2 1, 3) := by decide +kernel
theorem dX6_allPapers_23 : decode cX6_allPapers 23 = .ok (.goto (-19), 3) := dw167 (n := 0) (i := 23) (a := 255) (b := 237) kc_cX6_allPapers_0 (by decide +kernel) (by decide)
theorem dX6_manyIn_0 : decode cX6_manyIn 0 = .ok (.iconst 0, 1) := dw3 (n := 0) (i := 0) kc_cX6_manyIn_0 (by decide +kernel)
theorem dX6_manyIn_1 : decode cX6_manyIn 1 = .ok (.istore_n 1, 1) := dw60 (n := 0) (i := 1) kc_cX6_manyIn_0 (by decide +kernel)
theorem dX6_manyIn_2 : decode cX6_manyIn 2 = .ok (.iconst 0, 1) := dw3 (n := 0) (i := 2) kc_cX6_manyIn_0 (by decide +kernel)
theorem dX6_manyIn_3 : decode cX6_manyIn 3 = .ok (.istore_n 2, 1) := dw61 (n := 0) (i := 3) kc_cX6_manyIn_0 (by decide +kernel)
theorem dX6_manyIn_4 : decode cX6_manyIn 4 = .ok (.iload_n 2, 1) := dw28 (n := 0) (i := 4) kc_cX6_manyIn_0 (by decide +kernel)
theorem dX6_manyIn_5 : decode cX6_manyIn 5 = .ok (.bipush 10, 2) := dw16 (n := 0) (i := 5) (a := 10) kc_cX6_manyIn_0 (by decide +kernel) (by decide)
theorem dX6_manyIn_7 : decode cX6_manyIn 7 = .ok (.if_icmp .ge 26, 3) := dw162 (n := 0) (i := 7) (a := 0) (b := 26) kc_cX6_manyIn_0 (by decide +kernel) (by decide)
theorem dX6_manyIn_33 : decode cX6_manyIn 33 = .ok (.iload_n 1, 1) := dw27 (n := 32) (i := 1) kc_cX6_manyIn_1 (by decide +kernel)
theorem dX6_manyIn_34 : decode cX6_manyIn 34 = .ok (.ireturn, 1) := dw172 (n := 32) (i := 2) kc_cX6_manyIn_1 (by decide +kernel)
theorem dX6_manyIn_10 : decode cX6_manyIn 10 = .ok (.iload_n 1, 1) := dw27 (n := 0) (i := 10) kc_cX6_manyIn_0 (by decide +kernel)
theorem dX6_manyIn_11 : decode cX6_manyIn 11 = .ok (.aload_n 0, 1) := dw42 (n := 0) (i := 11) kc_cX6_manyIn_0 (by decide +kernel)
theorem dX6_manyIn_12 : decode cX6_manyIn 12 = .ok (.getfield 22, 3) := dw180 (n := 0) (i := 12) (a := 0) (b := 22) kc_cX6_manyIn_0 (by decide +kernel) (by decide)
theorem in_X6_manyIn_6 : ∀ w ∈ u_ws RX6 TX6 8, w ∈ wsX6_manyIn := fun _ h => List.mem_cons_of_mem _ (List.mem_append_right _ h)
theorem dX6_manyIn_15 : decode cX6_manyIn 15 = .ok (.iload_n 2, 1) := dw28 (n := 0) (i := 15) kc_cX6_manyIn_0 (by decide +kernel)
theorem dX6_manyIn_16 : decode cX6_manyIn 16 = .ok (.baload, 1) := dw51 (n := 0) (i := 16) kc_cX6_manyIn_0 (by decide +kernel)
theorem dX6_manyIn_17 : decode cX6_manyIn 17 = .ok (.ifCond .eq 7, 3) := dw153 (n := 0) (i := 17) (a := 0) (b := 7) kc_cX6_manyIn_0 (by decide +kernel) (by decide)
theorem dX6_manyIn_24 : decode cX6_manyIn 24 = .ok (.iconst 0, 1) := dw3 (n := 0) (i := 24) kc_cX6_manyIn_0 (by decide +kernel)
theorem dX6_manyIn_25 : decode cX6_manyIn 25 = .ok (.iadd, 1) := dw96 (n := 0) (i := 25) kc_cX6_manyIn_0 (by decide +kernel)
theorem dX6_manyIn_26 : decode cX6_manyIn 26 = .ok (.istore_n 1, 1) := dw60 (n := 0) (i := 26) kc_cX6_manyIn_0 (by decide +kernel)
theorem dX6_manyIn_27 : decode cX6_manyIn 27 = .ok (.iinc 2 1, 3) := by decide +kernel
theorem dX6_manyIn_30 : decode cX6_manyIn 30 = .ok (.goto (-26), 3) := dw167 (n := 0) (i := 30) (a := 255) (b := 230) kc_cX6_manyIn_0 (by decide +kernel) (by decide)
theorem dX6_manyIn_20 : decode cX6_manyIn 20 = .ok (.iconst 1, 1) := dw4 (n := 0) (i := 20) kc_cX6_manyIn_0 (by decide +kernel)
theorem dX6_manyIn_21 : decode cX6_manyIn 21 = .ok (.goto 4, 3) := dw167 (n := 0) (i := 21) (a := 0) (b := 4) kc_cX6_manyIn_0 (by decide +kernel) (by decide)
theorem dX6_clearTallies_0 : decode cX6_clearTallies 0 = .ok (.iconst 0, 1) := dw3 (n := 0) (i := 0) kc_cX6_clearTallies_0 (by decide +kernel)
theorem dX6_clearTallies_1 : decode cX6_clearTallies 1 = .ok (.istore_n 1, 1) := dw60 (n := 0) (i := 1) kc_cX6_clearTallies_0 (by decide +kernel)
theorem dX6_clearTallies_2 : decode cX6_clearTallies 2 = .ok (.iload_n 1, 1) := dw27 (n := 0) (i := 2) kc_cX6_clearTallies_0 (by decide +kernel)
theorem dX6_clearTallies_3 : decode cX6_clearTallies 3 = .ok (.bipush 10, 2) := dw16 (n := 0) (i := 3) (a := 10) kc_cX6_clearTallies_0 (by decide +kernel) (by decide)
theorem dX6_clearTallies_5 : decode cX6_clearTallies 5 = .ok (.if_icmp .ge 23, 3) := dw162 (n := 0) (i := 5) (a := 0) (b := 23) kc_cX6_clearTallies_0 (by decide +kernel) (by decide)
theorem dX6_clearTallies_28 : decode cX6_clearTallies 28 = .ok (.return_, 1) := dw177 (n := 0) (i := 28) kc_cX6_clearTallies_0 (by decide +kernel)
theorem dX6_clearTallies_8 : decode cX6_clearTallies 8 = .ok (.aload_n 0, 1) := dw42 (n := 0) (i := 8) kc_cX6_clearTallies_0 (by decide +kernel)
theorem dX6_clearTallies_9 : decode cX6_clearTallies 9 = .ok (.getfield 26, 3) := dw180 (n := 0) (i := 9) (a := 0) (b := 26) kc_cX6_clearTallies_0 (by decide +kernel) (by decide)
theorem in_X6_clearTallies_6 : ∀ w ∈ u_ws RX6 TX6 8, w ∈ wsX6_clearTallies := fun _ h => List.mem_cons_of_mem _ (List.mem_append_right _ h)
theorem dX6_clearTallies_12 : decode cX6_clearTallies 12 = .ok (.iload_n 1, 1) := dw27 (n := 0) (i := 12) kc_cX6_clearTallies_0 (by decide +kernel)
theorem dX6_clearTallies_13 : decode cX6_clearTallies 13 = .ok (.lconst 0, 1) := dw9 (n := 0) (i := 13) kc_cX6_clearTallies_0 (by decide +kernel)
theorem dX6_clearTallies_14 : decode cX6_clearTallies 14 = .ok (.lastore, 1) := dw80 (n := 0) (i := 14) kc_cX6_clearTallies_0 (by decide +kernel)
theorem dX6_clearTallies_15 : decode cX6_clearTallies 15 = .ok (.aload_n 0, 1) := dw42 (n := 0) (i := 15) kc_cX6_clearTallies_0 (by decide +kernel)
theorem dX6_clearTallies_16 : decode cX6_clearTallies 16 = .ok (.getfield 30, 3) := dw180 (n := 0) (i := 16) (a := 0) (b := 30) kc_cX6_clearTallies_0 (by decide +kernel) (by decide)
theorem dX6_clearTallies_19 : decode cX6_clearTallies 19 = .ok (.iload_n 1, 1) := dw27 (n := 0) (i := 19) kc_cX6_clearTallies_0 (by decide +kernel)
theorem dX6_clearTallies_20 : decode cX6_clearTallies 20 = .ok (.lconst 1, 1) := dw10 (n := 0) (i := 20) kc_cX6_clearTallies_0 (by decide +kernel)
theorem dX6_clearTallies_21 : decode cX6_clearTallies 21 = .ok (.lastore, 1) := dw80 (n := 0) (i := 21) kc_cX6_clearTallies_0 (by decide +kernel)
theorem dX6_clearTallies_22 : decode cX6_clearTallies 22 = .ok (.iinc 1 1, 3) := by decide +kernel
theorem dX6_clearTallies_25 : decode cX6_clearTallies 25 = .ok (.goto (-23), 3) := dw167 (n := 0) (i := 25) (a := 255) (b := 233) kc_cX6_clearTallies_0 (by decide +kernel) (by decide)
theorem dX6_firstIn_0 : decode cX6_firstIn 0 = .ok (.aload_n 0, 1) := dw42 (n := 0) (i := 0) kc_cX6_firstIn_0 (by decide +kernel)
theorem dX6_firstIn_1 : decode cX6_firstIn 1 = .ok (.getfield 9, 3) := dw180 (n := 0) (i := 1) (a := 0) (b := 9) kc_cX6_firstIn_0 (by decide +kernel) (by decide)
theorem in_X6_firstIn_6 : ∀ w ∈ u_ws RX6 TX6 8, w ∈ wsX6_firstIn := fun _ h => List.mem_cons_of_mem _ (List.mem_append_left _ (List.mem_append_right _ h))
theorem dX6_firstIn_4 : decode cX6_firstIn 4 = .ok (.iload_n 1, 1) := dw27 (n := 0) (i := 4) kc_cX6_firstIn_0 (by decide +kernel)
theorem dX6_firstIn_5 : decode cX6_firstIn 5 = .ok (.iaload, 1) := dw46 (n := 0) (i := 5) kc_cX6_firstIn_0 (by decide +kernel)
theorem dX6_firstIn_6 : decode cX6_firstIn 6 = .ok (.istore_n 2, 1) := dw61 (n := 0) (i := 6) kc_cX6_firstIn_0 (by decide +kernel)
theorem dX6_firstIn_7 : decode cX6_firstIn 7 = .ok (.iconst 0, 1) := dw3 (n := 0) (i := 7) kc_cX6_firstIn_0 (by decide +kernel)
theorem dX6_firstIn_8 : decode cX6_firstIn 8 = .ok (.istore_n 3, 1) := dw62 (n := 0) (i := 8) kc_cX6_firstIn_0 (by decide +kernel)
theorem dX6_firstIn_9 : decode cX6_firstIn 9 = .ok (.iload_n 3, 1) := dw29 (n := 0) (i := 9) kc_cX6_firstIn_0 (by decide +kernel)
theorem dX6_firstIn_10 : decode cX6_firstIn 10 = .ok (.aload_n 0, 1) := dw42 (n := 0) (i := 10) kc_cX6_firstIn_0 (by decide +kernel)
theorem dX6_firstIn_11 : decode cX6_firstIn 11 = .ok (.getfield 37, 3) := dw180 (n := 0) (i := 11) (a := 0) (b := 37) kc_cX6_firstIn_0 (by decide +kernel) (by decide)
theorem dX6_firstIn_14 : decode cX6_firstIn 14 = .ok (.getfield 69, 3) := dw180 (n := 0) (i := 14) (a := 0) (b := 69) kc_cX6_firstIn_0 (by decide +kernel) (by decide)
theorem in_X6_firstIn_0 : ∀ w ∈ u_ws RX0 TX0 5, w ∈ wsX6_firstIn := fun _ h => List.mem_cons_of_mem _ (List.mem_append_right _ h)
theorem dX6_firstIn_17 : decode cX6_firstIn 17 = .ok (.iload_n 2, 1) := dw28 (n := 0) (i := 17) kc_cX6_firstIn_0 (by decide +kernel)
theorem dX6_firstIn_18 : decode cX6_firstIn 18 = .ok (.iaload, 1) := dw46 (n := 0) (i := 18) kc_cX6_firstIn_0 (by decide +kernel)
theorem dX6_firstIn_19 : decode cX6_firstIn 19 = .ok (.if_icmp .ge 35, 3) := dw162 (n := 0) (i := 19) (a := 0) (b := 35) kc_cX6_firstIn_0 (by decide +kernel) (by decide)
theorem dX6_firstIn_54 : decode cX6_firstIn 54 = .ok (.bipush (-9), 2) := dw16 (n := 32) (i := 22) (a := 247) kc_cX6_firstIn_1 (by decide +kernel) (by decide)
theorem dX6_firstIn_56 : decode cX6_firstIn 56 = .ok (.ireturn, 1) := dw172 (n := 32) (i := 24) kc_cX6_firstIn_1 (by decide +kernel)
theorem dX6_firstIn_22 : decode cX6_firstIn 22 = .ok (.aload_n 0, 1) := dw42 (n := 0) (i := 22) kc_cX6_firstIn_0 (by decide +kernel)
theorem dX6_firstIn_23 : decode cX6_firstIn 23 = .ok (.getfield 37, 3) := dw180 (n := 0) (i := 23) (a := 0) (b := 37) kc_cX6_firstIn_0 (by decide +kernel) (by decide)
theorem dX6_firstIn_26 : decode cX6_firstIn 26 = .ok (.getfield 72, 3) := dw180 (n := 0) (i := 26) (a := 0) (b := 72) kc_cX6_firstIn_0 (by decide +kernel) (by decide)
theorem dX6_firstIn_29 : decode cX6_firstIn 29 = .ok (.iload_n 2, 1) := dw28 (n := 0) (i := 29) kc_cX6_firstIn_0 (by decide +kernel)
theorem dX6_firstIn_30 : decode cX6_firstIn 30 = .ok (.aaload, 1) := dw50 (n := 0) (i := 30) kc_cX6_firstIn_0 (by decide +kernel)
theorem dX6_firstIn_31 : decode cX6_firstIn 31 = .ok (.iload_n 3, 1) := dw29 (n := 0) (i := 31) kc_cX6_firstIn_0 (by decide +kernel)
theorem dX6_firstIn_32 : decode cX6_firstIn 32 = .ok (.iaload, 1) := dw46 (n := 32) (i := 0) kc_cX6_firstIn_1 (by decide +kernel)
theorem dX6_firstIn_33 : decode cX6_firstIn 33 = .ok (.istore 4, 2) := dw54 (n := 32) (i := 1) (a := 4) kc_cX6_firstIn_1 (by decide +kernel) (by decide)
theorem dX6_firstIn_35 : decode cX6_firstIn 35 = .ok (.aload_n 0, 1) := dw42 (n := 32) (i := 3) kc_cX6_firstIn_1 (by decide +kernel)
theorem dX6_firstIn_36 : decode cX6_firstIn 36 = .ok (.getfield 22, 3) := dw180 (n := 32) (i := 4) (a := 0) (b := 22) kc_cX6_firstIn_1 (by decide +kernel) (by decide)
theorem dX6_firstIn_39 : decode cX6_firstIn 39 = .ok (.iload 4, 2) := dw21 (n := 32) (i := 7) (a := 4) kc_cX6_firstIn_1 (by decide +kernel) (by decide)
theorem dX6_firstIn_41 : decode cX6_firstIn 41 = .ok (.baload, 1) := dw51 (n := 32) (i := 9) kc_cX6_firstIn_1 (by decide +kernel)
theorem dX6_firstIn_42 : decode cX6_firstIn 42 = .ok (.ifCond .eq 6, 3) := dw153 (n := 32) (i := 10) (a := 0) (b := 6) kc_cX6_firstIn_1 (by decide +kernel) (by decide)
theorem dX6_firstIn_48 : decode cX6_firstIn 48 = .ok (.iinc 3 1, 3) := by decide +kernel
theorem dX6_firstIn_51 : decode cX6_firstIn 51 = .ok (.goto (-42), 3) := dw167 (n := 32) (i := 19) (a := 255) (b := 214) kc_cX6_firstIn_1 (by decide +kernel) (by decide)
theorem dX6_firstIn_45 : decode cX6_firstIn 45 = .ok (.iload 4, 2) := dw21 (n := 32) (i := 13) (a := 4) kc_cX6_firstIn_1 (by decide +kernel) (by decide)
theorem dX6_firstIn_47 : decode cX6_firstIn 47 = .ok (.ireturn, 1) := dw172 (n := 32) (i := 15) kc_cX6_firstIn_1 (by decide +kernel)
theorem dX6_take_0 : decode cX6_take 0 = .ok (.aload_n 0, 1) := dw42 (n := 0) (i := 0) kc_cX6_take_0 (by decide +kernel)
theorem dX6_take_1 : decode cX6_take 1 = .ok (.iload_n 3, 1) := dw29 (n := 0) (i := 1) kc_cX6_take_0 (by decide +kernel)
theorem dX6_take_2 : decode cX6_take 2 = .ok (.putfield 19, 3) := dw181 (n := 0) (i := 2) (a := 0) (b := 19) kc_cX6_take_0 (by decide +kernel) (by decide)
theorem in_X6_take_6 : ∀ w ∈ u_ws RX6 TX6 8, w ∈ wsX6_take := fun _ h => List.mem_cons_of_mem _ (List.mem_append_left _ (List.mem_append_left _ (List.mem_append_left _ (List.mem_append_right _ h))))
theorem dX6_take_5 : decode cX6_take 5 = .ok (.aload_n 0, 1) := dw42 (n := 0) (i := 5) kc_cX6_take_0 (by decide +kernel)
theorem dX6_take_6 : decode cX6_take 6 = .ok (.iconst 0, 1) := dw3 (n := 0) (i := 6) kc_cX6_take_0 (by decide +kernel)
theorem dX6_take_7 : decode cX6_take 7 = .ok (.putfield 15, 3) := dw181 (n := 0) (i := 7) (a := 0) (b := 15) kc_cX6_take_0 (by decide +kernel) (by decide)
theorem dX6_take_10 : decode cX6_take 10 = .ok (.iconst 0, 1) := dw3 (n := 0) (i := 10) kc_cX6_take_0 (by decide +kernel)
theorem dX6_take_11 : decode cX6_take 11 = .ok (.istore 4, 2) := dw54 (n := 0) (i := 11) (a := 4) kc_cX6_take_0 (by decide +kernel) (by decide)
theorem dX6_take_13 : decode cX6_take 13 = .ok (.iload 4, 2) := dw21 (n := 0) (i := 13) (a := 4) kc_cX6_take_0 (by decide +kernel) (by decide)
theorem dX6_take_15 : decode cX6_take 15 = .ok (.aload_n 1, 1) := dw43 (n := 0) (i := 15) kc_cX6_take_0 (by decide +kernel)
theorem dX6_take_16 : decode cX6_take 16 = .ok (.getfield 41, 3) := dw180 (n := 0) (i := 16) (a := 0) (b := 41) kc_cX6_take_0 (by decide +kernel) (by decide)
theorem in_X6_take_1 : ∀ w ∈ u_ws RX1 TX1 5, w ∈ wsX6_take := fun _ h => List.mem_cons_of_mem _ (List.mem_append_left _ (List.mem_append_left _ (List.mem_append_right _ h)))
theorem dX6_take_19 : decode cX6_take 19 = .ok (.iload_n 2, 1) := dw28 (n := 0) (i := 19) kc_cX6_take_0 (by decide +kernel)
theorem dX6_take_20 : decode cX6_take 20 = .ok (.iaload, 1) := dw46 (n := 0) (i := 20) kc_cX6_take_0 (by decide +kernel)
theorem dX6_take_21 : decode cX6_take 21 = .ok (.if_icmp .ge 56, 3) := dw162 (n := 0) (i := 21) (a := 0) (b := 56) kc_cX6_take_0 (by decide +kernel) (by decide)
theorem dX6_take_77 : decode cX6_take 77 = .ok (.iconst 0, 1) := dw3 (n := 64) (i := 13) kc_cX6_take_2 (by decide +kernel)
theorem dX6_take_78 : decode cX6_take 78 = .ok (.istore 4, 2) := dw54 (n := 64) (i := 14) (a := 4) kc_cX6_take_2 (by decide +kernel) (by decide)
theorem dX6_take_80 : decode cX6_take 80 = .ok (.iload 4, 2) := dw21 (n := 64) (i := 16) (a := 4) kc_cX6_take_2 (by decide +kernel) (by decide)
theorem dX6_take_82 : decode cX6_take 82 = .ok (.bipush 10, 2) := dw16 (n := 64) (i := 18) (a := 10) kc_cX6_take_2 (by decide +kernel) (by decide)
theorem dX6_take_84 : decode cX6_take 84 = .ok (.if_icmp .ge 25, 3) := dw162 (n := 64) (i := 20) (a := 0) (b := 25) kc_cX6_take_2 (by decide +kernel) (by decide)
theorem dX6_take_109 : decode cX6_take 109 = .ok (.aload_n 0, 1) := dw42 (n := 96) (i := 13) kc_cX6_take_3 (by decide +kernel)
theorem dX6_take_110 : decode cX6_take 110 = .ok (.invokevirtual 59, 3) := dw182 (n := 96) (i := 14) (a := 0) (b := 59) kc_cX6_take_3 (by decide +kernel) (by decide)
set_option maxRecDepth 20000 in
theorem ggX6_take_X6_clearTallies : GoodIn wsX6_take wsX6_clearTallies := (gk_code 25 rfl (gk_fieldLink 26 rfl (gk_fieldLink 27 rfl (gk_laysFinal 28 rfl (gk_laysFinal 29 rfl (gk_laysFinal 30 rfl (gk_lays 31 rfl (gk_lays 32 rfl (gk_laysFinal 33 rfl (gk_laysFinal 34 rfl (gk_laysFinal 35 rfl (gn))))))))))))
set_option maxRecDepth 20000 in
theorem gX6_take_X6_clearTallies : GoodIn wsX6_take (wsV RX6 59 RX6 yX6_clearTallies wsX6_clearTallies) := goodIn_app (gk_methodLink 21 rfl (gk_instanceMethod 22 rfl (gk_selects 23 rfl (gk_initialized 24 rfl (gn))))) ggX6_take_X6_clearTallies
theorem dX6_take_113 : decode cX6_take 113 = .ok (.return_, 1) := dw177 (n := 96) (i := 17) kc_cX6_take_3 (by decide +kernel)
theorem dX6_take_87 : decode cX6_take 87 = .ok (.aload_n 0, 1) := dw42 (n := 64) (i := 23) kc_cX6_take_2 (by decide +kernel)
theorem dX6_take_88 : decode cX6_take 88 = .ok (.getfield 22, 3) := dw180 (n := 64) (i := 24) (a := 0) (b := 22) kc_cX6_take_2 (by decide +kernel) (by decide)
theorem dX6_take_91 : decode cX6_take 91 = .ok (.iload 4, 2) := dw21 (n := 64) (i := 27) (a := 4) kc_cX6_take_2 (by decide +kernel) (by decide)
theorem dX6_take_93 : decode cX6_take 93 = .ok (.aload_n 0, 1) := dw42 (n := 64) (i := 29) kc_cX6_take_2 (by decide +kernel)
theorem dX6_take_94 : decode cX6_take 94 = .ok (.getfield 33, 3) := dw180 (n := 64) (i := 30) (a := 0) (b := 33) kc_cX6_take_2 (by decide +kernel) (by decide)
theorem dX6_take_97 : decode cX6_take 97 = .ok (.iload 4, 2) := dw21 (n := 96) (i := 1) (a := 4) kc_cX6_take_3 (by decide +kernel) (by decide)
theorem dX6_take_99 : decode cX6_take 99 = .ok (.invokevirtual 56, 3) := dw182 (n := 96) (i := 3) (a := 0) (b := 56) kc_cX6_take_3 (by decide +kernel) (by decide)
set_option maxRecDepth 20000 in
theorem ggX6_take_X2_has : GoodIn wsX6_take wsX2_has := (gk_code 19 rfl (gk_fieldLink 20 rfl (gk_lays 46 rfl (gk_laysFinal 47 rfl (gn)))))
set_option maxRecDepth 20000 in
theorem gX6_take_X2_has : GoodIn wsX6_take (wsV RX6 56 RX2 yX2_has wsX2_has) := goodIn_app (gk_methodLink 15 rfl (gk_instanceMethod 16 rfl (gk_selects 17 rfl (gk_initialized 18 rfl (gn))))) ggX6_take_X2_has
theorem dX6_take_102 : decode cX6_take 102 = .ok (.bastore, 1) := dw84 (n := 96) (i := 6) kc_cX6_take_3 (by decide +kernel)
theorem dX6_take_103 : decode cX6_take 103 = .ok (.iinc 4 1, 3) := by decide +kernel
theorem dX6_take_106 : decode cX6_take 106 = .ok (.goto (-26), 3) := dw167 (n := 96) (i := 10) (a := 255) (b := 230) kc_cX6_take_3 (by decide +kernel) (by decide)
theorem dX6_take_24 : decode cX6_take 24 = .ok (.aload_n 0, 1) := dw42 (n := 0) (i := 24) kc_cX6_take_0 (by decide +kernel)
theorem dX6_take_25 : decode cX6_take 25 = .ok (.getfield 37, 3) := dw180 (n := 0) (i := 25) (a := 0) (b := 37) kc_cX6_take_0 (by decide +kernel) (by decide)
theorem dX6_take_28 : decode cX6_take 28 = .ok (.aload_n 1, 1) := dw43 (n := 0) (i := 28) kc_cX6_take_0 (by decide +kernel)
theorem dX6_take_29 : decode cX6_take 29 = .ok (.getfield 46, 3) := dw180 (n := 0) (i := 29) (a := 0) (b := 46) kc_cX6_take_0 (by decide +kernel) (by decide)
theorem dX6_take_32 : decode cX6_take 32 = .ok (.iload_n 2, 1) := dw28 (n := 32) (i := 0) kc_cX6_take_1 (by decide +kernel)
theorem dX6_take_33 : decode cX6_take 33 = .ok (.aaload, 1) := dw50 (n := 32) (i := 1) kc_cX6_take_1 (by decide +kernel)
theorem dX6_take_34 : decode cX6_take 34 = .ok (.iload 4, 2) := dw21 (n := 32) (i := 2) (a := 4) kc_cX6_take_1 (by decide +kernel) (by decide)
theorem dX6_take_36 : decode cX6_take 36 = .ok (.iaload, 1) := dw46 (n := 32) (i := 4) kc_cX6_take_1 (by decide +kernel)
theorem dX6_take_37 : decode cX6_take 37 = .ok (.invokevirtual 50, 3) := dw182 (n := 32) (i := 5) (a := 0) (b := 50) kc_cX6_take_1 (by decide +kernel) (by decide)
set_option maxRecDepth 20000 in
theorem ggX6_take_X0_has : GoodIn wsX6_take wsX0_has := (gk_code 13 rfl (gk_fieldLink 14 rfl (gk_lays 41 rfl (gk_laysFinal 42 rfl (gk_laysFinal 43 rfl (gk_laysFinal 44 rfl (gk_laysFinal 45 rfl (gn))))))))
set_option maxRecDepth 20000 in
theorem gX6_take_X0_has : GoodIn wsX6_take (wsV RX6 50 RX0 yX0_has wsX0_has) := goodIn_app (gk_methodLink 9 rfl (gk_instanceMethod 10 rfl (gk_selects 11 rfl (gk_initialized 12 rfl (gn))))) ggX6_take_X0_has
theorem dX6_take_40 : decode cX6_take 40 = .ok (.ifCond .eq 31, 3) := dw153 (n := 32) (i := 8) (a := 0) (b := 31) kc_cX6_take_1 (by decide +kernel) (by decide)
theorem dX6_take_71 : decode cX6_take 71 = .ok (.iinc 4 1, 3) := by decide +kernel
theorem dX6_take_74 : decode cX6_take 74 = .ok (.goto (-61), 3) := dw167 (n := 64) (i := 10) (a := 255) (b := 195) kc_cX6_take_2 (by decide +kernel) (by decide)
theorem dX6_take_43 : decode cX6_take 43 = .ok (.aload_n 0, 1) := dw42 (n := 32) (i := 11) kc_cX6_take_1 (by decide +kernel)
theorem dX6_take_44 : decode cX6_take 44 = .ok (.getfield 9, 3) := dw180 (n := 32) (i := 12) (a := 0) (b := 9) kc_cX6_take_1 (by decide +kernel) (by decide)
theorem dX6_take_47 : decode cX6_take 47 = .ok (.aload_n 0, 1) := dw42 (n := 32) (i := 15) kc_cX6_take_1 (by decide +kernel)
theorem dX6_take_48 : decode cX6_take 48 = .ok (.getfield 15, 3) := dw180 (n := 32) (i := 16) (a := 0) (b := 15) kc_cX6_take_1 (by decide +kernel) (by decide)
theorem dX6_take_51 : decode cX6_take 51 = .ok (.aload_n 1, 1) := dw43 (n := 32) (i := 19) kc_cX6_take_1 (by decide +kernel)
theorem dX6_take_52 : decode cX6_take 52 = .ok (.getfield 46, 3) := dw180 (n := 32) (i := 20) (a := 0) (b := 46) kc_cX6_take_1 (by decide +kernel) (by decide)
theorem dX6_take_55 : decode cX6_take 55 = .ok (.iload_n 2, 1) := dw28 (n := 32) (i := 23) kc_cX6_take_1 (by decide +kernel)
theorem dX6_take_56 : decode cX6_take 56 = .ok (.aaload, 1) := dw50 (n := 32) (i := 24) kc_cX6_take_1 (by decide +kernel)
theorem dX6_take_57 : decode cX6_take 57 = .ok (.iload 4, 2) := dw21 (n := 32) (i := 25) (a := 4) kc_cX6_take_1 (by decide +kernel) (by decide)
theorem dX6_take_59 : decode cX6_take 59 = .ok (.iaload, 1) := dw46 (n := 32) (i := 27) kc_cX6_take_1 (by decide +kernel)
theorem dX6_take_60 : decode cX6_take 60 = .ok (.iastore, 1) := dw79 (n := 32) (i := 28) kc_cX6_take_1 (by decide +kernel)
theorem dX6_take_61 : decode cX6_take 61 = .ok (.aload_n 0, 1) := dw42 (n := 32) (i := 29) kc_cX6_take_1 (by decide +kernel)
theorem dX6_take_62 : decode cX6_take 62 = .ok (.dup, 1) := dw89 (n := 32) (i := 30) kc_cX6_take_1 (by decide +kernel)
theorem dX6_take_63 : decode cX6_take 63 = .ok (.getfield 15, 3) := dw180 (n := 32) (i := 31) (a := 0) (b := 15) kc_cX6_take_1 (by decide +kernel) (by decide)
theorem dX6_take_66 : decode cX6_take 66 = .ok (.iconst 1, 1) := dw4 (n := 64) (i := 2) kc_cX6_take_2 (by decide +kernel)
theorem dX6_take_67 : decode cX6_take 67 = .ok (.iadd, 1) := dw96 (n := 64) (i := 3) kc_cX6_take_2 (by decide +kernel)
theorem dX6_take_68 : decode cX6_take 68 = .ok (.putfield 15, 3) := dw181 (n := 64) (i := 4) (a := 0) (b := 15) kc_cX6_take_2 (by decide +kernel) (by decide)
